-- heights of the reference
theorem mk_hs_eq (g : mk_G) (b0 m : Nat) (hb : b0 ≤ 599) (hm : m < 600) (L a s p k : Int32) (want : Nat → Int32) (x : Int32) : mk_hs g (nI b0) L a s p k want x m = if m = b0 then L else if m ≤ b0 then x else mj_min 8000 (x + g ((nI m - nI b0) - a) s (want m) (x / 64) (p / 64) (mj_rem (nI m) 12) k) := by
  unfold mk_hs
  by_cases h1 : m = b0
  · rw [if_pos h1, if_pos (by rw [h1])]
  rw [if_neg h1, if_neg (fun q => h1 ((nI_eq (by omega) (by omega)).mp q))]
  by_cases h2 : m ≤ b0
  · rw [if_pos h2, if_pos (nI_le h2 (by omega))]
  · rw [if_neg h2, if_neg (nI_ge (by omega) (by omega))]
theorem mk_hh_lt (g : mk_G) (b0 : Nat) (hb : b0 ≤ 599) (L a s p k : Int32) (want : Nat → Int32) : ∀ m, m < b0 → mk_hh g (nI b0) L a s p k want m = 0
  | 0, h => by
    show mk_hs g (nI b0) L a s p k want 0 0 = 0
    rw [mk_hs_eq g b0 0 hb (by omega), if_neg (by omega), if_pos (by omega)]
  | m + 1, h => by
    show mk_hs g (nI b0) L a s p k want (mk_hh g (nI b0) L a s p k want m) (m + 1) = 0
    rw [mk_hs_eq g b0 (m + 1) hb (by omega), if_neg (by omega), if_pos (by omega)]
    exact mk_hh_lt g b0 hb L a s p k want m (by omega)
theorem mk_hh_at (g : mk_G) (b0 : Nat) (hb : b0 ≤ 599) (L a s p k : Int32) (want : Nat → Int32) : mk_hh g (nI b0) L a s p k want b0 = L := by
  cases b0 with
  | zero =>
    show mk_hs g (nI 0) L a s p k want 0 0 = L
    rw [mk_hs_eq g 0 0 hb (by omega), if_pos rfl]
  | succ b =>
    show mk_hs g (nI (b + 1)) L a s p k want (mk_hh g (nI (b + 1)) L a s p k want b) (b + 1) = L
    rw [mk_hs_eq g (b + 1) (b + 1) hb (by omega), if_pos rfl]
theorem mk_hh_gt (g : mk_G) (b0 : Nat) (hb : b0 ≤ 599) (L a s p k : Int32) (want : Nat → Int32) (m : Nat) (h : b0 ≤ m) (hm : m + 1 < 600) : mk_hh g (nI b0) L a s p k want (m + 1) = mj_min 8000 (mk_hh g (nI b0) L a s p k want m + g ((nI (m + 1) - nI b0) - a) s (want (m + 1)) (mk_hh g (nI b0) L a s p k want m / 64) (p / 64) (mj_rem (nI (m + 1)) 12) k) := by
  show mk_hs g (nI b0) L a s p k want (mk_hh g (nI b0) L a s p k want m) (m + 1) = _
  rw [mk_hs_eq g b0 (m + 1) hb hm, if_neg (by omega), if_neg (by omega)]
theorem mk_min8 {x y : Int32} {q : Nat} (hx : x = nI q) (hq : q ≤ 8000) (hy : 0 ≤ y.toInt ∧ y.toInt ≤ 99) : ∃ r, q ≤ r ∧ r ≤ 8000 ∧ mj_min 8000 (x + y) = nI r := by
  have e : (x + y).toInt = q + y.toInt := by
    rw [mk_add (by rw [hx, nI_toInt (by omega)]; omega) (by rw [hx, nI_toInt (by omega)]; omega), hx, nI_toInt (by omega)]
  have e8 : (8000 : Int32).toInt = 8000 := rfl
  unfold mj_min
  by_cases h : x + y < 8000
  · rw [if_pos h]
    rw [mk_ltt, e, e8] at h
    exact ⟨(x + y).toInt.toNat, by omega, by omega, mk_ofNN (by omega)⟩
  · rw [if_neg h]
    exact ⟨8000, hq, by omega, rfl⟩
theorem mk_hh_r {g : mk_G} (hg : ∀ a b c d e f h, 0 ≤ (g a b c d e f h).toInt ∧ (g a b c d e f h).toInt ≤ 99) (b0 l : Nat) (hb : b0 ≤ 599) (hl : l ≤ 8000) (a s p k : Int32) (want : Nat → Int32) : ∀ m, m < 600 → ∃ q, q ≤ 8000 ∧ mk_hh g (nI b0) (nI l) a s p k want m = nI q ∧ (b0 ≤ m → l ≤ q)
  | 0, hm => by
    by_cases h0 : b0 = 0
    · refine ⟨l, hl, ?_, fun _ => by omega⟩
      have := mk_hh_at g b0 hb (nI l) a s p k want
      rw [h0] at this
      rw [h0]
      exact this
    · exact ⟨0, by omega, mk_hh_lt g b0 hb (nI l) a s p k want 0 (by omega), fun q => absurd q (by omega)⟩
  | m + 1, hm => by
    by_cases h1 : m + 1 < b0
    · exact ⟨0, by omega, mk_hh_lt g b0 hb (nI l) a s p k want _ h1, fun q => absurd q (by omega)⟩
    by_cases h2 : m + 1 = b0
    · refine ⟨l, hl, ?_, fun _ => by omega⟩
      rw [h2]
      exact mk_hh_at g b0 hb (nI l) a s p k want
    obtain ⟨q, q1, q2, q3⟩ := mk_hh_r hg b0 l hb hl a s p k want m (by omega)
    rw [mk_hh_gt g b0 hb (nI l) a s p k want m (by omega) hm]
    obtain ⟨r, r1, r2, r3⟩ := mk_min8 q2 q1 (hg ((nI (m + 1) - nI b0) - a) s (want (m + 1)) (mk_hh g (nI b0) (nI l) a s p k want m / 64) (p / 64) (mj_rem (nI (m + 1)) 12) k)
    exact ⟨r, r2, r3, fun _ => by have := q3 (by omega); omega⟩
theorem mk_hh_mono {g : mk_G} (hg : ∀ a b c d e f h, 0 ≤ (g a b c d e f h).toInt ∧ (g a b c d e f h).toInt ≤ 99) (b0 l : Nat) (hb : b0 ≤ 599) (hl : l ≤ 8000) (a s p k : Int32) (want : Nat → Int32) (m : Nat) : ∀ d, m + d < 600 → ∃ q q', q ≤ q' ∧ q' ≤ 8000 ∧ mk_hh g (nI b0) (nI l) a s p k want m = nI q ∧ mk_hh g (nI b0) (nI l) a s p k want (m + d) = nI q'
  | 0, hm => by
    obtain ⟨q, q1, q2, _⟩ := mk_hh_r hg b0 l hb hl a s p k want m hm
    exact ⟨q, q, by omega, q1, q2, q2⟩
  | d + 1, hm => by
    obtain ⟨q, q', h1, h2, h3, h4⟩ := mk_hh_mono hg b0 l hb hl a s p k want m d (by omega)
    by_cases c1 : m + d + 1 < b0
    · have z := mk_hh_lt g b0 hb (nI l) a s p k want (m + d) (by omega)
      have z0 : q' = 0 := (nI_eq (b := 0) (by omega) (by omega)).mp (h4.symm.trans z)
      exact ⟨q, 0, by omega, by omega, h3, mk_hh_lt g b0 hb (nI l) a s p k want _ c1⟩
    by_cases c2 : m + d + 1 = b0
    · have z := mk_hh_lt g b0 hb (nI l) a s p k want (m + d) (by omega)
      have z0 : q' = 0 := (nI_eq (b := 0) (by omega) (by omega)).mp (h4.symm.trans z)
      refine ⟨q, l, by omega, hl, h3, ?_⟩
      show mk_hh g (nI b0) (nI l) a s p k want (m + d + 1) = _
      rw [c2]
      exact mk_hh_at g b0 hb (nI l) a s p k want
    have e := mk_hh_gt g b0 hb (nI l) a s p k want (m + d) (by omega) hm
    obtain ⟨r, r1, r2, r3⟩ := mk_min8 h4 h2 (hg ((nI (m + d + 1) - nI b0) - a) s (want (m + d + 1)) (mk_hh g (nI b0) (nI l) a s p k want (m + d) / 64) (p / 64) (mj_rem (nI (m + d + 1)) 12) k)
    exact ⟨q, r, by omega, r2, h3, e.trans r3⟩
def mk_Zu (j : Nat) (x y : Nat) : Prop := x = 77 ∨ (x = 64 ∧ 19 ≤ y ∧ y ≤ 23) ∨ (x = 78 ∧ 600 * j ≤ y ∧ y < 600 * j + 600)
theorem mk_upLoop {g : mk_G} {s13 s15 : Int32} {c2 c3 : Nat → Int32} {σ : mj_S} (hl : mk_law g s13 s15 (σ.1 64 18) c2 c3 (σ.1 76)) {j b0 : Nat} (hj : j < 7) (hb : b0 ≤ 599) (h69 : σ.1 69 j = nI b0) (L a p fl : Int32) (want : Nat → Int32)
    (hw : (fl = 0 ∧ ∀ m, m < 600 → want m = 0) ∨ (fl = 1 ∧ ∀ σ' m, m < 600 → mk_fr (mk_Zu j) σ σ' → f_X10_wantOf σ' (nI m) = some (want m))) :
    ∀ (f m : Nat) (x : Int32) (α : mj_S), 600 < f + m → m ≤ 600 → mk_fr (mk_Zu j) σ α → (m < 600 → x = if m ≤ b0 then L else mk_hh g (nI b0) L a (σ.1 70 j) p (nI j) want (m - 1)) →
      ∃ τ, b_X10_growsUp_11 f (nI j) a p fl x (nI m) α = some τ ∧ mk_fr (mk_Zu j) σ τ ∧ ∀ i, i < 600 → τ.1 78 (600 * j + i) = if m ≤ i then mk_hh g (nI b0) L a (σ.1 70 j) p (nI j) want i else α.1 78 (600 * j + i)
  | 0, m, x, α, hf, hm, _, _ => absurd hf (by omega)
  | f + 1, m, x, α, hf, hm, hfr, hx => by
    unfold b_X10_growsUp_11
    by_cases h6 : m = 600
    · exact ⟨α, by rw [if_pos (show (600 : Int32) ≤ nI m from by rw [h6]; exact nI_le (a := 600) (b := 600) (by omega) (by omega))], hfr, fun i hi => by rw [if_neg (by omega)]⟩
    have hm6 : m < 600 := by omega
    have hbj := mk_in7 hj
    have hcl : (nI j).toNatClampNeg = j := nI_clamp (by omega)
    have a69 : α.1 69 j = nI b0 := (hfr.1 69 j (by unfold mk_Zu; omega)).trans h69
    have a70 : α.1 70 j = σ.1 70 j := hfr.1 70 j (by unfold mk_Zu; omega)
    have lmb : (nI m ≤ nI b0) = (m ≤ b0) := propext (nI_leI (by omega) (by omega))
    have lbm : (nI b0 ≤ nI m) = (b0 ≤ m) := propext (nI_leI (by omega) (by omega))
    rw [if_neg (show ¬ (600 : Int32) ≤ nI m from nI_ge (a := m) (b := 600) hm6 (by omega)), if_pos hbj, hcl, a69]
    simp only [lmb]
    -- the month put down, v5 behind it known
    have put : ∀ (y : Int32) (α' : mj_S), (y = if m + 1 ≤ b0 then L else mk_hh g (nI b0) L a (σ.1 70 j) p (nI j) want m) → mk_fr (mk_Zu j) σ α' → α'.1 78 = α.1 78 → ∃ τ, b_X10_growsUp_79 (b_X10_growsUp_11 f) (nI j) a p fl y (nI m) α' = some τ ∧ mk_fr (mk_Zu j) σ τ ∧ ∀ i, i < 600 → τ.1 78 (600 * j + i) = if m ≤ i then mk_hh g (nI b0) L a (σ.1 70 j) p (nI j) want i else α.1 78 (600 * j + i) := by
      intro y α' hy hfr' h78
      have a69' : α'.1 69 j = nI b0 := (hfr'.1 69 j (by unfold mk_Zu; omega)).trans h69
      have e6 : 600 * nI j + nI m = nI (600 * j + m) := by
        show nI 600 * nI j + nI m = _
        rw [mk_mulN, nI_add]
      have hb2 : 0 ≤ (nI (600 * j + m)).toInt ∧ (nI (600 * j + m)).toInt < 4200 := by
        rw [nI_toInt (by omega)]
        omega
      have e108 : ∀ z, b_X10_growsUp_108 (b_X10_growsUp_11 f) (nI j) a p fl y (nI m) (600 * nI j + nI m) z α' = b_X10_growsUp_11 f (nI j) a p fl y (nI (m + 1)) (mj_sI α' 78 (600 * j + m) z) := by
        intro z
        unfold b_X10_growsUp_108
        rw [e6, if_pos hb2, nI_clamp (by omega), nI_1]
      have e79 : b_X10_growsUp_79 (b_X10_growsUp_11 f) (nI j) a p fl y (nI m) α' = b_X10_growsUp_11 f (nI j) a p fl y (nI (m + 1)) (mj_sI α' 78 (600 * j + m) (mk_hh g (nI b0) L a (σ.1 70 j) p (nI j) want m)) := by
        unfold b_X10_growsUp_79
        rw [if_pos hbj, hcl, a69']
        simp only [lbm]
        by_cases c1 : b0 ≤ m
        · rw [if_pos c1, e108, ← (hy.trans (if_neg (by omega)))]
        · rw [if_neg c1, e108, mk_hh_lt g b0 hb L a (σ.1 70 j) p (nI j) want m (by omega)]
      obtain ⟨τ, t1, t2, t3⟩ := mk_upLoop hl hj hb h69 L a p fl want hw f (m + 1) y (mj_sI α' 78 (600 * j + m) (mk_hh g (nI b0) L a (σ.1 70 j) p (nI j) want m)) (by omega) (by omega) (mk_frt hfr' (mk_frI (.inr (.inr ⟨rfl, by omega, by omega⟩)))) (fun _ => by
        rw [hy]
        rfl)
      refine ⟨τ, e79.trans t1, t2, fun i hi => ?_⟩
      rw [t3 i hi, mk_g]
      by_cases q1 : m + 1 ≤ i
      · rw [if_pos q1, if_pos (by omega)]
      · rw [if_neg q1]
        by_cases q2 : i = m
        · rw [if_pos ⟨rfl, by omega⟩, if_pos (by omega), q2]
        · rw [if_neg (fun q => q2 (by omega)), if_neg (by omega), h78]
    by_cases c1 : m ≤ b0
    · rw [if_pos c1]
      refine put x α ?_ hfr rfl
      rw [hx hm6, if_pos c1]
      by_cases c2 : m + 1 ≤ b0
      · rw [if_pos c2]
      · have : m = b0 := by omega
        rw [if_neg c2, this, mk_hh_at g b0 hb]
    rw [if_neg c1]
    have hxm : x = mk_hh g (nI b0) L a (σ.1 70 j) p (nI j) want (m - 1) := (hx hm6).trans (if_neg c1)
    have b50 : ∀ wv, wv = want m → ∃ τ, b_X10_growsUp_50 (b_X10_growsUp_11 f) (nI j) a p fl x (nI m) x (nI j) a wv α = some τ ∧ mk_fr (mk_Zu j) σ τ ∧ ∀ i, i < 600 → τ.1 78 (600 * j + i) = if m ≤ i then mk_hh g (nI b0) L a (σ.1 70 j) p (nI j) want i else α.1 78 (600 * j + i) := by
      intro wv hwv
      obtain ⟨α', r1, r2⟩ := hl.ref α (nI j) a wv x p (nI m) (hfr.1 64 18 (by unfold mk_Zu; omega)) (funext fun y => hfr.1 76 y (by unfold mk_Zu; omega)) hbj
      rw [hcl, a69, a70] at r1
      have hh1 : mk_hh g (nI b0) L a (σ.1 70 j) p (nI j) want m = mj_min 8000 (x + g ((nI m - nI b0) - a) (σ.1 70 j) wv (x / 64) (p / 64) (mj_rem (nI m) 12) (nI j)) := by
        have := mk_hh_gt g b0 hb L a (σ.1 70 j) p (nI j) want (m - 1) (by omega) (by omega)
        rw [show m - 1 + 1 = m by omega, ← hxm, ← hwv] at this
        exact this
      have hfr' : mk_fr (mk_Zu j) σ α' := mk_frt hfr (mk_frw r2 (fun x' y' z => by unfold mk_Z77 at z; unfold mk_Zu; omega))
      have h78 : α'.1 78 = α.1 78 := funext fun y => r2.1 78 y (by unfold mk_Z77; omega)
      unfold b_X10_growsUp_50
      rw [r1, mk_bs]
      have fin : ∀ y, y = mk_hh g (nI b0) L a (σ.1 70 j) p (nI j) want m → ∃ τ, b_X10_growsUp_77 (b_X10_growsUp_11 f) (nI j) a p fl (nI m) y α' = some τ ∧ mk_fr (mk_Zu j) σ τ ∧ ∀ i, i < 600 → τ.1 78 (600 * j + i) = if m ≤ i then mk_hh g (nI b0) L a (σ.1 70 j) p (nI j) want i else α.1 78 (600 * j + i) := by
        intro y hy
        unfold b_X10_growsUp_77
        exact put y α' (hy.trans (if_neg (by omega)).symm) hfr' h78
      obtain ⟨s, hs⟩ : ∃ s, s = x + g ((nI m - nI b0) - a) (σ.1 70 j) wv (x / 64) (p / 64) (mj_rem (nI m) 12) (nI j) := ⟨_, rfl⟩
      rw [← hs] at hh1
      show ∃ τ, (if (x + g ((nI m - nI b0) - a) (σ.1 70 j) wv (x / 64) (p / 64) (mj_rem (nI m) 12) (nI j)) ≤ 8000 then b_X10_growsUp_77 (b_X10_growsUp_11 f) (nI j) a p fl (nI m) (x + g ((nI m - nI b0) - a) (σ.1 70 j) wv (x / 64) (p / 64) (mj_rem (nI m) 12) (nI j)) α' else b_X10_growsUp_77 (b_X10_growsUp_11 f) (nI j) a p fl (nI m) 8000 α') = some τ ∧ _
      rw [← hs]
      have e8 : (8000 : Int32).toInt = 8000 := rfl
      by_cases c8 : s ≤ 8000
      · rw [if_pos c8]
        refine fin s ?_
        rw [hh1]
        unfold mj_min
        by_cases c9 : s < 8000
        · rw [if_pos c9]
        · rw [if_neg c9]
          rw [mk_lee, e8] at c8
          rw [mk_ltt, e8] at c9
          exact Int32.toInt_inj.mp (by rw [e8]; omega)
      · rw [if_neg c8]
        refine fin 8000 ?_
        rw [hh1]
        unfold mj_min
        rw [if_neg (by rw [mk_ltt]; rw [mk_lee] at c8; omega)]
    rcases hw with ⟨h0, hw0⟩ | ⟨h1, hw1⟩
    · rw [if_pos h0]
      exact b50 0 (hw0 m hm6).symm
    · rw [if_neg (by rw [h1]; decide), hw1 α m hm6 hfr, mk_bs]
      exact b50 _ rfl
