-- marks
theorem mk_isone (σ τ : mj_S) (p q r s : Int32) : f_X10_isOne σ p.toInt64 q.toInt64 r.toInt64 s.toInt64 = f_X9_isMark τ p q r s := by
  unfold f_X10_isOne f_X9_isMark
  simp only [mk_lit64, mk_w9]
  rfl
theorem mk_ismark_of {σ : mj_S} {p q r s : Int32} (h : ¬ f_X9_isMark σ p q r s = 0) : mk_r p 9999 ∧ mk_r q 6 ∧ mk_r r 600 ∧ mk_r s 4 := by
  unfold f_X9_isMark at h
  simp only [mk_w9] at h
  have e0 : (0 : Int32).toInt = 0 := rfl
  have e1 : (9999 : Int32).toInt = 9999 := rfl
  have e2 : (6 : Int32).toInt = 6 := rfl
  have e3 : (600 : Int32).toInt = 600 := rfl
  have e4 : (4 : Int32).toInt = 4 := rfl
  rw [e0, e1, e2, e3, e4] at h
  by_cases h1 : mk_bt p.toInt 0 9999 = 0
  · exact absurd (if_pos h1) h
  rw [if_neg h1] at h
  by_cases h2 : mk_bt q.toInt 0 6 = 0
  · exact absurd (if_pos h2) h
  rw [if_neg h2] at h
  by_cases h3 : mk_bt r.toInt 0 600 = 0
  · exact absurd (if_pos h3) h
  rw [if_neg h3] at h
  by_cases h4 : mk_bt s.toInt 0 4 = 0
  · exact absurd (if_pos h4) h
  have i1 := mk_in_of h1
  have i2 := mk_in_of h2
  have i3 := mk_in_of h3
  have i4 := mk_in_of h4
  exact ⟨⟨_, by omega, mk_ofNN i1.1⟩, ⟨_, by omega, mk_ofNN i2.1⟩, ⟨_, by omega, mk_ofNN i3.1⟩, ⟨_, by omega, mk_ofNN i4.1⟩⟩
def mk_s9 (σ : mj_S) (kk : Nat) (p1 p2 p3 p4 : Int32) : mj_S := mj_sI (mj_sI (mj_sI (mj_sI (mj_sI σ 36 kk p1) 37 kk p2) 38 kk p3) 39 kk p4) 35 4 (nI (kk + 1))
def mk_s10 (σ : mj_S) (kk : Nat) (p1 p2 p3 p4 : Int32) : mj_S := mj_sI (mj_sI (mj_sI (mj_sI (mj_sI (mj_sI σ 65 (12 + kk) p1) 79 kk p2) 80 kk p3) 65 (42 + kk) p4) 81 kk 0) 64 26 (nI (kk + 1))
theorem mk_add9 {σ : mj_S} {kk : Nat} (hk : kk < 30) (h : σ.1 35 4 = nI kk) (p1 p2 p3 p4 : Int32) : f_X5_add σ p1 p2 p3 p4 = some (nI kk, mk_s9 σ kk p1 p2 p3 p4) := by
  have hb : 0 ≤ (nI kk).toInt ∧ (nI kk).toInt < 30 := by
    rw [nI_toInt (by omega)]
    omega
  have hl : nI kk < (30 : Int32) := nI_lt (a := kk) (b := 30) hk (by omega)
  unfold f_X5_add
  rw [h, if_pos hl, if_pos hb, if_pos hb, if_pos hb, if_pos hb, nI_clamp (by omega), nI_1, nI_pred]
  rfl
theorem mk_add10 {σ : mj_S} {kk : Nat} (hk : kk < 30) (h : σ.1 64 26 = nI kk) (p1 p2 p3 p4 : Int32) : f_X10_adds σ p1 p2 p3 p4 = some (mk_s10 σ kk p1 p2 p3 p4) := by
  have hb : 0 ≤ (nI kk).toInt ∧ (nI kk).toInt < 30 := by
    rw [nI_toInt (by omega)]
    omega
  have e1 : 12 + nI kk = nI (12 + kk) := nI_add 12 kk
  have e2 : 42 + nI kk = nI (42 + kk) := nI_add 42 kk
  have hb1 : 0 ≤ (nI (12 + kk)).toInt ∧ (nI (12 + kk)).toInt < 72 := by
    rw [nI_toInt (by omega)]
    omega
  have hb2 : 0 ≤ (nI (42 + kk)).toInt ∧ (nI (42 + kk)).toInt < 72 := by
    rw [nI_toInt (by omega)]
    omega
  unfold f_X10_adds
  rw [h, e1, e2, if_pos hb1, if_pos hb, if_pos hb, if_pos hb2, if_pos hb, nI_clamp (by omega), nI_clamp (by omega), nI_clamp (by omega), nI_1]
  rfl
theorem mk_addJ {g c w n k d d2 a σ} (h : mk_J g c w n k d d2 a σ) (hk : k < 30) {p1 p2 p3 p4 : Int32} (hp : mk_r p1 9999 ∧ mk_r p2 6 ∧ mk_r p3 600 ∧ mk_r p4 4) : mk_J g c w n (k + 1) d d2 a (mk_s10 (mk_s9 σ k p1 p2 p3 p4) k p1 p2 p3 p4) := by
  have hc := h.hc
  have m65 : ∀ b, (mk_s10 (mk_s9 σ k p1 p2 p3 p4) k p1 p2 p3 p4).1 65 b = if b = 42 + k then p4 else if b = 12 + k then p1 else σ.1 65 b := fun b => rfl
  exact mk_J.mk (hc := h.hc) (c9 := h.c9) (c64 := h.c64) (hw := h.hw) (w9 := h.w9) (w64 := h.w64) (want := h.want) (noWant := h.noWant) (hn := h.hn) (n5 := h.n5) (n64 := h.n64) (tape := h.tape) (bytes := h.bytes) (law := h.law) (stale := h.stale) (rows := h.rows) (rowsM := h.rowsM) (grown := h.grown) (painted := h.painted) (hd := h.hd) (hd2 := h.hd2) (d45 := h.d45) (d64 := h.d64) (e45 := h.e45) (e64 := h.e64) (ha := h.ha) (a50 := h.a50) (a64 := h.a64) (body := h.body) (ran := h.ran) (trace := h.trace) (shelf := h.shelf)
   (kid := fun j hj => (mk_kid.mk (born := (h.kid j hj).born) (sex := (h.kid j hj).sex) (length := (h.kid j hj).length) (rb := (h.kid j hj).rb) (rl := (h.kid j hj).rl)
     (late := by
        rw [m65, if_neg (by omega), if_neg (by omega)]
        exact (h.kid j hj).late)
     (parents := by
        rw [m65, if_neg (by omega), if_neg (by omega)]
        exact (h.kid j hj).parents)))
   (hk := hk)
   (k35 := rfl)
   (k64 := rfl)
   (mark := fun i hi => by
      by_cases hik : i = k
      · rw [hik]
        have u : ∀ (f : Nat → Int32) (v : Int32), upd f k v k = v := fun f v => if_pos rfl
        refine ⟨?_, (u _ _).trans (u _ _).symm, (u _ _).trans (u _ _).symm, ?_, ?_, ?_, ?_, ?_⟩
        · rw [m65, if_neg (by omega), if_pos rfl]
          exact u _ _
        · rw [m65, if_pos rfl]
          exact u _ _
        · show mk_r (upd (σ.1 36) k p1 k) 9999
          rw [u]
          exact hp.1
        · show mk_r (upd (σ.1 37) k p2 k) 6
          rw [u]
          exact hp.2.1
        · show mk_r (upd (σ.1 38) k p3 k) 600
          rw [u]
          exact hp.2.2.1
        · show mk_r (upd (σ.1 39) k p4 k) 4
          rw [u]
          exact hp.2.2.2
      · have u : ∀ (f : Nat → Int32) (v : Int32), upd f k v i = f i := fun f v => if_neg hik
        have o := h.mark i (by omega)
        refine ⟨?_, ?_, ?_, ?_, ?_, ?_, ?_, ?_⟩
        · rw [m65, if_neg (by omega), if_neg (by omega)]
          exact (u _ _).trans o.height
        · exact (u _ _).trans (o.name.trans (u _ _).symm)
        · exact (u _ _).trans (o.month.trans (u _ _).symm)
        · rw [m65, if_neg (by omega), if_neg (by omega)]
          exact (u _ _).trans o.way
        · show mk_r (upd (σ.1 36) k p1 i) 9999
          rw [u]
          exact o.rh
        · show mk_r (upd (σ.1 37) k p2 i) 6
          rw [u]
          exact o.rn
        · show mk_r (upd (σ.1 38) k p3 i) 600
          rw [u]
          exact o.rm
        · show mk_r (upd (σ.1 39) k p4 i) 4
          rw [u]
          exact o.rw)
   (ahead := by
      obtain ⟨q, hq, q1, q2⟩ := h.ahead
      refine ⟨q, by omega, q1, fun i hi => ?_⟩
      show (if i = k then 0 else σ.1 81 i) = _
      by_cases hik : i = k
      · rw [if_pos hik, if_neg (by omega)]
      · rw [if_neg hik]
        exact q2 i (by omega))
   (chg := fun i hi => (mk_chg.mk (was := (h.chg i hi).was) (is := (h.chg i hi).is) (rwas := (h.chg i hi).rwas) (ris := (h.chg i hi).ris)
     (num := by
        obtain ⟨q, q1, q2⟩ := (h.chg i hi).num
        refine ⟨q, q1, ?_⟩
        rcases q2 with ⟨x1, x2, x3⟩ | ⟨x1, x2, x3⟩ | x | x
        · exact .inl ⟨x1, by omega, x3⟩
        · exact .inr (.inl ⟨x1, by omega, x3⟩)
        · exact .inr (.inr (.inl x))
        · exact .inr (.inr (.inr x)))))
theorem op_mark (σ : mj_S) (x0 x1 x2 : Int32) : mk_I σ → ∃ (v : Int32) (σ1 σ2 : mj_S), f_X9_mark σ x0 x1 x2 = some (v, σ1) ∧ f_X10_mark σ1 x0 x1 x2 = some (v, σ2) ∧ mk_I σ2 := by
  rintro ⟨g, c, w, n, k, d, d2, a, h⟩
  have hI : mk_I σ := ⟨g, c, w, n, k, d, d2, a, h⟩
  have hk := h.hk
  unfold f_X9_mark f_X10_mark f_X5_size
  by_cases h1 : x1 < 0
  · exact ⟨-1, σ, σ, by rw [if_pos h1], by rw [if_pos h1], hI⟩
  simp only [if_neg h1]
  by_cases h2 : f_X9_isMark σ x0 (x1 / 10) x2 (mj_rem x1 10) = 0
  · refine ⟨-1, σ, σ, by rw [if_pos h2], ?_, hI⟩
    rw [mk_isone σ σ, if_pos h2]
  simp only [if_neg h2]
  by_cases h3 : k = 30
  · refine ⟨-3, σ, σ, ?_, ?_, hI⟩
    · rw [if_neg (by rw [h.k35, h3]; exact nI_nlt (a := 30) (b := 30) (by omega) (by omega))]
    · rw [mk_isone σ σ, if_neg h2, if_pos (by rw [h.k64, h3]; rfl)]
  have hk2 : k < 30 := by omega
  refine ⟨nI k, mk_s9 σ k x0 (x1 / 10) x2 (mj_rem x1 10), mk_s10 (mk_s9 σ k x0 (x1 / 10) x2 (mj_rem x1 10)) k x0 (x1 / 10) x2 (mj_rem x1 10), ?_, ?_, g, c, w, n, k + 1, d, d2, a, mk_addJ h hk2 (mk_ismark_of h2)⟩
  · rw [if_pos (by rw [h.k35]; exact nI_lt (a := k) (b := 30) hk2 (by omega)), mk_add9 hk2 h.k35]
    rfl
  · have e : (mk_s9 σ k x0 (x1 / 10) x2 (mj_rem x1 10)).1 64 26 = nI k := h.k64
    rw [mk_isone _ σ, if_neg h2, mk_add10 hk2 e, e, if_neg (show ¬ nI k = (30 : Int32) from fun q => h3 ((nI_eq (a := k) (b := 30) (by omega) (by omega)).mp q))]
    show some (nI (k + 1) - 1, _) = _
    rw [nI_pred]
-- marks out of a row
def mk_A9 (σ : mj_S) (k : Nat) (E : Nat → Nat → Int32) : Nat → mj_S
  | 0 => σ
  | i + 1 => mk_s9 (mk_A9 σ k E i) (k + i) (E i 0) (E i 1) (E i 2) (E i 3)
def mk_A10 (σ : mj_S) (k : Nat) (E : Nat → Nat → Int32) : Nat → mj_S
  | 0 => σ
  | i + 1 => mk_s10 (mk_A10 σ k E i) (k + i) (E i 0) (E i 1) (E i 2) (E i 3)
theorem mk_comm1 (σ : mj_S) {a b x y : Nat} {v v' : Int32} (h : a ≠ x) : mj_sI (mj_sI σ a b v) x y v' = mj_sI (mj_sI σ x y v') a b v := by
  have e : (mj_sI (mj_sI σ a b v) x y v').1 = (mj_sI (mj_sI σ x y v') a b v).1 := by
    funext p q
    rw [mk_g, mk_g, mk_g, mk_g]
    by_cases h1 : p = x ∧ q = y
    · rw [if_pos h1, if_neg (by omega), if_pos h1]
    · rw [if_neg h1, if_neg h1]
  exact Prod.ext e rfl
theorem mk_comm (σ : mj_S) (i j : Nat) (a1 a2 a3 a4 b1 b2 b3 b4 : Int32) : mk_s9 (mk_s10 σ i a1 a2 a3 a4) j b1 b2 b3 b4 = mk_s10 (mk_s9 σ j b1 b2 b3 b4) i a1 a2 a3 a4 := by
  unfold mk_s9 mk_s10
  simp only [mk_comm1 _ (show (64 : Nat) ≠ 36 by decide), mk_comm1 _ (show (64 : Nat) ≠ 37 by decide), mk_comm1 _ (show (64 : Nat) ≠ 38 by decide), mk_comm1 _ (show (64 : Nat) ≠ 39 by decide), mk_comm1 _ (show (64 : Nat) ≠ 35 by decide), mk_comm1 _ (show (65 : Nat) ≠ 36 by decide), mk_comm1 _ (show (65 : Nat) ≠ 37 by decide), mk_comm1 _ (show (65 : Nat) ≠ 38 by decide), mk_comm1 _ (show (65 : Nat) ≠ 39 by decide), mk_comm1 _ (show (65 : Nat) ≠ 35 by decide), mk_comm1 _ (show (79 : Nat) ≠ 36 by decide), mk_comm1 _ (show (79 : Nat) ≠ 37 by decide), mk_comm1 _ (show (79 : Nat) ≠ 38 by decide), mk_comm1 _ (show (79 : Nat) ≠ 39 by decide), mk_comm1 _ (show (79 : Nat) ≠ 35 by decide), mk_comm1 _ (show (80 : Nat) ≠ 36 by decide), mk_comm1 _ (show (80 : Nat) ≠ 37 by decide), mk_comm1 _ (show (80 : Nat) ≠ 38 by decide), mk_comm1 _ (show (80 : Nat) ≠ 39 by decide), mk_comm1 _ (show (80 : Nat) ≠ 35 by decide), mk_comm1 _ (show (81 : Nat) ≠ 36 by decide), mk_comm1 _ (show (81 : Nat) ≠ 37 by decide), mk_comm1 _ (show (81 : Nat) ≠ 38 by decide), mk_comm1 _ (show (81 : Nat) ≠ 39 by decide), mk_comm1 _ (show (81 : Nat) ≠ 35 by decide)]
theorem mk_A10s9 (σ : mj_S) (k : Nat) (E : Nat → Nat → Int32) (j : Nat) (b1 b2 b3 b4 : Int32) : ∀ i, mk_A10 (mk_s9 σ j b1 b2 b3 b4) k E i = mk_s9 (mk_A10 σ k E i) j b1 b2 b3 b4
  | 0 => rfl
  | i + 1 => by
    show mk_s10 (mk_A10 (mk_s9 σ j b1 b2 b3 b4) k E i) _ _ _ _ _ = mk_s9 (mk_s10 (mk_A10 σ k E i) _ _ _ _ _) _ _ _ _ _
    rw [mk_A10s9 σ k E j b1 b2 b3 b4 i, mk_comm]
theorem mk_AJ {g c w n k d d2 a σ} (h : mk_J g c w n k d d2 a σ) (E : Nat → Nat → Int32) : ∀ i, k + i ≤ 30 → (∀ t, t < i → mk_r (E t 0) 9999 ∧ mk_r (E t 1) 6 ∧ mk_r (E t 2) 600 ∧ mk_r (E t 3) 4) → mk_J g c w n (k + i) d d2 a (mk_A10 (mk_A9 σ k E i) k E i)
  | 0, _, _ => h
  | i + 1, hi, hE => by
    have ih := mk_AJ h E i (by omega) (fun t ht => hE t (by omega))
    show mk_J g c w n (k + i + 1) d d2 a (mk_s10 (mk_A10 (mk_s9 (mk_A9 σ k E i) (k + i) (E i 0) (E i 1) (E i 2) (E i 3)) k E i) (k + i) (E i 0) (E i 1) (E i 2) (E i 3))
    rw [mk_A10s9]
    exact mk_addJ ih (by omega) (hE i (by omega))
theorem mk_A9L (σ : mj_S) (k : Nat) (E : Nat → Nat → Int32) : ∀ i, (mk_A9 σ k E i).2 = σ.2
  | 0 => rfl
  | i + 1 => mk_A9L σ k E i
theorem mk_A9n {σ : mj_S} {k : Nat} (h : σ.1 35 4 = nI k) (E : Nat → Nat → Int32) : ∀ i, (mk_A9 σ k E i).1 35 4 = nI (k + i)
  | 0 => h
  | i + 1 => rfl
theorem mk_A10n {σ : mj_S} {k : Nat} (h : σ.1 64 26 = nI k) (E : Nat → Nat → Int32) : ∀ i, (mk_A10 σ k E i).1 64 26 = nI (k + i)
  | 0 => h
  | i + 1 => rfl
theorem mk_A9c (σ : mj_S) (k : Nat) (E : Nat → Nat → Int32) (x : Nat) (hx : x < 35 ∨ 39 < x) : ∀ i, (mk_A9 σ k E i).1 x = σ.1 x
  | 0 => rfl
  | i + 1 => by
    rw [← mk_A9c σ k E x hx i]
    funext y
    show (mj_sI (mj_sI (mj_sI (mj_sI (mj_sI (mk_A9 σ k E i) 36 _ _) 37 _ _) 38 _ _) 39 _ _) 35 4 _).1 x y = _
    rw [mk_g, if_neg (by omega), mk_g, if_neg (by omega), mk_g, if_neg (by omega), mk_g, if_neg (by omega), mk_g, if_neg (by omega)]
theorem mk_A10c (σ : mj_S) (k : Nat) (E : Nat → Nat → Int32) (x : Nat) (hx : x = 87 ∨ x = 88) : ∀ i, (mk_A10 σ k E i).1 x = σ.1 x
  | 0 => rfl
  | i + 1 => by
    rw [← mk_A10c σ k E x hx i]
    funext y
    show (mj_sI (mj_sI (mj_sI (mj_sI (mj_sI (mj_sI (mk_A10 σ k E i) 65 _ _) 79 _ _) 80 _ _) 65 _ _) 81 _ _) 64 26 _).1 x y = _
    rw [mk_g, if_neg (by omega), mk_g, if_neg (by omega), mk_g, if_neg (by omega), mk_g, if_neg (by omega), mk_g, if_neg (by omega), mk_g, if_neg (by omega)]
theorem mk_A10L (σ : mj_S) (k : Nat) (E : Nat → Nat → Int32) : ∀ i, (mk_A10 σ k E i).2 = σ.2
  | 0 => rfl
  | i + 1 => mk_A10L σ k E i
