-- child and want
theorem mk_frC {Z : Nat → Nat → Prop} {a b : mj_S} (h : mk_fr Z a b) (i k : Nat) (v : Int32) : mk_fr Z (mj_sI a i k v) (mj_sI b i k v) := ⟨fun x y q => by
  rw [mk_g, mk_g]
  by_cases hh : x = i ∧ y = k
  · rw [if_pos hh, if_pos hh]
  · rw [if_neg hh, if_neg hh]
    exact h.1 x y q, h.2⟩
theorem mk_rrC {g : mk_G} {σ ρ : mj_S} {j : Nat} (h : mk_rr g σ ρ j) (hj : j < 6) {i k : Nat} {v : Int32} (hi : 32 ≤ i) : mk_rr g σ (mj_sI ρ i k v) j := fun m hm => by
  rw [mk_g, if_neg (by omega), mk_g, if_neg (by omega)]
  exact h m hm
theorem mk_rrJ {g c w n k d d2 a σ} (h : mk_J g c w n k d d2 a σ) {j : Nat} (hj : j < c) : mk_rr g σ σ j := fun m hm => by
  have hc := h.hc
  refine ⟨mk_row h hj hm, ?_⟩
  rw [← h.rowsM j hj m hm]
  exact (congrFun (mk_selE σ.1 26 j (by omega)) m).symm
theorem mk_refresh {g : mk_G} (σ : mj_S) {s18 : Int32} {c76 : Nat → Int32} (hl : mk_law g (σ.1 1 3) (σ.1 1 5) s18 (σ.1 2) (σ.1 3) c76) {c : Nat} (hc : c ≤ 6) (h9 : σ.1 9 6 = nI c) (hr : ∀ j, j < c → σ.1 33 j = 0 → mk_rr g σ σ j) : ∃ ρ, f_X2_refresh σ = some ρ ∧ mk_fr mk_Zr σ ρ ∧ ∀ j, j < c → ρ.1 33 j = 0 ∧ mk_rr g σ ρ j := by
  obtain ⟨ρ, r1, r2, r3⟩ := mk_refreshLoop σ hl hc h9 mj_fu 0 σ (by show c < 5000 + 0; omega) (by omega) ⟨fun _ _ _ => rfl, rfl⟩ (fun j hj q => by
    rcases q with q | q
    · exact absurd q (by omega)
    · exact ⟨q, hr j hj q⟩)
  refine ⟨ρ, ?_, r2, r3⟩
  unfold f_X2_refresh
  rw [nI_0] at r1
  exact r1
theorem mk_numw {w n x : Int32} {c k c' k' : Nat} (h : mk_num w n x c k) (hc : c ≤ c') (hk : k ≤ k') : mk_num w n x c' k' := by
  obtain ⟨q, q1, q2⟩ := h
  refine ⟨q, q1, ?_⟩
  rcases q2 with ⟨x1, x2, x3⟩ | ⟨x1, x2, x3⟩ | ⟨x1, x2, x3⟩ | ⟨x1, x2, x3⟩
  · exact .inl ⟨x1, by omega, x3⟩
  · exact .inr (.inl ⟨x1, by omega, x3⟩)
  · exact .inr (.inr (.inl ⟨x1, by omega, x3⟩))
  · exact .inr (.inr (.inr ⟨x1, by omega, x3⟩))
theorem mk_late (σ τ : mj_S) (x : Int32) : f_X10_isLate σ x = f_X9_isLate τ x := by
  unfold f_X10_isLate f_X9_isLate
  rw [mk_lit64, mk_w9]
  rfl
theorem mk_parents (σ τ : mj_S) (x : Int32) : f_X10_areParents σ x = f_X9_isParents τ x := by
  unfold f_X10_areParents f_X9_isParents
  rw [mk_lit64, mk_w9]
  rfl
def mk_c9 (σ : mj_S) (c : Nat) (b s L a p : Int32) : mj_S := mj_sI (mj_sI (mj_sI (mj_sI (mj_sI (mj_sI (mj_sI σ 10 c b) 11 c s) 12 c L) 13 c a) 14 c p) 33 c 1) 9 6 (nI (c + 1))
def mk_c10 (σ : mj_S) (c : Nat) (b s L a p : Int32) : mj_S := mj_sI (mj_sI (mj_sI (mj_sI (mj_sI (mj_sI (mj_sI σ 69 c b) 70 c s) 71 c L) 65 c a) 65 (6 + c) p) 64 7 (nI (c + 1))) 64 6 0
theorem mk_childK {g c w n k d d2 a σ} (h : mk_J g c w n k d d2 a σ) (hc : c < 6) {b s L la p : Int32} (hb : mk_r b 599) (hL : mk_r L 2000) : mk_K g (c + 1) w n k d d2 a (mk_c10 (mk_c9 σ c b s L la p) c b s L la p) := by
  have m65 : ∀ y, (mk_c10 (mk_c9 σ c b s L la p) c b s L la p).1 65 y = if y = 6 + c then p else if y = c then la else σ.1 65 y := fun y => rfl
  exact mk_K.mk (hw := (mk_JK h).hw) (w9 := (mk_JK h).w9) (w64 := (mk_JK h).w64) (want := (mk_JK h).want) (noWant := (mk_JK h).noWant) (hn := (mk_JK h).hn) (n5 := (mk_JK h).n5) (n64 := (mk_JK h).n64) (tape := (mk_JK h).tape) (bytes := (mk_JK h).bytes) (law := (mk_JK h).law) (hk := (mk_JK h).hk) (k35 := (mk_JK h).k35) (k64 := (mk_JK h).k64) (painted := (mk_JK h).painted) (ahead := (mk_JK h).ahead) (hd := (mk_JK h).hd) (hd2 := (mk_JK h).hd2) (d45 := (mk_JK h).d45) (d64 := (mk_JK h).d64) (e45 := (mk_JK h).e45) (e64 := (mk_JK h).e64) (ha := (mk_JK h).ha) (a50 := (mk_JK h).a50) (a64 := (mk_JK h).a64) (body := (mk_JK h).body) (ran := (mk_JK h).ran) (trace := (mk_JK h).trace) (shelf := (mk_JK h).shelf)
   (hc := hc)
   (c9 := rfl)
   (c64 := rfl)
   (kid := fun j hj => by
      by_cases hjc : j = c
      · rw [hjc]
        have u : ∀ (f : Nat → Int32) (v : Int32), upd f c v c = v := fun f v => if_pos rfl
        refine ⟨(u _ _).trans (u _ _).symm, (u _ _).trans (u _ _).symm, (u _ _).trans (u _ _).symm, ?_, ?_, ?_, ?_⟩
        · rw [m65, if_neg (by omega), if_pos rfl]
          exact u _ _
        · rw [m65, if_pos rfl]
          exact u _ _
        · show mk_r (upd (σ.1 10) c b c) 599
          rw [u]
          exact hb
        · show mk_r (upd (σ.1 12) c L c) 2000
          rw [u]
          exact hL
      · have u : ∀ (f : Nat → Int32) (v : Int32), upd f c v j = f j := fun f v => if_neg hjc
        have o := h.kid j (by omega)
        refine ⟨(u _ _).trans (o.born.trans (u _ _).symm), (u _ _).trans (o.sex.trans (u _ _).symm), (u _ _).trans (o.length.trans (u _ _).symm), ?_, ?_, ?_, ?_⟩
        · rw [m65, if_neg (by omega), if_neg (by omega)]
          exact (u _ _).trans o.late
        · rw [m65, if_neg (by omega), if_neg (by omega)]
          exact (u _ _).trans o.parents
        · show mk_r (upd (σ.1 10) c b j) 599
          rw [u]
          exact o.rb
        · show mk_r (upd (σ.1 12) c L j) 2000
          rw [u]
          exact o.rl)
   (mark := fun i hi => (mk_mark.mk (name := (h.mark i hi).name) (month := (h.mark i hi).month) (rh := (h.mark i hi).rh) (rn := (h.mark i hi).rn) (rm := (h.mark i hi).rm) (rw := (h.mark i hi).rw)
     (height := by
        rw [m65, if_neg (by omega), if_neg (by omega)]
        exact (h.mark i hi).height)
     (way := by
        rw [m65, if_neg (by omega), if_neg (by omega)]
        exact (h.mark i hi).way)))
   (chg := fun i hi => (mk_chg.mk (was := (h.chg i hi).was) (is := (h.chg i hi).is) (rwas := (h.chg i hi).rwas) (ris := (h.chg i hi).ris) (num := mk_numw (h.chg i hi).num (by omega) (by omega))))
theorem op_child (σ : mj_S) (x0 x1 x2 : Int32) : mk_I σ → ∃ (v : Int32) (σ1 σ2 : mj_S), f_X9_child σ x0 x1 x2 = some (v, σ1) ∧ f_X10_child σ1 x0 x1 x2 = some (v, σ2) ∧ mk_I σ2 := by
  rintro ⟨g, c, w, n, k, d, d2, a, h⟩
  have hI : mk_I σ := ⟨g, c, w, n, k, d, d2, a, h⟩
  have hc := h.hc
  have e5 : (500 : Int32).toInt = 500 := rfl
  have e20 : (2000 : Int32).toInt = 2000 := rfl
  have f5 : (500 : Int64).toInt = 500 := rfl
  have f20 : (2000 : Int64).toInt = 2000 := rfl
  have e0 : (0 : Int32).toInt = 0 := rfl
  unfold f_X9_child f_X10_child f_X2_size
  simp only [mk_month9, mk_month10, mk_w9, mk_lit64, e5, e20, f5, f20, fun (σ : mj_S) x => mk_late σ mk_z x, fun (σ : mj_S) x => mk_parents σ mk_z x, show ∀ (σ : mj_S) x, f_X9_isLate σ x = f_X9_isLate mk_z x from fun σ x => by unfold f_X9_isLate; rw [mk_w9, mk_w9], show ∀ (σ : mj_S) x, f_X9_isParents σ x = f_X9_isParents mk_z x from fun σ x => by unfold f_X9_isParents; rw [mk_w9, mk_w9]]
  by_cases g1 : x0 < 0
  · exact ⟨-1, σ, σ, by rw [if_pos g1], by rw [if_pos g1], hI⟩
  simp only [if_neg g1]
  by_cases g2 : (0 : Int32) ≤ x2
  · have g2' : ¬ x2 < 0 := by
      rw [mk_lee] at g2
      rw [mk_ltt]
      omega
    simp only [if_pos g2, if_neg g2']
    by_cases g3 : mk_bt (x0 / 10).toInt 0 599 = 0
    · exact ⟨-1, σ, σ, by rw [if_pos g3], by rw [if_pos g3], hI⟩
    simp only [if_neg g3]
    by_cases g4 : (1 : Int32) < mj_rem x0 10
    · exact ⟨-1, σ, σ, by rw [if_pos g4], by rw [if_pos g4], hI⟩
    simp only [if_neg g4]
    by_cases g5 : mk_bt x1.toInt 500 2000 = 0
    · exact ⟨-1, σ, σ, by rw [if_pos g5], by rw [if_pos g5], hI⟩
    simp only [if_neg g5]
    by_cases g6 : f_X9_isLate mk_z (x2 / 10000 - 24) = 0
    · exact ⟨-1, σ, σ, by rw [if_pos g6], by rw [if_pos g6], hI⟩
    simp only [if_neg g6]
    by_cases g7 : f_X9_isParents mk_z (mj_rem x2 10000) = 0
    · exact ⟨-1, σ, σ, by rw [if_pos g7], by rw [if_pos g7], hI⟩
    simp only [if_neg g7]
    by_cases g8 : c = 6
    · refine ⟨-3, σ, σ, by rw [if_neg (by rw [h.c9, g8]; exact nI_nlt (a := 6) (b := 6) (by omega) (by omega))], by rw [if_pos (by rw [h.c64, g8]; rfl)], hI⟩
    have hc6 : c < 6 := by omega
    have hb3 := mk_in_of g3
    have hb5 := mk_in_of g5
    have l6 : σ.1 9 6 < 6 := by
      rw [h.c9]
      exact nI_lt (a := c) (b := 6) hc6 (by omega)
    rw [if_pos l6]
    have add9 : f_X2_add σ (x0 / 10) (mj_rem x0 10) x1 (x2 / 10000 - 24) (mj_rem x2 10000) = some (nI c, mk_c9 σ c (x0 / 10) (mj_rem x0 10) x1 (x2 / 10000 - 24) (mj_rem x2 10000)) := by
      unfold f_X2_add
      rw [if_pos l6, h.c9, if_pos (mk_in6 hc6), if_pos (mk_in6 hc6), if_pos (mk_in6 hc6), if_pos (mk_in6 hc6), if_pos (mk_in6 hc6), if_pos (mk_in6 hc6), nI_clamp (by omega), nI_1, nI_pred]
      rfl
    rw [add9, mk_bs]
    obtain ⟨b, hb⟩ : ∃ b, b = x0 / 10 := ⟨_, rfl⟩
    obtain ⟨s, hs⟩ : ∃ b, b = mj_rem x0 10 := ⟨_, rfl⟩
    obtain ⟨la, hla⟩ : ∃ b, b = x2 / 10000 - 24 := ⟨_, rfl⟩
    obtain ⟨p, hp⟩ : ∃ b, b = mj_rem x2 10000 := ⟨_, rfl⟩
    rw [← hb] at hb3 ⊢
    rw [← hs, ← hla, ← hp]
    obtain ⟨ρ, r1, r2, r3⟩ := mk_refresh (g := g) (mk_c9 σ c b s x1 la p) h.law (c := c + 1) (by omega) rfl (fun j hj h33 => by
      have hjc : j ≠ c := by
        intro q
        rw [q] at h33
        have : (1 : Int32) = 0 := (if_pos rfl : (if c = c then (1 : Int32) else σ.1 33 c) = 1).symm.trans h33
        exact absurd this (by decide)
      have o := mk_rrJ h (j := j) (by omega)
      have u : ∀ (f : Nat → Int32) (v : Int32), upd f c v j = f j := fun f v => if_neg hjc
      intro m hm
      have o' := o m hm
      have z : ∀ x, (x < 9 ∨ 14 < x) → x ≠ 33 → (mk_c9 σ c b s x1 la p).1 x m = σ.1 x m := by
        intro x hx hx2
        unfold mk_c9
        rw [mk_g, if_neg (by omega), mk_g, if_neg (by omega), mk_g, if_neg (by omega), mk_g, if_neg (by omega), mk_g, if_neg (by omega), mk_g, if_neg (by omega), mk_g, if_neg (by omega)]
      rw [z _ (by omega) (by omega), z _ (by omega) (by omega)]
      show σ.1 (19 + j) m = mk_hh g (upd (σ.1 10) c b j) (upd (σ.1 12) c x1 j) (upd (σ.1 13) c la j) (upd (σ.1 11) c s j) (upd (σ.1 14) c p j) (nI j) (σ.1 15) m ∧ σ.1 (26 + j) m = mk_hh g (upd (σ.1 10) c b j) 1280 0 (upd (σ.1 11) c s j) 4300 6 (σ.1 16) m
      rw [u, u, u, u, u]
      exact o')
    refine ⟨nI c, ρ, mk_c10 ρ c b s x1 la p, ?_, ?_, g, c + 1, w, n, k, d, d2, a, ?_⟩
    · rw [r1, mk_bs]
    · have e64 : ρ.1 64 7 = nI c := (r2.1 64 7 (by unfold mk_Zr; omega)).trans h.c64
      have e6 : 6 + nI c = nI (6 + c) := nI_add 6 c
      rw [e64, if_neg (show ¬ nI c = (6 : Int32) from fun q => g8 ((nI_eq (a := c) (b := 6) (by omega) (by omega)).mp q)), if_pos (mk_in7 (by omega)), if_pos (mk_in7 (by omega)), if_pos (mk_in7 (by omega)), if_pos (mk_in72 (by omega)), e6, if_pos (mk_in72 (by omega)), nI_clamp (by omega), nI_clamp (by omega), nI_1, nI_pred]
      rfl
    · refine mk_JR (mk_childK h hc6 (b := b) (s := s) (L := x1) (la := la) (p := p) ⟨_, by omega, mk_ofNN hb3.1⟩ ⟨_, by omega, mk_ofNN (by omega)⟩) ?_ (fun j hj => ?_) rfl
      · unfold mk_c10
        exact mk_frC (mk_frC (mk_frC (mk_frC (mk_frC (mk_frC (mk_frC r2 _ _ _) _ _ _) _ _ _) _ _ _) _ _ _) _ _ _) _ _ _
      · refine ⟨(r3 j hj).1, ?_⟩
        have o : mk_rr g (mk_c10 (mk_c9 σ c b s x1 la p) c b s x1 la p) ρ j := (r3 j hj).2
        unfold mk_c10 at o ⊢
        exact mk_rrC (mk_rrC (mk_rrC (mk_rrC (mk_rrC (mk_rrC (mk_rrC o (by omega) (by omega)) (by omega) (by omega)) (by omega) (by omega)) (by omega) (by omega)) (by omega) (by omega)) (by omega) (by omega)) (by omega) (by omega)
  · have g2' : x2 < 0 := by
      rw [mk_lee] at g2
      rw [mk_ltt]
      omega
    simp only [if_neg g2, if_pos g2']
    refine ⟨-1, σ, σ, rfl, ?_, hI⟩
    simp only [ite_self]
