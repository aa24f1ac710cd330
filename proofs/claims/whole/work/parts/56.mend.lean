-- mend, undo, redo
def mk_set9 (w q : Nat) (v : Int32) (τ : mj_S) : mj_S := match w with
  | 0 => mj_sI τ 36 q v
  | 1 => mj_sI τ 39 q v
  | 2 => mj_sI (mj_sI τ 13 q v) 33 q 1
  | _ => mj_sI (mj_sI τ 14 q v) 33 q 1
def mk_idx (w q : Nat) : Nat := match w with
  | 0 => 12 + q
  | 1 => 42 + q
  | 2 => q
  | _ => 6 + q
def mk_old (w q : Nat) (τ : mj_S) : Int32 := match w with
  | 0 => τ.1 36 q
  | 1 => τ.1 39 q
  | 2 => τ.1 13 q
  | _ => τ.1 14 q
def mk_okn (w q c k : Nat) : Prop := (w = 0 ∧ q < k) ∨ (w = 1 ∧ q < k) ∨ (w = 2 ∧ q < c) ∨ (w = 3 ∧ q < c)
theorem mk_setK {g c w n k d d2 a σ} (h : mk_K g c w n k d d2 a σ) {s q : Nat} {v : Int32} (hq : mk_okn s q c k) (hv : mk_val (nI s) v) : mk_K g c w n k d d2 a (mj_sI (mk_set9 s q v σ) 65 (mk_idx s q) v) := by
  have hc := h.hc
  have hk := h.hk
  rcases hq with ⟨rfl, hq⟩ | ⟨rfl, hq⟩ | ⟨rfl, hq⟩ | ⟨rfl, hq⟩
  · have m65 : ∀ y, (mj_sI (mk_set9 0 q v σ) 65 (mk_idx 0 q) v).1 65 y = if y = 12 + q then v else σ.1 65 y := fun y => rfl
    exact mk_K.mk (hc := h.hc) (c9 := h.c9) (c64 := h.c64) (hw := h.hw) (w9 := h.w9) (w64 := h.w64) (want := h.want) (noWant := h.noWant) (hn := h.hn) (n5 := h.n5) (n64 := h.n64) (tape := h.tape) (bytes := h.bytes) (law := h.law) (hk := h.hk) (k35 := h.k35) (k64 := h.k64) (painted := h.painted) (ahead := h.ahead) (hd := h.hd) (hd2 := h.hd2) (d45 := h.d45) (d64 := h.d64) (e45 := h.e45) (e64 := h.e64) (chg := h.chg) (ha := h.ha) (a50 := h.a50) (a64 := h.a64) (body := h.body) (ran := h.ran) (trace := h.trace) (shelf := h.shelf)
     (kid := fun j hj => (mk_kid.mk (born := (h.kid j hj).born) (sex := (h.kid j hj).sex) (length := (h.kid j hj).length) (rb := (h.kid j hj).rb) (rl := (h.kid j hj).rl)
       (late := by
          rw [m65, if_neg (by omega)]
          exact (h.kid j hj).late)
       (parents := by
          rw [m65, if_neg (by omega)]
          exact (h.kid j hj).parents)))
     (mark := fun i hi => (mk_mark.mk (name := (h.mark i hi).name) (month := (h.mark i hi).month) (rn := (h.mark i hi).rn) (rm := (h.mark i hi).rm) (rw := (h.mark i hi).rw)
       (height := by
          show upd (σ.1 36) q v i = _
          rw [m65]
          by_cases hiq : i = q
          · rw [if_pos (by omega)]
            exact if_pos hiq
          · rw [if_neg (by omega)]
            exact (if_neg hiq : upd (σ.1 36) q v i = σ.1 36 i).trans (h.mark i hi).height)
       (way := by
          rw [m65, if_neg (by omega)]
          exact (h.mark i hi).way)
       (rh := by
          show mk_r (if i = q then v else σ.1 36 i) 9999
          by_cases hiq : i = q
          · rw [if_pos hiq]
            exact hv.1 rfl
          · rw [if_neg hiq]
            exact (h.mark i hi).rh)))
  · have m65 : ∀ y, (mj_sI (mk_set9 1 q v σ) 65 (mk_idx 1 q) v).1 65 y = if y = 42 + q then v else σ.1 65 y := fun y => rfl
    exact mk_K.mk (hc := h.hc) (c9 := h.c9) (c64 := h.c64) (hw := h.hw) (w9 := h.w9) (w64 := h.w64) (want := h.want) (noWant := h.noWant) (hn := h.hn) (n5 := h.n5) (n64 := h.n64) (tape := h.tape) (bytes := h.bytes) (law := h.law) (hk := h.hk) (k35 := h.k35) (k64 := h.k64) (painted := h.painted) (ahead := h.ahead) (hd := h.hd) (hd2 := h.hd2) (d45 := h.d45) (d64 := h.d64) (e45 := h.e45) (e64 := h.e64) (chg := h.chg) (ha := h.ha) (a50 := h.a50) (a64 := h.a64) (body := h.body) (ran := h.ran) (trace := h.trace) (shelf := h.shelf)
     (kid := fun j hj => (mk_kid.mk (born := (h.kid j hj).born) (sex := (h.kid j hj).sex) (length := (h.kid j hj).length) (rb := (h.kid j hj).rb) (rl := (h.kid j hj).rl)
       (late := by
          rw [m65, if_neg (by omega)]
          exact (h.kid j hj).late)
       (parents := by
          rw [m65, if_neg (by omega)]
          exact (h.kid j hj).parents)))
     (mark := fun i hi => (mk_mark.mk (name := (h.mark i hi).name) (month := (h.mark i hi).month) (rh := (h.mark i hi).rh) (rn := (h.mark i hi).rn) (rm := (h.mark i hi).rm)
       (height := by
          rw [m65, if_neg (by omega)]
          exact (h.mark i hi).height)
       (way := by
          show upd (σ.1 39) q v i = _
          rw [m65]
          by_cases hiq : i = q
          · rw [if_pos (by omega)]
            exact if_pos hiq
          · rw [if_neg (by omega)]
            exact (if_neg hiq : upd (σ.1 39) q v i = σ.1 39 i).trans (h.mark i hi).way)
       (rw := by
          show mk_r (if i = q then v else σ.1 39 i) 4
          by_cases hiq : i = q
          · rw [if_pos hiq]
            exact hv.2 rfl
          · rw [if_neg hiq]
            exact (h.mark i hi).rw)))
  · have m65 : ∀ y, (mj_sI (mk_set9 2 q v σ) 65 (mk_idx 2 q) v).1 65 y = if y = q then v else σ.1 65 y := fun y => rfl
    exact mk_K.mk (hc := h.hc) (c9 := h.c9) (c64 := h.c64) (hw := h.hw) (w9 := h.w9) (w64 := h.w64) (want := h.want) (noWant := h.noWant) (hn := h.hn) (n5 := h.n5) (n64 := h.n64) (tape := h.tape) (bytes := h.bytes) (law := h.law) (hk := h.hk) (k35 := h.k35) (k64 := h.k64) (painted := h.painted) (ahead := h.ahead) (hd := h.hd) (hd2 := h.hd2) (d45 := h.d45) (d64 := h.d64) (e45 := h.e45) (e64 := h.e64) (chg := h.chg) (ha := h.ha) (a50 := h.a50) (a64 := h.a64) (body := h.body) (ran := h.ran) (trace := h.trace) (shelf := h.shelf)
     (kid := fun j hj => (mk_kid.mk (born := (h.kid j hj).born) (sex := (h.kid j hj).sex) (length := (h.kid j hj).length) (rb := (h.kid j hj).rb) (rl := (h.kid j hj).rl)
       (late := by
          show upd (σ.1 13) q v j = _
          rw [m65]
          by_cases hiq : j = q
          · rw [if_pos hiq]
            exact if_pos hiq
          · rw [if_neg hiq]
            exact (if_neg hiq : upd (σ.1 13) q v j = σ.1 13 j).trans (h.kid j hj).late)
       (parents := by
          rw [m65, if_neg (by omega)]
          exact (h.kid j hj).parents)))
     (mark := fun i hi => (mk_mark.mk (name := (h.mark i hi).name) (month := (h.mark i hi).month) (rh := (h.mark i hi).rh) (rn := (h.mark i hi).rn) (rm := (h.mark i hi).rm) (rw := (h.mark i hi).rw)
       (height := by
          rw [m65, if_neg (by omega)]
          exact (h.mark i hi).height)
       (way := by
          rw [m65, if_neg (by omega)]
          exact (h.mark i hi).way)))
  · have m65 : ∀ y, (mj_sI (mk_set9 3 q v σ) 65 (mk_idx 3 q) v).1 65 y = if y = 6 + q then v else σ.1 65 y := fun y => rfl
    exact mk_K.mk (hc := h.hc) (c9 := h.c9) (c64 := h.c64) (hw := h.hw) (w9 := h.w9) (w64 := h.w64) (want := h.want) (noWant := h.noWant) (hn := h.hn) (n5 := h.n5) (n64 := h.n64) (tape := h.tape) (bytes := h.bytes) (law := h.law) (hk := h.hk) (k35 := h.k35) (k64 := h.k64) (painted := h.painted) (ahead := h.ahead) (hd := h.hd) (hd2 := h.hd2) (d45 := h.d45) (d64 := h.d64) (e45 := h.e45) (e64 := h.e64) (chg := h.chg) (ha := h.ha) (a50 := h.a50) (a64 := h.a64) (body := h.body) (ran := h.ran) (trace := h.trace) (shelf := h.shelf)
     (kid := fun j hj => (mk_kid.mk (born := (h.kid j hj).born) (sex := (h.kid j hj).sex) (length := (h.kid j hj).length) (rb := (h.kid j hj).rb) (rl := (h.kid j hj).rl)
       (late := by
          rw [m65, if_neg (by omega)]
          exact (h.kid j hj).late)
       (parents := by
          show upd (σ.1 14) q v j = _
          rw [m65]
          by_cases hiq : j = q
          · rw [if_pos (by omega)]
            exact if_pos hiq
          · rw [if_neg (by omega)]
            exact (if_neg hiq : upd (σ.1 14) q v j = σ.1 14 j).trans (h.kid j hj).parents)))
     (mark := fun i hi => (mk_mark.mk (name := (h.mark i hi).name) (month := (h.mark i hi).month) (rh := (h.mark i hi).rh) (rn := (h.mark i hi).rn) (rm := (h.mark i hi).rm) (rw := (h.mark i hi).rw)
       (height := by
          rw [m65, if_neg (by omega)]
          exact (h.mark i hi).height)
       (way := by
          rw [m65, if_neg (by omega)]
          exact (h.mark i hi).way)))
theorem mk_become {c k : Nat} {σ : mj_S} (hc : c ≤ 6) (hk : k ≤ 30) (h9 : σ.1 9 6 = nI c) (h35 : σ.1 35 4 = nI k) {s q : Nat} (v : Int32) (hq : mk_okn s q c k) : f_X1_become σ (nI q) (nI s) v = some (mk_set9 s q v σ) := by
  have h5 : q < k → ¬ f_X5_has σ (nI q) = 0 := fun hq => by
    have e : f_X5_has σ (nI q) = mk_bt (nI q).toInt 0 (k - 1) := mk_has h35 (by omega)
    rw [e]
    exact mk_btn (by rw [nI_toInt (by omega)]; omega)
  have h2 : q < c → ¬ f_X2_has σ (nI q) = 0 := fun hq => by
    have e : f_X2_has σ (nI q) = mk_bt (nI q).toInt 0 (c - 1) := mk_has h9 (by omega)
    rw [e]
    exact mk_btn (by rw [nI_toInt (by omega)]; omega)
  rcases hq with ⟨rfl, hq⟩ | ⟨rfl, hq⟩ | ⟨rfl, hq⟩ | ⟨rfl, hq⟩
  · show (f_X5_becomeHeight σ (nI q) v).bind _ = _
    unfold f_X5_becomeHeight
    rw [if_neg (h5 hq), if_pos (mk_in30 (by omega)), nI_clamp (by omega)]
    rfl
  · show (f_X5_becomeWay σ (nI q) v).bind _ = _
    unfold f_X5_becomeWay
    rw [if_neg (h5 hq), if_pos (mk_in30 (by omega)), nI_clamp (by omega)]
    rfl
  · show (f_X2_becomeLate σ (nI q) v).bind _ = _
    unfold f_X2_becomeLate
    rw [if_neg (h2 hq), if_pos (mk_in6 (by omega)), if_pos (mk_in6 (by omega)), nI_clamp (by omega)]
    rfl
  · show (f_X2_becomeParents σ (nI q) v).bind _ = _
    unfold f_X2_becomeParents
    rw [if_neg (h2 hq), if_pos (mk_in6 (by omega)), if_pos (mk_in6 (by omega)), nI_clamp (by omega)]
    rfl
theorem mk_rrS {g : mk_G} {σ ρ : mj_S} {j : Nat} (h : mk_rr g σ ρ j) (hj : j < 6) {i k : Nat} {v : Int32} (hi : ¬ (10 ≤ i ∧ i ≤ 16) ∨ (k ≠ j ∧ i ≤ 14)) : mk_rr g (mj_sI σ i k v) ρ j := fun m hm => by
  have u : ∀ x, (10 ≤ x ∧ x ≤ 14) → (mj_sI σ i k v).1 x j = σ.1 x j := fun x hx => by
    rw [mk_g, if_neg (by omega)]
  have u2 : ∀ x, (15 ≤ x ∧ x ≤ 16) → (mj_sI σ i k v).1 x = σ.1 x := fun x hx => funext fun y => by
    rw [mk_g, if_neg (by omega)]
  rw [u 10 (by omega), u 11 (by omega), u 12 (by omega), u 13 (by omega), u 14 (by omega), u2 15 (by omega), u2 16 (by omega)]
  exact h m hm
theorem mk_rrB {g : mk_G} {σ : mj_S} {j : Nat} (h : mk_rr g σ σ j) (hj : j < 6) {i k : Nat} {v : Int32} (hi : (i < 10 ∨ 32 ≤ i) ∨ (10 ≤ i ∧ k ≠ j ∧ i ≤ 14)) : mk_rr g (mj_sI σ i k v) (mj_sI σ i k v) j := by
  have o : mk_rr g (mj_sI σ i k v) σ j := mk_rrS h hj (by omega)
  intro m hm
  rw [mk_g σ i k v (19 + j) m, if_neg (by omega), mk_g σ i k v (26 + j) m, if_neg (by omega)]
  exact o m hm
theorem mk_rrBR {g : mk_G} {σ : mj_S} {j : Nat} (h : mk_rr g σ σ j) (hj : j < 6) {i : Nat} {f : Nat → Int32} (hi : i < 10 ∨ 32 ≤ i) : mk_rr g (mj_sR σ i f) (mj_sR σ i f) j := by
  have u : ∀ x, (10 ≤ x ∧ x ≤ 31) → (mj_sR σ i f).1 x = σ.1 x := fun x hx => funext fun y => by
    rw [mk_gR, if_neg (by omega)]
  intro m hm
  rw [u 10 (by omega), u 11 (by omega), u 12 (by omega), u 13 (by omega), u 14 (by omega), u 15 (by omega), u 16 (by omega), u (19 + j) (by omega), u (26 + j) (by omega)]
  exact h m hm
theorem mk_rrSet {g : mk_G} {c k : Nat} {σ : mj_S} (hc : c ≤ 6) (h : ∀ j, j < c → mk_rr g σ σ j) {s q : Nat} {v : Int32} (hq : mk_okn s q c k) : ∀ j, j < c → (mk_set9 s q v σ).1 33 j = 0 → mk_rr g (mk_set9 s q v σ) (mk_set9 s q v σ) j := by
  intro j hj h33
  have o := h j hj
  have ne : (∀ f : Nat → Int32, upd f q 1 j = 0 → j ≠ q) := fun f e hjq => by
    have : (1 : Int32) = 0 := (if_pos hjq : upd f q 1 j = 1).symm.trans e
    exact absurd this (by decide)
  rcases hq with ⟨rfl, hq⟩ | ⟨rfl, hq⟩ | ⟨rfl, hq⟩ | ⟨rfl, hq⟩
  · exact mk_rrB o (by omega) (by omega)
  · exact mk_rrB o (by omega) (by omega)
  · have hjq : j ≠ q := ne _ h33
    exact mk_rrB (mk_rrB o (by omega) (by omega)) (by omega) (by omega)
  · have hjq : j ≠ q := ne _ h33
    exact mk_rrB (mk_rrB o (by omega) (by omega)) (by omega) (by omega)
theorem mk_numOk {w n x : Int32} {c k : Nat} (h : mk_num w n x c k) : ∃ s q, mk_okn s q c k ∧ w = nI s ∧ n = nI q ∧ x = nI (mk_idx s q) := by
  obtain ⟨q, q1, q2⟩ := h
  rcases q2 with ⟨x1, x2, x3⟩ | ⟨x1, x2, x3⟩ | ⟨x1, x2, x3⟩ | ⟨x1, x2, x3⟩
  · exact ⟨0, q, .inl ⟨rfl, x2⟩, x1, q1, x3⟩
  · exact ⟨1, q, .inr (.inl ⟨rfl, x2⟩), x1, q1, x3⟩
  · exact ⟨2, q, .inr (.inr (.inl ⟨rfl, x2⟩)), x1, q1, x3⟩
  · exact ⟨3, q, .inr (.inr (.inr ⟨rfl, x2⟩)), x1, q1, x3⟩
theorem mk_okNum {s q c k : Nat} (h : mk_okn s q c k) : mk_num (nI s) (nI q) (nI (mk_idx s q)) c k := by
  rcases h with ⟨rfl, hq⟩ | ⟨rfl, hq⟩ | ⟨rfl, hq⟩ | ⟨rfl, hq⟩
  · exact ⟨q, rfl, .inl ⟨rfl, hq, rfl⟩⟩
  · exact ⟨q, rfl, .inr (.inl ⟨rfl, hq, rfl⟩)⟩
  · exact ⟨q, rfl, .inr (.inr (.inl ⟨rfl, hq, rfl⟩))⟩
  · exact ⟨q, rfl, .inr (.inr (.inr ⟨rfl, hq, rfl⟩))⟩
theorem mk_idxLt {s q c k : Nat} (h : mk_okn s q c k) (hc : c ≤ 6) (hk : k ≤ 30) : mk_idx s q < 72 := by
  rcases h with ⟨rfl, hq⟩ | ⟨rfl, hq⟩ | ⟨rfl, hq⟩ | ⟨rfl, hq⟩
  · show 12 + q < 72
    omega
  · show 42 + q < 72
    omega
  · show q < 72
    omega
  · show 6 + q < 72
    omega
theorem mk_set9c (s q : Nat) (v : Int32) (τ : mj_S) (x y : Nat) (hx : x ≠ 36 ∧ x ≠ 39 ∧ x ≠ 13 ∧ x ≠ 14 ∧ x ≠ 33) : (mk_set9 s q v τ).1 x y = τ.1 x y := by
  unfold mk_set9
  split
  · rw [mk_g, if_neg (by omega)]
  · rw [mk_g, if_neg (by omega)]
  · rw [mk_g, if_neg (by omega), mk_g, if_neg (by omega)]
  · rw [mk_g, if_neg (by omega), mk_g, if_neg (by omega)]
theorem mk_set9C (s q : Nat) (v : Int32) (τ : mj_S) (i y : Nat) (x : Int32) (hi : 40 ≤ i) : mk_set9 s q v (mj_sI τ i y x) = mj_sI (mk_set9 s q v τ) i y x := by
  unfold mk_set9
  split
  · exact mk_comm1 _ (by omega)
  · exact mk_comm1 _ (by omega)
  · rw [mk_comm1 τ (a := i) (x := 13) (by omega), mk_comm1 (mj_sI τ 13 q v) (a := i) (x := 33) (by omega)]
  · rw [mk_comm1 τ (a := i) (x := 14) (by omega), mk_comm1 (mj_sI τ 14 q v) (a := i) (x := 33) (by omega)]
theorem mk_lawSet {g : mk_G} {s q : Nat} {v : Int32} {τ : mj_S} (h : mk_law g (τ.1 1 3) (τ.1 1 5) (τ.1 64 18) (τ.1 2) (τ.1 3) (τ.1 76)) : mk_law g ((mk_set9 s q v τ).1 1 3) ((mk_set9 s q v τ).1 1 5) ((mk_set9 s q v τ).1 64 18) ((mk_set9 s q v τ).1 2) ((mk_set9 s q v τ).1 3) ((mk_set9 s q v τ).1 76) := by
  rw [mk_set9c s q v τ 1 3 (by omega), mk_set9c s q v τ 1 5 (by omega), mk_set9c s q v τ 64 18 (by omega), funext fun y => mk_set9c s q v τ 2 y (by omega), funext fun y => mk_set9c s q v τ 3 y (by omega), funext fun y => mk_set9c s q v τ 76 y (by omega)]
  exact h
theorem op_undo (σ : mj_S) : mk_I σ → ∃ (v : Int32) (σ1 σ2 : mj_S), f_X9_undo σ = some (v, σ1) ∧ f_X10_undo σ1 = some (v, σ2) ∧ mk_I σ2 := by
  rintro ⟨g, c, w, n, k, d, d2, a, h⟩
  have hI : mk_I σ := ⟨g, c, w, n, k, d, d2, a, h⟩
  have hc := h.hc
  have hk := h.hk
  have hd := h.hd
  have hd2 := h.hd2
  unfold f_X9_undo f_X10_undo f_X1_toUndo
  by_cases h0 : d = 0
  · exact ⟨-5, σ, σ, by rw [if_pos (by rw [h.d45, h0]; rfl)], by rw [if_pos (by rw [h.d64, h0]; rfl)], hI⟩
  obtain ⟨e, rfl⟩ : ∃ e, d = e + 1 := ⟨d - 1, by omega⟩
  have ce := h.chg e (by omega)
  obtain ⟨s, q, ok, ew, en, ex⟩ := mk_numOk ce.num
  have hb40 : 0 ≤ (nI e).toInt ∧ (nI e).toInt < 40 := by
    rw [nI_toInt (by omega)]
    omega
  have hcl : (nI e).toNatClampNeg = e := nI_clamp (by omega)
  have hne : ¬ nI (e + 1) = (0 : Int32) := nI_ne0 (by omega) (by omega)
  have hgt : ¬ nI (e + 1) ≤ 0 := nI_nle (by omega) (by omega)
  have hix := mk_idxLt ok hc hk
  obtain ⟨v, hv⟩ : ∃ v, v = σ.1 48 e := ⟨_, rfl⟩
  have hval : mk_val (nI s) v := by
    rw [hv, ← ew]
    exact ce.rwas
  have hK1 : mk_K g c w n k e d2 a (mj_sI (mj_sI σ 45 6 (nI e)) 64 5 (nI e)) := (mk_K.mk (hc := (mk_JK h).hc) (c9 := (mk_JK h).c9) (c64 := (mk_JK h).c64) (kid := (mk_JK h).kid) (hw := (mk_JK h).hw) (w9 := (mk_JK h).w9) (w64 := (mk_JK h).w64) (want := (mk_JK h).want) (noWant := (mk_JK h).noWant) (hn := (mk_JK h).hn) (n5 := (mk_JK h).n5) (n64 := (mk_JK h).n64) (tape := (mk_JK h).tape) (bytes := (mk_JK h).bytes) (law := (mk_JK h).law) (hk := (mk_JK h).hk) (k35 := (mk_JK h).k35) (k64 := (mk_JK h).k64) (mark := (mk_JK h).mark) (painted := (mk_JK h).painted) (ahead := (mk_JK h).ahead) (hd2 := (mk_JK h).hd2) (e45 := (mk_JK h).e45) (e64 := (mk_JK h).e64) (chg := (mk_JK h).chg) (ha := (mk_JK h).ha) (a50 := (mk_JK h).a50) (a64 := (mk_JK h).a64) (body := (mk_JK h).body) (ran := (mk_JK h).ran) (trace := (mk_JK h).trace) (shelf := (mk_JK h).shelf)
   (hd := by omega)
   (d45 := rfl)
   (d64 := rfl))
  have hK2 := mk_setK hK1 ok hval
  rw [mk_set9C s q v _ 64 5 _ (by omega)] at hK2
  have hK : mk_K g c w n k e d2 a (mj_sI (mj_sI (mj_sI (mk_set9 s q v (mj_sI σ 45 6 (nI e))) 64 5 (nI e)) 65 (mk_idx s q) v) 64 6 0) := (mk_K.mk (hc := hK2.hc) (c9 := hK2.c9) (c64 := hK2.c64) (kid := hK2.kid) (hw := hK2.hw) (w9 := hK2.w9) (w64 := hK2.w64) (want := hK2.want) (noWant := hK2.noWant) (hn := hK2.hn) (n5 := hK2.n5) (n64 := hK2.n64) (tape := hK2.tape) (bytes := hK2.bytes) (law := hK2.law) (hk := hK2.hk) (k35 := hK2.k35) (k64 := hK2.k64) (mark := hK2.mark) (painted := hK2.painted) (ahead := hK2.ahead) (hd := hK2.hd) (hd2 := hK2.hd2) (d45 := hK2.d45) (d64 := hK2.d64) (e45 := hK2.e45) (e64 := hK2.e64) (chg := hK2.chg) (ha := hK2.ha) (a50 := hK2.a50) (a64 := hK2.a64) (body := hK2.body) (ran := hK2.ran) (trace := hK2.trace) (shelf := hK2.shelf))
  have bk : f_X1_goBack σ = some (mk_set9 s q v (mj_sI σ 45 6 (nI e))) := by
    unfold f_X1_goBack
    rw [h.d45, if_neg hgt, nI_pred, if_pos hb40, if_pos hb40, if_pos hb40, hcl, en, ew, ← hv, mk_become (σ := mj_sI σ 45 6 (nI e)) hc hk h.c9 h.k35 v ok, mk_bs]
  obtain ⟨ρ, r1, r2, r3⟩ := mk_refresh (g := g) (mk_set9 s q v (mj_sI σ 45 6 (nI e))) (mk_lawSet h.law) hc ((mk_set9c s q v _ 9 6 (by omega)).trans h.c9) (mk_rrSet (k := k) hc (fun j hj => mk_rrB (mk_rrJ h hj) (by omega) (by omega)) ok)
  have z : ∀ x y, ¬ mk_Zr x y → (x ≠ 36 ∧ x ≠ 39 ∧ x ≠ 13 ∧ x ≠ 14 ∧ x ≠ 33) → ρ.1 x y = (mj_sI σ 45 6 (nI e)).1 x y := fun x y h1 h2 => (r2.1 x y h1).trans (mk_set9c s q v _ x y h2)
  refine ⟨nI e, ρ, mj_sI (mj_sI (mj_sI ρ 64 5 (nI e)) 65 (mk_idx s q) v) 64 6 0, ?_, ?_, g, c, w, n, k, e, d2, a, ?_⟩
  · have z45 : ρ.1 45 6 = nI e := z 45 6 (by unfold mk_Zr; omega) (by omega)
    rw [h.d45, if_neg hne, bk, mk_bs, r1, mk_bs, z45]
  · have z5 : ρ.1 64 5 = nI (e + 1) := (z 64 5 (by unfold mk_Zr; omega) (by omega)).trans h.d64
    have z66 : ρ.1 66 e = nI (mk_idx s q) := (z 66 e (by unfold mk_Zr; omega) (by omega)).trans ex
    have z67 : ρ.1 67 e = v := (z 67 e (by unfold mk_Zr; omega) (by omega)).trans (ce.was.symm.trans hv.symm)
    rw [z5, if_neg hne, nI_pred, if_pos hb40, if_pos hb40, hcl, z66, z67, if_pos (mk_in72 hix), nI_clamp (by omega)]
  · refine mk_JR hK (mk_frC (mk_frC (mk_frC r2 _ _ _) _ _ _) _ _ _) (fun j hj => ?_) rfl
    refine ⟨(r3 j hj).1, ?_⟩
    have o : mk_rr g (mj_sI (mj_sI (mj_sI (mk_set9 s q v (mj_sI σ 45 6 (nI e))) 64 5 (nI e)) 65 (mk_idx s q) v) 64 6 0) ρ j := (r3 j hj).2
    exact mk_rrC (mk_rrC (mk_rrC o (by omega) (by omega)) (by omega) (by omega)) (by omega) (by omega)
theorem op_redo (σ : mj_S) : mk_I σ → ∃ (v : Int32) (σ1 σ2 : mj_S), f_X9_redo σ = some (v, σ1) ∧ f_X10_redo σ1 = some (v, σ2) ∧ mk_I σ2 := by
  rintro ⟨g, c, w, n, k, d, d2, a, h⟩
  have hI : mk_I σ := ⟨g, c, w, n, k, d, d2, a, h⟩
  have hc := h.hc
  have hk := h.hk
  have hd := h.hd
  have hd2 := h.hd2
  unfold f_X9_redo f_X10_redo f_X1_toRedo
  have esub : σ.1 45 7 - σ.1 45 6 = nI (d2 - d) := by
    rw [h.e45, h.d45]
    exact mk_subN hd (by omega)
  by_cases h0 : d = d2
  · refine ⟨-5, σ, σ, by rw [if_pos (by rw [esub, h0, Nat.sub_self]; rfl)], by rw [if_pos (by rw [h.d64, h.e64, h0])], hI⟩
  have hlt : d < d2 := by omega
  have ce := h.chg d hlt
  obtain ⟨s, q, ok, ew, en, ex⟩ := mk_numOk ce.num
  have hb40 : 0 ≤ (nI d).toInt ∧ (nI d).toInt < 40 := by
    rw [nI_toInt (by omega)]
    omega
  have hcl : (nI d).toNatClampNeg = d := nI_clamp (by omega)
  have hne : ¬ nI (d2 - d) = (0 : Int32) := nI_ne0 (by omega) (by omega)
  have hix := mk_idxLt ok hc hk
  obtain ⟨v, hv⟩ : ∃ v, v = σ.1 49 d := ⟨_, rfl⟩
  have hval : mk_val (nI s) v := by
    rw [hv, ← ew]
    exact ce.ris
  have hK1 : mk_K g c w n k (d + 1) d2 a (mj_sI (mj_sI σ 45 6 (nI (d + 1))) 64 5 (nI (d + 1))) := (mk_K.mk (hc := (mk_JK h).hc) (c9 := (mk_JK h).c9) (c64 := (mk_JK h).c64) (kid := (mk_JK h).kid) (hw := (mk_JK h).hw) (w9 := (mk_JK h).w9) (w64 := (mk_JK h).w64) (want := (mk_JK h).want) (noWant := (mk_JK h).noWant) (hn := (mk_JK h).hn) (n5 := (mk_JK h).n5) (n64 := (mk_JK h).n64) (tape := (mk_JK h).tape) (bytes := (mk_JK h).bytes) (law := (mk_JK h).law) (hk := (mk_JK h).hk) (k35 := (mk_JK h).k35) (k64 := (mk_JK h).k64) (mark := (mk_JK h).mark) (painted := (mk_JK h).painted) (ahead := (mk_JK h).ahead) (hd2 := (mk_JK h).hd2) (e45 := (mk_JK h).e45) (e64 := (mk_JK h).e64) (chg := (mk_JK h).chg) (ha := (mk_JK h).ha) (a50 := (mk_JK h).a50) (a64 := (mk_JK h).a64) (body := (mk_JK h).body) (ran := (mk_JK h).ran) (trace := (mk_JK h).trace) (shelf := (mk_JK h).shelf)
   (hd := by omega)
   (d45 := rfl)
   (d64 := rfl))
  have hK2 := mk_setK hK1 ok hval
  rw [mk_set9C s q v _ 64 5 _ (by omega), mk_set9C s q v _ 45 6 _ (by omega)] at hK2
  have hK : mk_K g c w n k (d + 1) d2 a (mj_sI (mj_sI (mj_sI (mj_sI (mk_set9 s q v σ) 45 6 (nI (d + 1))) 65 (mk_idx s q) v) 64 5 (nI (d + 1))) 64 6 0) := by
    rw [mk_comm1 _ (show (65 : Nat) ≠ 64 by omega)]
    exact mk_K.mk (hc := hK2.hc) (c9 := hK2.c9) (c64 := hK2.c64) (kid := hK2.kid) (hw := hK2.hw) (w9 := hK2.w9) (w64 := hK2.w64) (want := hK2.want) (noWant := hK2.noWant) (hn := hK2.hn) (n5 := hK2.n5) (n64 := hK2.n64) (tape := hK2.tape) (bytes := hK2.bytes) (law := hK2.law) (hk := hK2.hk) (k35 := hK2.k35) (k64 := hK2.k64) (mark := hK2.mark) (painted := hK2.painted) (ahead := hK2.ahead) (hd := hK2.hd) (hd2 := hK2.hd2) (d45 := hK2.d45) (d64 := hK2.d64) (e45 := hK2.e45) (e64 := hK2.e64) (chg := hK2.chg) (ha := hK2.ha) (a50 := hK2.a50) (a64 := hK2.a64) (body := hK2.body) (ran := hK2.ran) (trace := hK2.trace) (shelf := hK2.shelf)
  have bk : f_X1_goForward σ = some (mj_sI (mk_set9 s q v σ) 45 6 (nI (d + 1))) := by
    unfold f_X1_goForward
    rw [h.d45, h.e45, if_neg (nI_ge hlt (by omega)), if_neg (show ¬ (40 : Int32) ≤ nI d from nI_ge (a := d) (b := 40) (by omega) (by omega)), if_pos hb40, if_pos hb40, if_pos hb40, hcl, en, ew, ← hv, mk_become (σ := σ) hc hk h.c9 h.k35 v ok, mk_bs, mk_set9c s q v σ 45 6 (by omega), h.d45, nI_1]
  obtain ⟨ρ, r1, r2, r3⟩ := mk_refresh (g := g) (mj_sI (mk_set9 s q v σ) 45 6 (nI (d + 1))) (mk_lawSet h.law) hc ((mk_set9c s q v _ 9 6 (by omega)).trans h.c9) (fun j hj h33 => mk_rrB (mk_rrSet (k := k) hc (fun j hj => mk_rrJ h hj) ok j hj h33) (by omega) (by omega))
  have z : ∀ x y, ¬ mk_Zr x y → (x ≠ 36 ∧ x ≠ 39 ∧ x ≠ 13 ∧ x ≠ 14 ∧ x ≠ 33 ∧ ¬ (x = 45 ∧ y = 6)) → ρ.1 x y = σ.1 x y := fun x y h1 h2 => (r2.1 x y h1).trans (by rw [mk_g, if_neg h2.2.2.2.2.2]; exact mk_set9c s q v _ x y ⟨h2.1, h2.2.1, h2.2.2.1, h2.2.2.2.1, h2.2.2.2.2.1⟩)
  have z45 : ρ.1 45 6 = nI (d + 1) := r2.1 45 6 (by unfold mk_Zr; omega)
  have z457 : ρ.1 45 7 = nI d2 := (z 45 7 (by unfold mk_Zr; omega) (by omega)).trans h.e45
  refine ⟨nI (d2 - (d + 1)), ρ, mj_sI (mj_sI (mj_sI ρ 65 (mk_idx s q) v) 64 5 (nI (d + 1))) 64 6 0, ?_, ?_, g, c, w, n, k, d + 1, d2, a, ?_⟩
  · rw [esub, if_neg hne, bk, mk_bs, r1, mk_bs, z45, z457, mk_subN (by omega) (by omega)]
  · have z5 : ρ.1 64 5 = nI d := (z 64 5 (by unfold mk_Zr; omega) (by omega)).trans h.d64
    have z4 : ρ.1 64 4 = nI d2 := (z 64 4 (by unfold mk_Zr; omega) (by omega)).trans h.e64
    have z66 : ρ.1 66 d = nI (mk_idx s q) := (z 66 d (by unfold mk_Zr; omega) (by omega)).trans ex
    have z68 : ρ.1 68 d = v := (z 68 d (by unfold mk_Zr; omega) (by omega)).trans (ce.is.symm.trans hv.symm)
    rw [z5, z4, if_neg (fun q => h0 ((nI_eq (by omega) (by omega)).mp q)), if_pos hb40, if_pos hb40, hcl, z66, z68, if_pos (mk_in72 hix), nI_clamp (by omega), nI_1, mk_subN (by omega) (by omega)]
  · refine mk_JR hK (mk_frC (mk_frC (mk_frC r2 _ _ _) _ _ _) _ _ _) (fun j hj => ?_) rfl
    refine ⟨(r3 j hj).1, ?_⟩
    have o : mk_rr g (mj_sI (mj_sI (mj_sI (mj_sI (mk_set9 s q v σ) 45 6 (nI (d + 1))) 65 (mk_idx s q) v) 64 5 (nI (d + 1))) 64 6 0) ρ j := (r3 j hj).2
    exact mk_rrC (mk_rrC (mk_rrC o (by omega) (by omega)) (by omega) (by omega)) (by omega) (by omega)
