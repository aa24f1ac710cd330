-- mend
theorem mk_valueOf {g c w n k d d2 a σ} (h : mk_J g c w n k d d2 a σ) {s q : Nat} (ok : mk_okn s q c k) : f_X1_valueOf σ (nI q) (nI s) = some (mk_old s q σ) ∧ mk_old s q σ = σ.1 65 (mk_idx s q) ∧ mk_val (nI s) (mk_old s q σ) := by
  have hc := h.hc
  have hk := h.hk
  rcases ok with ⟨rfl, hq⟩ | ⟨rfl, hq⟩ | ⟨rfl, hq⟩ | ⟨rfl, hq⟩
  · refine ⟨?_, (h.mark q hq).height, fun _ => (h.mark q hq).rh, fun x => absurd x (by decide)⟩
    show (f_X5_heightOf σ (nI q)).bind _ = _
    rw [(mk_m9 h hq).1]
    rfl
  · refine ⟨?_, (h.mark q hq).way, fun x => absurd x (by decide), fun _ => (h.mark q hq).rw⟩
    show (f_X5_wayOf σ (nI q)).bind _ = _
    rw [(mk_m9 h hq).2.1]
    rfl
  · refine ⟨?_, (h.kid q hq).late, fun x => absurd x (by decide), fun x => absurd x (by decide)⟩
    show (f_X2_told σ (nI q) 3).bind _ = _
    rw [(mk_t9 h hq).2.2.2.1]
    rfl
  · refine ⟨?_, (h.kid q hq).parents, fun x => absurd x (by decide), fun x => absurd x (by decide)⟩
    show (f_X2_told σ (nI q) 4).bind _ = _
    rw [(mk_t9 h hq).2.2.2.2]
    rfl
def mk_dd (d : Nat) : Nat := if d = 40 then 39 else d
def mk_shf (d : Nat) (f : Nat → Int32) : Nat → Int32 := fun i => if d = 40 ∧ i < 39 then f (i + 1) else f i
def mk_his9 (τ : mj_S) (d : Nat) (n w was is : Int32) : mj_S := mj_sI (mj_sI (mj_sR (mj_sR (mj_sR (mj_sR τ 46 (upd (mk_shf d (τ.1 46)) (mk_dd d) n)) 47 (upd (mk_shf d (τ.1 47)) (mk_dd d) w)) 48 (upd (mk_shf d (τ.1 48)) (mk_dd d) was)) 49 (upd (mk_shf d (τ.1 49)) (mk_dd d) is)) 45 6 (nI (mk_dd d + 1))) 45 7 (nI (mk_dd d + 1))
theorem mk_shf_id {d : Nat} (h : d ≠ 40) (f : Nat → Int32) : mk_shf d f = f := by
  funext i
  exact if_neg (fun q => h q.1)
theorem mk_rem9 {τ : mj_S} {d : Nat} (hd : d ≤ 40) (h : τ.1 45 6 = nI d) (n w was is : Int32) : f_X1_remember τ n w was is = some (mk_his9 τ d n w was is) := by
  unfold f_X1_remember
  rw [h]
  by_cases h40 : d = 40
  · rw [h40, if_neg (show ¬ nI 40 < (40 : Int32) from nI_nlt (a := 40) (b := 40) (by omega) (by omega))]
    obtain ⟨ρ, hρ⟩ : ∃ ρ, ρ = mj_sR (mj_sR (mj_sR (mj_sR (mj_sI τ 45 6 39) 46 (va_cpy (τ.1 46) (τ.1 46) 1 0 39)) 47 (va_cpy (τ.1 47) (τ.1 47) 1 0 39)) 48 (va_cpy (τ.1 48) (τ.1 48) 1 0 39)) 49 (va_cpy (τ.1 49) (τ.1 49) 1 0 39) := ⟨_, rfl⟩
    have e1 : f_X1_dropOldest τ = some ρ := by
      unfold f_X1_dropOldest
      rw [if_pos (by decide), if_pos (by decide), if_pos (by decide), if_pos (by decide), hρ]
    have e2 : ρ.1 45 6 = nI 39 := by rw [hρ]; rfl
    have hb : 0 ≤ (nI 39).toInt ∧ (nI 39).toInt < 40 := by decide
    have hcl : (nI 39).toNatClampNeg = 39 := nI_clamp (by omega)
    have hs : ∀ f : Nat → Int32, va_cpy f f 1 0 39 = mk_shf 40 f := by
      intro f
      funext i
      unfold va_cpy mk_shf
      by_cases hi : i < 39
      · rw [if_pos (by omega), if_pos ⟨rfl, hi⟩]
        congr 1
        omega
      · rw [if_neg (by omega), if_neg (fun q => hi q.2)]
    rw [e1, mk_bs]
    unfold b_X1_remember_13
    rw [e2, if_pos hb, if_pos hb, if_pos hb, if_pos hb, hcl, nI_1]
    congr 1
    rw [hρ, hs, hs, hs, hs]
    refine Prod.ext ?_ rfl
    funext x y
    unfold mk_his9
    have u : ∀ (f : Nat → Int32) (v : Int32), upd f (mk_dd 40) v y = if y = 39 then v else f y := fun f v => rfl
    simp only [mk_g, mk_gR, u]
    by_cases x45 : x = 45
    · subst x45
      by_cases y7 : y = 7
      · subst y7; rfl
      · by_cases y6 : y = 6
        · subst y6; rfl
        · simp only [y7, y6, and_false, if_false]
          rfl
    · simp only [x45, false_and, if_false]
      by_cases x49 : x = 49
      · subst x49
        by_cases y9 : y = 39
        · subst y9; rfl
        · simp only [y9, and_false, if_false, if_true]
      · simp only [x49, false_and, if_false]
        by_cases x48 : x = 48
        · subst x48
          by_cases y9 : y = 39
          · subst y9; rfl
          · simp only [y9, and_false, if_false, if_true]
        · simp only [x48, false_and, if_false]
          by_cases x47 : x = 47
          · subst x47
            by_cases y9 : y = 39
            · subst y9; rfl
            · simp only [y9, and_false, if_false, if_true]
          · simp only [x47, false_and, if_false]
            by_cases x46 : x = 46
            · subst x46
              by_cases y9 : y = 39
              · subst y9; rfl
              · simp only [y9, and_false, if_false, if_true]
            · simp only [x46, false_and, if_false]
  · have hb : 0 ≤ (nI d).toInt ∧ (nI d).toInt < 40 := by
      rw [nI_toInt (by omega)]
      omega
    have hdd : mk_dd d = d := if_neg h40
    rw [if_pos (show nI d < (40 : Int32) from nI_lt (a := d) (b := 40) (by omega) (by omega))]
    unfold b_X1_remember_13 mk_his9
    rw [h, if_pos hb, if_pos hb, if_pos hb, if_pos hb, nI_clamp (by omega), nI_1, hdd, mk_shf_id h40, mk_shf_id h40, mk_shf_id h40, mk_shf_id h40]
    rfl
def mk_Z66 (x y : Nat) : Prop := x = 66 ∨ x = 67 ∨ x = 68
theorem mk_shiftLoop (v1 v2 v3 : Int32) : ∀ (f i : Nat) (τ : mj_S), 40 < f + i → 1 ≤ i → i ≤ 40 → ∃ τ', b_X10_becomes_26 f v1 v2 v3 (nI i) τ = b_X10_becomes_97 v1 v2 v3 (mj_sI τ' 64 5 ((τ'.1 64 5) - 1)) ∧ mk_fr mk_Z66 τ τ' ∧ (∀ x, (x = 66 ∨ x = 67 ∨ x = 68) → ∀ j, τ'.1 x j = if i ≤ j + 1 ∧ j < 39 then τ.1 x (j + 1) else τ.1 x j)
  | 0, i, τ, hf, hi, hi2 => absurd hf (by omega)
  | f + 1, i, τ, hf, hi, hi2 => by
    unfold b_X10_becomes_26
    by_cases h40 : i = 40
    · exact ⟨τ, if_pos (by rw [h40]; exact nI_le (a := 40) (b := 40) (by omega) (by omega)), ⟨fun _ _ _ => rfl, rfl⟩, fun x _ j => by rw [if_neg (by omega)]⟩
    obtain ⟨e, rfl⟩ : ∃ e, i = e + 1 := ⟨i - 1, by omega⟩
    have hb : 0 ≤ (nI (e + 1)).toInt ∧ (nI (e + 1)).toInt < 40 := by
      rw [nI_toInt (by omega)]
      omega
    have hb2 : 0 ≤ (nI e).toInt ∧ (nI e).toInt < 40 := by
      rw [nI_toInt (by omega)]
      omega
    rw [if_neg (show ¬ (40 : Int32) ≤ nI (e + 1) from nI_ge (a := e + 1) (b := 40) (by omega) (by omega)), nI_pred, if_pos hb, if_pos hb2, if_pos hb, if_pos hb2, if_pos hb, if_pos hb2, nI_clamp (by omega), nI_clamp (by omega), nI_1]
    obtain ⟨τ', t1, t2, t3⟩ := mk_shiftLoop v1 v2 v3 f (e + 2) (mj_sI (mj_sI (mj_sI τ 66 e (τ.1 66 (e + 1))) 67 e (τ.1 67 (e + 1))) 68 e (τ.1 68 (e + 1))) (by omega) (by omega) (by omega)
    refine ⟨τ', t1, mk_frt (mk_frt (mk_frt (mk_frI (.inl rfl)) (mk_frI (.inr (.inl rfl)))) (mk_frI (.inr (.inr rfl)))) t2, fun x hx j => ?_⟩
    rw [t3 x hx j]
    have ev : ∀ j, (mj_sI (mj_sI (mj_sI τ 66 e (τ.1 66 (e + 1))) 67 e (τ.1 67 (e + 1))) 68 e (τ.1 68 (e + 1))).1 x j = if j = e then τ.1 x (e + 1) else τ.1 x j := by
      intro j
      rw [mk_g, mk_g, mk_g]
      rcases hx with rfl | rfl | rfl
      · rw [if_neg (by omega), if_neg (by omega)]
        by_cases hj : j = e
        · rw [if_pos ⟨rfl, hj⟩, if_pos hj]
        · rw [if_neg (fun z => hj z.2), if_neg hj]
      · rw [if_neg (by omega)]
        by_cases hj : j = e
        · rw [if_pos ⟨rfl, hj⟩, if_pos hj]
        · rw [if_neg (fun z => hj z.2), if_neg hj, if_neg (by omega)]
      · by_cases hj : j = e
        · rw [if_pos ⟨rfl, hj⟩, if_pos hj]
        · rw [if_neg (fun z => hj z.2), if_neg hj, if_neg (by omega), if_neg (by omega)]
    rw [ev, ev]
    by_cases q : e + 2 ≤ j + 1 ∧ j < 39
    · rw [if_pos q, if_neg (by omega), if_pos (by omega)]
    · rw [if_neg q]
      by_cases hj : j = e
      · rw [if_pos hj, if_pos (by omega), hj]
      · rw [if_neg hj, if_neg (by omega)]
def mk_his10 (τ : mj_S) (d : Nat) (x : Nat) (was is : Int32) : mj_S := mj_sI (mj_sI (mj_sI (mj_sI (mj_sR (mj_sR (mj_sR τ 66 (upd (mk_shf d (τ.1 66)) (mk_dd d) (nI x))) 67 (upd (mk_shf d (τ.1 67)) (mk_dd d) was)) 68 (upd (mk_shf d (τ.1 68)) (mk_dd d) is)) 64 5 (nI (mk_dd d + 1))) 64 4 (nI (mk_dd d + 1))) 65 x is) 64 6 0
theorem mk_97 {τ : mj_S} {e x : Nat} (he : e < 40) (hx : x < 72) (h : τ.1 64 5 = nI e) (v was : Int32) : b_X10_becomes_97 (nI x) v was τ = some (was, mj_sI (mj_sI (mj_sI (mj_sI (mj_sI (mj_sI (mj_sI τ 66 e (nI x)) 67 e was) 68 e v) 64 5 (nI (e + 1))) 64 4 (nI (e + 1))) 65 x v) 64 6 0) := by
  have hb : 0 ≤ (nI e).toInt ∧ (nI e).toInt < 40 := by
    rw [nI_toInt (by omega)]
    omega
  unfold b_X10_becomes_97
  rw [h, if_pos hb, if_pos hb, if_pos hb, if_pos (mk_in72 hx), nI_clamp (by omega), nI_clamp (by omega), nI_1]
theorem mk_becomes {τ : mj_S} {d x : Nat} (hd : d ≤ 40) (hx : x < 72) (h : τ.1 64 5 = nI d) (v : Int32) : f_X10_becomes τ (nI x) v = if τ.1 65 x = v then some (τ.1 65 x, τ) else some (τ.1 65 x, mk_his10 τ d x (τ.1 65 x) v) := by
  unfold f_X10_becomes
  rw [if_pos (mk_in72 hx), nI_clamp (by omega), h]
  by_cases c1 : τ.1 65 x = v
  · rw [if_pos c1, if_pos c1]
  rw [if_neg c1, if_neg c1]
  by_cases h40 : d = 40
  · rw [if_pos (show nI d = (40 : Int32) from by rw [h40]; rfl)]
    obtain ⟨τ', t1, t2, t3⟩ := mk_shiftLoop (nI x) v (τ.1 65 x) mj_fu 1 τ (by decide) (by omega) (by omega)
    have e1 : b_X10_becomes_26 mj_fu (nI x) v (τ.1 65 x) 1 τ = b_X10_becomes_97 (nI x) v (τ.1 65 x) (mj_sI τ' 64 5 ((τ'.1 64 5) - 1)) := t1
    have e5 : (τ'.1 64 5) - 1 = nI 39 := by
      rw [t2.1 64 5 (by unfold mk_Z66; omega), h, h40]
      rfl
    rw [e1, e5, mk_97 (e := 39) (by omega) hx rfl]
    refine congrArg (fun z => some (τ.1 65 x, z)) ?_
    have r : ∀ y, (y = 66 ∨ y = 67 ∨ y = 68) → τ'.1 y = mk_shf 40 (τ.1 y) := fun y hy => funext fun j => by
      rw [t3 y hy j]
      unfold mk_shf
      by_cases q : j < 39
      · rw [if_pos (by omega), if_pos ⟨rfl, q⟩]
      · rw [if_neg (by omega), if_neg (fun z => q z.2)]
    rw [h40]
    refine Prod.ext ?_ t2.2
    funext a b
    unfold mk_his10
    have u : ∀ (f : Nat → Int32) (v : Int32), upd f 39 v b = if b = 39 then v else f b := fun f v => rfl
    have d39 : mk_dd 40 = 39 := rfl
    simp only [mk_g, mk_gR, u, d39]
    by_cases a66 : a = 66
    · subst a66
      rw [r 66 (by omega)]
      by_cases b9 : b = 39
      · subst b9; rfl
      · simp only [b9, and_false, if_false]
        rfl
    by_cases a67 : a = 67
    · subst a67
      rw [r 67 (by omega)]
      by_cases b9 : b = 39
      · subst b9; rfl
      · simp only [b9, and_false, if_false]
        rfl
    by_cases a68 : a = 68
    · subst a68
      rw [r 68 (by omega)]
      by_cases b9 : b = 39
      · subst b9; rfl
      · simp only [b9, and_false, if_false]
        rfl
    simp only [a66, a67, a68, false_and, if_false]
    rw [t2.1 a b (by unfold mk_Z66; omega)]
    by_cases q5 : a = 64 ∧ b = 5
    · simp only [q5, and_self, if_true]
    · simp only [q5, if_false]
  · have hdd : mk_dd d = d := if_neg h40
    rw [if_neg (show ¬ nI d = (40 : Int32) from fun q => h40 ((nI_eq (a := d) (b := 40) (by omega) (by omega)).mp q)), mk_97 (e := d) (by omega) hx h]
    unfold mk_his10
    rw [hdd, mk_shf_id h40, mk_shf_id h40, mk_shf_id h40]
    rfl

theorem mk_hisK {g c w n k d d2 a σ τ} (h : mk_K g c w n k d d2 a τ) (hσ : mk_J g c w n k d d2 a σ) {s q : Nat} (ok : mk_okn s q c k) {was is : Int32} (h1 : mk_val (nI s) was) (h2 : mk_val (nI s) is) (e46 : τ.1 46 = σ.1 46) (e47 : τ.1 47 = σ.1 47) (e48 : τ.1 48 = σ.1 48) (e49 : τ.1 49 = σ.1 49) (e66 : τ.1 66 = σ.1 66) (e67 : τ.1 67 = σ.1 67) (e68 : τ.1 68 = σ.1 68) (e65 : τ.1 65 (mk_idx s q) = is) : mk_K g c w n k (mk_dd d + 1) (mk_dd d + 1) a (mk_his10 (mk_his9 τ d (nI q) (nI s) was is) d (mk_idx s q) was is) := by
  have hd := hσ.hd
  have hd2 := hσ.hd2
  have hdd : mk_dd d ≤ d ∧ mk_dd d < 40 := by
    unfold mk_dd
    by_cases h40 : d = 40
    · rw [if_pos h40]
      omega
    · rw [if_neg h40]
      omega
  have m65 : ∀ y, (mk_his10 (mk_his9 τ d (nI q) (nI s) was is) d (mk_idx s q) was is).1 65 y = τ.1 65 y := by
    intro y
    show (if y = mk_idx s q then is else τ.1 65 y) = τ.1 65 y
    by_cases hy : y = mk_idx s q
    · rw [if_pos hy, hy, e65]
    · rw [if_neg hy]
  exact mk_K.mk (hc := h.hc) (c9 := h.c9) (c64 := h.c64) (hw := h.hw) (w9 := h.w9) (w64 := h.w64) (want := h.want) (noWant := h.noWant) (hn := h.hn) (n5 := h.n5) (n64 := h.n64) (tape := h.tape) (bytes := h.bytes) (law := h.law) (hk := h.hk) (k35 := h.k35) (k64 := h.k64) (painted := h.painted) (ahead := h.ahead) (ha := h.ha) (a50 := h.a50) (a64 := h.a64) (body := h.body) (ran := h.ran) (trace := h.trace) (shelf := h.shelf)
   (kid := fun j hj => (mk_kid.mk (born := (h.kid j hj).born) (sex := (h.kid j hj).sex) (length := (h.kid j hj).length) (rb := (h.kid j hj).rb) (rl := (h.kid j hj).rl)
     (late := by
        rw [m65]
        exact (h.kid j hj).late)
     (parents := by
        rw [m65]
        exact (h.kid j hj).parents)))
   (mark := fun i hi => (mk_mark.mk (name := (h.mark i hi).name) (month := (h.mark i hi).month) (rh := (h.mark i hi).rh) (rn := (h.mark i hi).rn) (rm := (h.mark i hi).rm) (rw := (h.mark i hi).rw)
     (height := by
        rw [m65]
        exact (h.mark i hi).height)
     (way := by
        rw [m65]
        exact (h.mark i hi).way)))
   (hd := by omega)
   (hd2 := by omega)
   (d45 := rfl)
   (d64 := rfl)
   (e45 := rfl)
   (e64 := rfl)
   (chg := fun i hi => by
      by_cases hid : i = mk_dd d
      · have u : ∀ (f : Nat → Int32) (v : Int32), upd f (mk_dd d) v i = v := fun f v => if_pos hid
        refine ⟨?_, ?_, ?_, ?_, ?_⟩
        · show mk_num (upd _ (mk_dd d) (nI s) i) (upd _ (mk_dd d) (nI q) i) (upd _ (mk_dd d) (nI (mk_idx s q)) i) c k
          rw [u, u, u]
          exact mk_okNum ok
        · show upd _ (mk_dd d) was i = upd _ (mk_dd d) was i
          rw [u, u]
        · show upd _ (mk_dd d) is i = upd _ (mk_dd d) is i
          rw [u, u]
        · show mk_val (upd _ (mk_dd d) (nI s) i) (upd _ (mk_dd d) was i)
          rw [u, u]
          exact h1
        · show mk_val (upd _ (mk_dd d) (nI s) i) (upd _ (mk_dd d) is i)
          rw [u, u]
          exact h2
      · have o : ∃ i', i' < d2 ∧ ∀ f : Nat → Int32, mk_shf d f i = f i' := by
          by_cases h40 : d = 40
          · refine ⟨i + 1, by omega, fun f => if_pos ⟨h40, ?_⟩⟩
            have : mk_dd d = 39 := if_pos h40
            omega
          · exact ⟨i, by omega, fun f => if_neg (fun z => h40 z.1)⟩
        obtain ⟨i', hi', sh⟩ := o
        have u : ∀ (f : Nat → Int32) (v : Int32), upd (mk_shf d f) (mk_dd d) v i = f i' := fun f v => (if_neg hid).trans (sh f)
        have ch := hσ.chg i' hi'
        refine ⟨?_, ?_, ?_, ?_, ?_⟩
        · show mk_num (upd (mk_shf d (τ.1 47)) (mk_dd d) (nI s) i) (upd (mk_shf d (τ.1 46)) (mk_dd d) (nI q) i) (upd (mk_shf d (τ.1 66)) (mk_dd d) (nI (mk_idx s q)) i) c k
          rw [u, u, u, e46, e47, e66]
          exact ch.num
        · show upd (mk_shf d (τ.1 48)) (mk_dd d) was i = upd (mk_shf d (τ.1 67)) (mk_dd d) was i
          rw [u, u, e48, e67]
          exact ch.was
        · show upd (mk_shf d (τ.1 49)) (mk_dd d) is i = upd (mk_shf d (τ.1 68)) (mk_dd d) is i
          rw [u, u, e49, e68]
          exact ch.is
        · show mk_val (upd (mk_shf d (τ.1 47)) (mk_dd d) (nI s) i) (upd (mk_shf d (τ.1 48)) (mk_dd d) was i)
          rw [u, u, e47, e48]
          exact ch.rwas
        · show mk_val (upd (mk_shf d (τ.1 47)) (mk_dd d) (nI s) i) (upd (mk_shf d (τ.1 49)) (mk_dd d) is i)
          rw [u, u, e47, e49]
          exact ch.ris)
theorem mk_noStale {c : Nat} {σ : mj_S} (hc : c ≤ 6) (h9 : σ.1 9 6 = nI c) (hs : ∀ j, j < c → σ.1 33 j = 0) : ∀ (f i : Nat), c < f + i → i ≤ c → b_X2_refresh_2 f (nI i) σ = some σ
  | 0, i, hf, hi => absurd hf (by omega)
  | f + 1, i, hf, hi => by
    unfold b_X2_refresh_2
    rw [h9]
    by_cases hic : i = c
    · rw [if_pos (by rw [hic]; exact nI_le (by omega) (by omega))]
    rw [if_neg (nI_ge (by omega) (by omega)), if_neg (show ¬ (6 : Int32) ≤ nI i from nI_ge (a := i) (b := 6) (by omega) (by omega)), if_pos (mk_in6 (by omega)), nI_clamp (by omega), if_pos (hs i (by omega)), nI_1]
    exact mk_noStale hc h9 hs f (i + 1) (by omega) (by omega)
theorem mk_mendable {g c w n k d d2 a σ} (h : mk_J g c w n k d d2 a σ) (x0 x1 x2 : Int32) :
    (f_X9_isMendable σ x0 x1 x2 = 0 ∧ ∀ τ : mj_S, τ.1 64 7 = nI c → τ.1 64 26 = nI k → f_X10_mend τ x0 x1 x2 = some (-2000000000, τ)) ∨
    (∃ s q, mk_okn s q c k ∧ x0 = nI q ∧ x1 = nI s ∧ mk_val (nI s) x2 ∧ ¬ f_X9_isMendable σ x0 x1 x2 = 0 ∧ ∀ τ : mj_S, τ.1 64 7 = nI c → τ.1 64 26 = nI k → f_X10_mend τ x0 x1 x2 = f_X10_becomes τ (nI (mk_idx s q)) x2) := by
  have hc := h.hc
  have hk := h.hk
  have e0 : (0 : Int32).toInt = 0 := rfl
  have e4 : (4 : Int32).toInt = 4 := rfl
  have e9 : (9999 : Int32).toInt = 9999 := rfl
  have f0 : (0 : Int64).toInt = 0 := rfl
  have f4 : (4 : Int64).toInt = 4 := rfl
  have f9 : (9999 : Int64).toInt = 9999 := rfl
  have eta : ∀ o : Option (Int32 × mj_S), (o.bind fun r => some (r.1, r.2)) = o := fun o => by cases o <;> rfl
  have im : ∀ τ : mj_S, τ.1 64 26 = nI k → f_X10_isMark τ x0 = mk_bt x0.toInt 0 (k - 1) := fun τ ht => mk_is τ ht (by omega)
  have ic : ∀ τ : mj_S, τ.1 64 7 = nI c → f_X10_isChild τ x0 = mk_bt x0.toInt 0 (c - 1) := fun τ ht => mk_is τ ht (by omega)
  have late : ∀ τ : mj_S, f_X10_isLate τ x2 = f_X9_isLate σ x2 := fun τ => mk_late τ σ x2
  have par : ∀ τ : mj_S, f_X10_areParents τ x2 = f_X9_isParents σ x2 := fun τ => mk_parents τ σ x2
  unfold f_X9_isMendable f_X10_mend
  simp only [mk_has5 h, mk_has2 h, mk_w9, mk_lit64, e0, e4, e9, f0, f4, f9, eta, late, par]
  by_cases c0 : x1 = 0
  · simp only [if_pos c0]
    by_cases d1 : mk_bt x0.toInt 0 (k - 1) = 0
    · exact .inl ⟨by rw [if_pos d1], fun τ _ t2 => by rw [im τ t2, if_pos d1]⟩
    by_cases d3 : mk_bt x2.toInt 0 9999 = 0
    · exact .inl ⟨by rw [if_neg d1, if_pos d3], fun τ _ t2 => by rw [im τ t2, if_neg d1, if_pos d3]⟩
    obtain ⟨q, hq, rfl⟩ := mk_bt_of (x := x0) (n := k) (mk_in_of d1) (by omega)
    have i3 := mk_in_of d3
    exact .inr ⟨0, q, .inl ⟨rfl, hq⟩, rfl, c0, ⟨fun _ => ⟨_, by omega, mk_ofNN i3.1⟩, fun z => absurd z (by decide)⟩, by rw [if_neg d1, if_neg d3]; decide, fun τ _ t2 => by rw [im τ t2, if_neg d1, if_neg d3]; exact congrArg (fun z => f_X10_becomes τ z x2) (nI_add 12 q)⟩
  simp only [if_neg c0]
  by_cases c1 : x1 = 1
  · simp only [if_pos c1]
    by_cases d1 : mk_bt x0.toInt 0 (k - 1) = 0
    · exact .inl ⟨by rw [if_pos d1], fun τ _ t2 => by rw [im τ t2, if_pos d1]⟩
    by_cases d3 : mk_bt x2.toInt 0 4 = 0
    · exact .inl ⟨by rw [if_neg d1, if_pos d3], fun τ _ t2 => by rw [im τ t2, if_neg d1, if_pos d3]⟩
    obtain ⟨q, hq, rfl⟩ := mk_bt_of (x := x0) (n := k) (mk_in_of d1) (by omega)
    have i3 := mk_in_of d3
    exact .inr ⟨1, q, .inr (.inl ⟨rfl, hq⟩), rfl, c1, ⟨fun z => absurd z (by decide), fun _ => ⟨_, by omega, mk_ofNN i3.1⟩⟩, by rw [if_neg d1, if_neg d3]; decide, fun τ _ t2 => by rw [im τ t2, if_neg d1, if_neg d3]; exact congrArg (fun z => f_X10_becomes τ z x2) (nI_add 42 q)⟩
  simp only [if_neg c1]
  by_cases c2 : x1 = 2
  · simp only [if_pos c2]
    by_cases d1 : mk_bt x0.toInt 0 (c - 1) = 0
    · exact .inl ⟨by rw [if_pos d1], fun τ t1 _ => by rw [ic τ t1, if_pos d1]⟩
    by_cases d3 : f_X9_isLate σ x2 = 0
    · exact .inl ⟨by rw [if_neg d1, if_pos d3], fun τ t1 _ => by rw [ic τ t1, if_neg d1, if_pos d3]⟩
    obtain ⟨q, hq, rfl⟩ := mk_bt_of (x := x0) (n := c) (mk_in_of d1) (by omega)
    exact .inr ⟨2, q, .inr (.inr (.inl ⟨rfl, hq⟩)), rfl, c2, ⟨fun z => absurd z (by decide), fun z => absurd z (by decide)⟩, by rw [if_neg d1, if_neg d3]; decide, fun τ t1 _ => by rw [ic τ t1, if_neg d1, if_neg d3]; rfl⟩
  simp only [if_neg c2]
  by_cases c3 : x1 = 3
  · simp only [if_pos c3]
    by_cases d1 : mk_bt x0.toInt 0 (c - 1) = 0
    · exact .inl ⟨by rw [if_pos d1], fun τ t1 _ => by rw [ic τ t1, if_pos d1]⟩
    by_cases d3 : f_X9_isParents σ x2 = 0
    · exact .inl ⟨by rw [if_neg d1, if_pos d3], fun τ t1 _ => by rw [ic τ t1, if_neg d1, if_pos d3]⟩
    obtain ⟨q, hq, rfl⟩ := mk_bt_of (x := x0) (n := c) (mk_in_of d1) (by omega)
    exact .inr ⟨3, q, .inr (.inr (.inr ⟨rfl, hq⟩)), rfl, c3, ⟨fun z => absurd z (by decide), fun z => absurd z (by decide)⟩, by rw [if_neg d1, if_neg d3]; decide, fun τ t1 _ => by rw [ic τ t1, if_neg d1, if_neg d3]; exact congrArg (fun z => f_X10_becomes τ z x2) (nI_add 6 q)⟩
  exact .inl ⟨if_neg c3, fun τ _ _ => if_neg c3⟩
theorem op_mend (σ : mj_S) (x0 x1 x2 : Int32) : mk_I σ → ∃ (v : Int32) (σ1 σ2 : mj_S), f_X9_mend σ x0 x1 x2 = some (v, σ1) ∧ f_X10_mend σ1 x0 x1 x2 = some (v, σ2) ∧ mk_I σ2 := by
  rintro ⟨g, c, w, n, k, d, d2, a, h⟩
  have hI : mk_I σ := ⟨g, c, w, n, k, d, d2, a, h⟩
  have hc := h.hc
  have hk := h.hk
  have hd := h.hd
  have hd2 := h.hd2
  unfold f_X9_mend
  rcases mk_mendable h x0 x1 x2 with ⟨m1, m2⟩ | ⟨s, q, ok, rfl, rfl, hv, m1, m2⟩
  · exact ⟨-2000000000, σ, σ, by rw [if_pos m1], m2 σ h.c64 h.k64, hI⟩
  rw [if_neg m1]
  obtain ⟨v1, v2, v3⟩ := mk_valueOf h ok
  have hix := mk_idxLt ok hc hk
  unfold f_X1_change
  rw [v1, mk_bs]
  by_cases same : mk_old s q σ = x2
  · rw [if_pos same, mk_bs]
    have r0 : f_X2_refresh σ = some σ := by
      have := mk_noStale hc h.c9 h.stale mj_fu 0 (by show c < 5000 + 0; omega) (by omega)
      rw [nI_0] at this
      unfold f_X2_refresh
      exact this
    refine ⟨mk_old s q σ, σ, σ, ?_, ?_, hI⟩
    · show (f_X2_refresh σ).bind _ = _
      rw [r0, mk_bs]
    · rw [m2 σ h.c64 h.k64, mk_becomes (d := d) (by omega) hix h.d64, ← v2, if_pos same]
  rw [if_neg same, mk_become (σ := σ) hc hk h.c9 h.k35 x2 ok, mk_bs, mk_rem9 (τ := mk_set9 s q x2 σ) (d := d) (by omega) ((mk_set9c s q x2 σ 45 6 (by omega)).trans h.d45), mk_bs, mk_bs]
  obtain ⟨was, hwas⟩ : ∃ was, was = mk_old s q σ := ⟨_, rfl⟩
  rw [← hwas] at v2 v3 ⊢
  obtain ⟨ρ, r1, r2, r3⟩ := mk_refresh (g := g) (mk_his9 (mk_set9 s q x2 σ) d (nI q) (nI s) was x2) (mk_lawSet h.law) hc ((mk_set9c s q x2 _ 9 6 (by omega)).trans h.c9) (fun j hj h33 => by
    have o := mk_rrSet (k := k) hc (fun j hj => mk_rrJ h hj) ok j hj h33
    unfold mk_his9
    exact mk_rrB (mk_rrB (mk_rrBR (mk_rrBR (mk_rrBR (mk_rrBR o (by omega) (by omega)) (by omega) (by omega)) (by omega) (by omega)) (by omega) (by omega)) (by omega) (by omega)) (by omega) (by omega))
  have z9 : ∀ x y, (x ≠ 46 ∧ x ≠ 47 ∧ x ≠ 48 ∧ x ≠ 49 ∧ x ≠ 45) → (mk_his9 (mk_set9 s q x2 σ) d (nI q) (nI s) was x2).1 x y = (mk_set9 s q x2 σ).1 x y := fun x y hx => by
    unfold mk_his9
    rw [mk_g, if_neg (by omega), mk_g, if_neg (by omega), mk_gR, if_neg (by omega), mk_gR, if_neg (by omega), mk_gR, if_neg (by omega), mk_gR, if_neg (by omega)]
  have z : ∀ x y, ¬ mk_Zr x y → (x ≠ 46 ∧ x ≠ 47 ∧ x ≠ 48 ∧ x ≠ 49 ∧ x ≠ 45) → (x ≠ 36 ∧ x ≠ 39 ∧ x ≠ 13 ∧ x ≠ 14 ∧ x ≠ 33) → ρ.1 x y = σ.1 x y := fun x y h1 h2 h3 => (r2.1 x y h1).trans ((z9 x y h2).trans (mk_set9c s q x2 σ x y h3))
  have z65 : ρ.1 65 (mk_idx s q) = was := (z 65 _ (by unfold mk_Zr; omega) (by omega) (by omega)).trans v2.symm
  have z5 : ρ.1 64 5 = nI d := (z 64 5 (by unfold mk_Zr; omega) (by omega) (by omega)).trans h.d64
  refine ⟨was, ρ, mk_his10 ρ d (mk_idx s q) was x2, ?_, ?_, g, c, w, n, k, mk_dd d + 1, mk_dd d + 1, a, ?_⟩
  · show (f_X2_refresh (mk_his9 (mk_set9 s q x2 σ) d (nI q) (nI s) was x2)).bind _ = _
    rw [r1, mk_bs]
  · rw [m2 ρ ((z 64 7 (by unfold mk_Zr; omega) (by omega) (by omega)).trans h.c64) ((z 64 26 (by unfold mk_Zr; omega) (by omega) (by omega)).trans h.k64), mk_becomes (d := d) (by omega) hix z5, z65, if_neg (fun e => same (hwas.symm.trans e))]
  · -- the reference's writing, over the class's state before its rows were made new
    have hK1 := mk_setK (mk_JK h) ok hv
    have hK := mk_hisK hK1 h ok v3 hv (τ := mj_sI (mk_set9 s q x2 σ) 65 (mk_idx s q) x2) (funext fun y => mk_set9c s q x2 σ 46 y (by omega)) (funext fun y => mk_set9c s q x2 σ 47 y (by omega)) (funext fun y => mk_set9c s q x2 σ 48 y (by omega)) (funext fun y => mk_set9c s q x2 σ 49 y (by omega)) (funext fun y => mk_set9c s q x2 σ 66 y (by omega)) (funext fun y => mk_set9c s q x2 σ 67 y (by omega)) (funext fun y => mk_set9c s q x2 σ 68 y (by omega)) (if_pos rfl)
    have eK : mk_his10 (mk_his9 (mj_sI (mk_set9 s q x2 σ) 65 (mk_idx s q) x2) d (nI q) (nI s) was x2) d (mk_idx s q) was x2 = mk_his10 (mk_his9 (mk_set9 s q x2 σ) d (nI q) (nI s) was x2) d (mk_idx s q) was x2 := by
      refine Prod.ext ?_ rfl
      funext x y
      by_cases hx : x = 65
      · subst hx
        show (if y = mk_idx s q then x2 else (if y = mk_idx s q then x2 else (mk_set9 s q x2 σ).1 65 y)) = (if y = mk_idx s q then x2 else (mk_set9 s q x2 σ).1 65 y)
        by_cases hy : y = mk_idx s q
        · rw [if_pos hy, if_pos hy]
        · rw [if_neg hy, if_neg hy]
      · have q1 : ∀ X : mj_S, ∀ x', x' ≠ 65 → ∀ y, (mj_sI X 65 (mk_idx s q) x2).1 x' y = X.1 x' y := fun X x' hx' y => by rw [mk_g, if_neg (fun e => hx' e.1)]
        have q2 : ∀ X : mj_S, ∀ x', x' ≠ 65 → (mj_sI X 65 (mk_idx s q) x2).1 x' = X.1 x' := fun X x' hx' => funext fun y => q1 X x' hx' y
        unfold mk_his10 mk_his9
        simp only [mk_g, mk_gR, hx, false_and, if_false]
        rfl
    rw [eK] at hK
    have frr : mk_fr mk_Zr (mk_his10 (mk_his9 (mk_set9 s q x2 σ) d (nI q) (nI s) was x2) d (mk_idx s q) was x2) (mk_his10 ρ d (mk_idx s q) was x2) := by
      refine ⟨fun x y hz => ?_, r2.2⟩
      have w66 : ρ.1 66 = (mk_his9 (mk_set9 s q x2 σ) d (nI q) (nI s) was x2).1 66 := funext fun y => r2.1 66 y (by unfold mk_Zr; omega)
      have w67 : ρ.1 67 = (mk_his9 (mk_set9 s q x2 σ) d (nI q) (nI s) was x2).1 67 := funext fun y => r2.1 67 y (by unfold mk_Zr; omega)
      have w68 : ρ.1 68 = (mk_his9 (mk_set9 s q x2 σ) d (nI q) (nI s) was x2).1 68 := funext fun y => r2.1 68 y (by unfold mk_Zr; omega)
      unfold mk_his10
      rw [w66, w67, w68]
      simp only [mk_g, mk_gR, r2.1 x y hz]
    refine mk_JR hK frr (fun j hj => ?_) rfl
    refine ⟨(r3 j hj).1, ?_⟩
    have o : mk_rr g (mk_his10 (mk_his9 (mk_set9 s q x2 σ) d (nI q) (nI s) was x2) d (mk_idx s q) was x2) ρ j := (r3 j hj).2
    intro m hm
    have z10 : ∀ x y, (19 ≤ x ∧ x ≤ 31) → (mk_his10 ρ d (mk_idx s q) was x2).1 x y = ρ.1 x y := fun x y hx => by
      unfold mk_his10
      rw [mk_g, if_neg (by omega), mk_g, if_neg (by omega), mk_g, if_neg (by omega), mk_g, if_neg (by omega), mk_gR, if_neg (by omega), mk_gR, if_neg (by omega), mk_gR, if_neg (by omega)]
    rw [z10 _ _ (by omega), z10 _ _ (by omega)]
    exact o m hm
