-- law: the class reads a text
def ml_Z7 (x y : Nat) : Prop := x = 7 ∨ x = 8 ∨ (x = 5 ∧ (y = 4 ∨ y = 5))
def ml_Z54 (x y : Nat) : Prop := x = 5 ∧ y = 4
def ml_CS (b : Nat → Int32) (n : Nat) (α : mj_S) : Prop := n ≤ 120 ∧ α.1 5 3 = nI n ∧ ∀ i, i < n → α.1 6 i = b i
def ml_by (b : Nat → Int32) (n : Nat) : Prop := ∀ i, i < n → mk_r (b i) 255
theorem ml_CSf {b : Nat → Int32} {n : Nat} {α α' : mj_S} (h : ml_CS b n α) (q : mk_fr ml_Z7 α α') : ml_CS b n α' :=
  ⟨h.1, (q.1 5 3 (by unfold ml_Z7; omega)).trans h.2.1, fun i hi => (q.1 6 i (by unfold ml_Z7; omega)).trans (h.2.2 i hi)⟩
theorem ml_f54 {α α' : mj_S} (q : mk_fr ml_Z54 α α') : mk_fr ml_Z7 α α' := mk_frw q (fun x y z => by unfold ml_Z54 at z; unfold ml_Z7; omega)
def ml_pl (a7 a8 : Nat → Int32) : Nat → List (Int32 × Int32) → Prop
  | _, [] => True
  | w, s :: r => a7 w = s.1 ∧ a8 w = s.2 ∧ ml_pl a7 a8 (w + 1) r
theorem ml_pl_app {a7 a8 : Nat → Int32} : ∀ (l r : List (Int32 × Int32)) (w : Nat), ml_pl a7 a8 w l → ml_pl a7 a8 (w + l.length) r → ml_pl a7 a8 w (l ++ r)
  | [], r, w, _, h => h
  | s :: l, r, w, h, k => ⟨h.1, h.2.1, ml_pl_app l r (w + 1) h.2.2 (by
      have e : w + (s :: l).length = w + 1 + l.length := by
        show w + (l.length + 1) = _
        omega
      rw [← e]
      exact k)⟩
theorem ml_pl_split {a7 a8 : Nat → Int32} : ∀ (l r : List (Int32 × Int32)) (w : Nat), ml_pl a7 a8 w (l ++ r) → ml_pl a7 a8 w l ∧ ml_pl a7 a8 (w + l.length) r
  | [], r, w, h => ⟨trivial, h⟩
  | s :: l, r, w, h => by
    have ih := ml_pl_split l r (w + 1) h.2.2
    refine ⟨⟨h.1, h.2.1, ih.1⟩, ?_⟩
    have e : w + (s :: l).length = w + 1 + l.length := by
      show w + (l.length + 1) = _
      omega
    rw [e]
    exact ih.2
theorem ml_pl_cong {a7 a8 c7 c8 : Nat → Int32} : ∀ (l : List (Int32 × Int32)) (w : Nat), (∀ i, w ≤ i → i < w + l.length → c7 i = a7 i ∧ c8 i = a8 i) → ml_pl a7 a8 w l → ml_pl c7 c8 w l
  | [], w, _, _ => trivial
  | s :: l, w, h, k => by
    have e : (s :: l).length = l.length + 1 := rfl
    refine ⟨(h w (by omega) (by omega)).1.trans k.1, (h w (by omega) (by omega)).2.trans k.2.1, ml_pl_cong l (w + 1) (fun i h1 h2 => h i (by omega) (by omega)) k.2.2⟩
/-- what a reading gives -/
def ml_rc (p w : Nat) (α : mj_S) (t : ml_P) (x : Int32) (α' : mj_S) : Prop := mk_fr ml_Z7 α α' ∧ α'.1 5 4 = nI t.1 ∧ ((t.2 = none ∧ x = 0 ∧ ∃ w', w' ≤ 121 ∧ α'.1 5 5 = nI w') ∨ ∃ e, t.2 = some e ∧ x = 1 ∧ α'.1 5 5 = nI (w + e.2.length) ∧ ml_pl (α'.1 7) (α'.1 8) w e.2 ∧ ∀ i, i < w → α'.1 7 i = α.1 7 i ∧ α'.1 8 i = α.1 8 i)
def ml_SC (b : Nat → Int32) (n : Nat) (F : mj_S → Option (Int32 × mj_S)) (P : Nat → ml_P) : Prop := ∀ α p w, ml_CS b n α → α.1 5 4 = nI p → α.1 5 5 = nI w → p ≤ n → w ≤ p → ∃ x α', F α = some (x, α') ∧ ml_rc p w α (P p) x α'
theorem ml_seen {b : Nat → Int32} {n p : Nat} {α : mj_S} (h : ml_CS b n α) (e : α.1 5 4 = nI p) (hp : p ≤ n) : f_X7_seen α = some (ml_c b n p) := by
  have hn := h.1
  unfold f_X7_seen ml_c
  rw [e, h.2.1, if_neg (show ¬ nI p < (0 : Int32) from nI_pos (by omega))]
  by_cases q : p < n
  · have i : 0 ≤ (nI p).toInt ∧ (nI p).toInt < 120 := by
      rw [nI_toInt (by omega)]
      omega
    rw [if_neg (nI_ge q (by omega)), if_neg (show ¬ (120 : Int32) ≤ nI p from nI_ge (a := p) (b := 120) (by omega) (by omega)), if_pos i, nI_clamp (by omega), if_pos q, h.2.2 p q]
  · rw [if_pos (nI_le (by omega) (by omega)), if_neg q]
theorem ml_skip {b : Nat → Int32} {n p : Nat} {α : mj_S} (h : ml_CS b n α) (e : α.1 5 4 = nI p) (hp : p ≤ n) (x : Int32) : f_X7_skip α x = if ml_c b n p = x then some (1, mj_sI α 5 4 (nI (p + 1))) else some (0, α) := by
  have e1 : nI p + 1 = nI (p + 1) := nI_add p 1
  unfold f_X7_skip
  rw [ml_seen h e hp, mk_bs, e, e1]
theorem ml_write {α : mj_S} {w : Nat} (e : α.1 5 5 = nI w) (hw : w < 121) (s d : Int32) : f_X7_write α s d = some (mj_sI (mj_sI (mj_sI α 7 w s) 8 w d) 5 5 (nI (w + 1))) := by
  have i : 0 ≤ (nI w).toInt ∧ (nI w).toInt < 121 := by
    rw [nI_toInt (by omega)]
    omega
  have e1 : nI w + 1 = nI (w + 1) := nI_add w 1
  unfold f_X7_write
  rw [e, if_neg (show ¬ (121 : Int32) ≤ nI w from nI_ge (a := w) (b := 121) hw (by omega)), if_neg (show ¬ (121 : Int32) ≤ nI w from nI_ge (a := w) (b := 121) hw (by omega)), if_pos i, if_pos i, nI_clamp (by omega), e1]
theorem ml_writeAny {α : mj_S} {w : Nat} (e : α.1 5 5 = nI w) (hw : w ≤ 121) (s d : Int32) : ∃ α', f_X7_write α s d = some α' ∧ mk_fr ml_Z7 α α' ∧ α'.1 5 4 = α.1 5 4 ∧ ∃ w', w' ≤ 121 ∧ α'.1 5 5 = nI w' := by
  by_cases q : w < 121
  · refine ⟨_, ml_write e q s d, ?_, ?_, w + 1, by omega, ?_⟩
    · exact mk_frt (mk_frt (mk_frI (by unfold ml_Z7; omega)) (mk_frI (by unfold ml_Z7; omega))) (mk_frI (by unfold ml_Z7; omega))
    · rw [mk_g, if_neg (by omega), mk_g, if_neg (by omega), mk_g, if_neg (by omega)]
    · rw [mk_g, if_pos ⟨rfl, rfl⟩]
  · refine ⟨α, ?_, ⟨fun _ _ _ => rfl, rfl⟩, rfl, w, hw, e⟩
    unfold f_X7_write
    rw [e, if_pos (show (121 : Int32) ≤ nI w from nI_le (a := 121) (b := w) (by omega) (by omega))]
/-- one step more written behind what stands -/
theorem ml_wr {α β : mj_S} {p w : Nat} {c : List (Int32 × Int32)} (s d : Int32) {p' : Nat} (f : mk_fr ml_Z7 α β) (e4 : β.1 5 4 = nI p') (e5 : β.1 5 5 = nI (w + c.length)) (hw : w + c.length < 121) (pl : ml_pl (β.1 7) (β.1 8) w c) (old : ∀ i, i < w → β.1 7 i = α.1 7 i ∧ β.1 8 i = α.1 8 i) : ∃ β', f_X7_write β s d = some β' ∧ mk_fr ml_Z7 α β' ∧ β'.1 5 4 = nI p' ∧ β'.1 5 5 = nI (w + (c ++ [(s, d)]).length) ∧ ml_pl (β'.1 7) (β'.1 8) w (c ++ [(s, d)]) ∧ ∀ i, i < w → β'.1 7 i = α.1 7 i ∧ β'.1 8 i = α.1 8 i := by
  have r7 : ∀ i, (mj_sI (mj_sI (mj_sI β 7 (w + c.length) s) 8 (w + c.length) d) 5 5 (nI (w + c.length + 1))).1 7 i = if i = w + c.length then s else β.1 7 i := fun i => by
    rw [mk_g, if_neg (by omega), mk_g, if_neg (by omega), mk_g]
    by_cases q : i = w + c.length
    · rw [if_pos ⟨rfl, q⟩, if_pos q]
    · rw [if_neg (fun z => q z.2), if_neg q]
  have r8 : ∀ i, (mj_sI (mj_sI (mj_sI β 7 (w + c.length) s) 8 (w + c.length) d) 5 5 (nI (w + c.length + 1))).1 8 i = if i = w + c.length then d else β.1 8 i := fun i => by
    rw [mk_g, if_neg (by omega), mk_g]
    by_cases q : i = w + c.length
    · rw [if_pos ⟨rfl, q⟩, if_pos q]
    · rw [if_neg (fun z => q z.2), if_neg q, mk_g, if_neg (by omega)]
  refine ⟨_, ml_write e5 hw s d, ?_, ?_, ?_, ?_, fun i hi => ?_⟩
  · exact mk_frt (mk_frt (mk_frt f (mk_frI (by unfold ml_Z7; omega))) (mk_frI (by unfold ml_Z7; omega))) (mk_frI (by unfold ml_Z7; omega))
  · rw [mk_g, if_neg (by omega), mk_g, if_neg (by omega), mk_g, if_neg (by omega), e4]
  · rw [mk_g, if_pos ⟨rfl, rfl⟩, List.length_append]
    rfl
  · refine ml_pl_app c [(s, d)] w (ml_pl_cong c w (fun i h1 h2 => ?_) pl) ⟨?_, ?_, trivial⟩
    · rw [r7, r8, if_neg (by omega), if_neg (by omega)]
      exact ⟨rfl, rfl⟩
    · rw [r7, if_pos rfl]
    · rw [r8, if_pos rfl]
  · rw [r7, r8, if_neg (by omega), if_neg (by omega)]
    exact old i hi
theorem ml_numL {b : Nat → Int32} {n : Nat} : ∀ (k f t : Nat) (v : Int32) (p : Nat) (α : mj_S), k + t = 4 → k < f → ml_CS b n α → α.1 5 4 = nI p → p ≤ n → ∃ α1, b_X7_readNumber_4 f v (nI t) α = b_X7_readNumber_48 (ml_nr b n k v p).2 α1 ∧ mk_fr ml_Z54 α α1 ∧ α1.1 5 4 = nI (ml_nr b n k v p).1
  | k, 0, t, v, p, α, _, hf, _, _, _ => absurd hf (by omega)
  | 0, f + 1, t, v, p, α, hk, hf, h, e, hp => by
    unfold b_X7_readNumber_4
    rw [if_pos (show (4 : Int32) ≤ nI t from nI_le (a := 4) (b := t) (by omega) (by omega))]
    exact ⟨α, rfl, ⟨fun _ _ _ => rfl, rfl⟩, e⟩
  | k + 1, f + 1, t, v, p, α, hk, hf, h, e, hp => by
    unfold b_X7_readNumber_4
    rw [if_neg (show ¬ (4 : Int32) ≤ nI t from nI_ge (a := t) (b := 4) (by omega) (by omega)), ml_seen h e hp, mk_bs, mk_bs]
    by_cases q : ml_dig (ml_c b n p)
    · have q' : ¬ f_X7_isDigit α (ml_c b n p) = 0 := q
      have pn := ml_c_lt (ml_dig_ne q).1
      have e1 : nI p + 1 = nI (p + 1) := nI_add p 1
      have et : nI t + 1 = nI (t + 1) := nI_add t 1
      have en : ml_nr b n (k + 1) v p = ml_nr b n k (v * 10 + ml_c b n p - 48) (p + 1) := if_pos q
      rw [if_neg q', e, e1, et, en]
      obtain ⟨α1, o1, o2, o3⟩ := ml_numL k f (t + 1) (v * 10 + ml_c b n p - 48) (p + 1) (mj_sI α 5 4 (nI (p + 1))) (by omega) (by omega) (ml_CSf h (mk_frI (by unfold ml_Z7; omega))) (by rw [mk_g, if_pos ⟨rfl, rfl⟩]) (by omega)
      exact ⟨α1, o1, mk_frt (mk_frI ⟨rfl, rfl⟩) o2, o3⟩
    · have q' : f_X7_isDigit α (ml_c b n p) = 0 := Classical.byContradiction q
      have en : ml_nr b n (k + 1) v p = (p, v) := if_neg q
      rw [if_pos q', en]
      exact ⟨α, rfl, ⟨fun _ _ _ => rfl, rfl⟩, e⟩
theorem ml_loopC {b : Nat → Int32} {n : Nat} {T : Nat → ml_P} (hT : ml_Gf n T) (L : Nat) (rec : Nat → Int32 → Int32 → mj_S → Option (Int32 × mj_S)) (opn : Int32) (hS : ml_SC b n (fun α => rec 1 (nI L) opn α) T) {most : Nat} (hmost : most ≤ 120) {α0 : mj_S} {p w : Nat} (hw : w ≤ p) (h0 : ml_CS b n α0) :
    ∀ (fp f t p' : Nat) (o : Option ml_Ex) (x : Int32) (α : mj_S), fp + t = most → fp < f → ml_Gd n p (p', o) → ml_rc p w α0 (p', o) x α → ∃ x' α', b_X7_readJoined_23 rec f (nI L) opn x (nI most) (nI t) α = some (x', α') ∧ ml_rc p w α0 (ml_lp b n T L fp p' o) x' α'
  | fp, 0, t, p', o, x, α, _, hf, _, _ => absurd hf (by omega)
  | fp, f + 1, t, p', none, x, α, ht, hf, hG, hr => by
    obtain ⟨f1, r4, r5⟩ := hr
    rcases r5 with ⟨_, hx, hw'⟩ | ⟨e, he, _⟩
    · rw [ml_lp_none]
      refine ⟨0, α, ?_, f1, r4, .inl ⟨rfl, rfl, hw'⟩⟩
      unfold b_X7_readJoined_23
      rw [hx, if_pos rfl, ite_self]
      rfl
    · exact absurd (show (none : Option ml_Ex) = some e from he) (by intro z; cases z)
  | 0, f + 1, t, p', some e, x, α, ht, hf, hG, hr => by
    obtain ⟨f1, r4, r5⟩ := hr
    rcases r5 with ⟨he, _⟩ | ⟨e', he, hx, h5, hpl, hold⟩
    · exact absurd (show some e = (none : Option ml_Ex) from he) (by intro z; cases z)
    · refine ⟨1, α, ?_, f1, r4, .inr ⟨e', he, rfl, h5, hpl, hold⟩⟩
      unfold b_X7_readJoined_23
      rw [hx, if_pos (nI_le (by omega) (by omega))]
      rfl
  | fp + 1, f + 1, t, p', some e, x, α, ht, hf, hG, hr => by
    have hr' := hr
    obtain ⟨f1, r4, r5⟩ := hr
    have r4' : α.1 5 4 = nI p' := r4
    have hα := ml_CSf h0 f1
    have hn := h0.1
    obtain ⟨g1, g2, g3⟩ := hG
    have g2' : p' ≤ n := g2
    rcases r5 with ⟨he, _⟩ | ⟨e', he, hx, h5, hpl, hold⟩
    · exact absurd (show some e = (none : Option ml_Ex) from he) (by intro z; cases z)
    have ee : e = e' := Option.some.inj (show some e = some e' from he)
    rw [← ee] at h5 hpl
    obtain ⟨k1, k2, k3, k4⟩ := g3 e rfl
    have k1' : p < p' := k1
    have k2' : e.2.length + p ≤ p' := k2
    unfold b_X7_readJoined_23
    rw [hx, if_neg (nI_ge (by omega) (by omega)), if_neg (show ¬ (1 : Int32) = 0 by decide), ml_seen hα r4' g2', mk_bs, mk_bs]
    by_cases q : ml_io L (ml_c b n p')
    · have q' : ¬ f_X7_isOperator α (nI L) (ml_c b n p') = 0 := q
      have pn := ml_c_lt (ml_io_ne q).1
      have e1 : nI p' + 1 = nI (p' + 1) := nI_add p' 1
      have et : nI t + 1 = nI (t + 1) := nI_add t 1
      obtain ⟨α1, hα1⟩ : ∃ α1, α1 = mj_sI α 5 4 (nI (p' + 1)) := ⟨_, rfl⟩
      have f2 : mk_fr ml_Z7 α α1 := by rw [hα1]; exact mk_frI (by unfold ml_Z7; omega)
      have a4 : α1.1 5 4 = nI (p' + 1) := by rw [hα1, mk_g, if_pos ⟨rfl, rfl⟩]
      have a5 : α1.1 5 5 = nI (w + e.2.length) := by rw [hα1, mk_g, if_neg (by omega)]; exact h5
      have a7 : α1.1 7 = α.1 7 := by rw [hα1]; rfl
      have a8 : α1.1 8 = α.1 8 := by rw [hα1]; rfl
      obtain ⟨x2, α2, s1, s2, s3, s4⟩ := hS α1 (p' + 1) (w + e.2.length) (ml_CSf hα f2) a4 a5 (by omega) (by omega)
      have s1' : rec 1 (nI L) opn α1 = some (x2, α2) := s1
      have gd : ml_Gd n p (ml_cmb (ml_c b n p') e (T (p' + 1))) := by
        have := ml_lp_good (b := b) hT L p 1 p' (some e) ⟨g1, g2, g3⟩
        rw [ml_lp_go q] at this
        have z : ∀ (u : Nat) (o : Option ml_Ex), ml_lp b n T L 0 u o = (u, o) := fun u o => by cases o <;> rfl
        rw [z] at this
        exact this
      have f3 : mk_fr ml_Z7 α0 α2 := mk_frt f1 (mk_frt f2 s2)
      rw [if_neg q', r4', e1, et, ← hα1, s1', mk_bs]
      show ∃ x' α', ((f_X7_write α2 (ml_c b n p') 0).bind fun r9 => b_X7_readJoined_23 rec f (nI L) opn x2 (nI most) (nI (t + 1)) r9) = some (x', α') ∧ _
      rw [ml_lp_go q]
      have gT := hT (p' + 1) (by omega)
      rcases s4 with ⟨n1, n2, w', n3, n4⟩ | ⟨e2, n1, n2, n3, n4, n5⟩
      · obtain ⟨α3, u1, u2, u3, u4⟩ := ml_writeAny n4 n3 (ml_c b n p') 0
        rw [u1, mk_bs]
        refine ml_loopC hT L rec opn hS hmost hw h0 fp f (t + 1) _ _ x2 α3 (by omega) (by omega) gd ⟨mk_frt f3 u2, u3.trans s3, .inl ⟨?_, n2, u4⟩⟩
        show (T (p' + 1)).2.map _ = none
        rw [n1]
        rfl
      · obtain ⟨m1, m2, m3, m4⟩ := gT.2.2 e2 n1
        have m5 := gT.2.1
        have pl2 : ml_pl (α2.1 7) (α2.1 8) w (e.2 ++ e2.2) := ml_pl_app _ _ _ (ml_pl_cong _ _ (fun i h1 h2 => by
          have := n5 i (by omega)
          rw [a7, a8] at this
          exact this) hpl) n4
        obtain ⟨α3, u1, u2, u3, u4, u5, u6⟩ := ml_wr (p := p) (w := w) (c := e.2 ++ e2.2) (ml_c b n p') 0 f3 s3 (by rw [n3, List.length_append, Nat.add_assoc]) (by rw [List.length_append]; omega) pl2 (fun i hi => by
          have := n5 i (by omega)
          rw [a7, a8] at this
          exact ⟨this.1.trans (hold i hi).1, this.2.trans (hold i hi).2⟩)
        rw [u1, mk_bs]
        refine ml_loopC hT L rec opn hS hmost hw h0 fp f (t + 1) _ _ x2 α3 (by omega) (by omega) gd ⟨u2, u3, .inr ⟨((fun N => ml_jo (ml_c b n p') (e.1 N) (e2.1 N)), e.2 ++ e2.2 ++ [(ml_c b n p', 0)]), ?_, n2, u4, u5, u6⟩⟩
        show (T (p' + 1)).2.map _ = _
        rw [n1]
        rfl
    · have q' : f_X7_isOperator α (nI L) (ml_c b n p') = 0 := Classical.byContradiction q
      rw [if_pos q', ml_lp_stop q]
      refine ⟨1, α, rfl, f1, r4, .inr ⟨e', he, rfl, ?_, ?_, hold⟩⟩
      · rw [← ee]
        exact h5
      · rw [← ee]
        exact hpl
theorem ml_joinC {b : Nat → Int32} {n : Nat} {T : Nat → ml_P} (hT : ml_Gf n T) {L : Nat} (hL : L ≤ 4) (rec : Nat → Int32 → Int32 → mj_S → Option (Int32 × mj_S)) (opn : Int32) (hS : ml_SC b n (fun α => rec 1 (nI L) opn α) T) : ml_SC b n (fun α => F_X7_readJoined rec α (nI L) opn) (ml_jn b n T L) := by
  intro α p w h e4 e5 hp hw
  obtain ⟨x, α1, s1, s2⟩ := hS α p w h e4 e5 hp hw
  have s1' : rec 1 (nI L) opn α = some (x, α1) := s1
  have g := hT p hp
  unfold F_X7_readJoined ml_jn
  show ∃ x α', ((rec 1 (nI L) opn α).bind fun r1 => _) = _ ∧ _
  rw [s1', mk_bs]
  have one : nI 1 = (1 : Int32) := rfl
  have oz : nI 120 = (120 : Int32) := rfl
  by_cases q : L = 2
  · have q' : nI L = (2 : Int32) := by rw [q]; rfl
    rw [if_pos q', if_pos q]
    have o := ml_loopC hT L rec opn hS (most := 1) (by omega) hw h 1 mj_fu 0 (T p).1 (T p).2 x α1 (by omega) (by show 1 < 5000; omega) g s2
    rw [one, nI_0] at o
    exact o
  · have q' : ¬ nI L = (2 : Int32) := fun z => q ((nI_eq (a := L) (b := 2) (by omega) (by omega)).mp z)
    rw [if_neg q', if_neg q]
    have o := ml_loopC hT L rec opn hS (most := 120) (by omega) hw h 120 mj_fu 0 (T p).1 (T p).2 x α1 (by omega) (by show 120 < 5000; omega) g s2
    rw [oz, nI_0] at o
    exact o
theorem ml_zbx {p w : Nat} {α α' : mj_S} {t : ml_P} {x : Int32} (h : ml_rc p w α t x α') : mj_zb x = x := by
  rcases h.2.2 with ⟨_, q, _⟩ | ⟨_, _, q, _⟩ <;> (rw [q]; decide)
theorem ml_tightC {b : Nat → Int32} {n : Nat} {P : Nat → ml_P} {L : Nat} (hL : L < 4) (rec : Nat → Int32 → Int32 → mj_S → Option (Int32 × mj_S)) (opn : Int32) (hS : ml_SC b n (fun α => rec 0 (nI (L + 1)) opn α) P) : ml_SC b n (fun α => F_X7_readTighter rec α (nI L) opn) P := by
  intro α p w h e4 e5 hp hw
  obtain ⟨x, α1, s1, s2⟩ := hS α p w h e4 e5 hp hw
  have s1' : rec 0 (nI (L + 1)) opn α = some (x, α1) := s1
  have e1 : nI L + 1 = nI (L + 1) := nI_add L 1
  refine ⟨x, α1, ?_, s2⟩
  show F_X7_readTighter rec α (nI L) opn = _
  unfold F_X7_readTighter
  rw [if_neg (show ¬ (4 : Int32) ≤ nI L from nI_ge (a := L) (b := 4) hL (by omega)), e1, s1', mk_bs]
  show some (mj_zb x, α1) = _
  rw [ml_zbx s2]
theorem ml_tight4C {b : Nat → Int32} {n : Nat} {P : Nat → ml_P} (rec : Nat → Int32 → Int32 → mj_S → Option (Int32 × mj_S)) (opn : Int32) (hS : ml_SC b n (fun α => rec 2 opn 0 α) P) : ml_SC b n (fun α => F_X7_readTighter rec α (nI 4) opn) P := by
  intro α p w h e4 e5 hp hw
  obtain ⟨x, α1, s1, s2⟩ := hS α p w h e4 e5 hp hw
  have s1' : rec 2 opn 0 α = some (x, α1) := s1
  refine ⟨x, α1, ?_, s2⟩
  show F_X7_readTighter rec α (nI 4) opn = _
  unfold F_X7_readTighter
  rw [if_pos (show (4 : Int32) ≤ nI 4 by decide), s1', mk_bs]
  show some (mj_zb x, α1) = _
  rw [ml_zbx s2]
theorem ml_exC {b : Nat → Int32} {n : Nat} {O : Nat → ml_P} (hO : ml_Gf n O) (K : Nat) (opn : Int32) (hS : ml_SC b n (fun α => rc_X7_readJoined K 2 opn 0 α) O) : ml_SC b n (fun α => rc_X7_readJoined (K + 10) 0 0 opn α) (ml_ex5 b n O) := by
  have t4 : ml_SC b n (fun α => rc_X7_readJoined (K + 1) 1 (nI 4) opn α) O := ml_tight4C (rc_X7_readJoined K) opn hS
  have j4 : ml_SC b n (fun α => rc_X7_readJoined (K + 2) 0 (nI 4) opn α) (ml_jn b n O 4) := ml_joinC hO (by omega) (rc_X7_readJoined (K + 1)) opn t4
  have g4 := ml_jn_good (b := b) hO 4
  have t3 : ml_SC b n (fun α => rc_X7_readJoined (K + 3) 1 (nI 3) opn α) _ := ml_tightC (by omega) (rc_X7_readJoined (K + 2)) opn j4
  have j3 : ml_SC b n (fun α => rc_X7_readJoined (K + 4) 0 (nI 3) opn α) _ := ml_joinC g4 (by omega) (rc_X7_readJoined (K + 3)) opn t3
  have g3 := ml_jn_good (b := b) g4 3
  have t2 : ml_SC b n (fun α => rc_X7_readJoined (K + 5) 1 (nI 2) opn α) _ := ml_tightC (by omega) (rc_X7_readJoined (K + 4)) opn j3
  have j2 : ml_SC b n (fun α => rc_X7_readJoined (K + 6) 0 (nI 2) opn α) _ := ml_joinC g3 (by omega) (rc_X7_readJoined (K + 5)) opn t2
  have g2 := ml_jn_good (b := b) g3 2
  have t1 : ml_SC b n (fun α => rc_X7_readJoined (K + 7) 1 (nI 1) opn α) _ := ml_tightC (by omega) (rc_X7_readJoined (K + 6)) opn j2
  have j1 : ml_SC b n (fun α => rc_X7_readJoined (K + 8) 0 (nI 1) opn α) _ := ml_joinC g2 (by omega) (rc_X7_readJoined (K + 7)) opn t1
  have g1 := ml_jn_good (b := b) g2 1
  have t0 : ml_SC b n (fun α => rc_X7_readJoined (K + 9) 1 (nI 0) opn α) _ := ml_tightC (by omega) (rc_X7_readJoined (K + 8)) opn j1
  have j0 : ml_SC b n (fun α => rc_X7_readJoined (K + 10) 0 (nI 0) opn α) _ := ml_joinC g1 (by omega) (rc_X7_readJoined (K + 9)) opn t0
  exact j0
