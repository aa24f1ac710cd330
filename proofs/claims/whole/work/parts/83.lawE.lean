-- law: lines and texts, as the class reads and keeps them
abbrev ml_Ln := Option ml_Ex × ml_Ex
def ml_ln (b : Nat → Int32) (n : Nat) (X : Nat → ml_P) (p : Nat) : Nat × Option ml_Ln := match (X p).2 with
  | none => ((X p).1, none)
  | some e => if ml_c b n (X p).1 = 63 then ((X ((X p).1 + 1)).1, (X ((X p).1 + 1)).2.map fun e2 => (some e, e2)) else ((X p).1, some (none, e))
def ml_lc (w : Nat) (l : ml_Ln) : List (Int32 × Int32) := match l.1 with
  | none => l.2.2 ++ [(59, 0)]
  | some e1 => e1.2 ++ [(63, nI (w + e1.2.length + 1 + l.2.2.length + 1))] ++ l.2.2 ++ [(59, 0)]
def ml_tx (b : Nat → Int32) (n : Nat) (X : Nat → ml_P) : Nat → Nat → Nat × Option (List ml_Ln)
  | 0, p => (p, none)
  | f + 1, p => match (ml_ln b n X p).2 with
    | none => ((ml_ln b n X p).1, none)
    | some l => if (ml_ln b n X p).1 < n then (if ml_c b n (ml_ln b n X p).1 = 59 then ((ml_tx b n X f ((ml_ln b n X p).1 + 1)).1, (ml_tx b n X f ((ml_ln b n X p).1 + 1)).2.map fun r => l :: r) else ((ml_ln b n X p).1, none)) else ((ml_ln b n X p).1, some [l])
def ml_tc : Nat → List ml_Ln → List (Int32 × Int32)
  | _, [] => []
  | w, l :: r => ml_lc w l ++ ml_tc (w + (ml_lc w l).length) r
def ml_Gl (n : Nat) (p : Nat) (t : Nat × Option ml_Ln) : Prop := p ≤ t.1 ∧ t.1 ≤ n ∧ ∀ l, t.2 = some l → p < t.1 ∧ (∀ w, (ml_lc w l).length + p ≤ t.1 + 1) ∧ (∀ e, l.1 = some e → (∀ s, s ∈ e.2 → s.1 ≠ 59 ∧ s.1 ≠ 63) ∧ ∀ N st, ml_run N e.2 st = e.1 N :: st) ∧ (∀ s, s ∈ l.2.2 → s.1 ≠ 59 ∧ s.1 ≠ 63) ∧ ∀ N st, ml_run N l.2.2 st = l.2.1 N :: st
theorem ml_ln_good {b : Nat → Int32} {n : Nat} {X : Nat → ml_P} (hX : ml_Gf n X) {p : Nat} (hp : p ≤ n) : ml_Gl n p (ml_ln b n X p) := by
  obtain ⟨g1, g2, g3⟩ := hX p hp
  unfold ml_ln
  rcases hx : (X p).2 with _ | e
  · exact ⟨g1, g2, fun l hl => by cases hl⟩
  · obtain ⟨k1, k2, k3, k4⟩ := g3 e hx
    show ml_Gl n p (if ml_c b n (X p).1 = 63 then _ else _)
    by_cases q : ml_c b n (X p).1 = 63
    · rw [if_pos q]
      have pn : (X p).1 < n := ml_c_lt (by rw [q]; decide)
      obtain ⟨m1, m2, m3⟩ := hX ((X p).1 + 1) (by omega)
      refine ⟨by show p ≤ (X ((X p).1 + 1)).1; omega, m2, fun l hl => ?_⟩
      obtain ⟨e2, h1, h2⟩ := Option.map_eq_some_iff.mp (show (X ((X p).1 + 1)).2.map (fun e2 : ml_Ex => ((some e, e2) : ml_Ln)) = some l from hl)
      obtain ⟨r1, r2, r3, r4⟩ := m3 e2 h1
      rw [← h2]
      refine ⟨by show p < (X ((X p).1 + 1)).1; omega, fun w => ?_, fun e' he' => ?_, r3, r4⟩
      · show (e.2 ++ [((63 : Int32), nI (w + e.2.length + 1 + e2.2.length + 1))] ++ e2.2 ++ [((59 : Int32), (0 : Int32))]).length + p ≤ (X ((X p).1 + 1)).1 + 1
        rw [List.length_append, List.length_append, List.length_append]
        show e.2.length + 1 + e2.2.length + 1 + p ≤ _
        omega
      · have z : e = e' := Option.some.inj he'
        rw [← z]
        exact ⟨k3, k4⟩
    · rw [if_neg q]
      refine ⟨g1, g2, fun l hl => ?_⟩
      have hl' : (none, e) = l := Option.some.inj hl
      rw [← hl']
      refine ⟨k1, fun w => ?_, fun e' he' => (by cases he'), k3, k4⟩
      show (e.2 ++ [((59 : Int32), (0 : Int32))]).length + p ≤ (X p).1 + 1
      rw [List.length_append]
      show e.2.length + 1 + p ≤ _
      omega
def ml_rl (p w : Nat) (α : mj_S) (t : Nat × Option ml_Ln) (x : Int32) (α' : mj_S) : Prop := mk_fr ml_Z7 α α' ∧ α'.1 5 4 = nI t.1 ∧ ((t.2 = none ∧ x = 0) ∨ ∃ l, t.2 = some l ∧ x = 1 ∧ α'.1 5 5 = nI (w + (ml_lc w l).length) ∧ ml_pl (α'.1 7) (α'.1 8) w (ml_lc w l) ∧ ∀ i, i < w → α'.1 7 i = α.1 7 i ∧ α'.1 8 i = α.1 8 i)
theorem ml_lineC {b : Nat → Int32} {n : Nat} {X : Nat → ml_P} (hX : ml_Gf n X) (hS : ml_SC b n (fun α => f_X7_readJoined α 0 0) X) {α : mj_S} {p w : Nat} (h : ml_CS b n α) (e4 : α.1 5 4 = nI p) (e5 : α.1 5 5 = nI w) (hp : p ≤ n) (hw : w ≤ p) : ∃ x α', f_X7_readLine α = some (x, α') ∧ ml_rl p w α (ml_ln b n X p) x α' := by
  have hn := h.1
  obtain ⟨x, α1, s1, f1, s3, s4⟩ := hS α p w h e4 e5 hp hw
  have s1' : f_X7_readJoined α 0 0 = some (x, α1) := s1
  obtain ⟨g1, g2, g3⟩ := hX p hp
  have h1 := ml_CSf h f1
  unfold f_X7_readLine ml_ln
  rw [s1', mk_bs]
  rcases s4 with ⟨n1, n2, _⟩ | ⟨e, n1, n2, n3, n4, n5⟩
  · rw [n1, n2]
    exact ⟨0, α1, rfl, f1, s3, .inl ⟨rfl, rfl⟩⟩
  obtain ⟨k1, k2, k3, k4⟩ := g3 e n1
  rw [n1, n2, if_neg (show ¬ (1 : Int32) = 0 by decide)]
  show ∃ x α', ((f_X7_skip α1 63).bind _) = _ ∧ ml_rl p w α (if ml_c b n (X p).1 = 63 then ((X ((X p).1 + 1)).1, (X ((X p).1 + 1)).2.map fun e2 => (some e, e2)) else ((X p).1, some (none, e))) x α'
  rw [ml_skip h1 s3 g2]
  by_cases q : ml_c b n (X p).1 = 63
  · have pn : (X p).1 < n := ml_c_lt (by rw [q]; decide)
    rw [if_pos q, if_pos q, mk_bs, if_neg (show ¬ (1 : Int32) = 0 by decide)]
    obtain ⟨m1, m2, m3⟩ := hX ((X p).1 + 1) (by omega)
    obtain ⟨α2, hα2⟩ : ∃ α2, α2 = mj_sI α1 5 4 (nI ((X p).1 + 1)) := ⟨_, rfl⟩
    have f2 : mk_fr ml_Z7 α α2 := by rw [hα2]; exact mk_frt f1 (mk_frI (by unfold ml_Z7; omega))
    have a4 : α2.1 5 4 = nI ((X p).1 + 1) := by rw [hα2, mk_g, if_pos ⟨rfl, rfl⟩]
    have a5 : α2.1 5 5 = nI (w + e.2.length) := by rw [hα2, mk_g, if_neg (by omega)]; exact n3
    have a7 : α2.1 7 = α1.1 7 := by rw [hα2]; rfl
    have a8 : α2.1 8 = α1.1 8 := by rw [hα2]; rfl
    obtain ⟨α3, u1, u2, u3, u4, u5, u6⟩ := ml_wr (α := α) (p := p) (w := w) (c := e.2) 63 0 f2 a4 a5 (by omega) (by rw [a7, a8]; exact n4) (fun i hi => by rw [a7, a8]; exact n5 i hi)
    rw [← hα2]
    show ∃ x α', ((f_X7_write α2 63 0).bind fun r6 => ((f_X7_readJoined r6 0 0).bind fun r7 => (if r7.1 = 0 then some (0, r7.2) else (if (121 : Int32) ≤ (α2.1 5 5) then b_X7_readLine_64 r7.2 else (if 0 ≤ (α2.1 5 5).toInt ∧ (α2.1 5 5).toInt < 121 then b_X7_readLine_64 (mj_sI r7.2 8 (α2.1 5 5).toNatClampNeg ((r7.2.1 5 5) + 1)) else none))))) = some (x, α') ∧ _
    rw [u1, mk_bs, a5]
    have el : (e.2 ++ [((63 : Int32), (0 : Int32))]).length = e.2.length + 1 := by rw [List.length_append]; rfl
    rw [el] at u4
    obtain ⟨x2, α4, t1, t2, t3, t4⟩ := hS α3 ((X p).1 + 1) (w + (e.2.length + 1)) (ml_CSf h u2) u3 u4 (by omega) (by omega)
    have t1' : f_X7_readJoined α3 0 0 = some (x2, α4) := t1
    have f4 := mk_frt u2 t2
    rw [t1', mk_bs]
    rcases t4 with ⟨v1, v2, _⟩ | ⟨e2, v1, v2, v3, v4, v5⟩
    · rw [v1, v2]
      exact ⟨0, α4, rfl, f4, t3, .inl ⟨rfl, rfl⟩⟩
    obtain ⟨r1, r2, r3, r4⟩ := m3 e2 v1
    have i : 0 ≤ (nI (w + e.2.length)).toInt ∧ (nI (w + e.2.length)).toInt < 121 := by
      rw [nI_toInt (by omega)]
      omega
    have pq := ml_pl_split e.2 [((63 : Int32), (0 : Int32))] w u5
    obtain ⟨α5, hα5⟩ : ∃ α5, α5 = mj_sI α4 8 (w + e.2.length) (nI (w + e.2.length + 1 + e2.2.length + 1)) := ⟨_, rfl⟩
    have b4 : α5.1 5 4 = nI (X ((X p).1 + 1)).1 := by rw [hα5, mk_g, if_neg (by omega)]; exact t3
    have el2 : (e.2 ++ [((63 : Int32), nI (w + e.2.length + 1 + e2.2.length + 1))] ++ e2.2).length = e.2.length + 1 + e2.2.length := by
      rw [List.length_append, List.length_append]
      rfl
    have b5 : α5.1 5 5 = nI (w + (e.2 ++ [((63 : Int32), nI (w + e.2.length + 1 + e2.2.length + 1))] ++ e2.2).length) := by
      rw [hα5, mk_g, if_neg (by omega), v3, el2]
      congr 1
      omega
    have b7 : ∀ i, α5.1 7 i = α4.1 7 i := fun i => by rw [hα5, mk_g, if_neg (by omega)]
    have b8 : ∀ i, α5.1 8 i = if i = w + e.2.length then nI (w + e.2.length + 1 + e2.2.length + 1) else α4.1 8 i := fun i => by
      rw [hα5, mk_g]
      by_cases z : i = w + e.2.length
      · rw [if_pos ⟨rfl, z⟩, if_pos z]
      · rw [if_neg (fun y => z y.2), if_neg z]
    have pl5 : ml_pl (α5.1 7) (α5.1 8) w (e.2 ++ [((63 : Int32), nI (w + e.2.length + 1 + e2.2.length + 1))] ++ e2.2) := by
      refine ml_pl_app _ _ _ (ml_pl_app _ _ _ (ml_pl_cong _ _ (fun i h1 h2 => ?_) pq.1) ⟨?_, ?_, trivial⟩) ?_
      · have := v5 i (by omega)
        rw [b7, b8, if_neg (by omega)]
        exact this
      · rw [b7, (v5 (w + e.2.length) (by omega)).1]
        exact pq.2.1
      · rw [b8, if_pos rfl]
      · have el3 : (e.2 ++ [((63 : Int32), nI (w + e.2.length + 1 + e2.2.length + 1))]).length = e.2.length + 1 := by rw [List.length_append]; rfl
        rw [el3]
        refine ml_pl_cong _ _ (fun i h1 h2 => ?_) v4
        rw [b7, b8, if_neg (by omega)]
        exact ⟨rfl, rfl⟩
    have f5 : mk_fr ml_Z7 α α5 := by rw [hα5]; exact mk_frt f4 (mk_frI (by unfold ml_Z7; omega))
    obtain ⟨α6, y1, y2, y3, y4, y5, y6⟩ := ml_wr (α := α) (p := p) (w := w) (c := e.2 ++ [((63 : Int32), nI (w + e.2.length + 1 + e2.2.length + 1))] ++ e2.2) 59 0 f5 b4 b5 (by rw [el2]; omega) pl5 (fun i hi => by
      have := v5 i (by omega)
      rw [b7, b8, if_neg (by omega), this.1, this.2]
      exact u6 i hi)
    rw [v2, if_neg (show ¬ (1 : Int32) = 0 by decide), if_neg (show ¬ (121 : Int32) ≤ nI (w + e.2.length) from nI_ge (a := w + e.2.length) (b := 121) (by omega) (by omega)), if_pos i, nI_clamp (by omega)]
    refine ⟨1, α6, ?_, y2, y3, .inr ⟨(some e, e2), ?_, rfl, y4, y5, y6⟩⟩
    · show b_X7_readLine_64 (mj_sI α4 8 (w + e.2.length) (α4.1 5 5 + 1)) = _
      have e1 : nI (w + (e.2.length + 1) + e2.2.length) + 1 = nI (w + e.2.length + 1 + e2.2.length + 1) := by
        show nI (w + (e.2.length + 1) + e2.2.length) + nI 1 = _
        rw [nI_add]
        congr 1
      rw [v3, e1, ← hα5]
      unfold b_X7_readLine_64
      rw [y1, mk_bs]
    · show (X ((X p).1 + 1)).2.map _ = _
      rw [v1]
      rfl
  · rw [if_neg q, if_neg q, mk_bs, if_pos rfl]
    obtain ⟨α2, u1, u2, u3, u4, u5, u6⟩ := ml_wr (α := α) (p := p) (w := w) (c := e.2) 59 0 f1 s3 n3 (by omega) n4 n5
    refine ⟨1, α2, ?_, u2, u3, .inr ⟨(none, e), rfl, rfl, u4, u5, u6⟩⟩
    unfold b_X7_readLine_64
    rw [u1, mk_bs]
theorem ml_textC {b : Nat → Int32} {n : Nat} {X : Nat → ml_P} (hX : ml_Gf n X) (hS : ml_SC b n (fun α => f_X7_readJoined α 0 0) X) : ∀ (F f t p w : Nat) (α : mj_S), 120 < F + p → 121 < f + t → t ≤ p → ml_CS b n α → α.1 5 4 = nI p → α.1 5 5 = nI w → p ≤ n → w ≤ p →
    ∃ y α', ((f_X7_readLine α).bind fun r1 => b_X7_read_17 f r1.1 (nI t) r1.2) = some (y, α') ∧ mk_fr ml_Z7 α α' ∧ (((ml_tx b n X F p).2 = none ∧ (ml_tx b n X F p).1 ≤ n ∧ y = nI (ml_tx b n X F p).1) ∨ ∃ ls, (ml_tx b n X F p).2 = some ls ∧ y = -1 ∧ w + (ml_tc w ls).length ≤ 121 ∧ α'.1 5 5 = nI (w + (ml_tc w ls).length) ∧ ml_pl (α'.1 7) (α'.1 8) w (ml_tc w ls) ∧ ∀ i, i < w → α'.1 7 i = α.1 7 i ∧ α'.1 8 i = α.1 8 i)
  | 0, f, t, p, w, α, hF, _, _, h, _, _, hp, _ => by
    have := h.1
    omega
  | F + 1, 0, t, p, w, α, _, hf, ht, h, _, _, hp, _ => by
    have := h.1
    omega
  | F + 1, f + 1, t, p, w, α, hF, hf, ht, h, e4, e5, hp, hw => by
    have hn := h.1
    obtain ⟨x, α1, s1, f1, s3, s4⟩ := ml_lineC hX hS h e4 e5 hp hw
    obtain ⟨g1, g2, g3⟩ := ml_ln_good (b := b) hX hp
    have h1 := ml_CSf h f1
    rw [s1, mk_bs]
    unfold b_X7_read_17
    show ∃ y α', (if (120 : Int32) ≤ nI t then b_X7_read_66 x α1 else if x = 0 then b_X7_read_66 x α1 else if α1.1 5 3 ≤ α1.1 5 4 then b_X7_read_66 x α1 else (f_X7_skip α1 59).bind fun r6 => if r6.1 = 0 then b_X7_read_17 f 0 (nI t + 1) r6.2 else (f_X7_readLine r6.2).bind fun r8 => if r8.1 = 0 then b_X7_read_17 f 0 (nI t + 1) r8.2 else b_X7_read_17 f 1 (nI t + 1) r8.2) = some (y, α') ∧ _
    rcases s4 with ⟨n1, n2⟩ | ⟨l, n1, n2, n3, n4, n5⟩
    · have etx : ml_tx b n X (F + 1) p = ((ml_ln b n X p).1, none) := by
        show (match (ml_ln b n X p).2 with | none => _ | some l => _) = _
        rw [n1]
      rw [etx, n2, if_pos rfl, ite_self]
      refine ⟨nI (ml_ln b n X p).1, α1, ?_, f1, .inl ⟨rfl, g2, rfl⟩⟩
      unfold b_X7_read_66
      rw [if_pos rfl, s3]
    · obtain ⟨k1, k2, _⟩ := g3 l n1
      have etx : ml_tx b n X (F + 1) p = if (ml_ln b n X p).1 < n then (if ml_c b n (ml_ln b n X p).1 = 59 then ((ml_tx b n X F ((ml_ln b n X p).1 + 1)).1, (ml_tx b n X F ((ml_ln b n X p).1 + 1)).2.map fun r => l :: r) else ((ml_ln b n X p).1, none)) else ((ml_ln b n X p).1, some [l]) := by
        show (match (ml_ln b n X p).2 with | none => _ | some l => _) = _
        rw [n1]
      have kw := k2 w
      have one : ml_tc w [l] = ml_lc w l := List.append_nil _
      rw [etx, n2, if_neg (show ¬ (1 : Int32) = 0 by decide), h1.2.1, s3]
      by_cases q : (ml_ln b n X p).1 < n
      · rw [if_neg (show ¬ (120 : Int32) ≤ nI t from nI_ge (a := t) (b := 120) (by omega) (by omega)), if_neg (nI_ge q (by omega)), if_pos q, ml_skip h1 s3 g2]
        have et : nI t + 1 = nI (t + 1) := nI_add t 1
        rw [et]
        by_cases q2 : ml_c b n (ml_ln b n X p).1 = 59
        · rw [if_pos q2, if_pos q2, mk_bs, if_neg (show ¬ (1 : Int32) = 0 by decide)]
          obtain ⟨α2, hα2⟩ : ∃ α2, α2 = mj_sI α1 5 4 (nI ((ml_ln b n X p).1 + 1)) := ⟨_, rfl⟩
          have f2 : mk_fr ml_Z7 α α2 := by rw [hα2]; exact mk_frt f1 (mk_frI (by unfold ml_Z7; omega))
          have a4 : α2.1 5 4 = nI ((ml_ln b n X p).1 + 1) := by rw [hα2, mk_g, if_pos ⟨rfl, rfl⟩]
          have a5 : α2.1 5 5 = nI (w + (ml_lc w l).length) := by rw [hα2, mk_g, if_neg (by omega)]; exact n3
          have a7 : α2.1 7 = α1.1 7 := by rw [hα2]; rfl
          have a8 : α2.1 8 = α1.1 8 := by rw [hα2]; rfl
          obtain ⟨y, α3, o1, o2, o3⟩ := ml_textC hX hS F f (t + 1) ((ml_ln b n X p).1 + 1) (w + (ml_lc w l).length) α2 (by omega) (by omega) (by omega) (ml_CSf h f2) a4 a5 (by omega) (by omega)
          obtain ⟨x2, α2', z1, z2, z3, z4⟩ := ml_lineC hX hS (ml_CSf h f2) a4 a5 (by omega) (by omega)
          rw [← hα2]
          refine ⟨y, α3, ?_, mk_frt f2 o2, ?_⟩
          · show ((f_X7_readLine α2).bind fun r8 => if r8.1 = 0 then b_X7_read_17 f 0 (nI (t + 1)) r8.2 else b_X7_read_17 f 1 (nI (t + 1)) r8.2) = _
            rw [z1, mk_bs] at o1
            rw [z1, mk_bs]
            rcases z4 with ⟨_, zx⟩ | ⟨_, _, zx, _⟩
            · rw [zx] at o1
              rw [zx, if_pos rfl]
              exact o1
            · rw [zx] at o1
              rw [zx, if_neg (show ¬ (1 : Int32) = 0 by decide)]
              exact o1
          · rcases o3 with ⟨v1, v2, v3⟩ | ⟨ls, v1, v2, v0, v3, v4, v5⟩
            · refine .inl ⟨?_, v2, v3⟩
              show (ml_tx b n X F ((ml_ln b n X p).1 + 1)).2.map _ = none
              rw [v1]
              rfl
            · refine .inr ⟨l :: ls, ?_, v2, ?_, ?_, ?_, fun i hi => ?_⟩
              · show (ml_tx b n X F ((ml_ln b n X p).1 + 1)).2.map _ = _
                rw [v1]
                rfl
              · show w + (ml_lc w l ++ ml_tc (w + (ml_lc w l).length) ls).length ≤ 121
                rw [List.length_append]
                omega
              · show _ = nI (w + (ml_lc w l ++ ml_tc (w + (ml_lc w l).length) ls).length)
                rw [List.length_append, v3]
                congr 1
                omega
              · refine ml_pl_app _ _ _ (ml_pl_cong _ _ (fun i h1 h2 => ?_) n4) v4
                have := v5 i h2
                rw [a7, a8] at this
                exact this
              · have := v5 i (by omega)
                rw [a7, a8] at this
                exact ⟨this.1.trans (n5 i hi).1, this.2.trans (n5 i hi).2⟩
        · rw [if_neg q2, if_neg q2, mk_bs, if_pos rfl]
          refine ⟨nI (ml_ln b n X p).1, α1, ?_, f1, .inl ⟨rfl, g2, rfl⟩⟩
          obtain ⟨f', rfl⟩ : ∃ f', f = f' + 1 := ⟨f - 1, by omega⟩
          unfold b_X7_read_17
          rw [if_pos rfl, ite_self]
          unfold b_X7_read_66
          rw [if_pos rfl, s3]
      · rw [if_pos (nI_le (by omega) (by omega)), ite_self, if_neg q]
        refine ⟨-1, α1, ?_, f1, .inr ⟨[l], rfl, rfl, ?_, ?_, ?_, n5⟩⟩
        · unfold b_X7_read_66
          rw [if_neg (show ¬ (1 : Int32) = 0 by decide)]
        · rw [one]
          omega
        · rw [one]
          exact n3
        · rw [one]
          exact n4
theorem ml_readC {b : Nat → Int32} {n : Nat} {X : Nat → ml_P} (hX : ml_Gf n X) (hS : ml_SC b n (fun α => f_X7_readJoined α 0 0) X) {α : mj_S} (h : ml_CS b n α) : ∃ y α', f_X7_read α = some (y, α') ∧ mk_fr ml_Z7 α α' ∧ (((ml_tx b n X 121 0).2 = none ∧ (ml_tx b n X 121 0).1 ≤ n ∧ y = nI (ml_tx b n X 121 0).1) ∨ ∃ ls, (ml_tx b n X 121 0).2 = some ls ∧ y = -1 ∧ (ml_tc 0 ls).length ≤ 121 ∧ α'.1 5 5 = nI (ml_tc 0 ls).length ∧ ml_pl (α'.1 7) (α'.1 8) 0 (ml_tc 0 ls)) := by
  obtain ⟨α1, hα1⟩ : ∃ α1, α1 = mj_sI (mj_sI α 5 4 0) 5 5 0 := ⟨_, rfl⟩
  have f1 : mk_fr ml_Z7 α α1 := by rw [hα1]; exact mk_frt (mk_frI (by unfold ml_Z7; omega)) (mk_frI (by unfold ml_Z7; omega))
  obtain ⟨y, α2, o1, o2, o3⟩ := ml_textC hX hS 121 mj_fu 0 0 0 α1 (by omega) (by show 121 < 5000 + 0; omega) (by omega) (ml_CSf h f1) (by rw [hα1]; rfl) (by rw [hα1]; rfl) (by omega) (by omega)
  rw [nI_0] at o1
  refine ⟨y, α2, ?_, mk_frt f1 o2, ?_⟩
  · unfold f_X7_read
    rw [← hα1]
    exact o1
  · rcases o3 with v | ⟨ls, v1, v2, v0, v3, v4, _⟩
    · exact .inl v
    · rw [Nat.zero_add] at v0 v3
      exact .inr ⟨ls, v1, v2, v0, v3, v4⟩
def ml_Z1 (x y : Nat) : Prop := x = 2 ∨ x = 3 ∨ (x = 1 ∧ (y = 3 ∨ y = 5))
theorem ml_become {m : Nat} (hm : m ≤ 121) : ∀ (f i : Nat) (α : mj_S), m < f + i → i ≤ m → α.1 1 3 = nI m → ∃ α', b_X4_become_23 f 7 121 8 121 (nI i) α = some α' ∧ mk_fr ml_Z1 α α' ∧ α'.1 1 3 = nI m ∧ α'.1 1 5 = 1 ∧ (∀ j, j < i → α'.1 2 j = α.1 2 j ∧ α'.1 3 j = α.1 3 j) ∧ ∀ j, i ≤ j → j < m → α'.1 2 j = α.1 7 j ∧ α'.1 3 j = α.1 8 j
  | 0, i, α, hf, hi, _ => absurd hf (by omega)
  | f + 1, i, α, hf, hi, h3 => by
    unfold b_X4_become_23
    rw [h3]
    by_cases q : i = m
    · rw [if_pos (by rw [q]; exact nI_le (by omega) (by omega))]
      refine ⟨_, rfl, mk_frI (by unfold ml_Z1; omega), ?_, ?_, fun j hj => ⟨?_, ?_⟩, fun j h1 h2 => absurd h1 (by omega)⟩
      · rw [mk_g, if_neg (by omega)]
        exact h3
      · rw [mk_g, if_pos ⟨rfl, rfl⟩]
      · rw [mk_g, if_neg (by omega)]
      · rw [mk_g, if_neg (by omega)]
    · have i1 : 0 ≤ (nI i).toInt ∧ (nI i).toInt < ((121 : Nat) : Int) := by
        rw [nI_toInt (by omega)]
        omega
      have i2 : 0 ≤ (nI i).toInt ∧ (nI i).toInt < 121 := by
        rw [nI_toInt (by omega)]
        omega
      have e1 : nI i + 1 = nI (i + 1) := nI_add i 1
      rw [if_neg (nI_ge (by omega) (by omega)), if_pos i1, if_pos i2, if_pos i1, if_pos i2, nI_clamp (by omega), e1]
      obtain ⟨α1, hα1⟩ : ∃ α1, α1 = mj_sI (mj_sI α 2 i (α.1 7 i)) 3 i ((mj_sI α 2 i (α.1 7 i)).1 8 i) := ⟨_, rfl⟩
      have r2 : ∀ j, α1.1 2 j = if j = i then α.1 7 i else α.1 2 j := fun j => by
        rw [hα1, mk_g, if_neg (by omega), mk_g]
        by_cases z : j = i
        · rw [if_pos ⟨rfl, z⟩, if_pos z]
        · rw [if_neg (fun y => z y.2), if_neg z]
      have r3 : ∀ j, α1.1 3 j = if j = i then α.1 8 i else α.1 3 j := fun j => by
        rw [hα1, mk_g]
        by_cases z : j = i
        · rw [if_pos ⟨rfl, z⟩, if_pos z, mk_g, if_neg (by omega)]
        · rw [if_neg (fun y => z y.2), if_neg z, mk_g, if_neg (by omega)]
      have r7 : ∀ j, α1.1 7 j = α.1 7 j ∧ α1.1 8 j = α.1 8 j := fun j => by
        rw [hα1, mk_g, if_neg (by omega), mk_g, if_neg (by omega), mk_g, if_neg (by omega), mk_g, if_neg (by omega)]
        exact ⟨rfl, rfl⟩
      obtain ⟨α2, o1, o2, o3, o4, o5, o6⟩ := ml_become hm f (i + 1) α1 (by omega) (by omega) (by rw [hα1]; exact h3)
      rw [← hα1]
      refine ⟨α2, o1, ?_, o3, o4, fun j hj => ?_, fun j h1 h2 => ?_⟩
      · refine mk_frt ?_ o2
        rw [hα1]
        exact mk_frt (mk_frI (by unfold ml_Z1; omega)) (mk_frI (by unfold ml_Z1; omega))
      · have := o5 j (by omega)
        rw [r2, r3, if_neg (by omega), if_neg (by omega)] at this
        exact this
      · by_cases z : j = i
        · have := o5 j (by omega)
          rw [r2, r3, if_pos z, if_pos z] at this
          rw [z] at this ⊢
          exact this
        · have := o6 j (by omega) h2
          rw [(r7 j).1, (r7 j).2] at this
          exact this
theorem ml_giveTo {m : Nat} (hm : m ≤ 121) {α : mj_S} (h5 : α.1 5 5 = nI m) : ∃ α', f_X7_giveTo α = some α' ∧ mk_fr ml_Z1 α α' ∧ α'.1 1 3 = nI m ∧ α'.1 1 5 = 1 ∧ ∀ j, j < m → α'.1 2 j = α.1 7 j ∧ α'.1 3 j = α.1 8 j := by
  have mn : mj_min (nI m) (mj_min 121 (mj_min (Int32.ofNat 121) (Int32.ofNat 121))) = nI m := by
    have e : mj_min 121 (mj_min (Int32.ofNat 121) (Int32.ofNat 121)) = (121 : Int32) := by decide
    rw [e]
    unfold mj_min
    rw [if_neg (show ¬ (121 : Int32) < nI m from nI_nlt (a := 121) (b := m) hm (by omega))]
  obtain ⟨α', o1, o2, o3, o4, _, o6⟩ := ml_become hm mj_fu 0 (mj_sI α 1 3 (nI m)) (by show m < 5000 + 0; omega) (by omega) (by rw [mk_g, if_pos ⟨rfl, rfl⟩])
  rw [nI_0] at o1
  refine ⟨α', ?_, mk_frt (mk_frI (by unfold ml_Z1; omega)) o2, o3, o4, fun j hj => ?_⟩
  · unfold f_X7_giveTo f_X4_become
    rw [h5, mn, o1, mk_bs]
  · have := o6 j (by omega) hj
    rw [mk_g, if_neg (by omega), mk_g, if_neg (by omega)] at this
    exact this
