-- law: texts, read once and for all
def ml_c (b : Nat → Int32) (n i : Nat) : Int32 := if i < n then b i else -1
def ml_jo (op x y : Int32) : Int32 := (f_X4_joined mk_z op x y).getD 0
def ml_io (L : Nat) (x : Int32) : Prop := ¬ f_X7_isOperator mk_z (nI L) x = 0
abbrev ml_Ex := ((Nat → Int32) → Int32) × List (Int32 × Int32)
abbrev ml_P := Nat × Option ml_Ex
def ml_cmb (op : Int32) (e : ml_Ex) (t : ml_P) : ml_P := (t.1, t.2.map fun e2 => (fun N => ml_jo op (e.1 N) (e2.1 N), e.2 ++ e2.2 ++ [(op, 0)]))
def ml_lp (b : Nat → Int32) (n : Nat) (T : Nat → ml_P) (L : Nat) : Nat → Nat → Option ml_Ex → ml_P
  | _, p, none => (p, none)
  | 0, p, some e => (p, some e)
  | f + 1, p, some e => @ite _ (ml_io L (ml_c b n p)) (by unfold ml_io; infer_instance) (ml_lp b n T L f (ml_cmb (ml_c b n p) e (T (p + 1))).1 (ml_cmb (ml_c b n p) e (T (p + 1))).2) (p, some e)
def ml_jn (b : Nat → Int32) (n : Nat) (T : Nat → ml_P) (L : Nat) (p : Nat) : ml_P := ml_lp b n T L (if L = 2 then 1 else 120) (T p).1 (T p).2
def ml_ex5 (b : Nat → Int32) (n : Nat) (O : Nat → ml_P) : Nat → ml_P := ml_jn b n (ml_jn b n (ml_jn b n (ml_jn b n (ml_jn b n O 4) 3) 2) 1) 0
def ml_dig (x : Int32) : Prop := ¬ f_X7_isDigit mk_z x = 0
/-- the number from p on: where it ends, its value -/
def ml_nr (b : Nat → Int32) (n : Nat) : Nat → Int32 → Nat → Nat × Int32
  | 0, v, p => (p, v)
  | f + 1, v, p => @ite _ (ml_dig (ml_c b n p)) (by unfold ml_dig; infer_instance) (ml_nr b n f (v * 10 + ml_c b n p - 48) (p + 1)) (p, v)
def ml_nmOf (x : Int32) : Int32 := f_X10_nameOf mk_z x
def ml_atom (b : Nat → Int32) (n p : Nat) : ml_P := @ite _ (ml_dig (ml_c b n p)) (by unfold ml_dig; infer_instance) ((ml_nr b n 4 0 p).1, some (fun _ => (ml_nr b n 4 0 p).2, [(48, (ml_nr b n 4 0 p).2)])) (if ml_nmOf (ml_c b n p) < 0 then (p, none) else (p + 1, some (fun N => N (ml_nmOf (ml_c b n p)).toNatClampNeg, [(97, ml_nmOf (ml_c b n p))])))
def ml_neg (x : Int32) (e : ml_Ex) : ml_Ex := if x = 45 then (fun N => - (e.1 N), e.2 ++ [(110, 0)]) else (fun N => if e.1 N = 0 then 1 else 0, e.2 ++ [(33, 0)])
def ml_cls (b : Nat → Int32) (n : Nat) (t : ml_P) : ml_P := match t.2 with
  | none => t
  | some e => if ml_c b n t.1 = 41 then (t.1 + 1, some e) else (t.1, none)
def ml_opd (b : Nat → Int32) (n : Nat) : Nat → Nat → ml_P
  | 0 => fun p => if ml_c b n p = 40 ∨ ml_c b n p = 33 ∨ ml_c b n p = 45 then (p, none) else ml_atom b n p
  | o + 1 => fun p => if ml_c b n p = 40 then ml_cls b n (ml_ex5 b n (ml_opd b n o) (p + 1)) else if ml_c b n p = 33 ∨ ml_c b n p = 45 then ((ml_opd b n o (p + 1)).1, (ml_opd b n o (p + 1)).2.map (ml_neg (ml_c b n p))) else ml_atom b n p
/-- how a step changes the stack -/
def ml_step (N : Nat → Int32) (s : Int32 × Int32) (st : List Int32) : List Int32 :=
  if s.1 = 33 then (if st.headD 0 = 0 then 1 else 0) :: st.tail
  else if s.1 = 48 then s.2 :: st
  else if s.1 = 97 then (if s.2 < (0 : Int32) then 0 else if (7 : Int32) ≤ s.2 then 0 else N s.2.toNatClampNeg) :: st
  else if s.1 = 110 then (- st.headD 0) :: st.tail
  else ml_jo s.1 (st.tail.headD 0) (st.headD 0) :: st.tail.tail
def ml_run (N : Nat → Int32) : List (Int32 × Int32) → List Int32 → List Int32
  | [], st => st
  | s :: r, st => ml_run N r (ml_step N s st)
theorem ml_run_app (N : Nat → Int32) : ∀ a b st, ml_run N (a ++ b) st = ml_run N b (ml_run N a st)
  | [], b, st => rfl
  | s :: r, b, st => ml_run_app N r b (ml_step N s st)
def ml_Gd (n : Nat) (p : Nat) (t : ml_P) : Prop := p ≤ t.1 ∧ t.1 ≤ n ∧ ∀ e, t.2 = some e → p < t.1 ∧ e.2.length + p ≤ t.1 ∧ (∀ s, s ∈ e.2 → s.1 ≠ 59 ∧ s.1 ≠ 63) ∧ ∀ N st, ml_run N e.2 st = e.1 N :: st
def ml_Gf (n : Nat) (T : Nat → ml_P) : Prop := ∀ p, p ≤ n → ml_Gd n p (T p)
theorem ml_c_lt {b : Nat → Int32} {n i : Nat} (h : ml_c b n i ≠ -1) : i < n := by
  by_cases q : i < n
  · exact q
  · exact absurd (if_neg q) h
theorem ml_io_ne {L : Nat} {x : Int32} (h : ml_io L x) : x ≠ -1 ∧ x ≠ 59 ∧ x ≠ 63 ∧ x ≠ 33 ∧ x ≠ 48 ∧ x ≠ 97 ∧ x ≠ 110 := by
  have d : ∀ x : Int32, (x = 124 ∨ x = 38 ∨ x = 60 ∨ x = 61 ∨ x = 62 ∨ x = 43 ∨ x = 45 ∨ x = 42 ∨ x = 47 ∨ x = 37) → x ≠ -1 ∧ x ≠ 59 ∧ x ≠ 63 ∧ x ≠ 33 ∧ x ≠ 48 ∧ x ≠ 97 ∧ x ≠ 110 := by
    intro x hx
    rcases hx with q | q | q | q | q | q | q | q | q | q <;> (rw [q]; decide)
  refine d x ?_
  unfold ml_io f_X7_isOperator at h
  by_cases h0 : nI L = 0
  · rw [if_pos h0] at h
    by_cases q : x = 124
    · exact .inl q
    · exact absurd (if_neg q) h
  rw [if_neg h0] at h
  by_cases h1 : nI L = 1
  · rw [if_pos h1] at h
    by_cases q : x = 38
    · exact .inr (.inl q)
    · exact absurd (if_neg q) h
  rw [if_neg h1] at h
  by_cases h2 : nI L = 2
  · rw [if_pos h2] at h
    by_cases q : x = 60
    · exact .inr (.inr (.inl q))
    rw [if_neg q] at h
    by_cases q : x = 61
    · exact .inr (.inr (.inr (.inl q)))
    rw [if_neg q] at h
    by_cases q : x = 62
    · exact .inr (.inr (.inr (.inr (.inl q))))
    · exact absurd (if_neg q) h
  rw [if_neg h2] at h
  by_cases h3 : nI L = 3
  · rw [if_pos h3] at h
    by_cases q : x = 43
    · exact .inr (.inr (.inr (.inr (.inr (.inl q)))))
    rw [if_neg q] at h
    by_cases q : x = 45
    · exact .inr (.inr (.inr (.inr (.inr (.inr (.inl q))))))
    · exact absurd (if_neg q) h
  rw [if_neg h3] at h
  by_cases h4 : nI L = 4
  · rw [if_pos h4] at h
    by_cases q : x = 42
    · exact .inr (.inr (.inr (.inr (.inr (.inr (.inr (.inl q)))))))
    rw [if_neg q] at h
    by_cases q : x = 47
    · exact .inr (.inr (.inr (.inr (.inr (.inr (.inr (.inr (.inl q))))))))
    rw [if_neg q] at h
    by_cases q : x = 37
    · exact .inr (.inr (.inr (.inr (.inr (.inr (.inr (.inr (.inr q))))))))
    · exact absurd (if_neg q) h
  · exact absurd (if_neg h4) h
theorem ml_lp_none (b : Nat → Int32) (n : Nat) (T : Nat → ml_P) (L f p : Nat) : ml_lp b n T L f p none = (p, none) := by
  cases f <;> rfl
theorem ml_lp_stop {b : Nat → Int32} {n : Nat} {T : Nat → ml_P} {L f p : Nat} {e : ml_Ex} (h : ¬ ml_io L (ml_c b n p)) : ml_lp b n T L f p (some e) = (p, some e) := by
  cases f with
  | zero => rfl
  | succ f => exact if_neg h
theorem ml_lp_go {b : Nat → Int32} {n : Nat} {T : Nat → ml_P} {L f p : Nat} {e : ml_Ex} (h : ml_io L (ml_c b n p)) : ml_lp b n T L (f + 1) p (some e) = ml_lp b n T L f (ml_cmb (ml_c b n p) e (T (p + 1))).1 (ml_cmb (ml_c b n p) e (T (p + 1))).2 := if_pos h
theorem ml_step_jo (N : Nat → Int32) {L : Nat} {op : Int32} (h : ml_io L op) (x y : Int32) (st : List Int32) : ml_step N (op, 0) (y :: x :: st) = ml_jo op x y :: st := by
  obtain ⟨_, _, _, h1, h2, h3, h4⟩ := ml_io_ne h
  unfold ml_step
  rw [if_neg h1, if_neg h2, if_neg h3, if_neg h4]
  rfl
theorem ml_lp_good {b : Nat → Int32} {n : Nat} {T : Nat → ml_P} (hT : ml_Gf n T) (L : Nat) (p0 : Nat) : ∀ (f p : Nat) (o : Option ml_Ex), ml_Gd n p0 (p, o) → ml_Gd n p0 (ml_lp b n T L f p o)
  | f, p, none, h => by
    rw [ml_lp_none]
    exact h
  | 0, p, some e, h => h
  | f + 1, p, some e, h => by
    by_cases q : ml_io L (ml_c b n p)
    · rw [ml_lp_go q]
      have pn := ml_c_lt (ml_io_ne q).1
      have g := hT (p + 1) (by omega)
      obtain ⟨h1, h2, h3⟩ := h
      have h1' : p0 ≤ p := h1
      obtain ⟨g1, g2, g3⟩ := g
      refine ml_lp_good hT L p0 f _ _ ⟨?_, g2, fun e' he' => ?_⟩
      · show p0 ≤ (T (p + 1)).1
        omega
      · have he : (T (p + 1)).2.map (fun e2 : ml_Ex => ((fun N => ml_jo (ml_c b n p) (e.1 N) (e2.1 N), e.2 ++ e2.2 ++ [(ml_c b n p, 0)]) : ml_Ex)) = some e' := he'
        obtain ⟨e2, q2, q3⟩ := Option.map_eq_some_iff.mp he
        obtain ⟨k1, k2, k3, k4⟩ := g3 e2 q2
        obtain ⟨l1, l2, l3, l4⟩ := h3 e rfl
        have l1' : p0 < p := l1
        have l2' : e.2.length + p0 ≤ p := l2
        rw [← q3]
        refine ⟨?_, ?_, fun s hs => ?_, fun N st => ?_⟩
        · show p0 < (T (p + 1)).1
          omega
        · show (e.2 ++ e2.2 ++ [(ml_c b n p, (0 : Int32))]).length + p0 ≤ (T (p + 1)).1
          rw [List.length_append, List.length_append]
          show e.2.length + e2.2.length + 1 + p0 ≤ _
          omega
        · have hs' : s ∈ e.2 ++ e2.2 ++ [(ml_c b n p, (0 : Int32))] := hs
          rcases List.mem_append.mp hs' with z | z
          · rcases List.mem_append.mp z with z | z
            · exact l3 s z
            · exact k3 s z
          · have zs : s = (ml_c b n p, (0 : Int32)) := List.mem_singleton.mp z
            rw [zs]
            exact ⟨(ml_io_ne q).2.1, (ml_io_ne q).2.2.1⟩
        · show ml_run N (e.2 ++ e2.2 ++ [(ml_c b n p, (0 : Int32))]) st = _
          rw [ml_run_app, ml_run_app, l4, k4]
          exact ml_step_jo N q _ _ st
    · rw [ml_lp_stop q]
      exact h
theorem ml_jn_good {b : Nat → Int32} {n : Nat} {T : Nat → ml_P} (hT : ml_Gf n T) (L : Nat) : ml_Gf n (ml_jn b n T L) := fun p hp => ml_lp_good hT L p _ _ _ (hT p hp)
theorem ml_ex5_good {b : Nat → Int32} {n : Nat} {O : Nat → ml_P} (hO : ml_Gf n O) : ml_Gf n (ml_ex5 b n O) := ml_jn_good (ml_jn_good (ml_jn_good (ml_jn_good (ml_jn_good hO 4) 3) 2) 1) 0
theorem ml_dig_ne {x : Int32} (h : ml_dig x) : x ≠ -1 ∧ x ≠ 40 ∧ x ≠ 33 ∧ x ≠ 45 := by
  have e : ∀ y : Int32, y < 48 → ¬ ml_dig y := fun y hy q => q (if_pos hy)
  refine ⟨fun q => ?_, fun q => ?_, fun q => ?_, fun q => ?_⟩ <;> (rw [q] at h; exact e _ (by decide) h)
theorem ml_nr_good (b : Nat → Int32) (n : Nat) : ∀ (f : Nat) (v : Int32) (p : Nat), p ≤ n → p ≤ (ml_nr b n f v p).1 ∧ (ml_nr b n f v p).1 ≤ n
  | 0, v, p, h => ⟨Nat.le_refl _, h⟩
  | f + 1, v, p, h => by
    by_cases q : ml_dig (ml_c b n p)
    · have pn := ml_c_lt (ml_dig_ne q).1
      have e : ml_nr b n (f + 1) v p = ml_nr b n f (v * 10 + ml_c b n p - 48) (p + 1) := if_pos q
      rw [e]
      have := ml_nr_good b n f (v * 10 + ml_c b n p - 48) (p + 1) (by omega)
      omega
    · have e : ml_nr b n (f + 1) v p = (p, v) := if_neg q
      rw [e]
      exact ⟨Nat.le_refl _, h⟩
theorem ml_nmOf_r (x : Int32) (h : ¬ ml_nmOf x < 0) : ∃ k, k < 7 ∧ ml_nmOf x = nI k ∧ x ≠ -1 := by
  have neg : ∀ y : Int32, y = -1 → y < 0 := fun y hy => by rw [hy]; decide
  unfold ml_nmOf f_X10_nameOf at h ⊢
  by_cases q : x = 97
  · exact ⟨0, by omega, by rw [if_pos q]; rfl, by rw [q]; decide⟩
  rw [if_neg q] at h ⊢
  by_cases q : x = 98
  · rw [if_pos q] at h; exact absurd (neg _ rfl) h
  rw [if_neg q] at h ⊢
  by_cases q : x = 99
  · rw [if_pos q] at h; exact absurd (neg _ rfl) h
  rw [if_neg q] at h ⊢
  by_cases q : x = 100
  · rw [if_pos q] at h; exact absurd (neg _ rfl) h
  rw [if_neg q] at h ⊢
  by_cases q : x = 101
  · rw [if_pos q] at h; exact absurd (neg _ rfl) h
  rw [if_neg q] at h ⊢
  by_cases q : x = 102
  · rw [if_pos q] at h; exact absurd (neg _ rfl) h
  rw [if_neg q] at h ⊢
  by_cases q : x = 103
  · rw [if_pos q] at h; exact absurd (neg _ rfl) h
  rw [if_neg q] at h ⊢
  by_cases q : x = 104
  · exact ⟨3, by omega, by rw [if_pos q]; rfl, by rw [q]; decide⟩
  rw [if_neg q] at h ⊢
  by_cases q : x = 105
  · rw [if_pos q] at h; exact absurd (neg _ rfl) h
  rw [if_neg q] at h ⊢
  by_cases q : x = 106
  · rw [if_pos q] at h; exact absurd (neg _ rfl) h
  rw [if_neg q] at h ⊢
  by_cases q : x = 107
  · exact ⟨6, by omega, by rw [if_pos q]; rfl, by rw [q]; decide⟩
  rw [if_neg q] at h ⊢
  by_cases q : x = 108
  · rw [if_pos q] at h; exact absurd (neg _ rfl) h
  rw [if_neg q] at h ⊢
  by_cases q : x = 109
  · exact ⟨5, by omega, by rw [if_pos q]; rfl, by rw [q]; decide⟩
  rw [if_neg q] at h ⊢
  by_cases q : x = 110
  · rw [if_pos q] at h; exact absurd (neg _ rfl) h
  rw [if_neg q] at h ⊢
  by_cases q : x = 111
  · rw [if_pos q] at h; exact absurd (neg _ rfl) h
  rw [if_neg q] at h ⊢
  by_cases q : x = 112
  · exact ⟨4, by omega, by rw [if_pos q]; rfl, by rw [q]; decide⟩
  rw [if_neg q] at h ⊢
  by_cases q : x = 113
  · rw [if_pos q] at h; exact absurd (neg _ rfl) h
  rw [if_neg q] at h ⊢
  by_cases q : x = 114
  · rw [if_pos q] at h; exact absurd (neg _ rfl) h
  rw [if_neg q] at h ⊢
  by_cases q : x = 115
  · exact ⟨1, by omega, by rw [if_pos q]; rfl, by rw [q]; decide⟩
  rw [if_neg q] at h ⊢
  by_cases q : x = 116
  · rw [if_pos q] at h; exact absurd (neg _ rfl) h
  rw [if_neg q] at h ⊢
  by_cases q : x = 117
  · rw [if_pos q] at h; exact absurd (neg _ rfl) h
  rw [if_neg q] at h ⊢
  by_cases q : x = 118
  · rw [if_pos q] at h; exact absurd (neg _ rfl) h
  rw [if_neg q] at h ⊢
  by_cases q : x = 119
  · exact ⟨2, by omega, by rw [if_pos q]; rfl, by rw [q]; decide⟩
  rw [if_neg q] at h
  exact absurd (neg _ rfl) h
theorem ml_atom_good (b : Nat → Int32) (n : Nat) {p : Nat} (hp : p ≤ n) : ml_Gd n p (ml_atom b n p) := by
  unfold ml_atom
  by_cases q : ml_dig (ml_c b n p)
  · rw [if_pos q]
    have pn := ml_c_lt (ml_dig_ne q).1
    have e : ml_nr b n 4 0 p = ml_nr b n 3 (0 * 10 + ml_c b n p - 48) (p + 1) := if_pos q
    have g := ml_nr_good b n 3 (0 * 10 + ml_c b n p - 48) (p + 1) (by omega)
    rw [← e] at g
    refine ⟨by show p ≤ (ml_nr b n 4 0 p).1; omega, g.2, fun e' he => ?_⟩
    have he' := Option.some.inj he
    rw [← he']
    refine ⟨by show p < (ml_nr b n 4 0 p).1; omega, ?_, fun s hs => ?_, fun N st => ?_⟩
    · show 1 + p ≤ (ml_nr b n 4 0 p).1
      omega
    · have zs : s = ((48 : Int32), (ml_nr b n 4 0 p).2) := List.mem_singleton.mp hs
      rw [zs]
      exact ⟨show (48 : Int32) ≠ 59 by decide, show (48 : Int32) ≠ 63 by decide⟩
    · rfl
  · rw [if_neg q]
    by_cases q2 : ml_nmOf (ml_c b n p) < 0
    · rw [if_pos q2]
      exact ⟨Nat.le_refl _, hp, fun e he => by cases he⟩
    · rw [if_neg q2]
      obtain ⟨k, hk, ek, ne⟩ := ml_nmOf_r _ q2
      have pn := ml_c_lt ne
      refine ⟨by show p ≤ p + 1; omega, by show p + 1 ≤ n; omega, fun e' he => ?_⟩
      have he' := Option.some.inj he
      rw [← he']
      refine ⟨by show p < p + 1; omega, by show 1 + p ≤ p + 1; omega, fun s hs => ?_, fun N st => ?_⟩
      · have zs : s = ((97 : Int32), ml_nmOf (ml_c b n p)) := List.mem_singleton.mp hs
        rw [zs]
        exact ⟨show (97 : Int32) ≠ 59 by decide, show (97 : Int32) ≠ 63 by decide⟩
      · show (if ml_nmOf (ml_c b n p) < (0 : Int32) then 0 else if (7 : Int32) ≤ ml_nmOf (ml_c b n p) then 0 else N (ml_nmOf (ml_c b n p)).toNatClampNeg) :: st = _
        rw [if_neg q2, if_neg (by rw [ek]; exact nI_ge (a := k) (b := 7) hk (by omega))]
theorem ml_opd_good (b : Nat → Int32) (n : Nat) : ∀ o, ml_Gf n (ml_opd b n o)
  | 0 => fun p hp => by
    show ml_Gd n p (if ml_c b n p = 40 ∨ ml_c b n p = 33 ∨ ml_c b n p = 45 then (p, none) else ml_atom b n p)
    by_cases q : ml_c b n p = 40 ∨ ml_c b n p = 33 ∨ ml_c b n p = 45
    · rw [if_pos q]
      exact ⟨Nat.le_refl _, hp, fun e he => by cases he⟩
    · rw [if_neg q]
      exact ml_atom_good b n hp
  | o + 1 => fun p hp => by
    have ih := ml_opd_good b n o
    show ml_Gd n p (if ml_c b n p = 40 then ml_cls b n (ml_ex5 b n (ml_opd b n o) (p + 1)) else if ml_c b n p = 33 ∨ ml_c b n p = 45 then ((ml_opd b n o (p + 1)).1, (ml_opd b n o (p + 1)).2.map (ml_neg (ml_c b n p))) else ml_atom b n p)
    by_cases q : ml_c b n p = 40
    · rw [if_pos q]
      have pn : p < n := ml_c_lt (by rw [q]; decide)
      have g := ml_ex5_good (b := b) ih (p + 1) (by omega)
      obtain ⟨x, hx⟩ : ∃ x, x = ml_ex5 b n (ml_opd b n o) (p + 1) := ⟨_, rfl⟩
      rw [← hx] at g ⊢
      obtain ⟨p', oe⟩ := x
      obtain ⟨g1, g2, g3⟩ := g
      have g1' : p + 1 ≤ p' := g1
      have g2' : p' ≤ n := g2
      cases oe with
      | none => exact ⟨by show p ≤ p'; omega, g2, fun e he => by cases he⟩
      | some e =>
        show ml_Gd n p (if ml_c b n p' = 41 then (p' + 1, some e) else (p', none))
        obtain ⟨k1, k2, k3, k4⟩ := g3 e rfl
        have k2' : e.2.length + (p + 1) ≤ p' := k2
        by_cases q2 : ml_c b n p' = 41
        · rw [if_pos q2]
          have pn' : p' < n := ml_c_lt (by rw [q2]; decide)
          refine ⟨by show p ≤ p' + 1; omega, by show p' + 1 ≤ n; omega, fun e' he => ?_⟩
          have he' := Option.some.inj he
          rw [← he']
          exact ⟨by show p < p' + 1; omega, by show e.2.length + p ≤ p' + 1; omega, k3, k4⟩
        · rw [if_neg q2]
          exact ⟨by show p ≤ p'; omega, g2, fun e he => by cases he⟩
    · rw [if_neg q]
      by_cases q2 : ml_c b n p = 33 ∨ ml_c b n p = 45
      · rw [if_pos q2]
        have pn : p < n := ml_c_lt (by rcases q2 with z | z <;> (rw [z]; decide))
        obtain ⟨g1, g2, g3⟩ := ih (p + 1) (by omega)
        refine ⟨by show p ≤ (ml_opd b n o (p + 1)).1; omega, g2, fun e' he => ?_⟩
        obtain ⟨e, h1, h2⟩ := Option.map_eq_some_iff.mp (show (ml_opd b n o (p + 1)).2.map (ml_neg (ml_c b n p)) = some e' from he)
        obtain ⟨k1, k2, k3, k4⟩ := g3 e h1
        rw [← h2]
        unfold ml_neg
        by_cases q3 : ml_c b n p = 45
        · rw [if_pos q3]
          refine ⟨by show p < (ml_opd b n o (p + 1)).1; omega, ?_, fun s hs => ?_, fun N st => ?_⟩
          · show (e.2 ++ [((110 : Int32), (0 : Int32))]).length + p ≤ (ml_opd b n o (p + 1)).1
            rw [List.length_append]
            show e.2.length + 1 + p ≤ _
            omega
          · rcases List.mem_append.mp (show s ∈ e.2 ++ [((110 : Int32), (0 : Int32))] from hs) with z | z
            · exact k3 s z
            · rw [List.mem_singleton.mp z]
              exact ⟨by decide, by decide⟩
          · show ml_run N (e.2 ++ [((110 : Int32), (0 : Int32))]) st = _
            rw [ml_run_app, k4]
            rfl
        · rw [if_neg q3]
          refine ⟨by show p < (ml_opd b n o (p + 1)).1; omega, ?_, fun s hs => ?_, fun N st => ?_⟩
          · show (e.2 ++ [((33 : Int32), (0 : Int32))]).length + p ≤ (ml_opd b n o (p + 1)).1
            rw [List.length_append]
            show e.2.length + 1 + p ≤ _
            omega
          · rcases List.mem_append.mp (show s ∈ e.2 ++ [((33 : Int32), (0 : Int32))] from hs) with z | z
            · exact k3 s z
            · rw [List.mem_singleton.mp z]
              exact ⟨by decide, by decide⟩
          · show ml_run N (e.2 ++ [((33 : Int32), (0 : Int32))]) st = _
            rw [ml_run_app, k4]
            rfl
      · rw [if_neg q2]
        exact ml_atom_good b n hp
