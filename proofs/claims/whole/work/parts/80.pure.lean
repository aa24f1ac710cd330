-- law: texts, read once and for all
def mk_c (b : Nat → Int32) (n i : Nat) : Int32 := if i < n then b i else -1
def mk_jo (op x y : Int32) : Int32 := (f_X4_joined mk_z op x y).getD 0
def mk_io (L : Nat) (x : Int32) : Prop := ¬ f_X7_isOperator mk_z (nI L) x = 0
abbrev mk_Ex := ((Nat → Int32) → Int32) × List (Int32 × Int32)
abbrev mk_P := Nat × Option mk_Ex
def mk_cmb (op : Int32) (e : mk_Ex) (t : mk_P) : mk_P := (t.1, t.2.map fun e2 => (fun N => mk_jo op (e.1 N) (e2.1 N), e.2 ++ e2.2 ++ [(op, 0)]))
def mk_lp (b : Nat → Int32) (n : Nat) (T : Nat → mk_P) (L : Nat) : Nat → Nat → Option mk_Ex → mk_P
  | _, p, none => (p, none)
  | 0, p, some e => (p, some e)
  | f + 1, p, some e => @ite _ (mk_io L (mk_c b n p)) (by unfold mk_io; infer_instance) (mk_lp b n T L f (mk_cmb (mk_c b n p) e (T (p + 1))).1 (mk_cmb (mk_c b n p) e (T (p + 1))).2) (p, some e)
def mk_jn (b : Nat → Int32) (n : Nat) (T : Nat → mk_P) (L : Nat) (p : Nat) : mk_P := mk_lp b n T L (if L = 2 then 1 else 120) (T p).1 (T p).2
def mk_ex5 (b : Nat → Int32) (n : Nat) (O : Nat → mk_P) : Nat → mk_P := mk_jn b n (mk_jn b n (mk_jn b n (mk_jn b n (mk_jn b n O 4) 3) 2) 1) 0
def mk_dig (x : Int32) : Prop := ¬ f_X7_isDigit mk_z x = 0
/-- the number from p on: where it ends, its value -/
def mk_nr (b : Nat → Int32) (n : Nat) : Nat → Int32 → Nat → Nat × Int32
  | 0, v, p => (p, v)
  | f + 1, v, p => @ite _ (mk_dig (mk_c b n p)) (by unfold mk_dig; infer_instance) (mk_nr b n f (v * 10 + mk_c b n p - 48) (p + 1)) (p, v)
def mk_nmOf (x : Int32) : Int32 := f_X10_nameOf mk_z x
def mk_atom (b : Nat → Int32) (n p : Nat) : mk_P := @ite _ (mk_dig (mk_c b n p)) (by unfold mk_dig; infer_instance) ((mk_nr b n 4 0 p).1, some (fun _ => (mk_nr b n 4 0 p).2, [(48, (mk_nr b n 4 0 p).2)])) (if mk_nmOf (mk_c b n p) < 0 then (p, none) else (p + 1, some (fun N => N (mk_nmOf (mk_c b n p)).toNatClampNeg, [(97, mk_nmOf (mk_c b n p))])))
def mk_neg (x : Int32) (e : mk_Ex) : mk_Ex := if x = 45 then (fun N => - (e.1 N), e.2 ++ [(110, 0)]) else (fun N => if e.1 N = 0 then 1 else 0, e.2 ++ [(33, 0)])
def mk_cls (b : Nat → Int32) (n : Nat) (t : mk_P) : mk_P := match t.2 with
  | none => t
  | some e => if mk_c b n t.1 = 41 then (t.1 + 1, some e) else (t.1, none)
def mk_opd (b : Nat → Int32) (n : Nat) : Nat → Nat → mk_P
  | 0 => fun p => if mk_c b n p = 40 ∨ mk_c b n p = 33 ∨ mk_c b n p = 45 then (p, none) else mk_atom b n p
  | o + 1 => fun p => if mk_c b n p = 40 then mk_cls b n (mk_ex5 b n (mk_opd b n o) (p + 1)) else if mk_c b n p = 33 ∨ mk_c b n p = 45 then ((mk_opd b n o (p + 1)).1, (mk_opd b n o (p + 1)).2.map (mk_neg (mk_c b n p))) else mk_atom b n p
/-- how a step changes the stack -/
def mk_step (N : Nat → Int32) (s : Int32 × Int32) (st : List Int32) : List Int32 :=
  if s.1 = 33 then (if st.headD 0 = 0 then 1 else 0) :: st.tail
  else if s.1 = 48 then s.2 :: st
  else if s.1 = 97 then (if s.2 < (0 : Int32) then 0 else if (7 : Int32) ≤ s.2 then 0 else N s.2.toNatClampNeg) :: st
  else if s.1 = 110 then (- st.headD 0) :: st.tail
  else mk_jo s.1 (st.tail.headD 0) (st.headD 0) :: st.tail.tail
def mk_run (N : Nat → Int32) : List (Int32 × Int32) → List Int32 → List Int32
  | [], st => st
  | s :: r, st => mk_run N r (mk_step N s st)
theorem mk_run_app (N : Nat → Int32) : ∀ a b st, mk_run N (a ++ b) st = mk_run N b (mk_run N a st)
  | [], b, st => rfl
  | s :: r, b, st => mk_run_app N r b (mk_step N s st)
def mk_Gd (n : Nat) (p : Nat) (t : mk_P) : Prop := p ≤ t.1 ∧ t.1 ≤ n ∧ ∀ e, t.2 = some e → p < t.1 ∧ e.2.length + p ≤ t.1 ∧ (∀ s, s ∈ e.2 → s.1 ≠ 59 ∧ s.1 ≠ 63) ∧ ∀ N st, mk_run N e.2 st = e.1 N :: st
def mk_Gf (n : Nat) (T : Nat → mk_P) : Prop := ∀ p, p ≤ n → mk_Gd n p (T p)
theorem mk_c_lt {b : Nat → Int32} {n i : Nat} (h : mk_c b n i ≠ -1) : i < n := by
  by_cases q : i < n
  · exact q
  · exact absurd (if_neg q) h
theorem mk_io_ne {L : Nat} {x : Int32} (h : mk_io L x) : x ≠ -1 ∧ x ≠ 59 ∧ x ≠ 63 ∧ x ≠ 33 ∧ x ≠ 48 ∧ x ≠ 97 ∧ x ≠ 110 := by
  have d : ∀ x : Int32, (x = 124 ∨ x = 38 ∨ x = 60 ∨ x = 61 ∨ x = 62 ∨ x = 43 ∨ x = 45 ∨ x = 42 ∨ x = 47 ∨ x = 37) → x ≠ -1 ∧ x ≠ 59 ∧ x ≠ 63 ∧ x ≠ 33 ∧ x ≠ 48 ∧ x ≠ 97 ∧ x ≠ 110 := by
    intro x hx
    rcases hx with q | q | q | q | q | q | q | q | q | q <;> (rw [q]; decide)
  refine d x ?_
  unfold mk_io f_X7_isOperator at h
  by_cases h0 : nI L = 0
  · rw [if_pos h0] at h
    by_cases q : x = 124
    · exact .inl q
    · exact absurd (if_neg q) h
  rw [if_neg h0] at h
  by_cases h1 : nI L = 1
  · rw [if_pos h1] at h
    by_cases q : x = 38
    · exact .inr (.inl q)
    · exact absurd (if_neg q) h
  rw [if_neg h1] at h
  by_cases h2 : nI L = 2
  · rw [if_pos h2] at h
    by_cases q : x = 60
    · exact .inr (.inr (.inl q))
    rw [if_neg q] at h
    by_cases q : x = 61
    · exact .inr (.inr (.inr (.inl q)))
    rw [if_neg q] at h
    by_cases q : x = 62
    · exact .inr (.inr (.inr (.inr (.inl q))))
    · exact absurd (if_neg q) h
  rw [if_neg h2] at h
  by_cases h3 : nI L = 3
  · rw [if_pos h3] at h
    by_cases q : x = 43
    · exact .inr (.inr (.inr (.inr (.inr (.inl q)))))
    rw [if_neg q] at h
    by_cases q : x = 45
    · exact .inr (.inr (.inr (.inr (.inr (.inr (.inl q))))))
    · exact absurd (if_neg q) h
  rw [if_neg h3] at h
  by_cases h4 : nI L = 4
  · rw [if_pos h4] at h
    by_cases q : x = 42
    · exact .inr (.inr (.inr (.inr (.inr (.inr (.inr (.inl q)))))))
    rw [if_neg q] at h
    by_cases q : x = 47
    · exact .inr (.inr (.inr (.inr (.inr (.inr (.inr (.inr (.inl q))))))))
    rw [if_neg q] at h
    by_cases q : x = 37
    · exact .inr (.inr (.inr (.inr (.inr (.inr (.inr (.inr (.inr q))))))))
    · exact absurd (if_neg q) h
  · exact absurd (if_neg h4) h
theorem mk_lp_none (b : Nat → Int32) (n : Nat) (T : Nat → mk_P) (L f p : Nat) : mk_lp b n T L f p none = (p, none) := by
  cases f <;> rfl
theorem mk_lp_stop {b : Nat → Int32} {n : Nat} {T : Nat → mk_P} {L f p : Nat} {e : mk_Ex} (h : ¬ mk_io L (mk_c b n p)) : mk_lp b n T L f p (some e) = (p, some e) := by
  cases f with
  | zero => rfl
  | succ f => exact if_neg h
theorem mk_lp_go {b : Nat → Int32} {n : Nat} {T : Nat → mk_P} {L f p : Nat} {e : mk_Ex} (h : mk_io L (mk_c b n p)) : mk_lp b n T L (f + 1) p (some e) = mk_lp b n T L f (mk_cmb (mk_c b n p) e (T (p + 1))).1 (mk_cmb (mk_c b n p) e (T (p + 1))).2 := if_pos h
theorem mk_step_jo (N : Nat → Int32) {L : Nat} {op : Int32} (h : mk_io L op) (x y : Int32) (st : List Int32) : mk_step N (op, 0) (y :: x :: st) = mk_jo op x y :: st := by
  obtain ⟨_, _, _, h1, h2, h3, h4⟩ := mk_io_ne h
  unfold mk_step
  rw [if_neg h1, if_neg h2, if_neg h3, if_neg h4]
  rfl
theorem mk_lp_good {b : Nat → Int32} {n : Nat} {T : Nat → mk_P} (hT : mk_Gf n T) (L : Nat) (p0 : Nat) : ∀ (f p : Nat) (o : Option mk_Ex), mk_Gd n p0 (p, o) → mk_Gd n p0 (mk_lp b n T L f p o)
  | f, p, none, h => by
    rw [mk_lp_none]
    exact h
  | 0, p, some e, h => h
  | f + 1, p, some e, h => by
    by_cases q : mk_io L (mk_c b n p)
    · rw [mk_lp_go q]
      have pn := mk_c_lt (mk_io_ne q).1
      have g := hT (p + 1) (by omega)
      obtain ⟨h1, h2, h3⟩ := h
      have h1' : p0 ≤ p := h1
      obtain ⟨g1, g2, g3⟩ := g
      refine mk_lp_good hT L p0 f _ _ ⟨?_, g2, fun e' he' => ?_⟩
      · show p0 ≤ (T (p + 1)).1
        omega
      · have he : (T (p + 1)).2.map (fun e2 : mk_Ex => ((fun N => mk_jo (mk_c b n p) (e.1 N) (e2.1 N), e.2 ++ e2.2 ++ [(mk_c b n p, 0)]) : mk_Ex)) = some e' := he'
        obtain ⟨e2, q2, q3⟩ := Option.map_eq_some_iff.mp he
        obtain ⟨k1, k2, k3, k4⟩ := g3 e2 q2
        obtain ⟨l1, l2, l3, l4⟩ := h3 e rfl
        have l1' : p0 < p := l1
        have l2' : e.2.length + p0 ≤ p := l2
        rw [← q3]
        refine ⟨?_, ?_, fun s hs => ?_, fun N st => ?_⟩
        · show p0 < (T (p + 1)).1
          omega
        · show (e.2 ++ e2.2 ++ [(mk_c b n p, (0 : Int32))]).length + p0 ≤ (T (p + 1)).1
          rw [List.length_append, List.length_append]
          show e.2.length + e2.2.length + 1 + p0 ≤ _
          omega
        · have hs' : s ∈ e.2 ++ e2.2 ++ [(mk_c b n p, (0 : Int32))] := hs
          rcases List.mem_append.mp hs' with z | z
          · rcases List.mem_append.mp z with z | z
            · exact l3 s z
            · exact k3 s z
          · have zs : s = (mk_c b n p, (0 : Int32)) := List.mem_singleton.mp z
            rw [zs]
            exact ⟨(mk_io_ne q).2.1, (mk_io_ne q).2.2.1⟩
        · show mk_run N (e.2 ++ e2.2 ++ [(mk_c b n p, (0 : Int32))]) st = _
          rw [mk_run_app, mk_run_app, l4, k4]
          exact mk_step_jo N q _ _ st
    · rw [mk_lp_stop q]
      exact h
theorem mk_jn_good {b : Nat → Int32} {n : Nat} {T : Nat → mk_P} (hT : mk_Gf n T) (L : Nat) : mk_Gf n (mk_jn b n T L) := fun p hp => mk_lp_good hT L p _ _ _ (hT p hp)
theorem mk_ex5_good {b : Nat → Int32} {n : Nat} {O : Nat → mk_P} (hO : mk_Gf n O) : mk_Gf n (mk_ex5 b n O) := mk_jn_good (mk_jn_good (mk_jn_good (mk_jn_good (mk_jn_good hO 4) 3) 2) 1) 0
theorem mk_dig_ne {x : Int32} (h : mk_dig x) : x ≠ -1 ∧ x ≠ 40 ∧ x ≠ 33 ∧ x ≠ 45 := by
  have e : ∀ y : Int32, y < 48 → ¬ mk_dig y := fun y hy q => q (if_pos hy)
  refine ⟨fun q => ?_, fun q => ?_, fun q => ?_, fun q => ?_⟩ <;> (rw [q] at h; exact e _ (by decide) h)
theorem mk_nr_good (b : Nat → Int32) (n : Nat) : ∀ (f : Nat) (v : Int32) (p : Nat), p ≤ n → p ≤ (mk_nr b n f v p).1 ∧ (mk_nr b n f v p).1 ≤ n
  | 0, v, p, h => ⟨Nat.le_refl _, h⟩
  | f + 1, v, p, h => by
    by_cases q : mk_dig (mk_c b n p)
    · have pn := mk_c_lt (mk_dig_ne q).1
      have e : mk_nr b n (f + 1) v p = mk_nr b n f (v * 10 + mk_c b n p - 48) (p + 1) := if_pos q
      rw [e]
      have := mk_nr_good b n f (v * 10 + mk_c b n p - 48) (p + 1) (by omega)
      omega
    · have e : mk_nr b n (f + 1) v p = (p, v) := if_neg q
      rw [e]
      exact ⟨Nat.le_refl _, h⟩
theorem mk_nmOf_r (x : Int32) (h : ¬ mk_nmOf x < 0) : ∃ k, k < 7 ∧ mk_nmOf x = nI k ∧ x ≠ -1 := by
  have neg : ∀ y : Int32, y = -1 → y < 0 := fun y hy => by rw [hy]; decide
  unfold mk_nmOf f_X10_nameOf at h ⊢
  by_cases q : x = 97
  · exact ⟨0, by omega, by rw [if_pos q]; rfl, by rw [q]; decide⟩
  rw [if_neg q] at h ⊢
  by_cases q : x = 98
  · rw [if_pos q] at h; exact absurd (neg _ rfl) h
  rw [if_neg q] at h ⊢
  by_cases q : x = 99
  · rw [if_pos q] at h; exact absurd (neg _ rfl) h
  rw [if_neg q] at h ⊢
  by_cases q : x = 100
  · rw [if_pos q] at h; exact absurd (neg _ rfl) h
  rw [if_neg q] at h ⊢
  by_cases q : x = 101
  · rw [if_pos q] at h; exact absurd (neg _ rfl) h
  rw [if_neg q] at h ⊢
  by_cases q : x = 102
  · rw [if_pos q] at h; exact absurd (neg _ rfl) h
  rw [if_neg q] at h ⊢
  by_cases q : x = 103
  · rw [if_pos q] at h; exact absurd (neg _ rfl) h
  rw [if_neg q] at h ⊢
  by_cases q : x = 104
  · exact ⟨3, by omega, by rw [if_pos q]; rfl, by rw [q]; decide⟩
  rw [if_neg q] at h ⊢
  by_cases q : x = 105
  · rw [if_pos q] at h; exact absurd (neg _ rfl) h
  rw [if_neg q] at h ⊢
  by_cases q : x = 106
  · rw [if_pos q] at h; exact absurd (neg _ rfl) h
  rw [if_neg q] at h ⊢
  by_cases q : x = 107
  · exact ⟨6, by omega, by rw [if_pos q]; rfl, by rw [q]; decide⟩
  rw [if_neg q] at h ⊢
  by_cases q : x = 108
  · rw [if_pos q] at h; exact absurd (neg _ rfl) h
  rw [if_neg q] at h ⊢
  by_cases q : x = 109
  · exact ⟨5, by omega, by rw [if_pos q]; rfl, by rw [q]; decide⟩
  rw [if_neg q] at h ⊢
  by_cases q : x = 110
  · rw [if_pos q] at h; exact absurd (neg _ rfl) h
  rw [if_neg q] at h ⊢
  by_cases q : x = 111
  · rw [if_pos q] at h; exact absurd (neg _ rfl) h
  rw [if_neg q] at h ⊢
  by_cases q : x = 112
  · exact ⟨4, by omega, by rw [if_pos q]; rfl, by rw [q]; decide⟩
  rw [if_neg q] at h ⊢
  by_cases q : x = 113
  · rw [if_pos q] at h; exact absurd (neg _ rfl) h
  rw [if_neg q] at h ⊢
  by_cases q : x = 114
  · rw [if_pos q] at h; exact absurd (neg _ rfl) h
  rw [if_neg q] at h ⊢
  by_cases q : x = 115
  · exact ⟨1, by omega, by rw [if_pos q]; rfl, by rw [q]; decide⟩
  rw [if_neg q] at h ⊢
  by_cases q : x = 116
  · rw [if_pos q] at h; exact absurd (neg _ rfl) h
  rw [if_neg q] at h ⊢
  by_cases q : x = 117
  · rw [if_pos q] at h; exact absurd (neg _ rfl) h
  rw [if_neg q] at h ⊢
  by_cases q : x = 118
  · rw [if_pos q] at h; exact absurd (neg _ rfl) h
  rw [if_neg q] at h ⊢
  by_cases q : x = 119
  · exact ⟨2, by omega, by rw [if_pos q]; rfl, by rw [q]; decide⟩
  rw [if_neg q] at h
  exact absurd (neg _ rfl) h
theorem mk_atom_good (b : Nat → Int32) (n : Nat) {p : Nat} (hp : p ≤ n) : mk_Gd n p (mk_atom b n p) := by
  unfold mk_atom
  by_cases q : mk_dig (mk_c b n p)
  · rw [if_pos q]
    have pn := mk_c_lt (mk_dig_ne q).1
    have e : mk_nr b n 4 0 p = mk_nr b n 3 (0 * 10 + mk_c b n p - 48) (p + 1) := if_pos q
    have g := mk_nr_good b n 3 (0 * 10 + mk_c b n p - 48) (p + 1) (by omega)
    rw [← e] at g
    refine ⟨by show p ≤ (mk_nr b n 4 0 p).1; omega, g.2, fun e' he => ?_⟩
    have he' := Option.some.inj he
    rw [← he']
    refine ⟨by show p < (mk_nr b n 4 0 p).1; omega, ?_, fun s hs => ?_, fun N st => ?_⟩
    · show 1 + p ≤ (mk_nr b n 4 0 p).1
      omega
    · have zs : s = ((48 : Int32), (mk_nr b n 4 0 p).2) := List.mem_singleton.mp hs
      rw [zs]
      exact ⟨by decide, by decide⟩
    · rfl
  · rw [if_neg q]
    by_cases q2 : mk_nmOf (mk_c b n p) < 0
    · rw [if_pos q2]
      exact ⟨Nat.le_refl _, hp, fun e he => by cases he⟩
    · rw [if_neg q2]
      obtain ⟨k, hk, ek, ne⟩ := mk_nmOf_r _ q2
      have pn := mk_c_lt ne
      refine ⟨by show p ≤ p + 1; omega, by show p + 1 ≤ n; omega, fun e' he => ?_⟩
      have he' := Option.some.inj he
      rw [← he']
      refine ⟨by show p < p + 1; omega, by show 1 + p ≤ p + 1; omega, fun s hs => ?_, fun N st => ?_⟩
      · have zs : s = ((97 : Int32), mk_nmOf (mk_c b n p)) := List.mem_singleton.mp hs
        rw [zs]
        exact ⟨by decide, by decide⟩
      · show (if mk_nmOf (mk_c b n p) < (0 : Int32) then 0 else if (7 : Int32) ≤ mk_nmOf (mk_c b n p) then 0 else N (mk_nmOf (mk_c b n p)).toNatClampNeg) :: st = _
        rw [if_neg q2, if_neg (by rw [ek]; exact nI_ge (a := k) (b := 7) hk (by omega))]
theorem mk_opd_good (b : Nat → Int32) (n : Nat) : ∀ o, mk_Gf n (mk_opd b n o)
  | 0 => fun p hp => by
    show mk_Gd n p (if mk_c b n p = 40 ∨ mk_c b n p = 33 ∨ mk_c b n p = 45 then (p, none) else mk_atom b n p)
    by_cases q : mk_c b n p = 40 ∨ mk_c b n p = 33 ∨ mk_c b n p = 45
    · rw [if_pos q]
      exact ⟨Nat.le_refl _, hp, fun e he => by cases he⟩
    · rw [if_neg q]
      exact mk_atom_good b n hp
  | o + 1 => fun p hp => by
    have ih := mk_opd_good b n o
    show mk_Gd n p (if mk_c b n p = 40 then mk_cls b n (mk_ex5 b n (mk_opd b n o) (p + 1)) else if mk_c b n p = 33 ∨ mk_c b n p = 45 then ((mk_opd b n o (p + 1)).1, (mk_opd b n o (p + 1)).2.map (mk_neg (mk_c b n p))) else mk_atom b n p)
    by_cases q : mk_c b n p = 40
    · rw [if_pos q]
      have pn : p < n := mk_c_lt (by rw [q]; decide)
      have g := mk_ex5_good (b := b) ih (p + 1) (by omega)
      obtain ⟨x, hx⟩ : ∃ x, x = mk_ex5 b n (mk_opd b n o) (p + 1) := ⟨_, rfl⟩
      rw [← hx] at g ⊢
      obtain ⟨p', oe⟩ := x
      obtain ⟨g1, g2, g3⟩ := g
      have g1' : p + 1 ≤ p' := g1
      have g2' : p' ≤ n := g2
      cases oe with
      | none => exact ⟨by show p ≤ p'; omega, g2, fun e he => by cases he⟩
      | some e =>
        show mk_Gd n p (if mk_c b n p' = 41 then (p' + 1, some e) else (p', none))
        obtain ⟨k1, k2, k3, k4⟩ := g3 e rfl
        have k2' : e.2.length + (p + 1) ≤ p' := k2
        by_cases q2 : mk_c b n p' = 41
        · rw [if_pos q2]
          have pn' : p' < n := mk_c_lt (by rw [q2]; decide)
          refine ⟨by show p ≤ p' + 1; omega, by show p' + 1 ≤ n; omega, fun e' he => ?_⟩
          have he' := Option.some.inj he
          rw [← he']
          exact ⟨by show p < p' + 1; omega, by show e.2.length + p ≤ p' + 1; omega, k3, k4⟩
        · rw [if_neg q2]
          exact ⟨by show p ≤ p'; omega, g2, fun e he => by cases he⟩
    · rw [if_neg q]
      by_cases q2 : mk_c b n p = 33 ∨ mk_c b n p = 45
      · rw [if_pos q2]
        have pn : p < n := mk_c_lt (by rcases q2 with z | z <;> (rw [z]; decide))
        obtain ⟨g1, g2, g3⟩ := ih (p + 1) (by omega)
        refine ⟨by show p ≤ (mk_opd b n o (p + 1)).1; omega, g2, fun e' he => ?_⟩
        obtain ⟨e, h1, h2⟩ := Option.map_eq_some_iff.mp (show (mk_opd b n o (p + 1)).2.map (mk_neg (mk_c b n p)) = some e' from he)
        obtain ⟨k1, k2, k3, k4⟩ := g3 e h1
        rw [← h2]
        unfold mk_neg
        by_cases q3 : mk_c b n p = 45
        · rw [if_pos q3]
          refine ⟨by show p < (mk_opd b n o (p + 1)).1; omega, ?_, fun s hs => ?_, fun N st => ?_⟩
          · show (e.2 ++ [((110 : Int32), (0 : Int32))]).length + p ≤ (mk_opd b n o (p + 1)).1
            rw [List.length_append]
            show e.2.length + 1 + p ≤ _
            omega
          · rcases List.mem_append.mp (show s ∈ e.2 ++ [((110 : Int32), (0 : Int32))] from hs) with z | z
            · exact k3 s z
            · rw [List.mem_singleton.mp z]
              exact ⟨by decide, by decide⟩
          · show mk_run N (e.2 ++ [((110 : Int32), (0 : Int32))]) st = _
            rw [mk_run_app, k4]
            rfl
        · rw [if_neg q3]
          refine ⟨by show p < (mk_opd b n o (p + 1)).1; omega, ?_, fun s hs => ?_, fun N st => ?_⟩
          · show (e.2 ++ [((33 : Int32), (0 : Int32))]).length + p ≤ (mk_opd b n o (p + 1)).1
            rw [List.length_append]
            show e.2.length + 1 + p ≤ _
            omega
          · rcases List.mem_append.mp (show s ∈ e.2 ++ [((33 : Int32), (0 : Int32))] from hs) with z | z
            · exact k3 s z
            · rw [List.mem_singleton.mp z]
              exact ⟨by decide, by decide⟩
          · show mk_run N (e.2 ++ [((33 : Int32), (0 : Int32))]) st = _
            rw [mk_run_app, k4]
            rfl
      · rw [if_neg q2]
        exact mk_atom_good b n hp
