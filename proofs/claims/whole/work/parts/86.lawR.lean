-- law: the reference's state while it reads
def ml_Z10 (x y : Nat) : Prop := x = 64 ∧ (y = 20 ∨ y = 22 ∨ y = 23)
def ml_RS (b : Nat → Int32) (n : Nat) (N : Nat → Int32) (β : mj_S) : Prop := n ≤ 120 ∧ β.1 64 21 = nI n ∧ ((β.1 64 19 = -1 ∧ ∀ i, i < n → β.1 75 i = b i) ∨ (β.1 64 19 = 0 ∧ ∀ i, i < n → β.1 76 i = b i)) ∧ ∀ k, k < 7 → β.1 77 k = N k
theorem ml_RSf {b : Nat → Int32} {n : Nat} {N : Nat → Int32} {β β' : mj_S} (h : ml_RS b n N β) (q : mk_fr ml_Z10 β β') : ml_RS b n N β' := by
  refine ⟨h.1, (q.1 64 21 (by unfold ml_Z10; omega)).trans h.2.1, ?_, fun k hk => (q.1 77 k (by unfold ml_Z10; omega)).trans (h.2.2.2 k hk)⟩
  rcases h.2.2.1 with ⟨a1, a2⟩ | ⟨a1, a2⟩
  · exact .inl ⟨(q.1 64 19 (by unfold ml_Z10; omega)).trans a1, fun i hi => (q.1 75 i (by unfold ml_Z10; omega)).trans (a2 i hi)⟩
  · exact .inr ⟨(q.1 64 19 (by unfold ml_Z10; omega)).trans a1, fun i hi => (q.1 76 i (by unfold ml_Z10; omega)).trans (a2 i hi)⟩
def ml_c0 (b : Nat → Int32) (n p : Nat) : Int32 := if p < n then b p else 0
theorem ml_c0_eq {b : Nat → Int32} {n p : Nat} {x : Int32} (h0 : x ≠ 0) (h1 : x ≠ -1) : ml_c0 b n p = x ↔ ml_c b n p = x := by
  unfold ml_c0 ml_c
  by_cases q : p < n
  · rw [if_pos q, if_pos q]
  · rw [if_neg q, if_neg q]
    exact ⟨fun z => absurd z.symm h0, fun z => absurd z.symm h1⟩
theorem ml_byteAt {b : Nat → Int32} {n p : Nat} {N : Nat → Int32} {β : mj_S} (h : ml_RS b n N β) (e : β.1 64 20 = nI p) (hp : p ≤ n) : f_X10_byteAt β = some (ml_c0 b n p) := by
  have hn := h.1
  unfold f_X10_byteAt ml_c0
  rw [e, h.2.1]
  by_cases q : p < n
  · have i : 0 ≤ (nI p).toInt ∧ (nI p).toInt < 120 := by
      rw [nI_toInt (by omega)]
      omega
    rw [if_neg (nI_ge q (by omega)), if_pos q]
    rcases h.2.2.1 with ⟨a1, a2⟩ | ⟨a1, a2⟩
    · rw [a1, if_neg (show ¬ (0 : Int32) ≤ -1 by decide), if_pos i, nI_clamp (by omega), a2 p q]
    · rw [a1, Int32.zero_add, if_pos (show (0 : Int32) ≤ 0 by decide), if_pos i, nI_clamp (by omega), a2 p q]
  · rw [if_pos (nI_le (by omega) (by omega)), if_neg q]
theorem ml_takes {b : Nat → Int32} {n p : Nat} {N : Nat → Int32} {β : mj_S} (h : ml_RS b n N β) (e : β.1 64 20 = nI p) (hp : p ≤ n) (ef : β.1 64 22 = -1) {x : Int32} (h0 : x ≠ 0) (h1 : x ≠ -1) : f_X10_takes β x = if ml_c b n p = x then some (1, mj_sI β 64 20 (nI (p + 1))) else some (0, β) := by
  have e1 : nI p + 1 = nI (p + 1) := nI_add p 1
  unfold f_X10_takes
  rw [ef, if_neg (show ¬ (0 : Int32) ≤ -1 by decide), ml_byteAt h e hp, mk_bs, e, e1]
  by_cases q : ml_c b n p = x
  · rw [if_pos ((ml_c0_eq h0 h1).mpr q), if_pos q]
  · rw [if_neg (fun z => q ((ml_c0_eq h0 h1).mp z)), if_neg q]
theorem ml_takesF {β : mj_S} {q : Nat} (hq : q < 2 ^ 31) (ef : β.1 64 22 = nI q) (x : Int32) : f_X10_takes β x = some (0, β) := by
  have e0 : (0 : Int32).toInt = 0 := rfl
  unfold f_X10_takes
  rw [ef, if_pos (show (0 : Int32) ≤ nI q by rw [mk_lee, e0, nI_toInt hq]; omega)]
theorem ml_ge0 {q : Nat} (hq : q < 2 ^ 31) : (0 : Int32) ≤ nI q := by
  have e0 : (0 : Int32).toInt = 0 := rfl
  rw [mk_lee, e0, nI_toInt hq]
  omega
theorem ml_lt0 {q : Nat} (hq : q < 2 ^ 31) : ¬ nI q < (0 : Int32) := nI_pos (by omega)
/-- what the reference's reading gives -/
def ml_rr (N : Nat → Int32) (od : Nat) (β : mj_S) (t : ml_P) (x : Int32) (β' : mj_S) : Prop := mk_fr ml_Z10 β β' ∧ β'.1 64 20 = nI t.1 ∧ ((t.2 = none ∧ β'.1 64 22 = nI t.1) ∨ ∃ e, t.2 = some e ∧ x = e.1 N ∧ β'.1 64 22 = -1 ∧ β'.1 64 23 = nI od)
def ml_SR (b : Nat → Int32) (n : Nat) (N : Nat → Int32) (od : Nat) (F : mj_S → Option (Int32 × mj_S)) (P : Nat → ml_P) : Prop := ∀ β p, ml_RS b n N β → β.1 64 20 = nI p → β.1 64 22 = -1 → β.1 64 23 = nI od → p ≤ n → ∃ x β', F β = some (x, β') ∧ ml_rr N od β (P p) x β'
theorem ml_lp0 (b : Nat → Int32) (n : Nat) (T : Nat → ml_P) (L u : Nat) (o : Option ml_Ex) : ml_lp b n T L 0 u o = (u, o) := by cases o <;> rfl
theorem ml_cmb_good {b : Nat → Int32} {n : Nat} {T : Nat → ml_P} (hT : ml_Gf n T) {L p p' : Nat} {e : ml_Ex} (g : ml_Gd n p (p', some e)) (q : ml_io L (ml_c b n p')) : ml_Gd n p (ml_cmb (ml_c b n p') e (T (p' + 1))) := by
  have := ml_lp_good (b := b) hT L p 1 p' (some e) g
  rw [ml_lp_go q, ml_lp0] at this
  exact this
/-- one operator taken and its right side read: both sides joined -/
theorem ml_oneR {b : Nat → Int32} {n : Nat} {N : Nat → Int32} {od : Nat} {T : Nat → ml_P} (hT : ml_Gf n T) {L : Nat} {F : mj_S → Option (Int32 × mj_S)} (hS : ml_SR b n N od F T) {β0 β : mj_S} (h0 : ml_RS b n N β0) {p p' : Nat} {e : ml_Ex} (g : ml_Gd n p (p', some e)) (f : mk_fr ml_Z10 β0 β) (e4 : β.1 64 20 = nI p') (ef : β.1 64 22 = -1) (eo : β.1 64 23 = nI od) (q : ml_io L (ml_c b n p')) : ∃ x2 β2, F (mj_sI β 64 20 (nI (p' + 1))) = some (x2, β2) ∧ mk_fr ml_Z10 β0 β2 ∧ β2.1 64 20 = nI (T (p' + 1)).1 ∧ p' + 1 ≤ (T (p' + 1)).1 ∧ (T (p' + 1)).1 ≤ n ∧ ∀ y, (∀ e2, (T (p' + 1)).2 = some e2 → x2 = e2.1 N → y = ml_jo (ml_c b n p') (e.1 N) x2) → ml_rr N od β0 (ml_cmb (ml_c b n p') e (T (p' + 1))) y β2 := by
  have hn := h0.1
  have pn := ml_c_lt (ml_io_ne q).1
  obtain ⟨g1, g2, g3⟩ := hT (p' + 1) (by omega)
  have f1 : mk_fr ml_Z10 β (mj_sI β 64 20 (nI (p' + 1))) := mk_frI (by unfold ml_Z10; omega)
  obtain ⟨x2, β2, s1, s2, s3, s4⟩ := hS (mj_sI β 64 20 (nI (p' + 1))) (p' + 1) (ml_RSf h0 (mk_frt f f1)) (by rw [mk_g, if_pos ⟨rfl, rfl⟩]) (by rw [mk_g, if_neg (by omega)]; exact ef) (by rw [mk_g, if_neg (by omega)]; exact eo) (by omega)
  refine ⟨x2, β2, s1, mk_frt f (mk_frt f1 s2), s3, g1, g2, fun y hy => ⟨mk_frt f (mk_frt f1 s2), s3, ?_⟩⟩
  rcases s4 with ⟨n1, n2⟩ | ⟨e2, n1, n2, n3, n4⟩
  · refine .inl ⟨?_, n2⟩
    show (T (p' + 1)).2.map _ = none
    rw [n1]
    rfl
  · refine .inr ⟨((fun N => ml_jo (ml_c b n p') (e.1 N) (e2.1 N)), e.2 ++ e2.2 ++ [(ml_c b n p', 0)]), ?_, ?_, n3, n4⟩
    · show (T (p' + 1)).2.map _ = _
      rw [n1]
      rfl
    · show y = ml_jo (ml_c b n p') (e.1 N) (e2.1 N)
      rw [hy e2 n1 n2, n2]
theorem ml_either {b : Nat → Int32} {n : Nat} {N : Nat → Int32} {od : Nat} {T : Nat → ml_P} (hT : ml_Gf n T) {rec : Nat → mj_S → Option (Int32 × mj_S)} (hS : ml_SR b n N od (rec 1) T) {β0 : mj_S} (h0 : ml_RS b n N β0) {p : Nat} : ∀ (fp f p' : Nat) (o : Option ml_Ex) (x : Int32) (β : mj_S), 120 ≤ fp + p' → fp < f → ml_Gd n p (p', o) → ml_rr N od β0 (p', o) x β → ∃ x' β', b_X10_either_5 rec f x β = some (x', β') ∧ ml_rr N od β0 (ml_lp b n T 0 fp p' o) x' β'
  | fp, 0, p', o, x, β, _, hf, _, _ => absurd hf (by omega)
  | fp, f + 1, p', none, x, β, hb, hf, hG, hr => by
    have hn := h0.1
    have g2 : p' ≤ n := hG.2.1
    obtain ⟨f1, r4, r5⟩ := hr
    rcases r5 with ⟨_, hx⟩ | ⟨e, he, _⟩
    · rw [ml_lp_none]
      refine ⟨x, β, ?_, f1, r4, .inl ⟨rfl, hx⟩⟩
      unfold b_X10_either_5
      rw [ml_takesF (by omega) hx, mk_bs, if_pos rfl]
    · exact absurd (show (none : Option ml_Ex) = some e from he) (by intro z; cases z)
  | fp, f + 1, p', some e, x, β, hb, hf, hG, hr => by
    have hn := h0.1
    have g2 : p' ≤ n := hG.2.1
    obtain ⟨f1, r4, r5⟩ := hr
    have r4' : β.1 64 20 = nI p' := r4
    rcases r5 with ⟨he, _⟩ | ⟨e', he, hx, ef, eo⟩
    · exact absurd (show some e = (none : Option ml_Ex) from he) (by intro z; cases z)
    have ee : e = e' := Option.some.inj (show some e = some e' from he)
    rw [← ee] at hx
    unfold b_X10_either_5
    rw [ml_takes (ml_RSf h0 f1) r4' g2 ef (by decide) (by decide)]
    by_cases q : ml_io 0 (ml_c b n p')
    · have pn := ml_c_lt (ml_io_ne q).1
      have qc := (ml_io0 _).mp q
      obtain ⟨fp', rfl⟩ : ∃ fp', fp = fp' + 1 := ⟨fp - 1, by omega⟩
      obtain ⟨x2, β2, s1, s2, s3, s4, s5, s6⟩ := ml_oneR hT hS h0 hG f1 r4' ef eo q
      rw [if_pos qc, mk_bs, if_neg (show ¬ (1 : Int32) = 0 by decide), ml_lp_go q]
      show ∃ x' β', ((rec 1 (mj_sI β 64 20 (nI (p' + 1)))).bind _) = _ ∧ _
      rw [s1, mk_bs]
      have nx : ∀ y, (∀ e2, (T (p' + 1)).2 = some e2 → x2 = e2.1 N → y = ml_jo (ml_c b n p') (e.1 N) x2) → ∃ x' β', b_X10_either_5 rec f y β2 = some (x', β') ∧ ml_rr N od β0 (ml_lp b n T 0 fp' (ml_cmb (ml_c b n p') e (T (p' + 1))).1 (ml_cmb (ml_c b n p') e (T (p' + 1))).2) x' β' :=
        fun y hy => ml_either hT hS h0 fp' f _ _ y β2 (by show 120 ≤ fp' + (T (p' + 1)).1; omega) (by omega) (ml_cmb_good hT hG q) (s6 y hy)
      show ∃ x' β', (if x = 0 then (if x2 = 0 then b_X10_either_5 rec f 0 β2 else b_X10_either_5 rec f 1 β2) else b_X10_either_5 rec f 1 β2) = some (x', β') ∧ _
      have jv : ml_jo (ml_c b n p') (e.1 N) x2 = if x = 0 then (if x2 = 0 then 0 else 1) else 1 := by
        rw [qc, ml_jo124, hx]
      by_cases z : x = 0
      · rw [if_pos z] at jv
        rw [if_pos z]
        by_cases z2 : x2 = 0
        · rw [if_pos z2] at jv
          rw [if_pos z2]
          exact nx 0 (fun _ _ _ => jv.symm)
        · rw [if_neg z2] at jv
          rw [if_neg z2]
          exact nx 1 (fun _ _ _ => jv.symm)
      · rw [if_neg z] at jv
        rw [if_neg z]
        exact nx 1 (fun _ _ _ => jv.symm)
    · rw [if_neg (fun z => q ((ml_io0 _).mpr z)), mk_bs, if_pos rfl, ml_lp_stop q]
      exact ⟨x, β, rfl, f1, r4, .inr ⟨e, rfl, hx, ef, eo⟩⟩
theorem ml_both {b : Nat → Int32} {n : Nat} {N : Nat → Int32} {od : Nat} {T : Nat → ml_P} (hT : ml_Gf n T) {rec : Nat → mj_S → Option (Int32 × mj_S)} (hS : ml_SR b n N od (rec 2) T) {β0 : mj_S} (h0 : ml_RS b n N β0) {p : Nat} : ∀ (fp f p' : Nat) (o : Option ml_Ex) (x : Int32) (β : mj_S), 120 ≤ fp + p' → fp < f → ml_Gd n p (p', o) → ml_rr N od β0 (p', o) x β → ∃ x' β', b_X10_both_5 rec f x β = some (x', β') ∧ ml_rr N od β0 (ml_lp b n T 1 fp p' o) x' β'
  | fp, 0, p', o, x, β, _, hf, _, _ => absurd hf (by omega)
  | fp, f + 1, p', none, x, β, hb, hf, hG, hr => by
    have hn := h0.1
    have g2 : p' ≤ n := hG.2.1
    obtain ⟨f1, r4, r5⟩ := hr
    rcases r5 with ⟨_, hx⟩ | ⟨e, he, _⟩
    · rw [ml_lp_none]
      refine ⟨x, β, ?_, f1, r4, .inl ⟨rfl, hx⟩⟩
      unfold b_X10_both_5
      rw [ml_takesF (by omega) hx, mk_bs, if_pos rfl]
    · exact absurd (show (none : Option ml_Ex) = some e from he) (by intro z; cases z)
  | fp, f + 1, p', some e, x, β, hb, hf, hG, hr => by
    have hn := h0.1
    have g2 : p' ≤ n := hG.2.1
    obtain ⟨f1, r4, r5⟩ := hr
    have r4' : β.1 64 20 = nI p' := r4
    rcases r5 with ⟨he, _⟩ | ⟨e', he, hx, ef, eo⟩
    · exact absurd (show some e = (none : Option ml_Ex) from he) (by intro z; cases z)
    have ee : e = e' := Option.some.inj (show some e = some e' from he)
    rw [← ee] at hx
    unfold b_X10_both_5
    rw [ml_takes (ml_RSf h0 f1) r4' g2 ef (by decide) (by decide)]
    by_cases q : ml_io 1 (ml_c b n p')
    · have pn := ml_c_lt (ml_io_ne q).1
      have qc := (ml_io1 _).mp q
      obtain ⟨fp', rfl⟩ : ∃ fp', fp = fp' + 1 := ⟨fp - 1, by omega⟩
      obtain ⟨x2, β2, s1, s2, s3, s4, s5, s6⟩ := ml_oneR hT hS h0 hG f1 r4' ef eo q
      rw [if_pos qc, mk_bs, if_neg (show ¬ (1 : Int32) = 0 by decide), ml_lp_go q]
      show ∃ x' β', ((rec 2 (mj_sI β 64 20 (nI (p' + 1)))).bind _) = _ ∧ _
      rw [s1, mk_bs]
      have nx : ∀ y, (∀ e2, (T (p' + 1)).2 = some e2 → x2 = e2.1 N → y = ml_jo (ml_c b n p') (e.1 N) x2) → ∃ x' β', b_X10_both_5 rec f y β2 = some (x', β') ∧ ml_rr N od β0 (ml_lp b n T 1 fp' (ml_cmb (ml_c b n p') e (T (p' + 1))).1 (ml_cmb (ml_c b n p') e (T (p' + 1))).2) x' β' :=
        fun y hy => ml_both hT hS h0 fp' f _ _ y β2 (by show 120 ≤ fp' + (T (p' + 1)).1; omega) (by omega) (ml_cmb_good hT hG q) (s6 y hy)
      show ∃ x' β', (if x = 0 then b_X10_both_5 rec f 0 β2 else (if x2 = 0 then b_X10_both_5 rec f 0 β2 else b_X10_both_5 rec f 1 β2)) = some (x', β') ∧ _
      have jv : ml_jo (ml_c b n p') (e.1 N) x2 = if x = 0 then 0 else (if x2 = 0 then 0 else 1) := by
        rw [qc, ml_jo38, hx]
      by_cases z : x = 0
      · rw [if_pos z] at jv
        rw [if_pos z]
        exact nx 0 (fun _ _ _ => jv.symm)
      · rw [if_neg z] at jv
        rw [if_neg z]
        by_cases z2 : x2 = 0
        · rw [if_pos z2] at jv
          rw [if_pos z2]
          exact nx 0 (fun _ _ _ => jv.symm)
        · rw [if_neg z2] at jv
          rw [if_neg z2]
          exact nx 1 (fun _ _ _ => jv.symm)
    · rw [if_neg (fun z => q ((ml_io1 _).mpr z)), mk_bs, if_pos rfl, ml_lp_stop q]
      exact ⟨x, β, rfl, f1, r4, .inr ⟨e, rfl, hx, ef, eo⟩⟩
theorem ml_sums {b : Nat → Int32} {n : Nat} {N : Nat → Int32} {od : Nat} {T : Nat → ml_P} (hT : ml_Gf n T) {rec : Nat → mj_S → Option (Int32 × mj_S)} (hS : ml_SR b n N od (rec 4) T) {β0 : mj_S} (h0 : ml_RS b n N β0) {p : Nat} : ∀ (fp f p' : Nat) (o : Option ml_Ex) (x : Int32) (β : mj_S), 120 ≤ fp + p' → fp < f → ml_Gd n p (p', o) → ml_rr N od β0 (p', o) x β → ∃ x' β', b_X10_sums_5 rec f x β = some (x', β') ∧ ml_rr N od β0 (ml_lp b n T 3 fp p' o) x' β'
  | fp, 0, p', o, x, β, _, hf, _, _ => absurd hf (by omega)
  | fp, f + 1, p', none, x, β, hb, hf, hG, hr => by
    have hn := h0.1
    have g2 : p' ≤ n := hG.2.1
    obtain ⟨f1, r4, r5⟩ := hr
    rcases r5 with ⟨_, hx⟩ | ⟨e, he, _⟩
    · rw [ml_lp_none]
      refine ⟨x, β, ?_, f1, r4, .inl ⟨rfl, hx⟩⟩
      have hx' : β.1 64 22 = nI p' := hx
      unfold b_X10_sums_5
      rw [hx', if_pos (ml_ge0 (by omega))]
    · exact absurd (show (none : Option ml_Ex) = some e from he) (by intro z; cases z)
  | fp, f + 1, p', some e, x, β, hb, hf, hG, hr => by
    have hn := h0.1
    have g2 : p' ≤ n := hG.2.1
    obtain ⟨f1, r4, r5⟩ := hr
    have r4' : β.1 64 20 = nI p' := r4
    rcases r5 with ⟨he, _⟩ | ⟨e', he, hx, ef, eo⟩
    · exact absurd (show some e = (none : Option ml_Ex) from he) (by intro z; cases z)
    have ee : e = e' := Option.some.inj (show some e = some e' from he)
    rw [← ee] at hx
    have bt := ml_byteAt (ml_RSf h0 f1) r4' g2
    have c43 : ml_c0 b n p' = 43 ↔ ml_c b n p' = 43 := ml_c0_eq (by decide) (by decide)
    have c45 : ml_c0 b n p' = 45 ↔ ml_c b n p' = 45 := ml_c0_eq (by decide) (by decide)
    unfold b_X10_sums_5
    rw [ef, if_neg (show ¬ (0 : Int32) ≤ -1 by decide), bt, mk_bs, mk_bs]
    by_cases q : ml_io 3 (ml_c b n p')
    · have pn := ml_c_lt (ml_io_ne q).1
      have qc := (ml_io3 _).mp q
      obtain ⟨fp', rfl⟩ : ∃ fp', fp = fp' + 1 := ⟨fp - 1, by omega⟩
      obtain ⟨x2, β2, s1, s2, s3, s4, s5, s6⟩ := ml_oneR hT hS h0 hG f1 r4' ef eo q
      have e1 : nI p' + 1 = nI (p' + 1) := nI_add p' 1
      rw [ml_lp_go q]
      have nx : ∀ y, (∀ e2, (T (p' + 1)).2 = some e2 → x2 = e2.1 N → y = ml_jo (ml_c b n p') (e.1 N) x2) → ∃ x' β', b_X10_sums_5 rec f y β2 = some (x', β') ∧ ml_rr N od β0 (ml_lp b n T 3 fp' (ml_cmb (ml_c b n p') e (T (p' + 1))).1 (ml_cmb (ml_c b n p') e (T (p' + 1))).2) x' β' :=
        fun y hy => ml_sums hT hS h0 fp' f _ _ y β2 (by show 120 ≤ fp' + (T (p' + 1)).1; omega) (by omega) (ml_cmb_good hT hG q) (s6 y hy)
      have s44 : ∀ t, b_X10_sums_44 rec (b_X10_sums_5 rec f) x t β = if t = 0 then b_X10_sums_5 rec f (x - x2) β2 else b_X10_sums_5 rec f (x + x2) β2 := by
        intro t
        unfold b_X10_sums_44
        rw [r4', e1, s1, mk_bs]
      by_cases z : ml_c b n p' = 43
      · rw [if_pos (c43.mpr z)]
        unfold b_X10_sums_30
        rw [bt, mk_bs, if_pos (c43.mpr z), s44, if_neg (show ¬ (1 : Int32) = 0 by decide)]
        exact nx _ (fun _ _ _ => by rw [z, ml_jo43, hx])
      · have z45 : ml_c b n p' = 45 := by
          rcases qc with y | y
          · exact absurd y z
          · exact y
        rw [if_neg (fun y => z (c43.mp y)), if_pos (c45.mpr z45)]
        unfold b_X10_sums_30
        rw [bt, mk_bs, if_neg (fun y => z (c43.mp y)), s44, if_pos rfl]
        exact nx _ (fun _ _ _ => by rw [z45, ml_jo45, hx])
    · have n43 : ¬ ml_c0 b n p' = 43 := fun y => q ((ml_io3 _).mpr (.inl (c43.mp y)))
      have n45 : ¬ ml_c0 b n p' = 45 := fun y => q ((ml_io3 _).mpr (.inr (c45.mp y)))
      rw [if_neg n43, if_neg n45, ml_lp_stop q]
      exact ⟨x, β, rfl, f1, r4, .inr ⟨e, rfl, hx, ef, eo⟩⟩
theorem ml_product {b : Nat → Int32} {n : Nat} {N : Nat → Int32} {od : Nat} {T : Nat → ml_P} (hT : ml_Gf n T) {rec : Nat → mj_S → Option (Int32 × mj_S)} (hS : ml_SR b n N od (rec 5) T) {β0 : mj_S} (h0 : ml_RS b n N β0) {p : Nat} : ∀ (fp f p' : Nat) (o : Option ml_Ex) (x : Int32) (β : mj_S), 120 ≤ fp + p' → fp < f → ml_Gd n p (p', o) → ml_rr N od β0 (p', o) x β → ∃ x' β', b_X10_product_10 rec f x (ml_c0 b n p') β = some (x', β') ∧ ml_rr N od β0 (ml_lp b n T 4 fp p' o) x' β'
  | fp, 0, p', o, x, β, _, hf, _, _ => absurd hf (by omega)
  | fp, f + 1, p', none, x, β, hb, hf, hG, hr => by
    have hn := h0.1
    have g2 : p' ≤ n := hG.2.1
    obtain ⟨f1, r4, r5⟩ := hr
    rcases r5 with ⟨_, hx⟩ | ⟨e, he, _⟩
    · rw [ml_lp_none]
      refine ⟨x, β, ?_, f1, r4, .inl ⟨rfl, hx⟩⟩
      have hx' : β.1 64 22 = nI p' := hx
      unfold b_X10_product_10
      rw [hx', if_pos (ml_ge0 (by omega))]
    · exact absurd (show (none : Option ml_Ex) = some e from he) (by intro z; cases z)
  | fp, f + 1, p', some e, x, β, hb, hf, hG, hr => by
    have hn := h0.1
    have g2 : p' ≤ n := hG.2.1
    obtain ⟨f1, r4, r5⟩ := hr
    have r4' : β.1 64 20 = nI p' := r4
    rcases r5 with ⟨he, _⟩ | ⟨e', he, hx, ef, eo⟩
    · exact absurd (show some e = (none : Option ml_Ex) from he) (by intro z; cases z)
    have ee : e = e' := Option.some.inj (show some e = some e' from he)
    rw [← ee] at hx
    have c42 : ml_c0 b n p' = 42 ↔ ml_c b n p' = 42 := ml_c0_eq (by decide) (by decide)
    have c47 : ml_c0 b n p' = 47 ↔ ml_c b n p' = 47 := ml_c0_eq (by decide) (by decide)
    have c37 : ml_c0 b n p' = 37 ↔ ml_c b n p' = 37 := ml_c0_eq (by decide) (by decide)
    unfold b_X10_product_10
    rw [ef, if_neg (show ¬ (0 : Int32) ≤ -1 by decide)]
    by_cases q : ml_io 4 (ml_c b n p')
    · have pn := ml_c_lt (ml_io_ne q).1
      have qc := (ml_io4 _).mp q
      obtain ⟨fp', rfl⟩ : ∃ fp', fp = fp' + 1 := ⟨fp - 1, by omega⟩
      obtain ⟨x2, β2, s1, s2, s3, s4, s5, s6⟩ := ml_oneR hT hS h0 hG f1 r4' ef eo q
      have e1 : nI p' + 1 = nI (p' + 1) := nI_add p' 1
      rw [ml_lp_go q]
      have bt2 := ml_byteAt (ml_RSf h0 s2) s3 s5
      have nx : ∀ y, (∀ e2, (T (p' + 1)).2 = some e2 → x2 = e2.1 N → y = ml_jo (ml_c b n p') (e.1 N) x2) → ∃ x' β', b_X10_product_85 rec (b_X10_product_10 rec f) y β2 = some (x', β') ∧ ml_rr N od β0 (ml_lp b n T 4 fp' (ml_cmb (ml_c b n p') e (T (p' + 1))).1 (ml_cmb (ml_c b n p') e (T (p' + 1))).2) x' β' := by
        intro y hy
        unfold b_X10_product_85
        rw [bt2, mk_bs]
        exact ml_product hT hS h0 fp' f _ _ y β2 (by show 120 ≤ fp' + (T (p' + 1)).1; omega) (by omega) (ml_cmb_good hT hG q) (s6 y hy)
      have s35 : ∀ t, b_X10_product_35 rec (b_X10_product_10 rec f) x t β = (if t = 42 then b_X10_product_85 rec (b_X10_product_10 rec f) (x * x2) β2 else (if x2 = 0 then b_X10_product_85 rec (b_X10_product_10 rec f) 0 β2 else (if t = 47 then (if x2 = 0 then none else b_X10_product_85 rec (b_X10_product_10 rec f) (x / x2) β2) else (if x2 = 0 then none else b_X10_product_85 rec (b_X10_product_10 rec f) (mj_rem x x2) β2)))) := by
        intro t
        unfold b_X10_product_35
        rw [r4', e1, s1, mk_bs]
      by_cases z : ml_c b n p' = 42
      · rw [if_pos (c42.mpr z), s35, if_pos (c42.mpr z)]
        exact nx _ (fun _ _ _ => by rw [z, ml_jo42, hx])
      rw [if_neg (fun y => z (c42.mp y))]
      by_cases z7 : ml_c b n p' = 47
      · rw [if_pos (c47.mpr z7), s35, if_neg (fun y => z (c42.mp y)), if_pos (c47.mpr z7)]
        by_cases w0 : x2 = 0
        · rw [if_pos w0]
          exact nx _ (fun _ _ _ => by rw [z7, ml_jo47, if_pos w0])
        · rw [if_neg w0, if_neg w0]
          exact nx _ (fun _ _ _ => by rw [z7, ml_jo47, if_neg w0, hx])
      · have z37 : ml_c b n p' = 37 := by
          rcases qc with y | y | y
          · exact absurd y z
          · exact absurd y z7
          · exact y
        rw [if_neg (fun y => z7 (c47.mp y)), if_pos (c37.mpr z37), s35, if_neg (fun y => z (c42.mp y)), if_neg (fun y => z7 (c47.mp y))]
        by_cases w0 : x2 = 0
        · rw [if_pos w0]
          exact nx _ (fun _ _ _ => by rw [z37, ml_jo37, if_pos w0])
        · rw [if_neg w0, if_neg w0]
          exact nx _ (fun _ _ _ => by rw [z37, ml_jo37, if_neg w0, hx])
    · have n42 : ¬ ml_c0 b n p' = 42 := fun y => q ((ml_io4 _).mpr (.inl (c42.mp y)))
      have n47 : ¬ ml_c0 b n p' = 47 := fun y => q ((ml_io4 _).mpr (.inr (.inl (c47.mp y))))
      have n37 : ¬ ml_c0 b n p' = 37 := fun y => q ((ml_io4 _).mpr (.inr (.inr (c37.mp y))))
      rw [if_neg n42, if_neg n47, if_neg n37, ml_lp_stop q]
      exact ⟨x, β, rfl, f1, r4, .inr ⟨e, rfl, hx, ef, eo⟩⟩
theorem ml_eitherR {b : Nat → Int32} {n : Nat} {N : Nat → Int32} {od : Nat} {T : Nat → ml_P} (hT : ml_Gf n T) {rec : Nat → mj_S → Option (Int32 × mj_S)} (hS : ml_SR b n N od (rec 1) T) : ml_SR b n N od (fun β => F_X10_either rec β) (ml_jn b n T 0) := by
  intro β p h e4 ef eo hp
  obtain ⟨x, β1, s1, s2⟩ := hS β p h e4 ef eo hp
  show ∃ x β', F_X10_either rec β = some (x, β') ∧ ml_rr N od β (ml_lp b n T 0 120 (T p).1 (T p).2) x β'
  unfold F_X10_either
  rw [s1, mk_bs]
  exact ml_either hT hS h 120 mj_fu (T p).1 (T p).2 x β1 (by omega) (by show 120 < 5000; omega) (hT p hp) s2
theorem ml_bothR {b : Nat → Int32} {n : Nat} {N : Nat → Int32} {od : Nat} {T : Nat → ml_P} (hT : ml_Gf n T) {rec : Nat → mj_S → Option (Int32 × mj_S)} (hS : ml_SR b n N od (rec 2) T) : ml_SR b n N od (fun β => F_X10_both rec β) (ml_jn b n T 1) := by
  intro β p h e4 ef eo hp
  obtain ⟨x, β1, s1, s2⟩ := hS β p h e4 ef eo hp
  show ∃ x β', F_X10_both rec β = some (x, β') ∧ ml_rr N od β (ml_lp b n T 1 120 (T p).1 (T p).2) x β'
  unfold F_X10_both
  rw [s1, mk_bs]
  exact ml_both hT hS h 120 mj_fu (T p).1 (T p).2 x β1 (by omega) (by show 120 < 5000; omega) (hT p hp) s2
theorem ml_sumsR {b : Nat → Int32} {n : Nat} {N : Nat → Int32} {od : Nat} {T : Nat → ml_P} (hT : ml_Gf n T) {rec : Nat → mj_S → Option (Int32 × mj_S)} (hS : ml_SR b n N od (rec 4) T) : ml_SR b n N od (fun β => F_X10_sums rec β) (ml_jn b n T 3) := by
  intro β p h e4 ef eo hp
  obtain ⟨x, β1, s1, s2⟩ := hS β p h e4 ef eo hp
  show ∃ x β', F_X10_sums rec β = some (x, β') ∧ ml_rr N od β (ml_lp b n T 3 120 (T p).1 (T p).2) x β'
  unfold F_X10_sums
  rw [s1, mk_bs]
  exact ml_sums hT hS h 120 mj_fu (T p).1 (T p).2 x β1 (by omega) (by show 120 < 5000; omega) (hT p hp) s2
theorem ml_productR {b : Nat → Int32} {n : Nat} {N : Nat → Int32} {od : Nat} {T : Nat → ml_P} (hT : ml_Gf n T) {rec : Nat → mj_S → Option (Int32 × mj_S)} (hS : ml_SR b n N od (rec 5) T) : ml_SR b n N od (fun β => F_X10_product rec β) (ml_jn b n T 4) := by
  intro β p h e4 ef eo hp
  obtain ⟨x, β1, s1, s2⟩ := hS β p h e4 ef eo hp
  show ∃ x β', F_X10_product rec β = some (x, β') ∧ ml_rr N od β (ml_lp b n T 4 120 (T p).1 (T p).2) x β'
  unfold F_X10_product
  rw [s1, mk_bs]
  show ∃ x' β', ((f_X10_byteAt β1).bind fun r2 => b_X10_product_10 rec mj_fu x r2 β1) = _ ∧ _
  rw [ml_byteAt (ml_RSf h s2.1) s2.2.1 (hT p hp).2.1, mk_bs]
  exact ml_product hT hS h 120 mj_fu (T p).1 (T p).2 x β1 (by omega) (by show 120 < 5000; omega) (hT p hp) s2
theorem ml_comparedR {b : Nat → Int32} {n : Nat} {N : Nat → Int32} {od : Nat} {T : Nat → ml_P} (hT : ml_Gf n T) {rec : Nat → mj_S → Option (Int32 × mj_S)} (hS : ml_SR b n N od (rec 3) T) : ml_SR b n N od (fun β => F_X10_compared rec β) (ml_jn b n T 2) := by
  intro β p h e4 ef eo hp
  have hn := h.1
  obtain ⟨x, β1, s1, s2, s3, s4⟩ := hS β p h e4 ef eo hp
  have hG := hT p hp
  have g2 := hG.2.1
  show ∃ x β', F_X10_compared rec β = some (x, β') ∧ ml_rr N od β (ml_lp b n T 2 1 (T p).1 (T p).2) x β'
  unfold F_X10_compared
  rw [s1, mk_bs]
  show ∃ x' β', ((f_X10_byteAt β1).bind fun r2 => (if (0 : Int32) ≤ (β1.1 64 22) then some (x, β1) else (if r2 = 60 then b_X10_compared_37 rec x r2 β1 else (if r2 = 61 then b_X10_compared_37 rec x r2 β1 else (if r2 = 62 then b_X10_compared_37 rec x r2 β1 else some (x, β1)))))) = _ ∧ _
  rw [ml_byteAt (ml_RSf h s2) s3 g2, mk_bs]
  rcases s4 with ⟨n1, n2⟩ | ⟨e, n1, hx, ef1, eo1⟩
  · rw [n2, if_pos (ml_ge0 (by omega)), n1, ml_lp_none]
    exact ⟨x, β1, rfl, s2, s3, .inl ⟨rfl, n2⟩⟩
  rw [ef1, if_neg (show ¬ (0 : Int32) ≤ -1 by decide), n1]
  have c60 : ml_c0 b n (T p).1 = 60 ↔ ml_c b n (T p).1 = 60 := ml_c0_eq (by decide) (by decide)
  have c61 : ml_c0 b n (T p).1 = 61 ↔ ml_c b n (T p).1 = 61 := ml_c0_eq (by decide) (by decide)
  have c62 : ml_c0 b n (T p).1 = 62 ↔ ml_c b n (T p).1 = 62 := ml_c0_eq (by decide) (by decide)
  by_cases q : ml_io 2 (ml_c b n (T p).1)
  · have pn := ml_c_lt (ml_io_ne q).1
    have hG' : ml_Gd n p ((T p).1, some e) := by
      rw [← n1]
      exact hG
    obtain ⟨x2, β2, t1, t2, t3, t4, t5, t6⟩ := ml_oneR hT hS h hG' s2 s3 ef1 eo1 q
    have e1 : nI (T p).1 + 1 = nI ((T p).1 + 1) := nI_add _ 1
    rw [ml_lp_go q, ml_lp0]
    have s37 : ∀ t, b_X10_compared_37 rec x t β1 = (if t = 60 then (if x2 ≤ x then some (0, β2) else some (1, β2)) else (if t = 61 then (if x = x2 then some (1, β2) else some (0, β2)) else (if x ≤ x2 then some (0, β2) else some (1, β2)))) := by
      intro t
      unfold b_X10_compared_37
      rw [s3, e1, t1, mk_bs]
    by_cases z : ml_c b n (T p).1 = 60
    · rw [if_pos (c60.mpr z), s37, if_pos (c60.mpr z)]
      refine ⟨if x2 ≤ x then 0 else 1, β2, ?_, t6 _ (fun _ _ _ => by rw [z, ml_jo60, hx])⟩
      by_cases y : x2 ≤ x
      · rw [if_pos y, if_pos y]
      · rw [if_neg y, if_neg y]
    rw [if_neg (fun y => z (c60.mp y))]
    by_cases z1 : ml_c b n (T p).1 = 61
    · rw [if_pos (c61.mpr z1), s37, if_neg (fun y => z (c60.mp y)), if_pos (c61.mpr z1)]
      refine ⟨if x = x2 then 1 else 0, β2, ?_, t6 _ (fun _ _ _ => by rw [z1, ml_jo61, hx])⟩
      by_cases y : x = x2
      · rw [if_pos y, if_pos y]
      · rw [if_neg y, if_neg y]
    · have z2 : ml_c b n (T p).1 = 62 := by
        rcases (ml_io2 _).mp q with y | y | y
        · exact absurd y z
        · exact absurd y z1
        · exact y
      rw [if_neg (fun y => z1 (c61.mp y)), if_pos (c62.mpr z2), s37, if_neg (fun y => z (c60.mp y)), if_neg (fun y => z1 (c61.mp y))]
      refine ⟨if x ≤ x2 then 0 else 1, β2, ?_, t6 _ (fun _ _ _ => by rw [z2, ml_jo62, hx])⟩
      by_cases y : x ≤ x2
      · rw [if_pos y, if_pos y]
      · rw [if_neg y, if_neg y]
  · have m60 : ¬ ml_c0 b n (T p).1 = 60 := fun y => q ((ml_io2 _).mpr (.inl (c60.mp y)))
    have m61 : ¬ ml_c0 b n (T p).1 = 61 := fun y => q ((ml_io2 _).mpr (.inr (.inl (c61.mp y))))
    have m62 : ¬ ml_c0 b n (T p).1 = 62 := fun y => q ((ml_io2 _).mpr (.inr (.inr (c62.mp y))))
    rw [if_neg m60, if_neg m61, if_neg m62, ml_lp_stop q]
    exact ⟨x, β1, rfl, s2, s3, .inr ⟨e, rfl, hx, ef1, eo1⟩⟩
theorem ml_exR {b : Nat → Int32} {n : Nat} {N : Nat → Int32} {od : Nat} {O : Nat → ml_P} (hO : ml_Gf n O) (K : Nat) (hS : ml_SR b n N od (fun β => rc_X10_either K 5 β) O) : ml_SR b n N od (fun β => rc_X10_either (K + 5) 0 β) (ml_ex5 b n O) := by
  have s4 : ml_SR b n N od (fun β => rc_X10_either (K + 1) 4 β) (ml_jn b n O 4) := ml_productR hO (rec := rc_X10_either K) hS
  have g4 := ml_jn_good (b := b) hO 4
  have s3 : ml_SR b n N od (fun β => rc_X10_either (K + 2) 3 β) _ := ml_sumsR g4 (rec := rc_X10_either (K + 1)) s4
  have g3 := ml_jn_good (b := b) g4 3
  have s2 : ml_SR b n N od (fun β => rc_X10_either (K + 3) 2 β) _ := ml_comparedR g3 (rec := rc_X10_either (K + 2)) s3
  have g2 := ml_jn_good (b := b) g3 2
  have s1 : ml_SR b n N od (fun β => rc_X10_either (K + 4) 1 β) _ := ml_bothR g2 (rec := rc_X10_either (K + 3)) s2
  have g1 := ml_jn_good (b := b) g2 1
  exact ml_eitherR g1 (rec := rc_X10_either (K + 4)) s1
