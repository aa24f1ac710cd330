-- law: the reference's operands, lines, texts
theorem ml_digN : ∀ q, q < 58 → 48 ≤ q → ml_nmOf (nI q) < 0 := by
  decide +kernel
theorem ml_dig_iff (x : Int32) : ml_dig x ↔ (¬ x < 48 ∧ ¬ (57 : Int32) < x) := by
  unfold ml_dig f_X7_isDigit
  by_cases q : x < (48 : Int32)
  · rw [if_pos q]
    exact ⟨fun z => absurd rfl z, fun z => absurd q z.1⟩
  · rw [if_neg q]
    by_cases q2 : (57 : Int32) < x
    · rw [if_pos q2]
      exact ⟨fun z => absurd rfl z, fun z => absurd q2 z.2⟩
    · rw [if_neg q2]
      exact ⟨fun _ => ⟨q, q2⟩, fun _ => by decide⟩
theorem ml_dig_nm {x : Int32} (h : ml_dig x) : ml_nmOf x < 0 := by
  obtain ⟨h1, h2⟩ := (ml_dig_iff x).mp h
  have e48 : (48 : Int32).toInt = 48 := rfl
  have e57 : (57 : Int32).toInt = 57 := rfl
  rw [mk_ltt, e48] at h1
  rw [mk_ltt, e57] at h2
  have e : x = nI x.toInt.toNat := mk_ofNN (by omega)
  rw [e]
  exact ml_digN _ (by omega) (by omega)
def ml_Z20 (x y : Nat) : Prop := x = 64 ∧ y = 20
theorem ml_f20 {β β' : mj_S} (q : mk_fr ml_Z20 β β') : mk_fr ml_Z10 β β' := mk_frw q (fun x y z => by unfold ml_Z20 at z; unfold ml_Z10; omega)
theorem ml_dig0 {b : Nat → Int32} {n p : Nat} : ml_dig (ml_c b n p) ↔ (¬ ml_c0 b n p < 48 ∧ ¬ (57 : Int32) < ml_c0 b n p) := by
  rw [ml_dig_iff]
  unfold ml_c ml_c0
  by_cases q : p < n
  · rw [if_pos q, if_pos q]
  · rw [if_neg q, if_neg q]
    exact ⟨fun z => absurd (show (-1 : Int32) < 48 by decide) z.1, fun z => absurd (show (0 : Int32) < 48 by decide) z.1⟩
theorem ml_digR {b : Nat → Int32} {n : Nat} {N : Nat → Int32} (rec : Nat → mj_S → Option (Int32 × mj_S)) : ∀ (k f t : Nat) (v : Int32) (p : Nat) (β : mj_S), k + t = 4 → k < f → ml_RS b n N β → β.1 64 20 = nI p → p ≤ n → ∃ β1, b_X10_one_176 rec f v (nI t) β = b_X10_one_229 rec (ml_nr b n k v p).2 (nI (t + ((ml_nr b n k v p).1 - p))) β1 ∧ mk_fr ml_Z20 β β1 ∧ β1.1 64 20 = nI (ml_nr b n k v p).1
  | k, 0, t, v, p, β, _, hf, _, _, _ => absurd hf (by omega)
  | 0, f + 1, t, v, p, β, hk, hf, h, e, hp => by
    unfold b_X10_one_176
    rw [if_pos (show (4 : Int32) ≤ nI t from nI_le (a := 4) (b := t) (by omega) (by omega))]
    refine ⟨β, ?_, ⟨fun _ _ _ => rfl, rfl⟩, e⟩
    show _ = b_X10_one_229 rec v (nI (t + (p - p))) β
    rw [Nat.sub_self, Nat.add_zero]
  | k + 1, f + 1, t, v, p, β, hk, hf, h, e, hp => by
    unfold b_X10_one_176
    have bt := ml_byteAt h e hp
    rw [if_neg (show ¬ (4 : Int32) ≤ nI t from nI_ge (a := t) (b := 4) (by omega) (by omega)), bt, mk_bs, mk_bs]
    have stop : ¬ ml_dig (ml_c b n p) → ∃ β1, b_X10_one_229 rec v (nI t) β = b_X10_one_229 rec (ml_nr b n (k + 1) v p).2 (nI (t + ((ml_nr b n (k + 1) v p).1 - p))) β1 ∧ mk_fr ml_Z20 β β1 ∧ β1.1 64 20 = nI (ml_nr b n (k + 1) v p).1 := by
      intro q
      have en : ml_nr b n (k + 1) v p = (p, v) := if_neg q
      rw [en]
      refine ⟨β, ?_, ⟨fun _ _ _ => rfl, rfl⟩, e⟩
      show _ = b_X10_one_229 rec v (nI (t + (p - p))) β
      rw [Nat.sub_self, Nat.add_zero]
    by_cases q1 : ml_c0 b n p < 48
    · rw [if_pos q1]
      exact stop (fun z => (ml_dig0.mp z).1 q1)
    rw [if_neg q1]
    by_cases q2 : (57 : Int32) < ml_c0 b n p
    · rw [if_pos q2]
      exact stop (fun z => (ml_dig0.mp z).2 q2)
    · have q : ml_dig (ml_c b n p) := ml_dig0.mpr ⟨q1, q2⟩
      have pn := ml_c_lt (ml_dig_ne q).1
      have cc : ml_c0 b n p = ml_c b n p := by
        unfold ml_c0 ml_c
        rw [if_pos pn, if_pos pn]
      have e1 : nI p + 1 = nI (p + 1) := nI_add p 1
      have et : nI t + 1 = nI (t + 1) := nI_add t 1
      have en : ml_nr b n (k + 1) v p = ml_nr b n k (v * 10 + ml_c b n p - 48) (p + 1) := if_pos q
      have g := ml_nr_good b n k (v * 10 + ml_c b n p - 48) (p + 1) (by omega)
      rw [if_neg q2, mk_bs, e, e1, et, en, cc, Int32.mul_comm 10 v]
      obtain ⟨β1, o1, o2, o3⟩ := ml_digR rec k f (t + 1) (v * 10 + ml_c b n p - 48) (p + 1) (mj_sI β 64 20 (nI (p + 1))) (by omega) (by omega) (ml_RSf h (mk_frI (by unfold ml_Z10; omega))) (by rw [mk_g, if_pos ⟨rfl, rfl⟩]) (by omega)
      refine ⟨β1, ?_, mk_frt (mk_frI ⟨rfl, rfl⟩) o2, o3⟩
      rw [o1]
      congr 2
      omega
theorem ml_wrong {β : mj_S} {p : Nat} (e : β.1 64 20 = nI p) (ef : β.1 64 22 = -1) : (mj_let (f_X10_wrong β) fun r => some (r.1, r.2)) = some (0, mj_sI β 64 22 (nI p)) := by
  unfold mj_let f_X10_wrong b_X10_wrong_19
  rw [ef, if_neg (show ¬ (0 : Int32) ≤ -1 by decide), e]
theorem ml_atomR {b : Nat → Int32} {n : Nat} {N : Nat → Int32} {od : Nat} (rec : Nat → mj_S → Option (Int32 × mj_S)) {β : mj_S} {p : Nat} (h : ml_RS b n N β) (e4 : β.1 64 20 = nI p) (ef : β.1 64 22 = -1) (eo : β.1 64 23 = nI od) (hp : p ≤ n) : ∃ x β', (if (f_X10_nameOf β (ml_c0 b n p)) < 0 then b_X10_one_176 rec mj_fu 0 0 β else (if 0 ≤ (f_X10_nameOf β (ml_c0 b n p)).toInt ∧ (f_X10_nameOf β (ml_c0 b n p)).toInt < 7 then some (β.1 77 (f_X10_nameOf β (ml_c0 b n p)).toNatClampNeg, (mj_sI β 64 20 ((β.1 64 20) + 1))) else none)) = some (x, β') ∧ ml_rr N od β (ml_atom b n p) x β' := by
  have hn := h.1
  have nmE : f_X10_nameOf β (ml_c0 b n p) = ml_nmOf (ml_c0 b n p) := rfl
  have e1 : nI p + 1 = nI (p + 1) := nI_add p 1
  rw [nmE]
  obtain ⟨β1, o1, o2, o3⟩ := ml_digR (N := N) rec 4 mj_fu 0 0 p β (by omega) (by show 4 < 5000; omega) h e4 hp
  rw [nI_0, Nat.zero_add] at o1
  unfold ml_atom
  by_cases q : ml_dig (ml_c b n p)
  · have pn := ml_c_lt (ml_dig_ne q).1
    have cc : ml_c0 b n p = ml_c b n p := by
      unfold ml_c0 ml_c
      rw [if_pos pn, if_pos pn]
    have en : ml_nr b n 4 0 p = ml_nr b n 3 (0 * 10 + ml_c b n p - 48) (p + 1) := if_pos q
    have g := ml_nr_good b n 3 (0 * 10 + ml_c b n p - 48) (p + 1) (by omega)
    rw [← en] at g
    have nz : ¬ nI ((ml_nr b n 4 0 p).1 - p) = 0 := fun z => by
      have := (nI_eq (a := (ml_nr b n 4 0 p).1 - p) (b := 0) (by omega) (by omega)).mp z
      omega
    rw [cc, if_pos (ml_dig_nm q), o1, if_pos q]
    refine ⟨(ml_nr b n 4 0 p).2, β1, ?_, ml_f20 o2, o3, .inr ⟨_, rfl, rfl, (o2.1 64 22 (by unfold ml_Z20; omega)).trans ef, (o2.1 64 23 (by unfold ml_Z20; omega)).trans eo⟩⟩
    unfold b_X10_one_229
    rw [if_neg nz]
  · rw [if_neg q]
    have fail : ml_nmOf (ml_c b n p) < 0 → ml_nmOf (ml_c0 b n p) < 0 → ∃ x β', (if ml_nmOf (ml_c0 b n p) < 0 then b_X10_one_176 rec mj_fu 0 0 β else (if 0 ≤ (ml_nmOf (ml_c0 b n p)).toInt ∧ (ml_nmOf (ml_c0 b n p)).toInt < 7 then some (β.1 77 (ml_nmOf (ml_c0 b n p)).toNatClampNeg, (mj_sI β 64 20 ((β.1 64 20) + 1))) else none)) = some (x, β') ∧ ml_rr N od β (if ml_nmOf (ml_c b n p) < 0 then (p, none) else (p + 1, some (fun N => N (ml_nmOf (ml_c b n p)).toNatClampNeg, [(97, ml_nmOf (ml_c b n p))]))) x β' := by
      intro z1 z2
      have en : ml_nr b n 4 0 p = (p, 0) := if_neg q
      rw [en] at o1 o3
      rw [if_pos z2, o1, if_pos z1]
      refine ⟨0, mj_sI β1 64 22 (nI p), ?_, mk_frt (ml_f20 o2) (mk_frI (by unfold ml_Z10; omega)), ?_, .inl ⟨rfl, ?_⟩⟩
      · unfold b_X10_one_229
        show (if nI (p - p) = 0 then (mj_let (f_X10_wrong β1) fun r21 => some (r21.1, r21.2)) else some (0, β1)) = _
        rw [Nat.sub_self, if_pos (by decide)]
        exact ml_wrong o3 ((o2.1 64 22 (by unfold ml_Z20; omega)).trans ef)
      · rw [mk_g, if_neg (by omega)]
        exact o3
      · rw [mk_g, if_pos ⟨rfl, rfl⟩]
    by_cases pn : p < n
    · have cc : ml_c0 b n p = ml_c b n p := by
        unfold ml_c0 ml_c
        rw [if_pos pn, if_pos pn]
      by_cases q2 : ml_nmOf (ml_c b n p) < 0
      · exact fail q2 (by rw [cc]; exact q2)
      · obtain ⟨y, hy, ey, _⟩ := ml_nmOf_r _ q2
        have i7 : 0 ≤ (nI y).toInt ∧ (nI y).toInt < 7 := mk_in7 hy
        rw [cc, if_neg q2, if_neg q2, ey, if_pos i7, nI_clamp (by omega), e4, e1, h.2.2.2 y hy]
        exact ⟨N y, _, rfl, mk_frI (by unfold ml_Z10; omega), by rw [mk_g, if_pos ⟨rfl, rfl⟩], .inr ⟨_, rfl, rfl, by rw [mk_g, if_neg (by omega)]; exact ef, by rw [mk_g, if_neg (by omega)]; exact eo⟩⟩
    · have cm : ml_c b n p = -1 := if_neg pn
      have cz : ml_c0 b n p = 0 := if_neg pn
      exact fail (by rw [cm]; decide) (by rw [cz]; decide)
theorem ml_op0R {b : Nat → Int32} {n : Nat} {N : Nat → Int32} (K : Nat) : ml_SR b n N 6 (fun β => rc_X10_either (K + 1) 5 β) (ml_opd b n 0) := by
  intro β p h e4 ef eo hp
  show ∃ x β', F_X10_one (rc_X10_either K) β = some (x, β') ∧ ml_rr N 6 β (if ml_c b n p = 40 ∨ ml_c b n p = 33 ∨ ml_c b n p = 45 then (p, none) else ml_atom b n p) x β'
  have c40 : ml_c0 b n p = 40 ↔ ml_c b n p = 40 := ml_c0_eq (by decide) (by decide)
  have c33 : ml_c0 b n p = 33 ↔ ml_c b n p = 33 := ml_c0_eq (by decide) (by decide)
  have c45 : ml_c0 b n p = 45 ↔ ml_c b n p = 45 := ml_c0_eq (by decide) (by decide)
  have fail : ∀ v, ∃ x β', b_X10_one_32 (rc_X10_either K) v β = some (x, β') ∧ ml_rr N 6 β (p, none) x β' := by
    intro v
    refine ⟨0, mj_sI β 64 22 (nI p), ?_, mk_frI (by unfold ml_Z10; omega), ?_, .inl ⟨rfl, ?_⟩⟩
    · unfold b_X10_one_32
      rw [eo, if_pos (show nI 6 = 6 by decide)]
      exact ml_wrong e4 ef
    · rw [mk_g, if_neg (by omega)]
      exact e4
    · rw [mk_g, if_pos ⟨rfl, rfl⟩]
  unfold F_X10_one
  rw [ef, if_pos (show (-1 : Int32) < 0 by decide), ml_byteAt h e4 hp, mk_bs]
  by_cases q2 : ml_c b n p = 33
  · rw [if_pos (c33.mpr q2), if_pos (.inr (.inl q2))]
    exact fail _
  by_cases q3 : ml_c b n p = 45
  · rw [if_neg (fun z => q2 (c33.mp z)), if_pos (c45.mpr q3), if_pos (.inr (.inr q3))]
    exact fail _
  by_cases q1 : ml_c b n p = 40
  · rw [if_neg (fun z => q2 (c33.mp z)), if_neg (fun z => q3 (c45.mp z)), if_pos (c40.mpr q1), if_pos (.inl q1)]
    exact fail _
  rw [if_neg (fun z => q2 (c33.mp z)), if_neg (fun z => q3 (c45.mp z)), if_neg (fun z => q1 (c40.mp z)), if_neg (show ¬ (ml_c b n p = 40 ∨ ml_c b n p = 33 ∨ ml_c b n p = 45) from fun z => z.elim q1 (fun z => z.elim q2 q3))]
  exact ml_atomR _ h e4 ef eo hp
theorem ml_opR {b : Nat → Int32} {n : Nat} {N : Nat → Int32} (K : Nat) {od o : Nat} (hod : od < 6) (hE : ml_SR b n N (od + 1) (fun β => rc_X10_either K 0 β) (ml_ex5 b n (ml_opd b n o))) (hO : ml_SR b n N (od + 1) (fun β => rc_X10_either K 5 β) (ml_opd b n o)) : ml_SR b n N od (fun β => rc_X10_either (K + 1) 5 β) (ml_opd b n (o + 1)) := by
  intro β p h e4 ef eo hp
  show ∃ x β', F_X10_one (rc_X10_either K) β = some (x, β') ∧ ml_rr N od β (if ml_c b n p = 40 then ml_cls b n (ml_ex5 b n (ml_opd b n o) (p + 1)) else if ml_c b n p = 33 ∨ ml_c b n p = 45 then ((ml_opd b n o (p + 1)).1, (ml_opd b n o (p + 1)).2.map (ml_neg (ml_c b n p))) else ml_atom b n p) x β'
  have hn := h.1
  have c40 : ml_c0 b n p = 40 ↔ ml_c b n p = 40 := ml_c0_eq (by decide) (by decide)
  have c33 : ml_c0 b n p = 33 ↔ ml_c b n p = 33 := ml_c0_eq (by decide) (by decide)
  have c45 : ml_c0 b n p = 45 ↔ ml_c b n p = 45 := ml_c0_eq (by decide) (by decide)
  have e1 : nI p + 1 = nI (p + 1) := nI_add p 1
  have eod : nI od + 1 = nI (od + 1) := nI_add od 1
  obtain ⟨β1, hβ1⟩ : ∃ β1, β1 = mj_sI (mj_sI β 64 23 (nI (od + 1))) 64 20 (nI (p + 1)) := ⟨_, rfl⟩
  have f1 : mk_fr ml_Z10 β β1 := by rw [hβ1]; exact mk_frt (mk_frI (by unfold ml_Z10; omega)) (mk_frI (by unfold ml_Z10; omega))
  have h1 := ml_RSf h f1
  have a4 : β1.1 64 20 = nI (p + 1) := by rw [hβ1, mk_g, if_pos ⟨rfl, rfl⟩]
  have af : β1.1 64 22 = -1 := by rw [hβ1, mk_g, if_neg (by omega), mk_g, if_neg (by omega)]; exact ef
  have ao : β1.1 64 23 = nI (od + 1) := by rw [hβ1, mk_g, if_neg (by omega), mk_g, if_pos ⟨rfl, rfl⟩]
  have n6 : ¬ nI od = 6 := fun z => by
    have := (nI_eq (a := od) (b := 6) (by omega) (by omega)).mp z
    omega
  have o32 : ∀ v, b_X10_one_32 (rc_X10_either K) v β = (if v = 40 then ((rc_X10_either K 0 β1).bind fun r14 => b_X10_one_83 (rc_X10_either K) v r14.1 r14.2) else ((rc_X10_either K 5 β1).bind fun r6 => b_X10_one_83 (rc_X10_either K) v r6.1 r6.2)) := by
    intro v
    unfold b_X10_one_32
    rw [eo, if_neg n6, eod, e4, e1, ← hβ1]
  have negs : ∀ v, v = ml_c b n p → v ≠ 40 → p < n → (v = 33 ∨ v = 45) → ∃ x β', b_X10_one_32 (rc_X10_either K) v β = some (x, β') ∧ ml_rr N od β ((ml_opd b n o (p + 1)).1, (ml_opd b n o (p + 1)).2.map (ml_neg (ml_c b n p))) x β' := by
    intro v hv n40 pn q
    obtain ⟨x, β2, s1, s2, s3, s4⟩ := hO β1 (p + 1) h1 a4 af ao (by omega)
    have s1' : rc_X10_either K 5 β1 = some (x, β2) := s1
    have f2 := mk_frt f1 s2
    have g := (ml_opd_good b n o (p + 1) (by omega)).2.1
    rw [o32, if_neg n40, s1', mk_bs]
    have w83 : b_X10_one_83 (rc_X10_either K) v x β2 = some (if v = 45 then - x else if x = 0 then 1 else 0, mj_sI β2 64 23 (β2.1 64 23 - 1)) := by
      unfold b_X10_one_83 b_X10_one_104
      rw [if_neg n40, if_neg n40]
      by_cases y : v = 45
      · rw [if_pos y, if_pos y]
      · rw [if_neg y, if_neg y]
        by_cases y2 : x = 0
        · rw [if_pos y2, if_pos y2]
        · rw [if_neg y2, if_neg y2]
    show ∃ x' β', b_X10_one_83 (rc_X10_either K) v x β2 = some (x', β') ∧ _
    rw [w83]
    refine ⟨_, _, rfl, mk_frt f2 (mk_frI (by unfold ml_Z10; omega)), ?_, ?_⟩
    · rw [mk_g, if_neg (by omega)]
      exact s3
    · rcases s4 with ⟨n1, n2⟩ | ⟨e, n1, n2, n3, n4⟩
      · refine .inl ⟨?_, ?_⟩
        · show (ml_opd b n o (p + 1)).2.map _ = none
          rw [n1]
          rfl
        · rw [mk_g, if_neg (by omega)]
          exact n2
      · refine .inr ⟨ml_neg (ml_c b n p) e, ?_, ?_, ?_, ?_⟩
        · show (ml_opd b n o (p + 1)).2.map _ = _
          rw [n1]
          rfl
        · rw [← hv, n2]
          unfold ml_neg
          by_cases y : v = 45
          · rw [if_pos y, if_pos y]
          · rw [if_neg y, if_neg y]
        · rw [mk_g, if_neg (by omega)]
          exact n3
        · rw [mk_g, if_pos ⟨rfl, rfl⟩, n4, nI_pred]
  unfold F_X10_one
  rw [ef, if_pos (show (-1 : Int32) < 0 by decide), ml_byteAt h e4 hp, mk_bs]
  by_cases q2 : ml_c b n p = 33
  · have n40 : ¬ ml_c b n p = 40 := by rw [q2]; decide
    have z := c33.mpr q2
    rw [if_pos z, if_neg n40, if_pos (.inl q2)]
    exact negs _ (z.trans q2.symm) (by rw [z]; decide) (ml_c_lt (by rw [q2]; decide)) (.inl z)
  by_cases q3 : ml_c b n p = 45
  · have n40 : ¬ ml_c b n p = 40 := by rw [q3]; decide
    have z := c45.mpr q3
    rw [if_neg (fun z => q2 (c33.mp z)), if_pos z, if_neg n40, if_pos (.inr q3)]
    exact negs _ (z.trans q3.symm) (by rw [z]; decide) (ml_c_lt (by rw [q3]; decide)) (.inr z)
  by_cases q1 : ml_c b n p = 40
  · rw [if_neg (fun z => q2 (c33.mp z)), if_neg (fun z => q3 (c45.mp z)), if_pos (c40.mpr q1), if_pos q1]
    have pn : p < n := ml_c_lt (by rw [q1]; decide)
    obtain ⟨x, β2, s1, s2, s3, s4⟩ := hE β1 (p + 1) h1 a4 af ao (by omega)
    have s1' : rc_X10_either K 0 β1 = some (x, β2) := s1
    have f2 := mk_frt f1 s2
    have g := (ml_ex5_good (b := b) (ml_opd_good b n o) (p + 1) (by omega)).2.1
    rw [o32, if_pos (c40.mpr q1), s1', mk_bs]
    show ∃ x' β', b_X10_one_83 (rc_X10_either K) (ml_c0 b n p) x β2 = some (x', β') ∧ _
    unfold b_X10_one_83 b_X10_one_104
    rw [if_pos (c40.mpr q1)]
    rcases s4 with ⟨n1, n2⟩ | ⟨e, n1, n2, n3, n4⟩
    · rw [ml_takesF (by omega) n2, mk_bs, if_pos rfl]
      have wr : (mj_let (f_X10_wrong β2) fun r => some (r.1, r.2)) = some (0, mj_sI β2 64 22 (nI (ml_ex5 b n (ml_opd b n o) (p + 1)).1)) := by
        unfold mj_let f_X10_wrong b_X10_wrong_19
        rw [n2, if_pos (ml_ge0 (by omega))]
      have ec : ml_cls b n (ml_ex5 b n (ml_opd b n o) (p + 1)) = ml_ex5 b n (ml_opd b n o) (p + 1) := by
        unfold ml_cls
        rw [n1]
      rw [ec]
      refine ⟨0, _, wr, mk_frt f2 (mk_frI (by unfold ml_Z10; omega)), ?_, .inl ⟨n1, ?_⟩⟩
      · rw [mk_g, if_neg (by omega)]
        exact s3
      · rw [mk_g, if_pos ⟨rfl, rfl⟩]
    · rw [ml_takes (ml_RSf h f2) s3 g n3 (by decide) (by decide)]
      unfold ml_cls
      rw [n1]
      by_cases q4 : ml_c b n (ml_ex5 b n (ml_opd b n o) (p + 1)).1 = 41
      · rw [if_pos q4, mk_bs, if_neg (show ¬ (1 : Int32) = 0 by decide), if_pos (c40.mpr q1)]
        show ∃ x' β', _ ∧ ml_rr N od β (if ml_c b n (ml_ex5 b n (ml_opd b n o) (p + 1)).1 = 41 then _ else _) x' β'
        rw [if_pos q4]
        refine ⟨x, _, rfl, mk_frt (mk_frt f2 (mk_frI (by unfold ml_Z10; omega))) (mk_frI (by unfold ml_Z10; omega)), ?_, .inr ⟨e, rfl, n2, ?_, ?_⟩⟩
        · rw [mk_g, if_neg (by omega), mk_g, if_pos ⟨rfl, rfl⟩]
        · rw [mk_g, if_neg (by omega), mk_g, if_neg (by omega)]
          exact n3
        · rw [mk_g, if_pos ⟨rfl, rfl⟩, mk_g, if_neg (by omega), n4, nI_pred]
      · rw [if_neg q4, mk_bs, if_pos rfl]
        show ∃ x' β', _ ∧ ml_rr N od β (if ml_c b n (ml_ex5 b n (ml_opd b n o) (p + 1)).1 = 41 then _ else _) x' β'
        rw [if_neg q4]
        refine ⟨0, _, ml_wrong s3 n3, mk_frt f2 (mk_frI (by unfold ml_Z10; omega)), ?_, .inl ⟨rfl, ?_⟩⟩
        · rw [mk_g, if_neg (by omega)]
          exact s3
        · rw [mk_g, if_pos ⟨rfl, rfl⟩]
  rw [if_neg (fun z => q2 (c33.mp z)), if_neg (fun z => q3 (c45.mp z)), if_neg (fun z => q1 (c40.mp z)), if_neg q1, if_neg (show ¬ (ml_c b n p = 33 ∨ ml_c b n p = 45) from fun z => z.elim q2 q3)]
  exact ml_atomR _ h e4 ef eo hp
theorem ml_allR (b : Nat → Int32) (n : Nat) (N : Nat → Int32) : ∀ o K, o ≤ 6 → 6 * o + 1 ≤ K → ml_SR b n N (6 - o) (fun β => rc_X10_either K 5 β) (ml_opd b n o)
  | 0, K, _, hK => by
    obtain ⟨K', rfl⟩ : ∃ K', K = K' + 1 := ⟨K - 1, by omega⟩
    exact ml_op0R K'
  | o + 1, K, ho, hK => by
    obtain ⟨K', rfl⟩ : ∃ K', K = K' + 5 + 1 := ⟨K - 6, by omega⟩
    have s1 := ml_allR b n N o K' (by omega) (by omega)
    have s2 := ml_allR b n N o (K' + 5) (by omega) (by omega)
    have s3 := ml_exR (ml_opd_good b n o) K' s1
    have e : 6 - (o + 1) + 1 = 6 - o := by omega
    refine ml_opR (K' + 5) (od := 6 - (o + 1)) (by omega) ?_ ?_
    · rw [e]
      exact s3
    · rw [e]
      exact s2
theorem ml_exprR (b : Nat → Int32) (n : Nat) (N : Nat → Int32) : ml_SR b n N 0 f_X10_either (ml_ex5 b n (ml_opd b n 6)) := ml_exR (ml_opd_good b n 6) 95 (ml_allR b n N 6 95 (by omega) (by omega))
