-- law: the class's operands, lines, texts
theorem ml_ixS (σ : mj_S) : ∀ (f : Nat) (v3 v4 v5 : Int32), b_J1_indexOfChar_4cfef_7 σ f v3 v4 v5 = b_J1_indexOfChar_4cfef_7 mk_z f v3 v4 v5
  | 0, _, _, _ => rfl
  | f + 1, v3, v4, v5 => by
    unfold b_J1_indexOfChar_4cfef_7
    rw [ml_ixS σ f]
theorem ml_ixD : ∀ q, q < 256 → f_J0_indexOf_0f7a4 mk_z ((nI q).toUInt32 % 65536).toInt32 = some (ml_nmOf (nI q)) := by
  decide +kernel
theorem ml_ix (σ : mj_S) {x : Int32} (h : mk_r x 255) : f_J0_indexOf_0f7a4 σ (x.toUInt32 % 65536).toInt32 = some (ml_nmOf x) := by
  obtain ⟨q, hq, rfl⟩ := h
  have d := ml_ixD q (by omega)
  unfold f_J0_indexOf_0f7a4 f_J0_indexOf_7cf53 f_J1_indexOf_4cfef f_J1_indexOfChar_4cfef at d ⊢
  rw [ml_ixS σ]
  exact d
theorem ml_by_c {b : Nat → Int32} {n p : Nat} (hb : ml_by b n) (hp : p < n) : mk_r (ml_c b n p) 255 := by
  unfold ml_c
  rw [if_pos hp]
  exact hb p hp
theorem ml_atomC {b : Nat → Int32} {n : Nat} (hb : ml_by b n) {α : mj_S} {p w : Nat} (h : ml_CS b n α) (e4 : α.1 5 4 = nI p) (e5 : α.1 5 5 = nI w) (hp : p ≤ n) (hw : w ≤ p) (rec : Nat → Int32 → Int32 → mj_S → Option (Int32 × mj_S)) : ∃ x α', (if (f_X7_isDigit α (ml_c b n p)) = 0 then (if (0 : Int32) ≤ ml_c b n p then ((f_J0_indexOf_0f7a4 α (((ml_c b n p).toUInt32 % 65536).toInt32)).bind fun r10 => b_X7_readOperand_74 rec r10 α) else b_X7_readOperand_74 rec (-1) α) else ((f_X7_readNumber α).bind fun r13 => some (1, r13))) = some (x, α') ∧ ml_rc p w α (ml_atom b n p) x α' := by
  have hn := h.1
  have z0 : ([] : List (Int32 × Int32)).length = 0 := rfl
  unfold ml_atom
  by_cases q : ml_dig (ml_c b n p)
  · have q' : ¬ f_X7_isDigit α (ml_c b n p) = 0 := q
    have pn := ml_c_lt (ml_dig_ne q).1
    rw [if_neg q', if_pos q]
    obtain ⟨α1, o1, o2, o3⟩ := ml_numL 4 mj_fu 0 0 p α (by omega) (by show 4 < 5000; omega) h e4 hp
    rw [nI_0] at o1
    have f1 := ml_f54 o2
    obtain ⟨α2, u1, u2, u3, u4, u5, u6⟩ := ml_wr (α := α) (p := p) (w := w) (c := []) 48 (ml_nr b n 4 0 p).2 f1 o3 ((o2.1 5 5 (by unfold ml_Z54; omega)).trans e5) (by omega) trivial (fun i hi => ⟨o2.1 7 i (by unfold ml_Z54; omega), o2.1 8 i (by unfold ml_Z54; omega)⟩)
    have rn : f_X7_readNumber α = some α2 := by
      unfold f_X7_readNumber
      rw [o1]
      unfold b_X7_readNumber_48
      rw [u1, mk_bs]
    rw [rn, mk_bs]
    exact ⟨1, α2, rfl, u2, u3, .inr ⟨_, rfl, rfl, u4, u5, u6⟩⟩
  · have q' : f_X7_isDigit α (ml_c b n p) = 0 := Classical.byContradiction q
    rw [if_pos q', if_neg q]
    have fail : ml_nmOf (ml_c b n p) < 0 → ∀ t : Int32, t < 0 → ∃ x α', b_X7_readOperand_74 rec t α = some (x, α') ∧ ml_rc p w α (if ml_nmOf (ml_c b n p) < 0 then (p, none) else (p + 1, some (fun N => N (ml_nmOf (ml_c b n p)).toNatClampNeg, [(97, ml_nmOf (ml_c b n p))]))) x α' := by
      intro hn t ht
      rw [if_pos hn]
      refine ⟨0, α, ?_, ⟨fun _ _ _ => rfl, rfl⟩, e4, .inl ⟨rfl, rfl, w, by omega, e5⟩⟩
      unfold b_X7_readOperand_74
      have e0 : (0 : Int32).toInt = 0 := rfl
      rw [if_neg]
      rw [mk_lee, e0]
      rw [mk_ltt, e0] at ht
      omega
    by_cases pn : p < n
    · have r := ml_by_c hb pn
      have ge : (0 : Int32) ≤ ml_c b n p := by
        obtain ⟨y, hy, ey⟩ := r
        have e0 : (0 : Int32).toInt = 0 := rfl
        rw [ey, mk_lee, e0, nI_toInt (by omega)]
        omega
      rw [if_pos ge, ml_ix α r, mk_bs]
      by_cases q2 : ml_nmOf (ml_c b n p) < 0
      · exact fail q2 _ q2
      · rw [if_neg q2]
        obtain ⟨y, hy, ey, _⟩ := ml_nmOf_r _ q2
        have ge2 : (0 : Int32) ≤ ml_nmOf (ml_c b n p) := by
          have e0 : (0 : Int32).toInt = 0 := rfl
          rw [ey, mk_lee, e0, nI_toInt (by omega)]
          omega
        have e1 : nI p + 1 = nI (p + 1) := nI_add p 1
        obtain ⟨α2, u1, u2, u3, u4, u5, u6⟩ := ml_wr (α := α) (β := mj_sI α 5 4 (nI (p + 1))) (p := p) (w := w) (c := []) (p' := p + 1) 97 (ml_nmOf (ml_c b n p)) (mk_frI (by unfold ml_Z7; omega)) (by rw [mk_g, if_pos ⟨rfl, rfl⟩]) (by rw [mk_g, if_neg (by omega)]; exact e5) (by omega) trivial (fun i hi => ⟨by rw [mk_g, if_neg (by omega)], by rw [mk_g, if_neg (by omega)]⟩)
        refine ⟨1, α2, ?_, u2, u3, .inr ⟨_, rfl, rfl, u4, u5, u6⟩⟩
        unfold b_X7_readOperand_74
        rw [if_pos ge2, e4, e1, u1, mk_bs]
    · have cm : ml_c b n p = -1 := if_neg pn
      rw [if_neg (show ¬ (0 : Int32) ≤ ml_c b n p by rw [cm]; decide)]
      exact fail (by rw [cm]; decide) _ (by decide)
theorem ml_op0C {b : Nat → Int32} {n : Nat} (hb : ml_by b n) (K : Nat) : ml_SC b n (fun α => rc_X7_readJoined (K + 1) 2 (nI 6) 0 α) (ml_opd b n 0) := by
  intro α p w h e4 e5 hp hw
  show ∃ x α', F_X7_readOperand (rc_X7_readJoined K) α (nI 6) = some (x, α') ∧ ml_rc p w α (if ml_c b n p = 40 ∨ ml_c b n p = 33 ∨ ml_c b n p = 45 then (p, none) else ml_atom b n p) x α'
  have hn := h.1
  have fail : ∃ x α', b_X7_readOperand_23 (rc_X7_readJoined K) (nI 6) (ml_c b n p) α = some (x, α') ∧ ml_rc p w α (p, none) x α' := by
    refine ⟨0, α, ?_, ⟨fun _ _ _ => rfl, rfl⟩, e4, .inl ⟨rfl, rfl, w, by omega, e5⟩⟩
    unfold b_X7_readOperand_23
    rw [if_pos (show (6 : Int32) ≤ nI 6 by decide)]
  unfold F_X7_readOperand
  rw [ml_seen h e4 hp, mk_bs]
  by_cases q1 : ml_c b n p = 40
  · rw [if_pos q1, if_pos (.inl q1)]
    exact fail
  by_cases q2 : ml_c b n p = 33
  · rw [if_neg q1, if_pos q2, if_pos (.inr (.inl q2))]
    exact fail
  by_cases q3 : ml_c b n p = 45
  · rw [if_neg q1, if_neg q2, if_pos q3, if_pos (.inr (.inr q3))]
    exact fail
  rw [if_neg q1, if_neg q2, if_neg q3, if_neg (show ¬ (ml_c b n p = 40 ∨ ml_c b n p = 33 ∨ ml_c b n p = 45) from fun z => z.elim q1 (fun z => z.elim q2 q3))]
  exact ml_atomC hb h e4 e5 hp hw _
theorem ml_opC {b : Nat → Int32} {n : Nat} (hb : ml_by b n) (K : Nat) {op o : Nat} (hop : op < 6) (hE : ml_SC b n (fun α => rc_X7_readJoined K 0 0 (nI (op + 1)) α) (ml_ex5 b n (ml_opd b n o))) (hO : ml_SC b n (fun α => rc_X7_readJoined K 2 (nI (op + 1)) 0 α) (ml_opd b n o)) : ml_SC b n (fun α => rc_X7_readJoined (K + 2) 2 (nI op) 0 α) (ml_opd b n (o + 1)) := by
  intro α p w h e4 e5 hp hw
  show ∃ x α', F_X7_readOperand (rc_X7_readJoined (K + 1)) α (nI op) = some (x, α') ∧ ml_rc p w α (if ml_c b n p = 40 then ml_cls b n (ml_ex5 b n (ml_opd b n o) (p + 1)) else if ml_c b n p = 33 ∨ ml_c b n p = 45 then ((ml_opd b n o (p + 1)).1, (ml_opd b n o (p + 1)).2.map (ml_neg (ml_c b n p))) else ml_atom b n p) x α'
  have hn := h.1
  have e1 : nI p + 1 = nI (p + 1) := nI_add p 1
  have eo : nI op + 1 = nI (op + 1) := nI_add op 1
  obtain ⟨α1, hα1⟩ : ∃ α1, α1 = mj_sI α 5 4 (nI (p + 1)) := ⟨_, rfl⟩
  have f1 : mk_fr ml_Z7 α α1 := by rw [hα1]; exact mk_frI (by unfold ml_Z7; omega)
  have h1 := ml_CSf h f1
  have a4 : α1.1 5 4 = nI (p + 1) := by rw [hα1, mk_g, if_pos ⟨rfl, rfl⟩]
  have a5 : α1.1 5 5 = nI w := by rw [hα1, mk_g, if_neg (by omega)]; exact e5
  have a7 : α1.1 7 = α.1 7 := by rw [hα1]; rfl
  have a8 : α1.1 8 = α.1 8 := by rw [hα1]; rfl
  -- what is opened gives, and the operand gives it on
  have give : ∀ t, (∃ x α', F_X7_readOpened (rc_X7_readJoined K) α (ml_c b n p) (nI (op + 1)) = some (x, α') ∧ ml_rc p w α t x α') → ∃ x α', b_X7_readOperand_23 (rc_X7_readJoined (K + 1)) (nI op) (ml_c b n p) α = some (x, α') ∧ ml_rc p w α t x α' := by
    rintro t ⟨x, α', o1, o2⟩
    refine ⟨x, α', ?_, o2⟩
    unfold b_X7_readOperand_23
    rw [if_neg (show ¬ (6 : Int32) ≤ nI op from nI_ge (a := op) (b := 6) hop (by omega)), eo]
    show ((F_X7_readOpened (rc_X7_readJoined K) α (ml_c b n p) (nI (op + 1))).bind _) = _
    rw [o1, mk_bs]
    rcases o2.2.2 with ⟨_, z, _⟩ | ⟨_, _, z, _⟩
    · rw [z, if_pos rfl]
    · rw [z, if_neg (show ¬ (1 : Int32) = 0 by decide)]
  have negs : ml_c b n p ≠ 40 → p < n → (ml_c b n p = 33 ∨ ml_c b n p = 45) → ∃ x α', F_X7_readOpened (rc_X7_readJoined K) α (ml_c b n p) (nI (op + 1)) = some (x, α') ∧ ml_rc p w α ((ml_opd b n o (p + 1)).1, (ml_opd b n o (p + 1)).2.map (ml_neg (ml_c b n p))) x α' := by
    intro n40 pn q
    obtain ⟨x, α2, s1, s2, s3, s4⟩ := hO α1 (p + 1) w h1 a4 a5 (by omega) (by omega)
    have s1' : rc_X7_readJoined K 2 (nI (op + 1)) 0 α1 = some (x, α2) := s1
    have g := ml_opd_good b n o (p + 1) (by omega)
    have f2 := mk_frt f1 s2
    obtain ⟨s, hs⟩ : ∃ s : Int32, s = if ml_c b n p = 45 then 110 else ml_c b n p := ⟨_, rfl⟩
    have wrt : F_X7_readOpened (rc_X7_readJoined K) α (ml_c b n p) (nI (op + 1)) = (f_X7_write α2 s 0).bind fun r4 => some (x, r4) := by
      unfold F_X7_readOpened
      rw [if_neg n40, e4, e1, ← hα1, s1', mk_bs]
      have zb : mj_zb x = x := by
        rcases s4 with ⟨_, z, _⟩ | ⟨_, _, z, _⟩ <;> (rw [z]; decide)
      by_cases q3 : ml_c b n p = 45
      · rw [if_pos q3, hs, if_pos q3]
        show ((f_X7_write α2 110 0).bind fun r4 => some (mj_zb x, r4)) = _
        rw [zb]
      · rw [if_neg q3, hs, if_neg q3]
        show ((f_X7_write α2 (ml_c b n p) 0).bind fun r4 => some (mj_zb x, r4)) = _
        rw [zb]
    rw [wrt]
    rcases s4 with ⟨n1, n2, w', n3, n4⟩ | ⟨e, n1, n2, n3, n4, n5⟩
    · obtain ⟨α3, u1, u2, u3, u4⟩ := ml_writeAny n4 n3 s 0
      rw [u1, mk_bs]
      refine ⟨x, α3, rfl, mk_frt f2 u2, u3.trans s3, .inl ⟨?_, n2, u4⟩⟩
      show (ml_opd b n o (p + 1)).2.map _ = none
      rw [n1]
      rfl
    · obtain ⟨m1, m2, m3, m4⟩ := g.2.2 e n1
      have m5 := g.2.1
      obtain ⟨α3, u1, u2, u3, u4, u5, u6⟩ := ml_wr (p := p) (w := w) (c := e.2) s 0 f2 s3 n3 (by omega) n4 (fun i hi => by
        have := n5 i hi
        rw [a7, a8] at this
        exact this)
      rw [u1, mk_bs]
      refine ⟨x, α3, rfl, u2, u3, .inr ⟨ml_neg (ml_c b n p) e, ?_, n2, ?_, ?_, u6⟩⟩
      · show (ml_opd b n o (p + 1)).2.map _ = _
        rw [n1]
        rfl
      · have : (ml_neg (ml_c b n p) e).2.length = (e.2 ++ [(s, (0 : Int32))]).length := by
          unfold ml_neg
          by_cases q3 : ml_c b n p = 45
          · rw [if_pos q3, List.length_append, List.length_append]
            rfl
          · rw [if_neg q3, List.length_append, List.length_append]
            rfl
        rw [this]
        exact u4
      · have : (ml_neg (ml_c b n p) e).2 = e.2 ++ [(s, (0 : Int32))] := by
          unfold ml_neg
          by_cases q3 : ml_c b n p = 45
          · rw [if_pos q3, hs, if_pos q3]
          · have q33 : ml_c b n p = 33 := by
              rcases q with z | z
              · exact z
              · exact absurd z q3
            rw [if_neg q3, hs, if_neg q3, q33]
        rw [this]
        exact u5
  unfold F_X7_readOperand
  rw [ml_seen h e4 hp, mk_bs]
  by_cases q1 : ml_c b n p = 40
  · rw [if_pos q1, if_pos q1]
    refine give _ ?_
    have pn : p < n := ml_c_lt (by rw [q1]; decide)
    obtain ⟨x, α2, s1, s2, s3, s4⟩ := hE α1 (p + 1) w h1 a4 a5 (by omega) (by omega)
    have s1' : rc_X7_readJoined K 0 0 (nI (op + 1)) α1 = some (x, α2) := s1
    have g := ml_ex5_good (b := b) (ml_opd_good b n o) (p + 1) (by omega)
    have f2 := mk_frt f1 s2
    unfold F_X7_readOpened
    rw [if_pos q1, e4, e1, ← hα1, s1', mk_bs]
    rcases s4 with ⟨n1, n2, w', n3, n4⟩ | ⟨e, n1, n2, n3, n4, n5⟩
    · rw [n2, if_pos rfl]
      refine ⟨0, α2, rfl, f2, ?_, .inl ⟨?_, rfl, w', n3, n4⟩⟩
      · unfold ml_cls
        rw [n1]
        exact s3
      · unfold ml_cls
        rw [n1]
        exact n1
    · obtain ⟨m1, m2, m3, m4⟩ := g.2.2 e n1
      have m5 := g.2.1
      rw [n2, if_neg (show ¬ (1 : Int32) = 0 by decide)]
      show ∃ x α', ((f_X7_skip α2 41).bind fun r7 => if r7.1 = 0 then some (0, r7.2) else some (1, r7.2)) = some (x, α') ∧ _
      rw [ml_skip (ml_CSf h f2) s3 m5]
      have old : ∀ i, i < w → α2.1 7 i = α.1 7 i ∧ α2.1 8 i = α.1 8 i := fun i hi => by
        have := n5 i hi
        rw [a7, a8] at this
        exact this
      unfold ml_cls
      rw [n1]
      by_cases q2 : ml_c b n (ml_ex5 b n (ml_opd b n o) (p + 1)).1 = 41
      · rw [if_pos q2, mk_bs, if_neg (show ¬ (1 : Int32) = 0 by decide)]
        show ∃ x α', _ ∧ ml_rc p w α (if ml_c b n (ml_ex5 b n (ml_opd b n o) (p + 1)).1 = 41 then _ else _) x α'
        rw [if_pos q2]
        refine ⟨1, _, rfl, mk_frt f2 (mk_frI (by unfold ml_Z7; omega)), ?_, .inr ⟨e, rfl, rfl, ?_, ?_, fun i hi => ?_⟩⟩
        · rw [mk_g, if_pos ⟨rfl, rfl⟩]
        · rw [mk_g, if_neg (by omega)]
          exact n3
        · exact n4
        · exact old i hi
      · rw [if_neg q2, mk_bs, if_pos rfl]
        show ∃ x α', _ ∧ ml_rc p w α (if ml_c b n (ml_ex5 b n (ml_opd b n o) (p + 1)).1 = 41 then _ else _) x α'
        rw [if_neg q2]
        exact ⟨0, α2, rfl, f2, s3, .inl ⟨rfl, rfl, w + e.2.length, by omega, n3⟩⟩
  by_cases q2 : ml_c b n p = 33
  · rw [if_neg q1, if_pos q2, if_neg q1, if_pos (.inl q2)]
    exact give _ (negs q1 (ml_c_lt (by rw [q2]; decide)) (.inl q2))
  by_cases q3 : ml_c b n p = 45
  · rw [if_neg q1, if_neg q2, if_pos q3, if_neg q1, if_pos (.inr q3)]
    exact give _ (negs q1 (ml_c_lt (by rw [q3]; decide)) (.inr q3))
  rw [if_neg q1, if_neg q2, if_neg q3, if_neg q1, if_neg (show ¬ (ml_c b n p = 33 ∨ ml_c b n p = 45) from fun z => z.elim q2 q3)]
  exact ml_atomC hb h e4 e5 hp hw _
theorem ml_allC {b : Nat → Int32} {n : Nat} (hb : ml_by b n) : ∀ o K, o ≤ 6 → 12 * o + 1 ≤ K → ml_SC b n (fun α => rc_X7_readJoined K 2 (nI (6 - o)) 0 α) (ml_opd b n o)
  | 0, K, _, hK => by
    obtain ⟨K', rfl⟩ : ∃ K', K = K' + 1 := ⟨K - 1, by omega⟩
    exact ml_op0C hb K'
  | o + 1, K, ho, hK => by
    obtain ⟨K', rfl⟩ : ∃ K', K = K' + 10 + 2 := ⟨K - 12, by omega⟩
    have s1 := ml_allC hb o K' (by omega) (by omega)
    have s2 := ml_allC hb o (K' + 10) (by omega) (by omega)
    have s3 := ml_exC (ml_opd_good b n o) K' _ s1
    have e : 6 - (o + 1) + 1 = 6 - o := by omega
    refine ml_opC hb (K' + 10) (op := 6 - (o + 1)) (by omega) ?_ ?_
    · rw [e]
      exact s3
    · rw [e]
      exact s2
theorem ml_exprC {b : Nat → Int32} {n : Nat} (hb : ml_by b n) : ml_SC b n (fun α => f_X7_readJoined α 0 0) (ml_ex5 b n (ml_opd b n 6)) := ml_exC (ml_opd_good b n 6) 90 (nI 0) (ml_allC hb 6 90 (by omega) (by omega))
