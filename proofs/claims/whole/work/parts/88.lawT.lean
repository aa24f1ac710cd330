-- law: the reference's texts
theorem ml_tail {b : Nat → Int32} {n : Nat} {N : Nat → Int32} {X : Nat → ml_P} (F f p : Nat) (gi gv : Int32) (l : ml_Ln) {β0 β1 : mj_S} (gi' gv' : Int32) (h0 : ml_RS b n N β0) (f1 : mk_fr ml_Z10 β0 β1) (hl : (ml_ln b n X p).2 = some l) (e4 : β1.1 64 20 = nI (ml_ln b n X p).1) (hp' : (ml_ln b n X p).1 ≤ n) (ef : β1.1 64 22 = -1) (hf : 0 < f)
    (hg : gi' = 0 → gv' = 0) (hv : ∀ ls, (if gi' = 0 then ml_tv N ls else gv') = if gi = 0 then ml_tv N (l :: ls) else gv)
    (ih : (ml_ln b n X p).1 < n → ∃ v β', b_X10_workOut_33 f gi' gv' 1 (mj_sI β1 64 20 (nI ((ml_ln b n X p).1 + 1))) = some (v, β') ∧ mk_fr ml_Z10 (mj_sI β1 64 20 (nI ((ml_ln b n X p).1 + 1))) β' ∧ (((ml_tx b n X F ((ml_ln b n X p).1 + 1)).2 = none ∧ β'.1 64 22 = nI (ml_tx b n X F ((ml_ln b n X p).1 + 1)).1) ∨ ∃ ls, (ml_tx b n X F ((ml_ln b n X p).1 + 1)).2 = some ls ∧ β'.1 64 22 = -1 ∧ v = if gi' = 0 then ml_tv N ls else gv')) :
    ∃ v β', b_X10_workOut_96 (b_X10_workOut_33 f) gi' gv' β1 = some (v, β') ∧ mk_fr ml_Z10 β0 β' ∧ (((ml_tx b n X (F + 1) p).2 = none ∧ β'.1 64 22 = nI (ml_tx b n X (F + 1) p).1) ∨ ∃ ls, (ml_tx b n X (F + 1) p).2 = some ls ∧ β'.1 64 22 = -1 ∧ v = if gi = 0 then ml_tv N ls else gv) := by
  have hn := h0.1
  have h1 := ml_RSf h0 f1
  have etx : ml_tx b n X (F + 1) p = if (ml_ln b n X p).1 < n then (if ml_c b n (ml_ln b n X p).1 = 59 then ((ml_tx b n X F ((ml_ln b n X p).1 + 1)).1, (ml_tx b n X F ((ml_ln b n X p).1 + 1)).2.map fun r => l :: r) else ((ml_ln b n X p).1, none)) else ((ml_ln b n X p).1, some [l]) := by
    show (match (ml_ln b n X p).2 with | none => _ | some l => _) = _
    rw [hl]
  obtain ⟨f', rfl⟩ : ∃ f', f = f' + 1 := ⟨f - 1, by omega⟩
  rw [etx]
  unfold b_X10_workOut_96
  rw [ml_takes h1 e4 hp' ef (by decide) (by decide)]
  by_cases q : (ml_ln b n X p).1 < n
  · rw [if_pos q]
    by_cases q2 : ml_c b n (ml_ln b n X p).1 = 59
    · rw [if_pos q2, if_pos q2, mk_bs]
      obtain ⟨v, β', o1, o2, o3⟩ := ih q
      refine ⟨v, β', o1, mk_frt f1 (mk_frt (mk_frI (by unfold ml_Z10; omega)) o2), ?_⟩
      rcases o3 with ⟨v1, v2⟩ | ⟨ls, v1, v2, v3⟩
      · refine .inl ⟨?_, v2⟩
        show (ml_tx b n X F ((ml_ln b n X p).1 + 1)).2.map _ = none
        rw [v1]
        rfl
      · refine .inr ⟨l :: ls, ?_, v2, ?_⟩
        · show (ml_tx b n X F ((ml_ln b n X p).1 + 1)).2.map _ = _
          rw [v1]
          rfl
        · rw [v3]
          exact hv ls
    · rw [if_neg q2, if_neg q2, mk_bs]
      refine ⟨0, mj_sI β1 64 22 (nI (ml_ln b n X p).1), ?_, mk_frt f1 (mk_frI (by unfold ml_Z10; omega)), .inl ⟨rfl, ?_⟩⟩
      · show b_X10_workOut_33 (f' + 1) gi' gv' 0 β1 = _
        unfold b_X10_workOut_33
        rw [if_pos rfl, ef, if_neg (show ¬ (0 : Int32) ≤ -1 by decide), h1.2.1, e4, if_neg (nI_ge q (by omega))]
        exact ml_wrong e4 ef
      · rw [mk_g, if_pos ⟨rfl, rfl⟩]
  · have cm : ml_c b n (ml_ln b n X p).1 = -1 := if_neg q
    rw [if_neg q, if_neg (show ¬ ml_c b n (ml_ln b n X p).1 = 59 by rw [cm]; decide), mk_bs]
    refine ⟨gv', β1, ?_, f1, .inr ⟨[l], rfl, ef, ?_⟩⟩
    · show b_X10_workOut_33 (f' + 1) gi' gv' 0 β1 = _
      unfold b_X10_workOut_33
      rw [if_pos rfl, ef, if_neg (show ¬ (0 : Int32) ≤ -1 by decide), h1.2.1, e4, if_pos (nI_le (by omega) (by omega))]
    · rw [← hv []]
      by_cases z : gi' = 0
      · rw [if_pos z, hg z]
        rfl
      · rw [if_neg z]
theorem ml_textR {b : Nat → Int32} {n : Nat} {N : Nat → Int32} {X : Nat → ml_P} (hX : ml_Gf n X) (hS : ml_SR b n N 0 f_X10_either X) : ∀ (F f p : Nat) (gi gv : Int32) (β : mj_S), 120 < F + p → 122 < f + p → ml_RS b n N β → β.1 64 20 = nI p → β.1 64 22 = -1 → β.1 64 23 = nI 0 → p ≤ n → (gi = 0 → gv = 0) → (gi = 0 ∨ gi = 1) →
    ∃ v β', b_X10_workOut_33 f gi gv 1 β = some (v, β') ∧ mk_fr ml_Z10 β β' ∧ (((ml_tx b n X F p).2 = none ∧ β'.1 64 22 = nI (ml_tx b n X F p).1) ∨ ∃ ls, (ml_tx b n X F p).2 = some ls ∧ β'.1 64 22 = -1 ∧ v = if gi = 0 then ml_tv N ls else gv)
  | 0, f, p, gi, gv, β, hF, _, h, _, _, _, hp, _, _ => by
    have := h.1
    omega
  | F + 1, 0, p, gi, gv, β, _, hf, h, _, _, _, hp, _, _ => by
    have := h.1
    omega
  | F + 1, f + 1, p, gi, gv, β, hF, hf, h, e4, ef, eo, hp, hg, hgi => by
    have hn := h.1
    obtain ⟨x, β1, s1, f1, s3, s4⟩ := hS β p h e4 ef eo hp
    obtain ⟨g1, g2, g3⟩ := hX p hp
    have lg := ml_ln_good (b := b) hX hp
    have h1 := ml_RSf h f1
    unfold b_X10_workOut_33
    rw [if_neg (show ¬ (1 : Int32) = 0 by decide), s1, mk_bs]
    show ∃ v β', ((f_X10_takes β1 63).bind fun r6 => (if r6.1 = 0 then b_X10_workOut_74 (b_X10_workOut_33 f) gi gv x 1 r6.2 else (if x = 0 then b_X10_workOut_66 (b_X10_workOut_33 f) gi gv 0 r6.2 else b_X10_workOut_66 (b_X10_workOut_33 f) gi gv 1 r6.2))) = some (v, β') ∧ _
    -- a fault: nothing more is read
    have fault : ∀ (v6 v7 : Int32) (β2 : mj_S) (q : Nat), q ≤ n → mk_fr ml_Z10 β β2 → β2.1 64 22 = nI q → (ml_ln b n X p) = (q, none) → ∃ v β', b_X10_workOut_74 (b_X10_workOut_33 f) gi gv v6 v7 β2 = some (v, β') ∧ mk_fr ml_Z10 β β' ∧ (((ml_tx b n X (F + 1) p).2 = none ∧ β'.1 64 22 = nI (ml_tx b n X (F + 1) p).1) ∨ ∃ ls, (ml_tx b n X (F + 1) p).2 = some ls ∧ β'.1 64 22 = -1 ∧ v = if gi = 0 then ml_tv N ls else gv) := by
      intro v6 v7 β2 q hq f2 e22 hln
      have etx : ml_tx b n X (F + 1) p = (q, none) := by
        show (match (ml_ln b n X p).2 with | none => ((ml_ln b n X p).1, none) | some l => _) = _
        rw [hln]
      obtain ⟨f', rfl⟩ : ∃ f', f = f' + 1 := ⟨f - 1, by omega⟩
      refine ⟨gv, β2, ?_, f2, .inl ⟨by rw [etx], by rw [etx]; exact e22⟩⟩
      unfold b_X10_workOut_74 b_X10_workOut_96
      rw [e22, if_pos (ml_ge0 (by omega)), ml_takesF (by omega) e22, mk_bs]
      show b_X10_workOut_33 (f' + 1) gi gv 0 β2 = _
      unfold b_X10_workOut_33
      rw [if_pos rfl, e22, if_pos (ml_ge0 (by omega))]
    -- a line read to its end
    have done : ∀ (l : ml_Ln) (v6 v7 : Int32) (β2 : mj_S), (ml_ln b n X p).2 = some l → mk_fr ml_Z10 β β2 → β2.1 64 20 = nI (ml_ln b n X p).1 → β2.1 64 22 = -1 → β2.1 64 23 = nI 0 → v6 = l.2.1 N → ((v7 = 0 ∧ ∃ c, l.1 = some c ∧ c.1 N = 0) ∨ (v7 ≠ 0 ∧ (l.1 = none ∨ ∃ c, l.1 = some c ∧ ¬ c.1 N = 0))) → ∃ v β', b_X10_workOut_74 (b_X10_workOut_33 f) gi gv v6 v7 β2 = some (v, β') ∧ mk_fr ml_Z10 β β' ∧ (((ml_tx b n X (F + 1) p).2 = none ∧ β'.1 64 22 = nI (ml_tx b n X (F + 1) p).1) ∨ ∃ ls, (ml_tx b n X (F + 1) p).2 = some ls ∧ β'.1 64 22 = -1 ∧ v = if gi = 0 then ml_tv N ls else gv) := by
      intro l v6 v7 β2 hl f2 e20 e22 e23 hv6 hv7
      have g3' := (lg.2.2 l hl).1
      have next : ∀ gi' gv', (gi' = 0 → gv' = 0) → (gi' = 0 ∨ gi' = 1) → (ml_ln b n X p).1 < n → ∃ v β', b_X10_workOut_33 f gi' gv' 1 (mj_sI β2 64 20 (nI ((ml_ln b n X p).1 + 1))) = some (v, β') ∧ mk_fr ml_Z10 (mj_sI β2 64 20 (nI ((ml_ln b n X p).1 + 1))) β' ∧ (((ml_tx b n X F ((ml_ln b n X p).1 + 1)).2 = none ∧ β'.1 64 22 = nI (ml_tx b n X F ((ml_ln b n X p).1 + 1)).1) ∨ ∃ ls, (ml_tx b n X F ((ml_ln b n X p).1 + 1)).2 = some ls ∧ β'.1 64 22 = -1 ∧ v = if gi' = 0 then ml_tv N ls else gv') := by
        intro gi' gv' a1 a2 pn
        exact ml_textR hX hS F f _ gi' gv' _ (by omega) (by omega) (ml_RSf h (mk_frt f2 (mk_frI (by unfold ml_Z10; omega)))) (by rw [mk_g, if_pos ⟨rfl, rfl⟩]) (by rw [mk_g, if_neg (by omega)]; exact e22) (by rw [mk_g, if_neg (by omega)]; exact e23) (by omega) a1 a2
      unfold b_X10_workOut_74
      rw [e22, if_neg (show ¬ (0 : Int32) ≤ -1 by decide)]
      rcases hv7 with ⟨z, c, hc1, hc2⟩ | ⟨z, hc⟩
      · rw [if_pos z]
        refine ml_tail F f p gi gv l gi gv h f2 hl e20 lg.2.1 e22 (by omega) hg (fun ls => ?_) (next gi gv hg hgi)
        by_cases y : gi = 0
        · rw [if_pos y, if_pos y]
          show _ = (match l.1 with | none => l.2.1 N | some c => if c.1 N = 0 then ml_tv N ls else l.2.1 N)
          rw [hc1]
          show _ = (if c.1 N = 0 then ml_tv N ls else l.2.1 N)
          rw [if_pos hc2]
        · rw [if_neg y, if_neg y]
      · rw [if_neg z]
        by_cases y : gi = 0
        · rw [if_pos y]
          refine ml_tail F f p gi gv l 1 v6 h f2 hl e20 lg.2.1 e22 (by omega) (fun w => absurd w (by decide)) (fun ls => ?_) (next 1 v6 (fun w => absurd w (by decide)) (.inr rfl))
          rw [if_neg (show ¬ (1 : Int32) = 0 by decide), if_pos y, hv6]
          show _ = (match l.1 with | none => l.2.1 N | some c => if c.1 N = 0 then ml_tv N ls else l.2.1 N)
          rcases hc with hc | ⟨c, hc1, hc2⟩
          · rw [hc]
          · rw [hc1]
            show _ = (if c.1 N = 0 then ml_tv N ls else l.2.1 N)
            rw [if_neg hc2]
        · rw [if_neg y]
          refine ml_tail F f p gi gv l gi gv h f2 hl e20 lg.2.1 e22 (by omega) hg (fun ls => ?_) (next gi gv hg hgi)
          rw [if_neg y, if_neg y]
    have eln : ml_ln b n X p = (match (X p).2 with | none => ((X p).1, none) | some e => if ml_c b n (X p).1 = 63 then ((X ((X p).1 + 1)).1, (X ((X p).1 + 1)).2.map fun e2 => (some e, e2)) else ((X p).1, some (none, e))) := rfl
    rcases s4 with ⟨n1, n2⟩ | ⟨e, n1, n2, n3, n4⟩
    · rw [ml_takesF (by omega) n2, mk_bs, if_pos rfl]
      exact fault x 1 β1 _ g2 f1 n2 (by rw [eln, n1])
    rw [n1] at eln
    have eln' : ml_ln b n X p = if ml_c b n (X p).1 = 63 then ((X ((X p).1 + 1)).1, (X ((X p).1 + 1)).2.map fun e2 => (some e, e2)) else ((X p).1, some (none, e)) := eln
    rw [ml_takes h1 s3 g2 n3 (by decide) (by decide)]
    by_cases q : ml_c b n (X p).1 = 63
    · rw [if_pos q] at eln'
      have pn : (X p).1 < n := ml_c_lt (by rw [q]; decide)
      obtain ⟨m1, m2, m3⟩ := hX ((X p).1 + 1) (by omega)
      obtain ⟨β2, hβ2⟩ : ∃ β2, β2 = mj_sI β1 64 20 (nI ((X p).1 + 1)) := ⟨_, rfl⟩
      have f2 : mk_fr ml_Z10 β β2 := by rw [hβ2]; exact mk_frt f1 (mk_frI (by unfold ml_Z10; omega))
      obtain ⟨x2, β3, t1, f3, t3, t4⟩ := hS β2 ((X p).1 + 1) (ml_RSf h f2) (by rw [hβ2, mk_g, if_pos ⟨rfl, rfl⟩]) (by rw [hβ2, mk_g, if_neg (by omega)]; exact n3) (by rw [hβ2, mk_g, if_neg (by omega)]; exact n4) (by omega)
      rw [if_pos q, mk_bs, if_neg (show ¬ (1 : Int32) = 0 by decide), ← hβ2]
      have w66 : ∀ v7, b_X10_workOut_66 (b_X10_workOut_33 f) gi gv v7 β2 = b_X10_workOut_74 (b_X10_workOut_33 f) gi gv x2 v7 β3 := by
        intro v7
        unfold b_X10_workOut_66
        rw [t1, mk_bs]
      show ∃ v β', (if x = 0 then b_X10_workOut_66 (b_X10_workOut_33 f) gi gv 0 β2 else b_X10_workOut_66 (b_X10_workOut_33 f) gi gv 1 β2) = some (v, β') ∧ _
      rw [w66, w66]
      have f23 := mk_frt f2 f3
      rcases t4 with ⟨v1, v2⟩ | ⟨e2, v1, v2, v3, v4⟩
      · have hln : ml_ln b n X p = ((X ((X p).1 + 1)).1, none) := by
          rw [eln', v1]
          rfl
        by_cases z : x = 0
        · rw [if_pos z]
          exact fault x2 0 β3 _ m2 f23 v2 hln
        · rw [if_neg z]
          exact fault x2 1 β3 _ m2 f23 v2 hln
      · have hl2 : (ml_ln b n X p).2 = some (some e, e2) := by
          rw [eln', v1]
          rfl
        have hl1 : (ml_ln b n X p).1 = (X ((X p).1 + 1)).1 := by rw [eln']
        have t3' : β3.1 64 20 = nI (ml_ln b n X p).1 := by rw [hl1]; exact t3
        by_cases z : x = 0
        · rw [if_pos z]
          exact done (some e, e2) x2 0 β3 hl2 f23 t3' v3 v4 v2 (.inl ⟨rfl, e, rfl, by rw [← n2]; exact z⟩)
        · rw [if_neg z]
          exact done (some e, e2) x2 1 β3 hl2 f23 t3' v3 v4 v2 (.inr ⟨by decide, .inr ⟨e, rfl, by rw [← n2]; exact z⟩⟩)
    · rw [if_neg q] at eln'
      rw [if_neg q, mk_bs, if_pos rfl]
      have hl2 : (ml_ln b n X p).2 = some (none, e) := by rw [eln']
      have hl1 : (ml_ln b n X p).1 = (X p).1 := by rw [eln']
      exact done (none, e) x 1 β1 hl2 f1 (by rw [hl1]; exact s3) n3 n4 n2 (.inr ⟨by decide, .inl rfl⟩)
def ml_ZW (x y : Nat) : Prop := x = 64 ∧ 19 ≤ y ∧ y ≤ 23
/-- a whole text worked out: from the tape or from the text kept -/
theorem ml_work {b : Nat → Int32} {n : Nat} {N : Nat → Int32} {X : Nat → ml_P} (hX : ml_Gf n X) (hS : ml_SR b n N 0 f_X10_either X) (hn : n ≤ 120) {β : mj_S} {base : Int32} (hb : (base = -1 ∧ ∀ i, i < n → β.1 75 i = b i) ∨ (base = 0 ∧ ∀ i, i < n → β.1 76 i = b i)) (hN : ∀ k, k < 7 → β.1 77 k = N k) : ∃ v β', f_X10_workOut β base (nI n) = some (v, β') ∧ mk_fr ml_ZW β β' ∧ (((ml_tx b n X 121 0).2 = none ∧ β'.1 64 22 = nI (ml_tx b n X 121 0).1) ∨ ∃ ls, (ml_tx b n X 121 0).2 = some ls ∧ β'.1 64 22 = -1 ∧ v = ml_tv N ls) := by
  obtain ⟨β1, hβ1⟩ : ∃ β1, β1 = mj_sI (mj_sI (mj_sI (mj_sI (mj_sI β 64 19 base) 64 20 0) 64 21 (nI n)) 64 22 (-1)) 64 23 0 := ⟨_, rfl⟩
  have f1 : mk_fr ml_ZW β β1 := by
    rw [hβ1]
    exact mk_frt (mk_frt (mk_frt (mk_frt (mk_frI (by unfold ml_ZW; omega)) (mk_frI (by unfold ml_ZW; omega))) (mk_frI (by unfold ml_ZW; omega))) (mk_frI (by unfold ml_ZW; omega))) (mk_frI (by unfold ml_ZW; omega))
  have b19 : β1.1 64 19 = base := by rw [hβ1]; rfl
  have b21 : β1.1 64 21 = nI n := by rw [hβ1]; rfl
  have rs : ml_RS b n N β1 := by
    refine ⟨hn, b21, ?_, fun k hk => (f1.1 77 k (by unfold ml_ZW; omega)).trans (hN k hk)⟩
    rw [b19]
    rcases hb with ⟨a1, a2⟩ | ⟨a1, a2⟩
    · exact .inl ⟨a1, fun i hi => (f1.1 75 i (by unfold ml_ZW; omega)).trans (a2 i hi)⟩
    · exact .inr ⟨a1, fun i hi => (f1.1 76 i (by unfold ml_ZW; omega)).trans (a2 i hi)⟩
  obtain ⟨v, β2, o1, o2, o3⟩ := ml_textR hX hS 121 mj_fu 0 0 0 β1 (by omega) (by show 122 < 5000 + 0; omega) rs (by rw [hβ1]; rfl) (by rw [hβ1]; rfl) (by rw [hβ1]; rfl) (by omega) (fun _ => rfl) (.inl rfl)
  refine ⟨v, β2, ?_, mk_frt f1 (mk_frw o2 (fun x y z => by unfold ml_Z10 at z; unfold ml_ZW; omega)), ?_⟩
  · unfold f_X10_workOut
    rw [← hβ1]
    exact o1
  · rcases o3 with z | ⟨ls, v1, v2, v3⟩
    · exact .inl z
    · rw [if_pos rfl] at v3
      exact .inr ⟨ls, v1, v2, v3⟩
theorem ml_keep {n : Nat} (hn : n ≤ 120) : ∀ (f i : Nat) (β : mj_S), n < f + i → i ≤ n → ∃ β', b_X10_law_37 f (nI n) (nI i) β = some (1, β') ∧ mk_fr (fun x y => x = 76 ∨ (x = 64 ∧ (y = 18 ∨ y = 6))) β β' ∧ β'.1 64 18 = nI n ∧ β'.1 64 6 = 0 ∧ (∀ j, j < i → β'.1 76 j = β.1 76 j) ∧ ∀ j, i ≤ j → j < n → β'.1 76 j = β.1 75 j
  | 0, i, β, hf, hi => absurd hf (by omega)
  | f + 1, i, β, hf, hi => by
    unfold b_X10_law_37
    by_cases q : i = n
    · rw [if_pos (by rw [q]; exact nI_le (by omega) (by omega))]
      refine ⟨_, rfl, mk_frt (mk_frI (by omega)) (mk_frI (by omega)), ?_, ?_, fun j hj => ?_, fun j h1 h2 => absurd h1 (by omega)⟩
      · rw [mk_g, if_neg (by omega), mk_g, if_pos ⟨rfl, rfl⟩]
      · rw [mk_g, if_pos ⟨rfl, rfl⟩]
      · rw [mk_g, if_neg (by omega), mk_g, if_neg (by omega)]
    · have ib : 0 ≤ (nI i).toInt ∧ (nI i).toInt < 120 := by
        rw [nI_toInt (by omega)]
        omega
      have e1 : nI i + 1 = nI (i + 1) := nI_add i 1
      rw [if_neg (nI_ge (by omega) (by omega)), if_pos ib, if_pos ib, nI_clamp (by omega), e1]
      obtain ⟨β', o1, o2, o3, o4, o5, o6⟩ := ml_keep hn f (i + 1) (mj_sI β 76 i (β.1 75 i)) (by omega) (by omega)
      refine ⟨β', o1, mk_frt (mk_frI (by omega)) o2, o3, o4, fun j hj => ?_, fun j h1 h2 => ?_⟩
      · rw [o5 j (by omega), mk_g, if_neg (by omega)]
      · by_cases z : j = i
        · rw [z, o5 i (by omega), mk_g, if_pos ⟨rfl, rfl⟩]
        · rw [o6 j (by omega) h2, mk_g, if_neg (by omega)]
/-- the law that a text makes, on both sides -/
theorem ml_lawOf {b : Nat → Int32} {n : Nat} {ls : List ml_Ln} (hn : n ≤ 120) (ht : (ml_tx b n (ml_ex5 b n (ml_opd b n 6)) 121 0).2 = some ls) (hlen : (ml_tc 0 ls).length ≤ 121) {c2 c3 c76 : Nat → Int32} (hp : ml_pl c2 c3 0 (ml_tc 0 ls)) (h76 : ∀ i, i < n → c76 i = b i) : mk_law (ml_g ls) (nI (ml_tc 0 ls).length) 1 (nI n) c2 c3 c76 := by
  have hX := ml_ex5_good (b := b) (ml_opd_good b n 6)
  have hG := ml_tx_good hX 121 0 ls (by omega) ht
  refine mk_law.mk (fun τ h13 h15 h2 h3 => ml_growth hG hlen hp τ h13 h15 h2 h3) (fun τ p1 p2 p3 p4 p5 p6 h18 h76' hp1 => ?_) (ml_g_small ls)
  obtain ⟨τ1, hτ1⟩ : ∃ τ1, τ1 = mj_sI (mj_sI (mj_sI (mj_sI (mj_sI (mj_sI (mj_sI τ 77 0 ((p6 - (τ.1 69 p1.toNatClampNeg)) - p2)) 77 1 (τ.1 70 p1.toNatClampNeg)) 77 2 p3) 77 3 (p4 / 64)) 77 4 (p5 / 64)) 77 5 (mj_rem p6 12)) 77 6 p1 := ⟨_, rfl⟩
  have hN : ∀ k, k < 7 → τ1.1 77 k = ml_nm7 ((p6 - τ.1 69 p1.toNatClampNeg) - p2) (τ.1 70 p1.toNatClampNeg) p3 (p4 / 64) (p5 / 64) (mj_rem p6 12) p1 k := by
    intro k hk
    rw [hτ1]
    match k, hk with
    | 0, _ => rfl
    | 1, _ => rfl
    | 2, _ => rfl
    | 3, _ => rfl
    | 4, _ => rfl
    | 5, _ => rfl
    | 6, _ => rfl
  have f1 : mk_fr mk_Z77 τ τ1 := by
    rw [hτ1]
    exact mk_frt (mk_frt (mk_frt (mk_frt (mk_frt (mk_frt (mk_frI (.inl rfl)) (mk_frI (.inl rfl))) (mk_frI (.inl rfl))) (mk_frI (.inl rfl))) (mk_frI (.inl rfl))) (mk_frI (.inl rfl))) (mk_frI (.inl rfl))
  have t76 : ∀ i, i < n → τ1.1 76 i = b i := fun i hi => by
    rw [f1.1 76 i (by unfold mk_Z77; omega), h76']
    exact h76 i hi
  obtain ⟨v, τ2, o1, o2, o3⟩ := ml_work hX (ml_exprR b n _) hn (.inr ⟨rfl, t76⟩) hN
  rcases o3 with ⟨z, _⟩ | ⟨ls', z, _, hv⟩
  · rw [ht] at z
    cases z
  rw [ht] at z
  have el : ls = ls' := Option.some.inj z
  rw [← el] at hv
  have ge : (0 : Int32) ≤ τ.1 64 18 := by rw [h18]; exact ml_ge0 (by omega)
  refine ⟨τ2, ?_, mk_frt f1 (mk_frw o2 (fun x y z => by unfold ml_ZW at z; unfold mk_Z77; omega))⟩
  unfold f_X10_growsBy
  rw [if_pos hp1, if_pos ge, if_pos hp1, ← hτ1, h18, o1, mk_bs]
  show (if (0 : Int32) ≤ v then (if v ≤ 99 then some (v, τ2) else some (99, τ2)) else some (0, τ2)) = some (mj_max 0 (mj_min 99 (ml_tv _ ls)), τ2)
  rw [← hv]
  have e0 : (0 : Int32).toInt = 0 := rfl
  have e99 : (99 : Int32).toInt = 99 := rfl
  unfold mj_max mj_min
  by_cases q : (0 : Int32) ≤ v
  · rw [if_pos q]
    by_cases q2 : v ≤ (99 : Int32)
    · rw [if_pos q2]
      by_cases q3 : v < (99 : Int32)
      · rw [if_pos q3]
        by_cases q4 : (0 : Int32) < v
        · rw [if_pos q4]
        · have : v = 0 := by
            rw [mk_lee, e0] at q
            rw [mk_ltt, e0] at q4
            exact Int32.toInt_inj.mp (by rw [e0]; omega)
          rw [if_neg q4, this]
      · have : v = 99 := by
          rw [mk_lee, e99] at q2
          rw [mk_ltt, e99] at q3
          exact Int32.toInt_inj.mp (by rw [e99]; omega)
        rw [if_neg q3, if_pos (by decide), this]
    · have n3 : ¬ v < (99 : Int32) := by
        rw [mk_lee, e99] at q2
        rw [mk_ltt, e99]
        omega
      rw [if_neg q2, if_neg n3, if_pos (by decide)]
  · have l3 : v < (99 : Int32) := by
      rw [mk_lee, e0] at q
      rw [mk_ltt, e99]
      omega
    have l4 : ¬ (0 : Int32) < v := by
      rw [mk_lee, e0] at q
      rw [mk_ltt, e0]
      omega
    rw [if_neg q, if_pos l3, if_neg l4]
