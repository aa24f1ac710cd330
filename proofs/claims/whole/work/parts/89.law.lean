-- law
theorem ml_Jempty {g c w n k d d2 a σ} (h : mk_J g c w n k d d2 a σ) : mk_J g c w 0 k d d2 a (mj_sI (mj_sI σ 5 3 0) 64 16 0) :=
  mk_J.mk (hc := h.hc) (c9 := h.c9) (c64 := h.c64) (kid := h.kid) (hw := h.hw) (w9 := h.w9) (w64 := h.w64) (want := h.want) (noWant := h.noWant) (tape := h.tape) (law := h.law) (stale := h.stale) (rows := h.rows) (rowsM := h.rowsM) (grown := h.grown) (hk := h.hk) (k35 := h.k35) (k64 := h.k64) (mark := h.mark) (painted := h.painted) (ahead := h.ahead) (hd := h.hd) (hd2 := h.hd2) (d45 := h.d45) (d64 := h.d64) (e45 := h.e45) (e64 := h.e64) (chg := h.chg) (ha := h.ha) (a50 := h.a50) (a64 := h.a64) (body := h.body) (ran := h.ran) (trace := h.trace) (shelf := h.shelf) (hn := by omega) (n5 := rfl) (n64 := rfl) (bytes := fun i hi => absurd hi (by omega))
def ml_ZS (x y : Nat) : Prop := x = 7 ∨ x = 8 ∨ (x = 5 ∧ (y = 4 ∨ y = 5)) ∨ (x = 64 ∧ 19 ≤ y ∧ y ≤ 23)
def ml_ZB (x y : Nat) : Prop := ml_ZS x y ∨ mk_Zr x y ∨ x = 2 ∨ x = 3 ∨ (x = 1 ∧ (y = 3 ∨ y = 5)) ∨ (x = 5 ∧ y = 3) ∨ (x = 64 ∧ (y = 16 ∨ y = 18 ∨ y = 6)) ∨ x = 76
noncomputable def ml_mid (σN σ2 : mj_S) : mj_S := (fun x y => @ite _ (ml_ZS x y) (Classical.propDecidable _) (σN.1 x y) (σ2.1 x y), σ2.2)
theorem ml_midS {σN σ2 : mj_S} {x y : Nat} (h : ml_ZS x y) : (ml_mid σN σ2).1 x y = σN.1 x y := by
  show @ite _ _ (Classical.propDecidable _) _ _ = _
  rw [if_pos h]
theorem ml_midN {σN σ2 : mj_S} {x y : Nat} (h : ¬ ml_ZS x y) : (ml_mid σN σ2).1 x y = σ2.1 x y := by
  show @ite _ _ (Classical.propDecidable _) _ _ = _
  rw [if_neg h]
/-- the state after a law: what it became, and the rows by it -/
theorem ml_after {g : mk_G} {g' : mk_G} {c w n k d d2 a : Nat} {σ σ2 : mj_S} {len n' : Nat} (h : mk_J g c w n k d d2 a σ) (fB : mk_fr ml_ZB σ σ2) (v13 : σ2.1 1 3 = nI len) (v15 : σ2.1 1 5 = 1) (v53 : σ2.1 5 3 = 0) (v16 : σ2.1 64 16 = 0) (v18 : σ2.1 64 18 = nI n') (v6 : σ2.1 64 6 = 0) (hl : mk_law g' (nI len) 1 (nI n') (σ2.1 2) (σ2.1 3) (σ2.1 76)) (hr : ∀ j, j < c → σ2.1 33 j = 0 ∧ mk_rr g' σ σ2 j) : mk_J g' c w 0 k d d2 a σ2 := by
  have hc := h.hc
  obtain ⟨σN, hσN⟩ : ∃ σN, σN = mj_sI (mj_sI (mj_sI (mj_sI (mj_sI (mj_sI (mj_sR (mj_sR (mj_sR σ 2 (σ2.1 2)) 3 (σ2.1 3)) 76 (σ2.1 76)) 1 3 (nI len)) 1 5 1) 64 18 (nI n')) 64 6 0) 5 3 0) 64 16 0 := ⟨_, rfl⟩
  have key : ∀ x y, ¬ mk_Zr x y → ¬ ml_ZS x y → σ2.1 x y = σN.1 x y := by
    intro x y z1 z2
    rw [hσN, mk_g, mk_g, mk_g, mk_g, mk_g, mk_g, mk_gR, mk_gR, mk_gR]
    by_cases q1 : x = 64 ∧ y = 16
    · rw [if_pos q1, q1.1, q1.2]
      exact v16
    rw [if_neg q1]
    by_cases q2 : x = 5 ∧ y = 3
    · rw [if_pos q2, q2.1, q2.2]
      exact v53
    rw [if_neg q2]
    by_cases q3 : x = 64 ∧ y = 6
    · rw [if_pos q3, q3.1, q3.2]
      exact v6
    rw [if_neg q3]
    by_cases q4 : x = 64 ∧ y = 18
    · rw [if_pos q4, q4.1, q4.2]
      exact v18
    rw [if_neg q4]
    by_cases q5 : x = 1 ∧ y = 5
    · rw [if_pos q5, q5.1, q5.2]
      exact v15
    rw [if_neg q5]
    by_cases q6 : x = 1 ∧ y = 3
    · rw [if_pos q6, q6.1, q6.2]
      exact v13
    rw [if_neg q6]
    by_cases q7 : x = 76
    · rw [if_pos q7, q7]
    rw [if_neg q7]
    by_cases q8 : x = 3
    · rw [if_pos q8, q8]
    rw [if_neg q8]
    by_cases q9 : x = 2
    · rw [if_pos q9, q9]
    rw [if_neg q9]
    exact fB.1 x y (fun z => by
      unfold ml_ZB at z
      rcases z with z | z | z
      · exact z2 z
      · exact z1 z
      · omega)
  have hK : mk_K g' c w 0 k d d2 a σN := by
    rw [hσN]
    exact mk_K.mk (hc := (mk_JK h).hc) (c9 := (mk_JK h).c9) (c64 := (mk_JK h).c64) (kid := (mk_JK h).kid) (hw := (mk_JK h).hw) (w9 := (mk_JK h).w9) (w64 := (mk_JK h).w64) (want := (mk_JK h).want) (noWant := (mk_JK h).noWant) (tape := (mk_JK h).tape) (hk := (mk_JK h).hk) (k35 := (mk_JK h).k35) (k64 := (mk_JK h).k64) (mark := (mk_JK h).mark) (painted := (mk_JK h).painted) (ahead := (mk_JK h).ahead) (hd := (mk_JK h).hd) (hd2 := (mk_JK h).hd2) (d45 := (mk_JK h).d45) (d64 := (mk_JK h).d64) (e45 := (mk_JK h).e45) (e64 := (mk_JK h).e64) (chg := (mk_JK h).chg) (ha := (mk_JK h).ha) (a50 := (mk_JK h).a50) (a64 := (mk_JK h).a64) (body := (mk_JK h).body) (ran := (mk_JK h).ran) (trace := (mk_JK h).trace) (shelf := (mk_JK h).shelf) (hn := by omega) (n5 := rfl) (n64 := rfl) (bytes := fun i hi => absurd hi (by omega)) (law := hl)
  have old : ∀ x y, 10 ≤ x → x ≤ 16 → σN.1 x y = σ.1 x y := fun x y h1 h2 => by
    rw [← key x y (by unfold mk_Zr; omega) (by unfold ml_ZS; omega)]
    exact fB.1 x y (by unfold ml_ZB ml_ZS mk_Zr; omega)
  have jM : mk_J g' c w 0 k d d2 a (ml_mid σN σ2) := by
    refine mk_JR hK ⟨fun x y z => ?_, ?_⟩ (fun j hj => ⟨?_, fun m hm => ?_⟩) ?_
    · by_cases q : ml_ZS x y
      · exact ml_midS q
      · rw [ml_midN q]
        exact key x y z q
    · show σ2.2 = σN.2
      rw [fB.2, hσN]
      rfl
    · rw [ml_midN (by unfold ml_ZS; omega)]
      exact (hr j hj).1
    · have o := (hr j hj).2 m hm
      rw [ml_midN (by unfold ml_ZS; omega), ml_midN (by unfold ml_ZS; omega), o.1, o.2, old 10 j (by omega) (by omega), old 11 j (by omega) (by omega), old 12 j (by omega) (by omega), old 13 j (by omega) (by omega), old 14 j (by omega) (by omega), funext fun y => old 15 y (by omega) (by omega), funext fun y => old 16 y (by omega) (by omega)]
      exact ⟨rfl, rfl⟩
    · rw [ml_midN (by unfold ml_ZS; omega)]
      exact v6
  refine mk_JQ jM ⟨fun x y z => ?_, rfl⟩ (.inl v6)
  exact (ml_midN (fun q => z (by unfold ml_ZS at q; unfold mk_Zq; omega))).symm
theorem op_law (σ : mj_S) : mk_I σ → ∃ (v : Int32) (σ1 σ2 : mj_S), f_X9_law σ = some (v, σ1) ∧ f_X10_law σ1 = some (v, σ2) ∧ mk_I σ2 := by
  rintro ⟨g, c, w, n, k, d, d2, a, h⟩
  have hn := h.hn
  have hc := h.hc
  have cs : ml_CS (σ.1 6) n σ := ⟨hn, h.n5, fun _ _ => rfl⟩
  have by6 : ml_by (σ.1 6) n := h.bytes
  have hX := ml_ex5_good (b := σ.1 6) (ml_opd_good (σ.1 6) n 6)
  obtain ⟨y, α1, r1, f1, r3⟩ := ml_readC hX (ml_exprC by6) cs
  -- the reference's reading, from any state that kept its tape and its count
  have work : ∀ β : mj_S, β.1 75 = σ.1 75 → β.1 64 16 = nI n → ∃ v β', f_X10_workOut β (-1) (β.1 64 16) = some (v, β') ∧ mk_fr ml_ZW β β' ∧ (((ml_tx (σ.1 6) n (ml_ex5 (σ.1 6) n (ml_opd (σ.1 6) n 6)) 121 0).2 = none ∧ β'.1 64 22 = nI (ml_tx (σ.1 6) n (ml_ex5 (σ.1 6) n (ml_opd (σ.1 6) n 6)) 121 0).1) ∨ ∃ ls, (ml_tx (σ.1 6) n (ml_ex5 (σ.1 6) n (ml_opd (σ.1 6) n 6)) 121 0).2 = some ls ∧ β'.1 64 22 = -1 ∧ v = ml_tv (β.1 77) ls) := by
    intro β e75 e16
    rw [e16]
    exact ml_work hX (ml_exprR (σ.1 6) n (β.1 77)) hn (.inl ⟨rfl, fun i hi => by rw [e75, h.tape]⟩) (fun k hk => rfl)
  unfold f_X9_law f_X10_law
  rw [r1, mk_bs]
  rcases r3 with ⟨t1, t2, ey⟩ | ⟨ls, t1, ey, hlen, h55, hpl⟩
  · -- a fault
    obtain ⟨q, hq⟩ : ∃ q, q = (ml_tx (σ.1 6) n (ml_ex5 (σ.1 6) n (ml_opd (σ.1 6) n 6)) 121 0).1 := ⟨_, rfl⟩
    rw [← hq] at t2 ey
    obtain ⟨v, β1, o1, o2, o3⟩ := work (mj_sI α1 5 3 0) (funext fun y => by rw [mk_g, if_neg (by omega)]; exact f1.1 75 y (by unfold ml_Z7; omega)) (by rw [mk_g, if_neg (by omega), f1.1 64 16 (by unfold ml_Z7; omega)]; exact h.n64)
    have e22 : β1.1 64 22 = nI q := by
      rcases o3 with ⟨_, z⟩ | ⟨ls, z, _⟩
      · rw [z, hq]
      · rw [t1] at z
        cases z
    refine ⟨-100 - nI q, mj_sI α1 5 3 0, mj_sI β1 64 16 0, ?_, ?_, g, c, w, 0, k, d, d2, a, ?_⟩
    · rw [ey]
      show (if (0 : Int32) ≤ nI q then b_X9_law_37 (nI q) α1 else _) = _
      rw [if_pos (ml_ge0 (by omega))]
      unfold b_X9_law_37 mj_let f_X7_emptyTape
      exact if_pos (ml_ge0 (by omega))
    · rw [o1, mk_bs]
      show (if β1.1 64 22 < 0 then _ else some ((-100) - (β1.1 64 22), (mj_sI β1 64 16 0))) = _
      rw [e22, if_neg (ml_lt0 (by omega))]
    · have k6 : (mj_sI β1 64 16 0).1 64 6 = σ.1 64 6 := by
        rw [mk_g, if_neg (by omega), o2.1 64 6 (by unfold ml_ZW; omega), mk_g, if_neg (by omega), f1.1 64 6 (by unfold ml_Z7; omega)]
      have k78 : (mj_sI β1 64 16 0).1 78 = σ.1 78 := funext fun y => by
        rw [mk_g, if_neg (by omega), o2.1 78 y (by unfold ml_ZW; omega), mk_g, if_neg (by omega), f1.1 78 y (by unfold ml_Z7; omega)]
      refine mk_JQ (ml_Jempty h) ⟨fun x y z => ?_, ?_⟩ (by rw [k6, k78]; exact h.grown)
      · rw [mk_g, mk_g]
        by_cases q1 : x = 64 ∧ y = 16
        · rw [if_pos q1, if_pos q1]
        rw [if_neg q1, if_neg q1, o2.1 x y (fun q => z (by unfold ml_ZW at q; unfold mk_Zq; omega)), mk_g, mk_g]
        by_cases q2 : x = 5 ∧ y = 3
        · rw [if_pos q2, if_pos q2]
        rw [if_neg q2, if_neg q2]
        exact f1.1 x y (fun q => z (by unfold ml_Z7 at q; unfold mk_Zq; omega))
      · show β1.2 = σ.2
        rw [o2.2]
        exact f1.2
  · -- a text
    obtain ⟨α2, g1, g2, g3, g4, g5⟩ := ml_giveTo hlen h55
    have a9 : α2.1 9 6 = nI c := (g2.1 9 6 (by unfold ml_Z1; omega)).trans ((f1.1 9 6 (by unfold ml_Z7; omega)).trans h.c9)
    obtain ⟨f33, s1, s2⟩ := mk_forget (σ := α2) (c := c) hc a9
    have pl2 : ml_pl (α2.1 2) (α2.1 3) 0 (ml_tc 0 ls) := ml_pl_cong _ _ (fun i _ h2 => by
      have := g5 i (by omega)
      exact this) hpl
    have law2 : ∀ c76 : Nat → Int32, (∀ i, i < n → c76 i = σ.1 6 i) → mk_law (ml_g ls) (nI (ml_tc 0 ls).length) 1 (nI n) (α2.1 2) (α2.1 3) c76 := fun c76 hh => ml_lawOf hn t1 hlen pl2 hh
    obtain ⟨ρ, u1, u2, u3⟩ := mk_refresh (g := ml_g ls) (mj_sR α2 33 f33) (s18 := nI n) (c76 := σ.1 6) (by
      have := law2 (σ.1 6) (fun _ _ => rfl)
      rw [← g3, ← g4] at this
      exact this) (c := c) hc a9 (fun j hj h33 => by
      have : (1 : Int32) = 0 := (s2 j hj).symm.trans h33
      exact absurd this (by decide))
    obtain ⟨β0, hβ0⟩ : ∃ β0, β0 = mj_sI ρ 5 3 0 := ⟨_, rfl⟩
    have fA : mk_fr ml_ZB σ β0 := by
      rw [hβ0]
      refine mk_frt (mk_frw f1 (fun x y z => by unfold ml_Z7 at z; unfold ml_ZB ml_ZS; omega)) (mk_frt (mk_frw g2 (fun x y z => by unfold ml_Z1 at z; unfold ml_ZB; omega)) (mk_frt (b := mj_sR α2 33 f33) ⟨fun x y z => ?_, rfl⟩ (mk_frt (mk_frw u2 (fun x y z => .inr (.inl z))) (mk_frI (by unfold ml_ZB; omega)))))
      rw [mk_gR, if_neg (fun q => z (by unfold ml_ZB mk_Zr; omega))]
    have e75 : β0.1 75 = σ.1 75 := funext fun y => fA.1 75 y (by unfold ml_ZB ml_ZS mk_Zr; omega)
    have e16 : β0.1 64 16 = nI n := by
      rw [hβ0, mk_g, if_neg (by omega), u2.1 64 16 (by unfold mk_Zr; omega), mk_gR, if_neg (by omega), g2.1 64 16 (by unfold ml_Z1; omega), f1.1 64 16 (by unfold ml_Z7; omega)]
      exact h.n64
    obtain ⟨v, β1, o1, o2, o3⟩ := work β0 e75 e16
    have e22 : β1.1 64 22 = -1 := by
      rcases o3 with ⟨z, _⟩ | ⟨_, _, z, _⟩
      · rw [t1] at z
        cases z
      · exact z
    have b16 : β1.1 64 16 = nI n := (o2.1 64 16 (by unfold ml_ZW; omega)).trans e16
    obtain ⟨β2, k1, k2, k3, k4, _, k6⟩ := ml_keep hn mj_fu 0 (mj_sI β1 64 16 0) (by show n < 5000 + 0; omega) (by omega)
    rw [nI_0] at k1
    have fB : mk_fr ml_ZB σ β2 := mk_frt fA (mk_frt (mk_frw o2 (fun x y z => by unfold ml_ZW at z; unfold ml_ZB ml_ZS; omega)) (mk_frt (mk_frI (i := 64) (k := 16) (by unfold ml_ZB; omega)) (mk_frw k2 (fun x y z => by unfold ml_ZB; omega))))
    have tail : ∀ x y, ¬ (x = 76 ∨ (x = 64 ∧ (y = 18 ∨ y = 6))) → ¬ (x = 64 ∧ y = 16) → ¬ ml_ZW x y → ¬ (x = 5 ∧ y = 3) → β2.1 x y = ρ.1 x y := fun x y z1 z2 z3 z4 => by
      rw [k2.1 x y z1, mk_g, if_neg z2, o2.1 x y z3, hβ0, mk_g, if_neg z4]
    have c2 : β2.1 2 = α2.1 2 := funext fun y => by
      rw [tail 2 y (by omega) (by omega) (by unfold ml_ZW; omega) (by omega), u2.1 2 y (by unfold mk_Zr; omega), mk_gR, if_neg (by omega)]
    have c3 : β2.1 3 = α2.1 3 := funext fun y => by
      rw [tail 3 y (by omega) (by omega) (by unfold ml_ZW; omega) (by omega), u2.1 3 y (by unfold mk_Zr; omega), mk_gR, if_neg (by omega)]
    have v13 : β2.1 1 3 = nI (ml_tc 0 ls).length := by
      rw [tail 1 3 (by omega) (by omega) (by unfold ml_ZW; omega) (by omega), u2.1 1 3 (by unfold mk_Zr; omega), mk_gR, if_neg (by omega)]
      exact g3
    have v15 : β2.1 1 5 = 1 := by
      rw [tail 1 5 (by omega) (by omega) (by unfold ml_ZW; omega) (by omega), u2.1 1 5 (by unfold mk_Zr; omega), mk_gR, if_neg (by omega)]
      exact g4
    have v53 : β2.1 5 3 = 0 := by
      rw [k2.1 5 3 (by omega), mk_g, if_neg (by omega), o2.1 5 3 (by unfold ml_ZW; omega), hβ0, mk_g, if_pos ⟨rfl, rfl⟩]
    have v16 : β2.1 64 16 = 0 := by
      rw [k2.1 64 16 (by omega), mk_g, if_pos ⟨rfl, rfl⟩]
    have c76 : ∀ i, i < n → β2.1 76 i = σ.1 6 i := fun i hi => by
      rw [k6 i (by omega) hi, mk_g, if_neg (by omega), o2.1 75 i (by unfold ml_ZW; omega), e75, h.tape]
    refine ⟨1, β0, β2, ?_, ?_, ml_g ls, c, w, 0, k, d, d2, a, ml_after h fB v13 v15 v53 v16 k3 k4 ?_ (fun j hj => ⟨?_, fun m hm => ?_⟩)⟩
    · rw [ey]
      show (if (0 : Int32) ≤ -1 then _ else ((f_X7_giveTo α1).bind fun r5 => ((f_X2_forgetHeights r5).bind fun r6 => ((f_X2_refresh r6).bind fun r7 => b_X9_law_37 (-1) r7)))) = _
      rw [if_neg (by decide), g1, mk_bs, s1, mk_bs, u1, mk_bs, hβ0]
      unfold b_X9_law_37 mj_let f_X7_emptyTape
      exact if_neg (show ¬ (0 : Int32) ≤ -1 by decide)
    · rw [o1, mk_bs]
      show (if β1.1 64 22 < 0 then b_X10_law_37 mj_fu (β1.1 64 16) 0 (mj_sI β1 64 16 0) else _) = _
      rw [e22, if_pos (by decide), b16]
      exact k1
    · rw [c2, c3]
      exact law2 _ c76
    · rw [tail 33 j (by omega) (by omega) (by unfold ml_ZW; omega) (by omega)]
      exact (u3 j hj).1
    · have o := (u3 j hj).2 m hm
      have cell : ∀ x y, 10 ≤ x → x ≤ 16 → (mj_sR α2 33 f33).1 x y = σ.1 x y := fun x y h1 h2 => by
        rw [mk_gR, if_neg (by omega), g2.1 x y (by unfold ml_Z1; omega), f1.1 x y (by unfold ml_Z7; omega)]
      rw [tail (19 + j) m (by omega) (by omega) (by unfold ml_ZW; omega) (by omega), tail (26 + j) m (by omega) (by omega) (by unfold ml_ZW; omega) (by omega), o.1, o.2, cell 10 j (by omega) (by omega), cell 11 j (by omega) (by omega), cell 12 j (by omega) (by omega), cell 13 j (by omega) (by omega), cell 14 j (by omega) (by omega), funext fun y => cell 15 y (by omega) (by omega), funext fun y => cell 16 y (by omega) (by omega)]
      exact ⟨rfl, rfl⟩
