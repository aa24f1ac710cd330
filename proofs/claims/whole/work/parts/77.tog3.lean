-- together: the reference goes deep
def mk_M10 (c G : Nat) (b : Option (Nat × Nat)) (β : mj_S) : Prop := (b = none ∧ β.1 64 37 = -1) ∨ ∃ s r, b = some (s, r) ∧ β.1 64 37 = nI s ∧ ∀ u, u < G → β.1 84 u = nI (mk_dg c G r u)
theorem mk_ubits : ∀ U, U < 64 → ∀ e, e < 6 → nI U ||| ((1 : Int32) <<< (nI e &&& 31)) = nI (U ||| 2 ^ e) ∧ U ||| 2 ^ e < 64 ∧ ∀ e', e' < 6 → ((nI (U ||| 2 ^ e) >>> (nI e' &&& 31)) &&& 1 = 0 ↔ (e' ≠ e ∧ (nI U >>> (nI e' &&& 31)) &&& 1 = 0)) := by
  decide +kernel
theorem mk_bits0 : ∀ e, e < 6 → (nI 0 >>> (nI e &&& 31)) &&& 1 = 0 := by
  decide +kernel
theorem mk_leaf {G : Nat} (hG : G ≤ 4) : ∀ (f i : Nat) (β : mj_S), G < f + i → i ≤ G → ∃ β', b_X10_goesTogether_31 (fun _ _ _ _ _ _ => none) f (nI G) (nI i) β = some β' ∧ mk_fr (mk_Z1 84) β β' ∧ (∀ u, u < i → β'.1 84 u = β.1 84 u) ∧ ∀ u, i ≤ u → u < G → β'.1 84 u = β.1 83 u
  | 0, i, β, hf, hi => absurd hf (by omega)
  | f + 1, i, β, hf, hi => by
    unfold b_X10_goesTogether_31
    by_cases hiG : i = G
    · exact ⟨β, by rw [if_pos (by rw [hiG]; exact nI_le (by omega) (by omega))], ⟨fun _ _ _ => rfl, rfl⟩, fun u hu => rfl, fun u h1 h2 => absurd h1 (by omega)⟩
    have i4 : 0 ≤ (nI i).toInt ∧ (nI i).toInt < 4 := by
      rw [nI_toInt (by omega)]
      omega
    rw [if_neg (nI_ge (by omega) (by omega)), if_pos i4, if_pos i4, nI_clamp (by omega), nI_1]
    obtain ⟨β', o1, o2, o3, o4⟩ := mk_leaf hG f (i + 1) (mj_sI β 84 i (β.1 83 i)) (by omega) (by omega)
    refine ⟨β', o1, mk_frt (mk_frI rfl) o2, fun u hu => ?_, fun u h1 h2 => ?_⟩
    · rw [o3 u (by omega), mk_g, if_neg (by omega)]
    · by_cases z : u = i
      · rw [z, o3 i (by omega), mk_g, if_pos ⟨rfl, rfl⟩]
      · rw [o4 u (by omega) h2, mk_g, if_neg (by omega)]
theorem mk_leafRec (rec : Int32 → Int32 → Int32 → Int32 → Int32 → mj_S → Option mj_S) : ∀ (f : Nat) (v2 v6 : Int32) (β : mj_S), b_X10_goesTogether_31 rec f v2 v6 β = b_X10_goesTogether_31 (fun _ _ _ _ _ _ => none) f v2 v6 β
  | 0, _, _, _ => rfl
  | f + 1, v2, v6, β => by
    unfold b_X10_goesTogether_31
    rw [mk_leafRec rec f]
/-- what a call deep down keeps and gives -/
def mk_Nd (g : mk_G) (c w n k d d2 a : Nat) (σ : mj_S) (m G : Nat) (q : Nat → Nat) (j p : Nat) (β : mj_S) : Prop := mk_J g c w n k d d2 a β ∧ mk_fr mk_Zq σ β ∧ (∀ u, u < G → β.1 82 u = nI (q u)) ∧ ∀ u, u < j → β.1 83 u = nI (mk_dg c j p u)
theorem mk_node {g c w n k d d2 a σ} (h : mk_J g c w n k d d2 a σ) {m G : Nat} {q : Nat → Nat} (hm : m < 600) (hG : G ≤ 4) (hq : ∀ u, u < G → q u < k) : ∀ (D K j p U : Nat) (β : mj_S), D = G - j → D < K → j ≤ G → p < c ^ j → mk_ok c (mk_Bt σ m) j p → U < 64 → (∀ e, e < 6 → ((nI U >>> (nI e &&& 31)) &&& 1 = 0 ↔ ∀ u, u < j → mk_dg c j p u ≠ e)) → mk_Nd g c w n k d d2 a σ m G q j p β → mk_M10 c G (mk_best (mk_ok c (mk_Bt σ m) G) (mk_sm c (mk_Dt σ m q) G) (p * c ^ D)) β →
    ∃ β', rc_X10_goesTogether K (nI m) (nI G) (nI j) (nI U) (nI (mk_sm c (mk_Dt σ m q) j p)) β = some β' ∧ mk_Nd g c w n k d d2 a σ m G q j p β' ∧ mk_M10 c G (mk_best (mk_ok c (mk_Bt σ m) G) (mk_sm c (mk_Dt σ m q) G) ((p + 1) * c ^ D)) β'
  | D, 0, j, p, U, β, _, hK, _, _, _, _, _, _, _ => absurd hK (by omega)
  | D, K + 1, j, p, U, β, hD, hK, hj, hp, hok, hU, hbit, hN, hM => by
    have hc := h.hc
    have hpow := mk_pow4 hc hG
    have hcj : p < c ^ j := hp
    have range : (p + 1) * c ^ D = p * c ^ D + c ^ D := by rw [Nat.add_mul, Nat.one_mul]
    have hpG : (p + 1) * c ^ D ≤ c ^ G := by
      have e : c ^ G = c ^ j * c ^ D := by rw [← Nat.pow_add, show j + D = G by omega]
      rw [e]
      exact Nat.mul_le_mul_right _ (by omega)
    have sj := mk_smB h hm hG hq hj hp
    show ∃ β', F_X10_goesTogether (rc_X10_goesTogether K) β (nI m) (nI G) (nI j) (nI U) (nI (mk_sm c (mk_Dt σ m q) j p)) = some β' ∧ _
    -- go on: the leaf, or the children in turn
    have go : (∀ s r', mk_best (mk_ok c (mk_Bt σ m) G) (mk_sm c (mk_Dt σ m q) G) (p * c ^ D) = some (s, r') → mk_sm c (mk_Dt σ m q) j p < s) → ∃ β', b_X10_goesTogether_17 (rc_X10_goesTogether K) (nI m) (nI G) (nI j) (nI U) (nI (mk_sm c (mk_Dt σ m q) j p)) β = some β' ∧ mk_Nd g c w n k d d2 a σ m G q j p β' ∧ mk_M10 c G (mk_best (mk_ok c (mk_Bt σ m) G) (mk_sm c (mk_Dt σ m q) G) ((p + 1) * c ^ D)) β' := by
      intro hb
      unfold b_X10_goesTogether_17
      by_cases hjG : j = G
      · obtain rfl : D = 0 := by omega
        rw [if_pos (by rw [hjG])]
        obtain ⟨β', o1, o2, o3, o4⟩ := mk_leaf hG mj_fu 0 (mj_sI β 64 37 (nI (mk_sm c (mk_Dt σ m q) j p))) (by show G < 5000 + 0; omega) (by omega)
        rw [nI_0] at o1
        have fs : mk_fr mk_Zs β β' := mk_frt (mk_frI (i := 64) (k := 37) (by unfold mk_Zs; omega)) (mk_frw o2 (fun x y z => by unfold mk_Z1 at z; unfold mk_Zs; omega))
        refine ⟨β', by rw [mk_leafRec]; exact o1, ⟨mk_JS hN.1 fs, mk_frt hN.2.1 (mk_sq fs), fun u hu => ?_, fun u hu => ?_⟩, ?_⟩
        · rw [o2.1 82 u (by unfold mk_Z1; omega), mk_g, if_neg (by omega)]
          exact hN.2.2.1 u hu
        · rw [o2.1 83 u (by unfold mk_Z1; omega), mk_g, if_neg (by omega)]
          exact hN.2.2.2 u hu
        · rw [Nat.pow_zero, Nat.mul_one] at hb
          rw [Nat.pow_zero, Nat.mul_one, ← hjG]
          rw [← hjG] at hb
          rw [mk_best_yes ⟨hok, hb⟩]
          refine .inr ⟨_, p, rfl, ?_, fun u hu => ?_⟩
          · rw [o2.1 64 37 (by unfold mk_Z1; omega), mk_g, if_pos ⟨rfl, rfl⟩]
          · rw [o4 u (by omega) (by omega), mk_g, if_neg (by omega)]
            exact hN.2.2.2 u hu
      · rw [if_neg (fun e => hjG ((nI_eq (by omega) (by omega)).mp e))]
        obtain ⟨D', rfl⟩ : ∃ D', D = D' + 1 := ⟨D - 1, by omega⟩
        have step : ∀ e, (p * c + e) * c ^ D' + c ^ D' = (p * c + (e + 1)) * c ^ D' := fun e => by
          rw [show p * c + (e + 1) = (p * c + e) + 1 by omega]
          exact (Nat.succ_mul _ _).symm
        have first : p * c ^ (D' + 1) = (p * c + 0) * c ^ D' := by
          rw [Nat.pow_succ, Nat.add_zero, Nat.mul_assoc, Nat.mul_comm c]
        have last : (p + 1) * c ^ (D' + 1) = (p * c + c) * c ^ D' := by
          rw [Nat.pow_succ, Nat.add_mul p, Nat.one_mul, show p * c + c = (p + 1) * c by rw [Nat.add_mul, Nat.one_mul], Nat.mul_assoc (p + 1), Nat.mul_comm c, Nat.add_mul, Nat.one_mul]
        have loop : ∀ (f e : Nat) (β : mj_S), c < f + e → e ≤ c → mk_Nd g c w n k d d2 a σ m G q j p β → mk_M10 c G (mk_best (mk_ok c (mk_Bt σ m) G) (mk_sm c (mk_Dt σ m q) G) ((p * c + e) * c ^ D')) β → ∃ β', b_X10_goesTogether_61 (rc_X10_goesTogether K) f (nI m) (nI G) (nI j) (nI U) (nI (mk_sm c (mk_Dt σ m q) j p)) (nI e) β = some β' ∧ mk_Nd g c w n k d d2 a σ m G q j p β' ∧ mk_M10 c G (mk_best (mk_ok c (mk_Bt σ m) G) (mk_sm c (mk_Dt σ m q) G) ((p * c + c) * c ^ D')) β' := by
          intro f
          induction f with
          | zero => intro e β hf he; exact absurd hf (by omega)
          | succ f ih =>
            intro e β hf he hN hM
            unfold b_X10_goesTogether_61
            rw [hN.1.c64]
            by_cases hec : e = c
            · rw [hec] at hM
              exact ⟨β, by rw [if_pos (by rw [hec]; exact nI_le (by omega) (by omega))], hN, hM⟩
            have hc0 : 0 < c := by omega
            have pe1 : (p * c + e) / c = p := by
              rw [Nat.mul_comm, Nat.mul_add_div hc0, Nat.div_eq_of_lt (by omega)]
              omega
            have pe2 : (p * c + e) % c = e := by
              rw [Nat.mul_comm, Nat.mul_add_mod, Nat.mod_eq_of_lt (by omega)]
            have pel : p * c + e < c ^ (j + 1) := by
              rw [Nat.pow_succ]
              have : (p + 1) * c ≤ c ^ j * c := Nat.mul_le_mul_right _ (by omega)
              rw [Nat.add_mul, Nat.one_mul] at this
              omega
            rw [if_neg (nI_ge (by omega) (by omega)), nI_1]
            have skip : ¬ mk_ok c (mk_Bt σ m) (j + 1) (p * c + e) → mk_best (mk_ok c (mk_Bt σ m) G) (mk_sm c (mk_Dt σ m q) G) ((p * c + (e + 1)) * c ^ D') = mk_best (mk_ok c (mk_Bt σ m) G) (mk_sm c (mk_Dt σ m q) G) ((p * c + e) * c ^ D') := by
              intro no
              rw [← step e]
              refine mk_best_skip _ (fun r h1 h2 ok => ?_)
              have c0 : 0 < c ^ D' := Nat.pow_pos hc0
              have rd : r / c ^ D' = p * c + e := by
                refine Nat.div_eq_of_lt_le h1 ?_
                rw [Nat.add_mul, Nat.one_mul]
                exact h2
              have := mk_ok_up c (mk_Bt σ m) D' (j + 1) r (by rw [show j + 1 + D' = G by omega]; exact ok)
              rw [rd] at this
              exact absurd this no
            have okE : mk_ok c (mk_Bt σ m) (j + 1) (p * c + e) ↔ (mk_Bt σ m e ∧ ∀ u, u < j → mk_dg c j p u ≠ e) := by
              show (mk_ok c (mk_Bt σ m) j ((p * c + e) / c) ∧ mk_Bt σ m ((p * c + e) % c) ∧ ∀ u, u < j → mk_dg c j ((p * c + e) / c) u ≠ (p * c + e) % c) ↔ _
              rw [pe1, pe2]
              exact ⟨fun z => z.2, fun z => ⟨hok, z⟩⟩
            by_cases b1 : (nI U >>> (nI e &&& 31)) &&& 1 = 0
            · have un := (hbit e (by omega)).mp b1
              rw [if_pos b1, if_pos (mk_in7 (by omega)), nI_clamp (by omega), hN.2.1.1 69 e (by unfold mk_Zq; omega), ← (h.kid e (by omega)).born]
              by_cases b2 : nI m < σ.1 10 e
              · rw [if_pos b2]
                exact ih (e + 1) β (by omega) (by omega) hN (by rw [skip (fun z => (okE.mp z).1 b2)]; exact hM)
              · have i4 : 0 ≤ (nI j).toInt ∧ (nI j).toInt < 4 := by
                  rw [nI_toInt (by omega)]
                  omega
                rw [if_neg b2, if_pos i4, if_pos i4, nI_clamp (by omega), hN.2.2.1 j (by omega)]
                have f83 : mk_fr mk_Zs β (mj_sI β 83 j (nI e)) := mk_frI (by unfold mk_Zs; omega)
                obtain ⟨β1, o1, o2, o3, o4⟩ := mk_offOf h (mk_JS hN.1 f83) (mk_frt hN.2.1 (mk_sq f83)) (hq j (by omega)) (show e < c by omega) hm
                have dd := (mk_Dt_eq h hm (show e < c by omega) (hq j (by omega))).1 b2
                have sE : mk_sm c (mk_Dt σ m q) (j + 1) (p * c + e) = mk_sm c (mk_Dt σ m q) j p + mk_Dt σ m q j e := by
                  show mk_sm c (mk_Dt σ m q) j ((p * c + e) / c) + mk_Dt σ m q j ((p * c + e) % c) = _
                  rw [pe1, pe2]
                have bt := mk_ubits U hU e (by omega)
                have d83 : ∀ u, u < j + 1 → β1.1 83 u = nI (mk_dg c (j + 1) (p * c + e) u) := by
                  intro u hu
                  show _ = nI (if u = j then (p * c + e) % c else mk_dg c j ((p * c + e) / c) u)
                  rw [o3.1 83 u (by unfold mk_Zh; omega), mk_g, pe1, pe2]
                  by_cases z : u = j
                  · rw [if_pos ⟨rfl, z⟩, if_pos z]
                  · rw [if_neg (fun y => z y.2), if_neg z]
                    exact hN.2.2.2 u (by omega)
                have keep : ∀ x y, ¬ mk_Zh x y → x ≠ 83 → β1.1 x y = β.1 x y := fun x y z z2 => by
                  rw [o3.1 x y z, mk_g, if_neg (fun y => z2 y.1)]
                have hN1 : mk_Nd g c w n k d d2 a σ m G q (j + 1) (p * c + e) β1 := ⟨o4, o2, fun u hu => (keep 82 u (by unfold mk_Zh; omega) (by omega)).trans (hN.2.2.1 u hu), d83⟩
                have hM1 : mk_M10 c G (mk_best (mk_ok c (mk_Bt σ m) G) (mk_sm c (mk_Dt σ m q) G) ((p * c + e) * c ^ D')) β1 := by
                  rcases hM with ⟨a1, a2⟩ | ⟨s, r, a1, a2, a3⟩
                  · exact .inl ⟨a1, (keep 64 37 (by unfold mk_Zh; omega) (by omega)).trans a2⟩
                  · exact .inr ⟨s, r, a1, (keep 64 37 (by unfold mk_Zh; omega) (by omega)).trans a2, fun u hu => (keep 84 u (by unfold mk_Zh; omega) (by omega)).trans (a3 u hu)⟩
                obtain ⟨β2, q1, q2, q3⟩ := mk_node h hm hG hq D' K (j + 1) (p * c + e) (U ||| 2 ^ e) β1 (by omega) (by omega) (by omega) pel (okE.mpr ⟨b2, un⟩) bt.2.1 (fun e' he' => by
                  rw [bt.2.2 e' he', hbit e' he']
                  constructor
                  · intro ⟨z1, z2⟩ u hu
                    show (if u = j then (p * c + e) % c else mk_dg c j ((p * c + e) / c) u) ≠ e'
                    rw [pe1, pe2]
                    by_cases y : u = j
                    · rw [if_pos y]
                      exact fun x => z1 x.symm
                    · rw [if_neg y]
                      exact z2 u (by omega)
                  · intro z
                    have zz : ∀ u, u < j + 1 → (if u = j then (p * c + e) % c else mk_dg c j ((p * c + e) / c) u) ≠ e' := z
                    rw [pe1, pe2] at zz
                    refine ⟨fun x => ?_, fun u hu => ?_⟩
                    · have := zz j (by omega)
                      rw [if_pos rfl] at this
                      exact this x.symm
                    · have := zz u (by omega)
                      rw [if_neg (by omega)] at this
                      exact this) hN1 hM1
                have hN2 : mk_Nd g c w n k d d2 a σ m G q j p β2 := ⟨q2.1, q2.2.1, q2.2.2.1, fun u hu => by
                  have := q2.2.2.2 u (by omega)
                  have x : mk_dg c (j + 1) (p * c + e) u = mk_dg c j p u := by
                    show (if u = j then (p * c + e) % c else mk_dg c j ((p * c + e) / c) u) = _
                    rw [if_neg (by omega), pe1]
                  rw [x] at this
                  exact this⟩
                have q3' : mk_M10 c G (mk_best (mk_ok c (mk_Bt σ m) G) (mk_sm c (mk_Dt σ m q) G) ((p * c + (e + 1)) * c ^ D')) β2 := q3
                obtain ⟨β3, r1, r2, r3⟩ := ih (e + 1) β2 (by omega) (by omega) hN2 q3'
                refine ⟨β3, ?_, r2, r3⟩
                rw [o1, mk_bs, dd, nI_add, ← sE, bt.1, nI_1, q1, mk_bs]
                exact r1
            · rw [if_neg b1]
              exact ih (e + 1) β (by omega) (by omega) hN (by rw [skip (fun z => b1 ((hbit e (by omega)).mpr (okE.mp z).2))]; exact hM)
        obtain ⟨β', o1, o2, o3⟩ := loop mj_fu 0 β (by show c < 5000 + 0; omega) (by omega) hN (by rw [← first]; exact hM)
        rw [nI_0] at o1
        rw [last]
        exact ⟨β', o1, o2, o3⟩
    unfold F_X10_goesTogether
    rcases hM with ⟨a1, a2⟩ | ⟨s, r, a1, a2, a3⟩
    · rw [if_pos (show β.1 64 37 < 0 from by rw [a2]; decide)]
      exact go (fun s r' e => by rw [a1] at e; exact absurd e (by intro z; cases z))
    · have sl := mk_bestB h hm hG hq (p * c ^ D) s r (by omega) a1
      rw [a2, if_neg (show ¬ nI s < (0 : Int32) from nI_pos (by omega))]
      by_cases lt : mk_sm c (mk_Dt σ m q) j p < s
      · rw [if_pos (nI_lt lt (by omega))]
        exact go (fun s2 r2 e => by
          rw [a1] at e
          have : s = s2 := congrArg Prod.fst (Option.some.inj e)
          omega)
      · rw [if_neg (nI_nlt (by omega) (by omega))]
        refine ⟨β, rfl, hN, ?_⟩
        rw [range, mk_best_skip (c ^ D) (fun r' h1 h2 ok => ⟨s, r, a1, ?_⟩)]
        · exact .inr ⟨s, r, a1, a2, a3⟩
        · have rd : r' / c ^ D = p := by
            refine Nat.div_eq_of_lt_le h1 ?_
            rw [range]
            exact h2
          have := mk_sm_up c (mk_Dt σ m q) D j r'
          rw [rd, show j + D = G by omega] at this
          omega
