-- the eight kinds' acts
abbrev mk_AR (K t : Nat) (α β : mj_S) : Prop :=
  (α.1 50 3 = nI t) ∧
  (β.1 64 41 = nI t) ∧
  (∀ i, i < 24 → α.1 52 i = β.1 86 i) ∧
  (α.1 50 4 = β.1 64 43) ∧
  (α.1 50 5 = nI K) ∧
  (β.1 64 42 = nI K)
theorem mk_AR.mk {K t : Nat} {α β : mj_S}
    (n9 : α.1 50 3 = nI t)
    (n10 : β.1 64 41 = nI t)
    (tr : ∀ i, i < 24 → α.1 52 i = β.1 86 i)
    (act : α.1 50 4 = β.1 64 43)
    (k9 : α.1 50 5 = nI K)
    (k10 : β.1 64 42 = nI K) :
    mk_AR K t α β := ⟨n9, n10, tr, act, k9, k10⟩
theorem mk_AR.n9 {K t : Nat} {α β : mj_S} (h : mk_AR K t α β) : α.1 50 3 = nI t := h.1
theorem mk_AR.n10 {K t : Nat} {α β : mj_S} (h : mk_AR K t α β) : β.1 64 41 = nI t := h.2.1
theorem mk_AR.tr {K t : Nat} {α β : mj_S} (h : mk_AR K t α β) : ∀ i, i < 24 → α.1 52 i = β.1 86 i := h.2.2.1
theorem mk_AR.act {K t : Nat} {α β : mj_S} (h : mk_AR K t α β) : α.1 50 4 = β.1 64 43 := h.2.2.2.1
theorem mk_AR.k9 {K t : Nat} {α β : mj_S} (h : mk_AR K t α β) : α.1 50 5 = nI K := h.2.2.2.2.1
theorem mk_AR.k10 {K t : Nat} {α β : mj_S} (h : mk_AR K t α β) : β.1 64 42 = nI K := h.2.2.2.2.2
abbrev mk_AF (α α' β β' : mj_S) : Prop :=
  (∀ x y, x ≠ 52 → ¬ (x = 50 ∧ y = 3) → α'.1 x y = α.1 x y) ∧
  (α'.2 = α.2) ∧
  (∀ x y, x ≠ 86 → ¬ (x = 64 ∧ y = 41) → β'.1 x y = β.1 x y) ∧
  (β'.2 = β.2)
theorem mk_AF.mk {α α' β β' : mj_S}
    (c9 : ∀ x y, x ≠ 52 → ¬ (x = 50 ∧ y = 3) → α'.1 x y = α.1 x y)
    (l9 : α'.2 = α.2)
    (c10 : ∀ x y, x ≠ 86 → ¬ (x = 64 ∧ y = 41) → β'.1 x y = β.1 x y)
    (l10 : β'.2 = β.2) :
    mk_AF α α' β β' := ⟨c9, l9, c10, l10⟩
theorem mk_AF.c9 {α α' β β' : mj_S} (h : mk_AF α α' β β') : ∀ x y, x ≠ 52 → ¬ (x = 50 ∧ y = 3) → α'.1 x y = α.1 x y := h.1
theorem mk_AF.l9 {α α' β β' : mj_S} (h : mk_AF α α' β β') : α'.2 = α.2 := h.2.1
theorem mk_AF.c10 {α α' β β' : mj_S} (h : mk_AF α α' β β') : ∀ x y, x ≠ 86 → ¬ (x = 64 ∧ y = 41) → β'.1 x y = β.1 x y := h.2.2.1
theorem mk_AF.l10 {α α' β β' : mj_S} (h : mk_AF α α' β β') : β'.2 = β.2 := h.2.2.2
theorem mk_AFt {a b c a' b' c' : mj_S} (h : mk_AF a b a' b') (k : mk_AF b c b' c') : mk_AF a c a' c' :=
  ⟨fun x y h1 h2 => (k.c9 x y h1 h2).trans (h.c9 x y h1 h2), k.l9.trans h.l9, fun x y h1 h2 => (k.c10 x y h1 h2).trans (h.c10 x y h1 h2), k.l10.trans h.l10⟩
theorem mk_note {K t : Nat} {α β : mj_S} (h : mk_AR K t α β) (ht : t < 1000) (b : Int32) : ∃ α' β', f_X0_note α b = some α' ∧ f_X10_begins β b = some β' ∧ mk_AR K (t + 1) α' β' ∧ mk_AF α α' β β' := by
  unfold f_X0_note f_X10_begins
  rw [h.n9, h.n10]
  by_cases h1 : 24 ≤ t
  · rw [if_pos (show (24 : Int32) ≤ nI t from nI_le (a := 24) h1 (by omega)), if_pos (show (24 : Int32) ≤ nI t from nI_le (a := 24) h1 (by omega))]
    refine ⟨_, _, rfl, rfl, ⟨?_, ?_, h.tr, h.act, h.k9, h.k10⟩, ⟨?_, rfl, ?_, rfl⟩⟩
    · show α.1 50 3 + 1 = _
      rw [h.n9, nI_1]
    · show β.1 64 41 + 1 = _
      rw [h.n10, nI_1]
    · intro x y h2 h3
      rw [mk_g, if_neg h3]
    · intro x y h2 h3
      rw [mk_g, if_neg h3]
  · have hb : 0 ≤ (nI t).toInt ∧ (nI t).toInt < 24 := by
      rw [nI_toInt (by omega)]
      omega
    rw [if_neg (show ¬ (24 : Int32) ≤ nI t from nI_ge (b := 24) (by omega) (by omega)), if_neg (show ¬ (24 : Int32) ≤ nI t from nI_ge (b := 24) (by omega) (by omega)), if_pos hb, if_pos hb, nI_clamp (by omega)]
    refine ⟨_, _, rfl, rfl, ⟨?_, ?_, ?_, h.act, h.k9, h.k10⟩, ⟨?_, rfl, ?_, rfl⟩⟩
    · show α.1 50 3 + 1 = _
      rw [h.n9, nI_1]
    · show β.1 64 41 + 1 = _
      rw [h.n10, nI_1]
    · intro i hi
      show (if i = t then b else α.1 52 i) = (if i = t then b else β.1 86 i)
      rw [h.tr i hi]
    · intro x y h2 h3
      rw [mk_g, if_neg h3, mk_g, if_neg (fun q => h2 q.1)]
    · intro x y h2 h3
      rw [mk_g, if_neg h3, mk_g, if_neg (fun q => h2 q.1)]
theorem mk_ob (σ τ : mj_S) : ∀ (f : Nat) (a b c : Int32), b_X0_ownerOf_4 σ f a b c = b_X0_ownerOf_4 τ f a b c
  | 0, _, _, _ => rfl
  | f + 1, a, b, c => by
    unfold b_X0_ownerOf_4 b_X0_ownerOf_37 f_X0_ownBody
    simp only [mk_kind9, mk_ob σ τ f]
def mk_z : mj_S := (fun _ _ => 0, fun _ _ => 0)
def mk_own (M k : Nat) : Nat := ([0,0,0,0, 1,0,0,0, 0,2,0,0, 1,3,3,0, 0,0,4,0, 0,0,4,5, 6,3,3,0, 0,7,0,7] : List Nat).getD (k * 4 + M) 0
theorem mk_ownAll : ∀ k, k < 8 → ∀ M, M < 4 → f_X0_ownerOf mk_z (nI M) (nI k) = some (nI (mk_own M k)) := by decide +kernel
theorem mk_ownerOf (σ : mj_S) {M k : Nat} (hk : k < 8) (hM : M < 4) : f_X0_ownerOf σ (nI M) (nI k) = some (nI (mk_own M k)) := by
  rw [← mk_ownAll k hk M hM]
  exact mk_ob σ mk_z _ _ _ _
theorem mk_bodyAll : ∀ k, k < 8 → ∀ M, M < 4 → f_X0_ownBody mk_z (nI M) (nI k) = some (mj_own (k * 4 + M)) := by decide +kernel
theorem mk_ownLt : ∀ k, k < 8 → ∀ M, M < 4 → mk_own M k < 8 := by decide +kernel
/-- one act runs: it notes, then it does what its body does -/
theorem mk_run {K t M k q f : Nat} {α β : mj_S} (p : Int32) (h : mk_AR K t α β) (ht : t < 1000) (hk : k < 8) (hM : M < 4) (hq : q ≤ 40) : ∃ α' β', f_X10_begins β (mj_own (mk_own M k * 4 + M)) = some β' ∧ rc_X0_run (f + 2) 0 (nI M) (nI k) p (nI q) α = F_X0_perform (rc_X0_run f) α' (mj_own (mk_own M k * 4 + M)) (mj_above (mk_own M k)) p (nI (q + 1)) ∧ mk_AR K (t + 1) α' β' ∧ mk_AF α α' β β' := by
  obtain ⟨α', β', n1, n2, n3, n4⟩ := mk_note h ht (mj_own (mk_own M k * 4 + M))
  refine ⟨α', β', n2, ?_, n3, n4⟩
  have ho := mk_ownLt k hk M hM
  have e1 : f_X0_ownBody α (nI M) (nI (mk_own M k)) = some (mj_own (mk_own M k * 4 + M)) := mk_bodyAll _ ho _ hM
  show F_X0_run (rc_X0_run (f + 1)) α (nI M) (nI k) p (nI q) = _
  unfold F_X0_run
  rw [mk_ownerOf α hk hM]
  show (if nI (mk_own M k) < 0 then some (0, α) else if nI q ≤ 40 then (f_X0_ownBody α (nI M) (nI (mk_own M k))).bind _ else some (0, α)) = _
  rw [if_neg (nI_pos (by omega)), if_pos (show nI q ≤ (40 : Int32) from nI_le (b := 40) hq (by omega)), e1]
  show (f_X0_note α (mj_own (mk_own M k * 4 + M))).bind _ = _
  rw [n1]
  show (if 0 ≤ (nI (mk_own M k)).toInt ∧ (nI (mk_own M k)).toInt < 8 then _ else none) = _
  rw [if_pos (by rw [nI_toInt (by omega)]; omega), nI_clamp (by omega), nI_1]
  show (F_X0_perform (rc_X0_run f) α' (mj_own (mk_own M k * 4 + M)) (mj_above (mk_own M k)) p (nI (q + 1))).bind _ = _
  cases F_X0_perform (rc_X0_run f) α' (mj_own (mk_own M k * 4 + M)) (mj_above (mk_own M k)) p (nI (q + 1)) with
  | none => rfl
  | some r => rfl
def mk_AS (M : Nat) (rc : Nat → Int32 → Int32 → mj_S → Option (Int32 × mj_S)) (K k cost dep : Nat) : Prop := ∀ (f9 f10 q t : Nat) (p : Int32) (α β : mj_S), dep ≤ f9 → dep ≤ f10 → q + dep ≤ 41 → t + cost ≤ 1000 → mk_AR K t α β → ∃ v t' α' β', rc_X0_run f9 0 (nI M) (nI k) p (nI q) α = some (v, α') ∧ rc f10 (nI k) p β = some (v, β') ∧ mk_AR K t' α' β' ∧ t' ≤ t + cost ∧ mk_AF α α' β β'
theorem mk_ASw {M : Nat} {rc : Nat → Int32 → Int32 → mj_S → Option (Int32 × mj_S)} {K k cost dep cost' dep' : Nat} (h : mk_AS M rc K k cost dep) (h1 : cost ≤ cost') (h2 : dep ≤ dep') : mk_AS M rc K k cost' dep' := by
  intro f9 f10 q t p α β a1 a2 a3 a4 a5
  obtain ⟨v, t', α', β', b1, b2, b3, b4, b5⟩ := h f9 f10 q t p α β (by omega) (by omega) (by omega) (by omega) a5
  exact ⟨v, t', α', β', b1, b2, b3, by omega, b5⟩
/-- an act out of what its body does on both sides -/
theorem mk_ASof {M K k : Nat} {rc : Nat → Int32 → Int32 → mj_S → Option (Int32 × mj_S)} {F : (Int32 → Int32 → mj_S → Option (Int32 × mj_S)) → mj_S → Int32 → Int32 → Option (Int32 × mj_S)} {cost dep : Nat} (hk : k < 8) (hM : M < 4) (hrc : ∀ f x y β, rc (f + 1) x y β = F (rc f) β x y)
    (body : ∀ (f9 f10 q t : Nat) (p : Int32) (α β β0 : mj_S), dep ≤ f9 → dep ≤ f10 → q + dep ≤ 41 → t + cost ≤ 1000 → mk_AR K t α β → f_X10_begins β0 (mj_own (mk_own M k * 4 + M)) = some β → ∃ v t' α' β', F_X0_perform (rc_X0_run f9) α (mj_own (mk_own M k * 4 + M)) (mj_above (mk_own M k)) p (nI q) = some (v, α') ∧ F (rc f10) β0 (nI k) p = some (v, β') ∧ mk_AR K t' α' β' ∧ t' ≤ t + cost ∧ mk_AF α α' β β') : mk_AS M rc K k (cost + 1) (dep + 2) := by
  intro f9 f10 q t p α β a1 a2 a3 a4 a5
  obtain ⟨f9, rfl⟩ : ∃ f, f9 = f + 2 := ⟨f9 - 2, by omega⟩
  obtain ⟨f10, rfl⟩ : ∃ f, f10 = f + 1 := ⟨f10 - 1, by omega⟩
  obtain ⟨α1, β1, c1, c2, c3, c4⟩ := mk_run (f := f9) p a5 (by omega) hk hM (q := q) (by omega)
  obtain ⟨v, t', α', β', b1, b2, b3, b4, b5⟩ := body f9 f10 (q + 1) (t + 1) p α1 β1 β (by omega) (by omega) (by omega) (by omega) c3 c1
  exact ⟨v, t', α', β', c2.trans b1, (hrc f10 _ _ _).trans b2, b3, by omega, mk_AFt c4 b5⟩
theorem mk_AF0 (α β : mj_S) : mk_AF α α β β := ⟨fun _ _ _ _ => rfl, rfl, fun _ _ _ _ => rfl, rfl⟩
-- grows
theorem mk_g_base (K : Nat) {k : Nat} (hk : k = 0 ∨ k = 2 ∨ k = 4 ∨ k = 5 ∨ k = 7) : mk_AS 0 rc_X10_growsAs K k 1 2 := by
  refine mk_ASof (F := F_X10_growsAs) (cost := 0) (dep := 0) (by omega) (by omega) (fun _ _ _ _ => rfl) ?_
  intro f9 f10 q t p α β β0 a1 a2 a3 a4 h hb
  refine ⟨p + α.1 50 4, t, α, β, ?_, ?_, h, by omega, mk_AF0 _ _⟩
  · rcases hk with rfl | rfl | rfl | rfl | rfl <;> rfl
  · have hb' : f_X10_begins β0 1 = some β := by
      rcases hk with rfl | rfl | rfl | rfl | rfl <;> exact hb
    have e : F_X10_growsAs (rc_X10_growsAs f10) β0 (nI k) p = (f_X10_begins β0 1).bind fun r6 => some (p + r6.1 64 43, r6) := by
      rcases hk with rfl | rfl | rfl | rfl | rfl <;> rfl
    rw [e, hb', h.act]
    rfl

theorem mk_g_20 (K : Nat) {k : Nat} (hk : k = 1 ∨ k = 3) (ih : mk_AS 0 rc_X10_growsAs K 0 1 2) : mk_AS 0 rc_X10_growsAs K k (1 + 1) (2 + 1 + 2) := by
  refine mk_ASof (F := F_X10_growsAs) (cost := 1) (dep := 2 + 1) (by omega) (by omega) (fun _ _ _ _ => rfl) ?_
  intro f9 f10 q t p α β β0 a1 a2 a3 a4 h hb
  obtain ⟨v, t', α', β', c1, c2, c3, c4, c5⟩ := ih f9 f10 q t p α β (by omega) (by omega) (by omega) (by omega) h
  refine ⟨v + 3, t', α', β', ?_, ?_, c3, c4, c5⟩
  · have e : F_X0_perform (rc_X0_run f9) α (mj_own (mk_own 0 k * 4 + 0)) (mj_above (mk_own 0 k)) p (nI q) = (rc_X0_run f9 0 (nI 0) (nI 0) p (nI q) α).bind fun r5 => some (r5.1 + 3, r5.2) := by
      rcases hk with rfl | rfl <;> rfl
    rw [e, c1]
    rfl
  · have hb' : f_X10_begins β0 20 = some β := by
      rcases hk with rfl | rfl <;> exact hb
    have e : F_X10_growsAs (rc_X10_growsAs f10) β0 (nI k) p = (f_X10_begins β0 20).bind fun r3 => (rc_X10_growsAs f10 (nI 0) p r3).bind fun r4 => some (r4.1 + 3, r4.2) := by
      rcases hk with rfl | rfl <;> rfl
    rw [e, hb']
    show (rc_X10_growsAs f10 (nI 0) p β).bind _ = _
    rw [c2]
    rfl

theorem mk_g_70 (K : Nat) {k : Nat} (hk : k = 6) (ih : mk_AS 0 rc_X10_growsAs K 3 2 5) : mk_AS 0 rc_X10_growsAs K k (2 + 1) (5 + 1 + 2) := by
  refine mk_ASof (F := F_X10_growsAs) (cost := 2) (dep := 5 + 1) (by omega) (by omega) (fun _ _ _ _ => rfl) ?_
  intro f9 f10 q t p α β β0 a1 a2 a3 a4 h hb
  obtain ⟨v, t', α', β', c1, c2, c3, c4, c5⟩ := ih f9 f10 q t p α β (by omega) (by omega) (by omega) (by omega) h
  refine ⟨v * 2, t', α', β', ?_, ?_, c3, c4, c5⟩
  · have e : F_X0_perform (rc_X0_run f9) α (mj_own (mk_own 0 k * 4 + 0)) (mj_above (mk_own 0 k)) p (nI q) = (rc_X0_run f9 0 (nI 0) (nI 3) p (nI q) α).bind fun r5 => some (r5.1 * 2, r5.2) := by
      subst hk; rfl
    rw [e, c1]
    rfl
  · have hb' : f_X10_begins β0 70 = some β := by
      subst hk; exact hb
    have e : F_X10_growsAs (rc_X10_growsAs f10) β0 (nI k) p = (f_X10_begins β0 70).bind fun r3 => (rc_X10_growsAs f10 (nI 3) p r3).bind fun r4 => some (r4.1 * 2, r4.2) := by
      subst hk; rfl
    rw [e, hb']
    show (rc_X10_growsAs f10 (nI 3) p β).bind _ = _
    rw [c2]
    rfl

theorem mk_grows (K : Nat) {k : Nat} (hk : k < 8) : mk_AS 0 rc_X10_growsAs K k 3 8 := by
  have b := fun k (h : k = 0 ∨ k = 2 ∨ k = 4 ∨ k = 5 ∨ k = 7) => mk_g_base K h
  have b1 := mk_g_20 K (k := 1) (.inl rfl) (b 0 (.inl rfl))
  have b3 := mk_g_20 K (k := 3) (.inr rfl) (b 0 (.inl rfl))
  have b6 := mk_g_70 K (k := 6) rfl b3
  match k, hk with
  | 0, _ => exact mk_ASw (b 0 (.inl rfl)) (by omega) (by omega)
  | 1, _ => exact mk_ASw b1 (by omega) (by omega)
  | 2, _ => exact mk_ASw (b 2 (.inr (.inl rfl))) (by omega) (by omega)
  | 3, _ => exact mk_ASw b3 (by omega) (by omega)
  | 4, _ => exact mk_ASw (b 4 (.inr (.inr (.inl rfl)))) (by omega) (by omega)
  | 5, _ => exact mk_ASw (b 5 (.inr (.inr (.inr (.inl rfl))))) (by omega) (by omega)
  | 6, _ => exact mk_ASw b6 (by omega) (by omega)
  | 7, _ => exact mk_ASw (b 7 (.inr (.inr (.inr (.inr rfl))))) (by omega) (by omega)
-- marks
theorem mk_m_base (K : Nat) {k : Nat} (hk : k = 0 ∨ k = 1 ∨ k = 2 ∨ k = 7) : mk_AS 2 rc_X10_marksAs K k 1 2 := by
  refine mk_ASof (F := F_X10_marksAs) (cost := 0) (dep := 0) (by omega) (by omega) (fun _ _ _ _ => rfl) ?_
  intro f9 f10 q t p α β β0 a1 a2 a3 a4 h hb
  refine ⟨p ^^^ α.1 50 4, t, α, β, ?_, ?_, h, by omega, mk_AF0 _ _⟩
  · rcases hk with rfl | rfl | rfl | rfl <;> rfl
  · have hb' : f_X10_begins β0 11 = some β := by
      rcases hk with rfl | rfl | rfl | rfl <;> exact hb
    have e : F_X10_marksAs (rc_X10_marksAs f10) β0 (nI k) p = (f_X10_begins β0 11).bind fun r6 => some (p ^^^ r6.1 64 43, r6) := by
      rcases hk with rfl | rfl | rfl | rfl <;> rfl
    rw [e, hb', h.act]
    rfl

theorem mk_m_40 (K : Nat) {k : Nat} (hk : k = 3 ∨ k = 6) (ih : mk_AS 2 rc_X10_marksAs K 1 1 2) : mk_AS 2 rc_X10_marksAs K k (1 + 1) (2 + 1 + 2) := by
  refine mk_ASof (F := F_X10_marksAs) (cost := 1) (dep := 2 + 1) (by omega) (by omega) (fun _ _ _ _ => rfl) ?_
  intro f9 f10 q t p α β β0 a1 a2 a3 a4 h hb
  obtain ⟨v, t', α', β', c1, c2, c3, c4, c5⟩ := ih f9 f10 q t p α β (by omega) (by omega) (by omega) (by omega) h
  refine ⟨v * 3, t', α', β', ?_, ?_, c3, c4, c5⟩
  · have e : F_X0_perform (rc_X0_run f9) α (mj_own (mk_own 2 k * 4 + 2)) (mj_above (mk_own 2 k)) p (nI q) = (rc_X0_run f9 0 (nI 2) (nI 1) p (nI q) α).bind fun r5 => some (r5.1 * 3, r5.2) := by
      rcases hk with rfl | rfl <;> rfl
    rw [e, c1]
    rfl
  · have hb' : f_X10_begins β0 40 = some β := by
      rcases hk with rfl | rfl <;> exact hb
    have e : F_X10_marksAs (rc_X10_marksAs f10) β0 (nI k) p = (f_X10_begins β0 40).bind fun r3 => (rc_X10_marksAs f10 (nI 1) p r3).bind fun r4 => some (r4.1 * 3, r4.2) := by
      rcases hk with rfl | rfl <;> rfl
    rw [e, hb']
    show (rc_X10_marksAs f10 (nI 1) p β).bind _ = _
    rw [c2]
    rfl

theorem mk_m_50 (K : Nat) {k : Nat} (hK : K < 8) (hk : k = 4 ∨ k = 5) : mk_AS 2 rc_X10_marksAs K k 5 12 := by
  refine mk_ASof (F := F_X10_marksAs) (cost := 4) (dep := 10) (by omega) (by omega) (fun _ _ _ _ => rfl) ?_
  intro f9 f10 q t p α β β0 a1 a2 a3 a4 h hb
  obtain ⟨v, t', α', β', c1, c2, c3, c4, c5⟩ := mk_m_base K (k := 0) (.inl rfl) f9 f10 q t p α β (by omega) (by omega) (by omega) (by omega) h
  obtain ⟨v2, t2, α2, β2, d1, d2, d3, d4, d5⟩ := mk_grows K hK f9 mj_fd q t' 2 α' β' (by omega) (by decide) (by omega) (by omega) c3
  refine ⟨v - v2, t2, α2, β2, ?_, ?_, d3, by omega, mk_AFt c5 d5⟩
  · have e : F_X0_perform (rc_X0_run f9) α (mj_own (mk_own 2 k * 4 + 2)) (mj_above (mk_own 2 k)) p (nI q) = (rc_X0_run f9 0 (nI 2) (nI 0) p (nI q) α).bind fun r9 => (rc_X0_run f9 0 (nI 0) (r9.2.1 50 5) 2 (nI q) r9.2).bind fun r10 => some (r9.1 - r10.1, r10.2) := by
      rcases hk with rfl | rfl <;> rfl
    rw [e, c1]
    show (rc_X0_run f9 0 (nI 0) (α'.1 50 5) 2 (nI q) α').bind _ = _
    rw [c3.k9, d1]
    rfl
  · have hb' : f_X10_begins β0 50 = some β := by
      rcases hk with rfl | rfl <;> exact hb
    have e : F_X10_marksAs (rc_X10_marksAs f10) β0 (nI k) p = (f_X10_begins β0 50).bind fun r6 => (rc_X10_marksAs f10 (nI 0) p r6).bind fun r7 => (f_X10_growsAs r7.2 (r7.2.1 64 42) 2).bind fun r8 => some (r7.1 - r8.1, r8.2) := by
      rcases hk with rfl | rfl <;> rfl
    rw [e, hb']
    show (rc_X10_marksAs f10 (nI 0) p β).bind _ = _
    rw [c2]
    show (f_X10_growsAs β' (β'.1 64 42) 2).bind _ = _
    unfold f_X10_growsAs
    rw [c3.k10, d2]
    rfl
theorem mk_marks (K : Nat) (hK : K < 8) {k : Nat} (hk : k < 8) : mk_AS 2 rc_X10_marksAs K k 5 12 := by
  have b := fun k (h : k = 0 ∨ k = 1 ∨ k = 2 ∨ k = 7) => mk_m_base K h
  match k, hk with
  | 0, _ => exact mk_ASw (b 0 (.inl rfl)) (by omega) (by omega)
  | 1, _ => exact mk_ASw (b 1 (.inr (.inl rfl))) (by omega) (by omega)
  | 2, _ => exact mk_ASw (b 2 (.inr (.inr (.inl rfl)))) (by omega) (by omega)
  | 3, _ => exact mk_ASw (mk_m_40 K (k := 3) (.inl rfl) (b 1 (.inr (.inl rfl)))) (by omega) (by omega)
  | 4, _ => exact mk_m_50 K hK (.inl rfl)
  | 5, _ => exact mk_m_50 K hK (.inr rfl)
  | 6, _ => exact mk_ASw (mk_m_40 K (k := 6) (.inr rfl) (b 1 (.inr (.inl rfl)))) (by omega) (by omega)
  | 7, _ => exact mk_ASw (b 7 (.inr (.inr (.inr rfl)))) (by omega) (by omega)
-- stands
theorem mk_s_base (K : Nat) {k : Nat} (hK : K < 8) (hk : k = 0 ∨ k = 1 ∨ k = 4 ∨ k = 5) : mk_AS 1 rc_X10_standsAs K k 4 10 := by
  refine mk_ASof (F := F_X10_standsAs) (cost := 3) (dep := 8) (by omega) (by omega) (fun _ _ _ _ => rfl) ?_
  intro f9 f10 q t p α β β0 a1 a2 a3 a4 h hb
  obtain ⟨v, t', α', β', c1, c2, c3, c4, c5⟩ := mk_grows K hK f9 mj_fd q t p α β (by omega) (by decide) (by omega) (by omega) h
  refine ⟨v * 2, t', α', β', ?_, ?_, c3, c4, c5⟩
  · have e : F_X0_perform (rc_X0_run f9) α (mj_own (mk_own 1 k * 4 + 1)) (mj_above (mk_own 1 k)) p (nI q) = (rc_X0_run f9 0 (nI 0) (α.1 50 5) p (nI q) α).bind fun r5 => some (r5.1 * 2, r5.2) := by
      rcases hk with rfl | rfl | rfl | rfl <;> rfl
    rw [e, h.k9, c1]
    rfl
  · have hb' : f_X10_begins β0 10 = some β := by
      rcases hk with rfl | rfl | rfl | rfl <;> exact hb
    have e : F_X10_standsAs (rc_X10_standsAs f10) β0 (nI k) p = (f_X10_begins β0 10).bind fun r7 => (f_X10_growsAs r7 (r7.1 64 42) p).bind fun r8 => some (r8.1 * 2, r8.2) := by
      rcases hk with rfl | rfl | rfl | rfl <;> rfl
    rw [e, hb']
    show (f_X10_growsAs β (β.1 64 42) p).bind _ = _
    unfold f_X10_growsAs
    rw [h.k10, c2]
    rfl

theorem mk_s_41 (K : Nat) {k : Nat} (hk : k = 3 ∨ k = 6) (ih : mk_AS 1 rc_X10_standsAs K 1 4 10) : mk_AS 1 rc_X10_standsAs K k (4 + 1) (10 + 1 + 2) := by
  refine mk_ASof (F := F_X10_standsAs) (cost := 4) (dep := 10 + 1) (by omega) (by omega) (fun _ _ _ _ => rfl) ?_
  intro f9 f10 q t p α β β0 a1 a2 a3 a4 h hb
  obtain ⟨v, t', α', β', c1, c2, c3, c4, c5⟩ := ih f9 f10 q t (p + 1) α β (by omega) (by omega) (by omega) (by omega) h
  refine ⟨v, t', α', β', ?_, ?_, c3, c4, c5⟩
  · have e : F_X0_perform (rc_X0_run f9) α (mj_own (mk_own 1 k * 4 + 1)) (mj_above (mk_own 1 k)) p (nI q) = (rc_X0_run f9 0 (nI 1) (nI 1) (p + 1) (nI q) α).bind fun r5 => some (r5.1, r5.2) := by
      rcases hk with rfl | rfl <;> rfl
    rw [e, c1]
    rfl
  · have hb' : f_X10_begins β0 41 = some β := by
      rcases hk with rfl | rfl <;> exact hb
    have e : F_X10_standsAs (rc_X10_standsAs f10) β0 (nI k) p = (f_X10_begins β0 41).bind fun r3 => (rc_X10_standsAs f10 (nI 1) (p + 1) r3).bind fun r4 => some (r4.1, r4.2) := by
      rcases hk with rfl | rfl <;> rfl
    rw [e, hb']
    show (rc_X10_standsAs f10 (nI 1) (p + 1) β).bind _ = _
    rw [c2]
    rfl

theorem mk_s_30 (K : Nat) {k : Nat} (hk : k = 2) (ih : mk_AS 1 rc_X10_standsAs K 0 4 10) : mk_AS 1 rc_X10_standsAs K k (4 + 1) (10 + 1 + 2) := by
  refine mk_ASof (F := F_X10_standsAs) (cost := 4) (dep := 10 + 1) (by omega) (by omega) (fun _ _ _ _ => rfl) ?_
  intro f9 f10 q t p α β β0 a1 a2 a3 a4 h hb
  obtain ⟨v, t', α', β', c1, c2, c3, c4, c5⟩ := ih f9 f10 q t p α β (by omega) (by omega) (by omega) (by omega) h
  refine ⟨-v, t', α', β', ?_, ?_, c3, c4, c5⟩
  · have e : F_X0_perform (rc_X0_run f9) α (mj_own (mk_own 1 k * 4 + 1)) (mj_above (mk_own 1 k)) p (nI q) = (rc_X0_run f9 0 (nI 1) (nI 0) p (nI q) α).bind fun r5 => some (-r5.1, r5.2) := by
      subst hk; rfl
    rw [e, c1]
    rfl
  · have hb' : f_X10_begins β0 30 = some β := by
      subst hk; exact hb
    have e : F_X10_standsAs (rc_X10_standsAs f10) β0 (nI k) p = (f_X10_begins β0 30).bind fun r3 => (rc_X10_standsAs f10 (nI 0) p r3).bind fun r4 => some (-r4.1, r4.2) := by
      subst hk; rfl
    rw [e, hb']
    show (rc_X10_standsAs f10 (nI 0) p β).bind _ = _
    rw [c2]
    rfl

theorem mk_s_80 (K : Nat) (hK : K < 8) : mk_AS 1 rc_X10_standsAs K 7 11 15 := by
  refine mk_ASof (F := F_X10_standsAs) (cost := 10) (dep := 13) (by omega) (by omega) (fun _ _ _ _ => rfl) ?_
  intro f9 f10 q t p α β β0 a1 a2 a3 a4 h hb
  obtain ⟨v, t', α', β', c1, c2, c3, c4, c5⟩ := mk_s_30 K (k := 2) rfl (mk_s_base K hK (k := 0) (.inl rfl)) f9 f10 q t p α β (by omega) (by omega) (by omega) (by omega) h
  obtain ⟨v2, t2, α2, β2, d1, d2, d3, d4, d5⟩ := mk_marks K hK hK f9 mj_fd q t' 2 α' β' (by omega) (by decide) (by omega) (by omega) c3
  refine ⟨v + v2, t2, α2, β2, ?_, ?_, d3, by omega, mk_AFt c5 d5⟩
  · have e : F_X0_perform (rc_X0_run f9) α (mj_own (mk_own 1 7 * 4 + 1)) (mj_above (mk_own 1 7)) p (nI q) = (rc_X0_run f9 0 (nI 1) (nI 2) p (nI q) α).bind fun r9 => (rc_X0_run f9 0 (nI 2) (r9.2.1 50 5) 2 (nI q) r9.2).bind fun r10 => some (r9.1 + r10.1, r10.2) := rfl
    rw [e, c1]
    show (rc_X0_run f9 0 (nI 2) (α'.1 50 5) 2 (nI q) α').bind _ = _
    rw [c3.k9, d1]
    rfl
  · have hb' : f_X10_begins β0 80 = some β := hb
    have e : F_X10_standsAs (rc_X10_standsAs f10) β0 (nI 7) p = (f_X10_begins β0 80).bind fun r6 => (rc_X10_standsAs f10 (nI 2) p r6).bind fun r7 => (f_X10_marksAs r7.2 (r7.2.1 64 42) 2).bind fun r8 => some (r7.1 + r8.1, r8.2) := rfl
    rw [e, hb']
    show (rc_X10_standsAs f10 (nI 2) p β).bind _ = _
    rw [c2]
    show (f_X10_marksAs β' (β'.1 64 42) 2).bind _ = _
    unfold f_X10_marksAs
    rw [c3.k10, d2]
    rfl
theorem mk_stands (K : Nat) (hK : K < 8) {k : Nat} (hk : k < 8) : mk_AS 1 rc_X10_standsAs K k 11 15 := by
  have b := fun k (h : k = 0 ∨ k = 1 ∨ k = 4 ∨ k = 5) => mk_s_base K hK h
  match k, hk with
  | 0, _ => exact mk_ASw (b 0 (.inl rfl)) (by omega) (by omega)
  | 1, _ => exact mk_ASw (b 1 (.inr (.inl rfl))) (by omega) (by omega)
  | 2, _ => exact mk_ASw (mk_s_30 K (k := 2) rfl (b 0 (.inl rfl))) (by omega) (by omega)
  | 3, _ => exact mk_ASw (mk_s_41 K (k := 3) (.inl rfl) (b 1 (.inr (.inl rfl)))) (by omega) (by omega)
  | 4, _ => exact mk_ASw (b 4 (.inr (.inr (.inl rfl)))) (by omega) (by omega)
  | 5, _ => exact mk_ASw (b 5 (.inr (.inr (.inr rfl)))) (by omega) (by omega)
  | 6, _ => exact mk_ASw (mk_s_41 K (k := 6) (.inr rfl) (b 1 (.inr (.inl rfl)))) (by omega) (by omega)
  | 7, _ => exact mk_s_80 K hK
-- tells
theorem mk_t_base (K : Nat) {k : Nat} (hK : K < 8) (hk : k = 0 ∨ k = 1 ∨ k = 2 ∨ k = 3 ∨ k = 4 ∨ k = 6) : mk_AS 3 rc_X10_tellsAs K k 17 20 := by
  refine mk_ASof (F := F_X10_tellsAs) (cost := 16) (dep := 18) (by omega) (by omega) (fun _ _ _ _ => rfl) ?_
  intro f9 f10 q t p α β β0 a1 a2 a3 a4 h hb
  obtain ⟨v, t', α', β', c1, c2, c3, c4, c5⟩ := mk_stands K hK hK f9 mj_fd q t p α β (by omega) (by decide) (by omega) (by omega) h
  obtain ⟨v2, t2, α2, β2, d1, d2, d3, d4, d5⟩ := mk_marks K hK hK f9 mj_fd q t' 1 α' β' (by omega) (by decide) (by omega) (by omega) c3
  refine ⟨v - v2, t2, α2, β2, ?_, ?_, d3, by omega, mk_AFt c5 d5⟩
  · have e : F_X0_perform (rc_X0_run f9) α (mj_own (mk_own 3 k * 4 + 3)) (mj_above (mk_own 3 k)) p (nI q) = (rc_X0_run f9 0 (nI 1) (α.1 50 5) p (nI q) α).bind fun r9 => (rc_X0_run f9 0 (nI 2) (r9.2.1 50 5) 1 (nI q) r9.2).bind fun r10 => some (r9.1 - r10.1, r10.2) := by
      rcases hk with rfl | rfl | rfl | rfl | rfl | rfl <;> rfl
    rw [e, h.k9, c1]
    show (rc_X0_run f9 0 (nI 2) (α'.1 50 5) 1 (nI q) α').bind _ = _
    rw [c3.k9, d1]
    rfl
  · have hb' : f_X10_begins β0 2 = some β := by
      rcases hk with rfl | rfl | rfl | rfl | rfl | rfl <;> exact hb
    have e : F_X10_tellsAs (rc_X10_tellsAs f10) β0 (nI k) p = (f_X10_begins β0 2).bind fun r6 => (f_X10_standsAs r6 (r6.1 64 42) p).bind fun r7 => (f_X10_marksAs r7.2 (r7.2.1 64 42) 1).bind fun r8 => some (r7.1 - r8.1, r8.2) := by
      rcases hk with rfl | rfl | rfl | rfl | rfl | rfl <;> rfl
    rw [e, hb']
    show (f_X10_standsAs β (β.1 64 42) p).bind _ = _
    unfold f_X10_standsAs
    rw [h.k10, c2]
    show (f_X10_marksAs β' (β'.1 64 42) 1).bind _ = _
    unfold f_X10_marksAs
    rw [c3.k10, d2]
    rfl

theorem mk_t_60 (K : Nat) {k : Nat} (hk : k = 5) (ih : mk_AS 3 rc_X10_tellsAs K 4 17 20) : mk_AS 3 rc_X10_tellsAs K k (17 + 1) (20 + 1 + 2) := by
  refine mk_ASof (F := F_X10_tellsAs) (cost := 17) (dep := 20 + 1) (by omega) (by omega) (fun _ _ _ _ => rfl) ?_
  intro f9 f10 q t p α β β0 a1 a2 a3 a4 h hb
  obtain ⟨v, t', α', β', c1, c2, c3, c4, c5⟩ := ih f9 f10 q t p α β (by omega) (by omega) (by omega) (by omega) h
  refine ⟨v ^^^ 5, t', α', β', ?_, ?_, c3, c4, c5⟩
  · have e : F_X0_perform (rc_X0_run f9) α (mj_own (mk_own 3 k * 4 + 3)) (mj_above (mk_own 3 k)) p (nI q) = (rc_X0_run f9 0 (nI 3) (nI 4) p (nI q) α).bind fun r5 => some (r5.1 ^^^ 5, r5.2) := by
      subst hk; rfl
    rw [e, c1]
    rfl
  · have hb' : f_X10_begins β0 60 = some β := by
      subst hk; exact hb
    have e : F_X10_tellsAs (rc_X10_tellsAs f10) β0 (nI k) p = (f_X10_begins β0 60).bind fun r3 => (rc_X10_tellsAs f10 (nI 4) p r3).bind fun r4 => some (r4.1 ^^^ 5, r4.2) := by
      subst hk; rfl
    rw [e, hb']
    show (rc_X10_tellsAs f10 (nI 4) p β).bind _ = _
    rw [c2]
    rfl

theorem mk_t_81 (K : Nat) {k : Nat} (hk : k = 7) (ih : mk_AS 3 rc_X10_tellsAs K 2 17 20) : mk_AS 3 rc_X10_tellsAs K k (17 + 1) (20 + 1 + 2) := by
  refine mk_ASof (F := F_X10_tellsAs) (cost := 17) (dep := 20 + 1) (by omega) (by omega) (fun _ _ _ _ => rfl) ?_
  intro f9 f10 q t p α β β0 a1 a2 a3 a4 h hb
  obtain ⟨v, t', α', β', c1, c2, c3, c4, c5⟩ := ih f9 f10 q t p α β (by omega) (by omega) (by omega) (by omega) h
  refine ⟨v - 1, t', α', β', ?_, ?_, c3, c4, c5⟩
  · have e : F_X0_perform (rc_X0_run f9) α (mj_own (mk_own 3 k * 4 + 3)) (mj_above (mk_own 3 k)) p (nI q) = (rc_X0_run f9 0 (nI 3) (nI 2) p (nI q) α).bind fun r5 => some (r5.1 - 1, r5.2) := by
      subst hk; rfl
    rw [e, c1]
    rfl
  · have hb' : f_X10_begins β0 81 = some β := by
      subst hk; exact hb
    have e : F_X10_tellsAs (rc_X10_tellsAs f10) β0 (nI k) p = (f_X10_begins β0 81).bind fun r3 => (rc_X10_tellsAs f10 (nI 2) p r3).bind fun r4 => some (r4.1 - 1, r4.2) := by
      subst hk; rfl
    rw [e, hb']
    show (rc_X10_tellsAs f10 (nI 2) p β).bind _ = _
    rw [c2]
    rfl

theorem mk_tells (K : Nat) (hK : K < 8) {k : Nat} (hk : k < 8) : mk_AS 3 rc_X10_tellsAs K k 18 23 := by
  have b := fun k (h : k = 0 ∨ k = 1 ∨ k = 2 ∨ k = 3 ∨ k = 4 ∨ k = 6) => mk_t_base K hK h
  match k, hk with
  | 0, _ => exact mk_ASw (b 0 (by omega)) (by omega) (by omega)
  | 1, _ => exact mk_ASw (b 1 (by omega)) (by omega) (by omega)
  | 2, _ => exact mk_ASw (b 2 (by omega)) (by omega) (by omega)
  | 3, _ => exact mk_ASw (b 3 (by omega)) (by omega) (by omega)
  | 4, _ => exact mk_ASw (b 4 (by omega)) (by omega) (by omega)
  | 5, _ => exact mk_ASw (mk_t_60 K (k := 5) rfl (b 4 (by omega))) (by omega) (by omega)
  | 6, _ => exact mk_ASw (b 6 (by omega)) (by omega) (by omega)
  | 7, _ => exact mk_ASw (mk_t_81 K (k := 7) rfl (b 2 (by omega))) (by omega) (by omega)
def mk_a0 (σ : mj_S) (x : Int32) (K : Nat) : mj_S := mj_sI (mj_sI (mj_sI σ 50 3 0) 50 4 x) 50 5 (nI K)
def mk_b0 (σ : mj_S) (x : Int32) (K : Nat) : mj_S := mj_sI (mj_sI (mj_sI σ 64 41 0) 64 42 (nI K)) 64 43 x
theorem mk_actJ {g c w n k d d2 a σ} (h : mk_J g c w n k d d2 a σ) (x : Int32) (K t : Nat) {α' β' : mj_S} (hr : mk_AR K t α' β') (hf : mk_AF (mk_a0 σ x K) α' (mk_b0 α' x K) β') : mk_J g c w n k d d2 a β' := by
  have e : β' = mj_sR (mj_sR (mj_sI (mj_sI (mk_b0 (mk_a0 σ x K) x K) 50 3 (nI t)) 64 41 (nI t)) 52 (α'.1 52)) 86 (β'.1 86) := by
    refine Prod.ext ?_ ?_
    · funext p q
      rw [mk_gR]
      by_cases h1 : p = 86
      · rw [if_pos h1, h1]
      rw [if_neg h1, mk_gR]
      by_cases h2 : p = 52
      · rw [if_pos h2, hf.c10 p q h1 (by omega)]
        unfold mk_b0
        rw [mk_g, if_neg (by omega), mk_g, if_neg (by omega), mk_g, if_neg (by omega), h2]
      rw [if_neg h2, mk_g]
      by_cases h3 : p = 64 ∧ q = 41
      · rw [if_pos h3, h3.1, h3.2]
        exact hr.n10
      rw [if_neg h3, mk_g, hf.c10 p q h1 h3]
      by_cases h4 : p = 50 ∧ q = 3
      · rw [if_pos h4, h4.1, h4.2]
        exact hr.n9
      rw [if_neg h4]
      unfold mk_b0
      rw [mk_g, mk_g, mk_g, mk_g, mk_g, mk_g, hf.c9 p q h2 h4]
    · exact hf.l10.trans hf.l9
  have htr := hr.tr
  rw [e]
  exact mk_J.mk (hc := h.hc) (c9 := h.c9) (c64 := h.c64) (kid := h.kid) (hw := h.hw) (w9 := h.w9) (w64 := h.w64) (want := h.want) (noWant := h.noWant) (hn := h.hn) (n5 := h.n5) (n64 := h.n64) (tape := h.tape) (bytes := h.bytes) (law := h.law) (stale := h.stale) (rows := h.rows) (rowsM := h.rowsM) (grown := h.grown) (hk := h.hk) (k35 := h.k35) (k64 := h.k64) (mark := h.mark) (painted := h.painted) (ahead := h.ahead) (hd := h.hd) (hd2 := h.hd2) (d45 := h.d45) (d64 := h.d64) (e45 := h.e45) (e64 := h.e64) (chg := h.chg) (ha := h.ha) (a50 := h.a50) (a64 := h.a64) (body := h.body) (shelf := h.shelf)
   (ran := rfl)
   (trace := fun i hi => htr i hi)
theorem mk_actRun {K b M : Nat} (hK : K < 8) (hM : M < 4) : ∃ rc cost, cost ≤ 20 ∧ mk_AS M rc K K cost 23 ∧ ∀ (β : mj_S) (p : Int32) , (if nI M = 0 then ((f_X10_growsAs β (nI K) p).bind fun r4 => some (r4.1, r4.2)) else (if nI M = 1 then ((f_X10_standsAs β (nI K) p).bind fun r5 => some (r5.1, r5.2)) else (if nI M = 2 then ((f_X10_marksAs β (nI K) p).bind fun r6 => some (r6.1, r6.2)) else (if nI M = 3 then ((f_X10_tellsAs β (nI K) p).bind fun r7 => some (r7.1, r7.2)) else some (0, β))))) = rc mj_fd (nI K) p β := by
  have eta : ∀ o : Option (Int32 × mj_S), (o.bind fun r => some (r.1, r.2)) = o := fun o => by cases o <;> rfl
  match M, hM with
  | 0, _ => exact ⟨rc_X10_growsAs, 3, by omega, mk_ASw (mk_grows K hK) (by omega) (by omega), fun β p => eta _⟩
  | 1, _ => exact ⟨rc_X10_standsAs, 11, by omega, mk_ASw (mk_stands K hK hK) (by omega) (by omega), fun β p => eta _⟩
  | 2, _ => exact ⟨rc_X10_marksAs, 5, by omega, mk_ASw (mk_marks K hK hK) (by omega) (by omega), fun β p => eta _⟩
  | 3, _ => exact ⟨rc_X10_tellsAs, 18, by omega, mk_ASw (mk_tells K hK hK) (by omega) (by omega), fun β p => eta _⟩
theorem op_act (σ : mj_S) (x0 x1 x2 : Int32) : mk_I σ → ∃ (v : Int32) (σ1 σ2 : mj_S), f_X9_act σ x0 x1 x2 = some (v, σ1) ∧ f_X10_act σ1 x0 x1 x2 = some (v, σ2) ∧ mk_I σ2 := by
  rintro ⟨g, c, w, n, k, d, d2, a, h⟩
  have ha := h.ha
  have e0 : (0 : Int32).toInt = 0 := rfl
  have e3 : (3 : Int32).toInt = 3 := rfl
  have eta : ∀ o : Option (Int32 × mj_S), (o.bind fun r => some (r.1, r.2)) = o := fun o => by cases o <;> rfl
  unfold f_X9_act f_X0_start f_X10_act
  simp only [eta]
  have h9 : f_X0_has (mj_sI σ 50 3 0) x0 = mk_bt x0.toInt 0 (a - 1) := mk_has0 h x0
  rw [h9, mk_w9, e0, e3]
  by_cases h1 : mk_bt x0.toInt 0 (a - 1) = 0
  · refine ⟨0, mj_sI σ 50 3 0, mj_sI (mj_sI σ 50 3 0) 64 41 0, by rw [if_pos h1], ?_, g, c, w, n, k, d, d2, a, (mk_J.mk (hc := h.hc) (c9 := h.c9) (c64 := h.c64) (kid := h.kid) (hw := h.hw) (w9 := h.w9) (w64 := h.w64) (want := h.want) (noWant := h.noWant) (hn := h.hn) (n5 := h.n5) (n64 := h.n64) (tape := h.tape) (bytes := h.bytes) (law := h.law) (stale := h.stale) (rows := h.rows) (rowsM := h.rowsM) (grown := h.grown) (hk := h.hk) (k35 := h.k35) (k64 := h.k64) (mark := h.mark) (painted := h.painted) (ahead := h.ahead) (hd := h.hd) (hd2 := h.hd2) (d45 := h.d45) (d64 := h.d64) (e45 := h.e45) (e64 := h.e64) (chg := h.chg) (ha := h.ha) (a50 := h.a50) (a64 := h.a64) (body := h.body) (trace := h.trace) (shelf := h.shelf) (ran := rfl))⟩
    have h10 : f_X10_isBody (mj_sI (mj_sI σ 50 3 0) 64 41 0) x0 = mk_bt x0.toInt 0 (a - 1) := mk_body10 h x0
    rw [h10, if_pos h1]
  rw [if_neg h1]
  obtain ⟨b, hb, rfl⟩ := mk_bt_of (x := x0) (n := a) (mk_in_of h1) (by omega)
  have hb50 : 0 ≤ (nI b).toInt ∧ (nI b).toInt < 50 := by
    rw [nI_toInt (by omega)]
    omega
  have hcl : (nI b).toNatClampNeg = b := nI_clamp (by omega)
  obtain ⟨k1, K, hK, k3⟩ := h.body b hb
  by_cases h2 : mk_bt x1.toInt 0 3 = 0
  · have hn := mk_bt0.mp h2
    refine ⟨0, mj_sI σ 50 3 0, mk_b0 (mj_sI σ 50 3 0) (nI b) K, by rw [if_pos h2], ?_, g, c, w, n, k, d, d2, a, (mk_J.mk (hc := h.hc) (c9 := h.c9) (c64 := h.c64) (kid := h.kid) (hw := h.hw) (w9 := h.w9) (w64 := h.w64) (want := h.want) (noWant := h.noWant) (hn := h.hn) (n5 := h.n5) (n64 := h.n64) (tape := h.tape) (bytes := h.bytes) (law := h.law) (stale := h.stale) (rows := h.rows) (rowsM := h.rowsM) (grown := h.grown) (hk := h.hk) (k35 := h.k35) (k64 := h.k64) (mark := h.mark) (painted := h.painted) (ahead := h.ahead) (hd := h.hd) (hd2 := h.hd2) (d45 := h.d45) (d64 := h.d64) (e45 := h.e45) (e64 := h.e64) (chg := h.chg) (ha := h.ha) (a50 := h.a50) (a64 := h.a64) (body := h.body) (trace := h.trace) (shelf := h.shelf) (ran := rfl))⟩
    have h10 : f_X10_isBody (mj_sI (mj_sI σ 50 3 0) 64 41 0) (nI b) = mk_bt (nI b).toInt 0 (a - 1) := mk_body10 h (nI b)
    have h85 : (mj_sI σ 50 3 0).1 85 b = nI K := k1.symm.trans k3
    have z0 : ¬ x1 = 0 := fun q => hn (by rw [q]; decide)
    have z1 : ¬ x1 = 1 := fun q => hn (by rw [q]; decide)
    have z2 : ¬ x1 = 2 := fun q => hn (by rw [q]; decide)
    have z3 : ¬ x1 = 3 := fun q => hn (by rw [q]; decide)
    rw [h10, if_neg h1, if_pos hb50, if_neg z0, if_neg z1, if_neg z2, if_neg z3, hcl, h85]
    rfl
  rw [if_neg h2]
  obtain ⟨M, hM, rfl⟩ := mk_bt_of (x := x1) (n := 4) (by have := mk_in_of h2; omega) (by omega)
  have hko : f_X0_kindOf (mj_sI (mj_sI σ 50 3 0) 50 4 (nI b)) (nI b) = some (nI K) := by
    unfold f_X0_kindOf
    have h9' : f_X0_has (mj_sI (mj_sI σ 50 3 0) 50 4 (nI b)) (nI b) = mk_bt (nI b).toInt 0 (a - 1) := mk_has0 h (nI b)
    have h51 : (mj_sI (mj_sI σ 50 3 0) 50 4 (nI b)).1 51 b = nI K := k3
    rw [h9', if_neg h1, if_pos hb50, hcl, h51]
  rw [hko]
  obtain ⟨rc, cost, hcost, hAS, h10⟩ := mk_actRun (b := 0) (K := K) (M := M) (by omega) hM
  have ar : ∀ τ : mj_S, τ.1 86 = σ.1 86 → mk_AR K 0 (mk_a0 σ (nI b) K) (mk_b0 τ (nI b) K) := fun τ ht => ⟨rfl, rfl, fun i hi => by
    show σ.1 52 i = τ.1 86 i
    rw [ht]
    exact h.trace i hi, rfl, rfl, rfl⟩
  obtain ⟨v0, t0, α0, β0, s1, s2, s3, s4, s5⟩ := hAS mj_fd mj_fd 0 0 x2 (mk_a0 σ (nI b) K) (mk_b0 σ (nI b) K) (by decide) (by decide) (by omega) (by omega) (ar σ rfl)
  have a86 : α0.1 86 = σ.1 86 := funext fun y => s5.c9 86 y (by omega) (by omega)
  obtain ⟨v, t, α', β', r1, r2, r3, r4, r5⟩ := hAS mj_fd mj_fd 0 0 x2 (mk_a0 σ (nI b) K) (mk_b0 α0 (nI b) K) (by decide) (by decide) (by omega) (by omega) (ar α0 a86)
  have hv : some (v0, α0) = some (v, α') := s1.symm.trans r1
  obtain ⟨rfl, rfl⟩ : v0 = v ∧ α0 = α' := by
    have := Option.some.inj hv
    exact ⟨congrArg Prod.fst this, congrArg Prod.snd this⟩
  refine ⟨v0, α0, β', ?_, ?_, g, c, w, n, k, d, d2, a, mk_actJ h (nI b) K t r3 r5⟩
  · show f_X0_run (mj_sI (mj_sI (mj_sI σ 50 3 0) 50 4 (nI b)) 50 5 (nI K)) (nI M) (nI K) x2 0 = _
    unfold f_X0_run
    rw [nI_0] at r1
    exact r1
  · have i10 : f_X10_isBody (mj_sI α0 64 41 0) (nI b) = mk_bt (nI b).toInt 0 (a - 1) := by
      unfold f_X10_isBody
      have e38 : (mj_sI α0 64 41 0).1 64 38 = nI a := by
        show α0.1 64 38 = _
        rw [r5.c9 64 38 (by omega) (by omega)]
        exact h.a64
      exact mk_is _ e38 (by omega)
    have e85 : α0.1 85 b = nI K := by
      rw [r5.c9 85 b (by omega) (by omega)]
      exact k1.symm.trans k3
    have hh := h10 (mk_b0 α0 (nI b) K) x2
    simp only [eta] at hh
    rw [i10, if_neg h1, if_pos hb50, hcl, e85]
    exact hh.trans r2
