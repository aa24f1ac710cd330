-- enough
theorem mk_hh_congr (g : mk_G) (b L a s p k : Int32) {w1 w2 : Nat → Int32} (hw : ∀ m, m < 600 → w1 m = w2 m) : ∀ m, m < 600 → mk_hh g b L a s p k w1 m = mk_hh g b L a s p k w2 m
  | 0, h => by
    show mk_hs g b L a s p k w1 0 0 = mk_hs g b L a s p k w2 0 0
    unfold mk_hs
    rw [hw 0 h]
  | m + 1, h => by
    show mk_hs g b L a s p k w1 (mk_hh g b L a s p k w1 m) (m + 1) = mk_hs g b L a s p k w2 (mk_hh g b L a s p k w2 m) (m + 1)
    rw [mk_hh_congr g b L a s p k hw m (by omega)]
    unfold mk_hs
    rw [hw (m + 1) h]
theorem mk_allG {g : mk_G} {s13 s15 : Int32} {c2 c3 : Nat → Int32} {β : mj_S} (hl : mk_law g s13 s15 (β.1 64 18) c2 c3 (β.1 76)) {c : Nat} (hc : c ≤ 6) (h64 : β.1 64 7 = nI c) (hb : ∀ j, j < c → mk_r (β.1 69 j) 599) (want : Nat → Int32) (hw : ∀ σ' m, m < 600 → mk_fr mk_Zh β σ' → f_X10_wantOf σ' (nI m) = some (want m)) :
    ∀ (f i : Nat) (α : mj_S), c < f + i → i ≤ c → mk_fr mk_Zh β α → (∀ j, j < i → ∀ m, m < 600 → α.1 78 (600 * j + m) = mk_hh g (β.1 69 j) (β.1 71 j) (β.1 65 j) (β.1 70 j) (β.1 65 (6 + j)) (nI j) want m) → ∃ τ, b_X10_allGrow_10 f (nI i) α = some τ ∧ mk_fr mk_Zh β τ ∧ ∀ j, j < c → ∀ m, m < 600 → τ.1 78 (600 * j + m) = mk_hh g (β.1 69 j) (β.1 71 j) (β.1 65 j) (β.1 70 j) (β.1 65 (6 + j)) (nI j) want m
  | 0, i, α, hf, hi, _, _ => absurd hf (by omega)
  | f + 1, i, α, hf, hi, hfr, hr => by
    unfold b_X10_allGrow_10
    rw [hfr.1 64 7 (by unfold mk_Zh; omega), h64]
    by_cases hic : i = c
    · refine ⟨_, by rw [if_pos (by rw [hic]; exact nI_le (by omega) (by omega))], mk_frt hfr (mk_frI (.inr (.inl ⟨rfl, .inl rfl⟩))), fun j hj m hm => ?_⟩
      rw [mk_g, if_neg (by omega)]
      exact hr j (by omega) m hm
    have e6 : 6 + nI i = nI (6 + i) := nI_add 6 i
    obtain ⟨b0, hb0, eb⟩ := hb i (by omega)
    have a69 : α.1 69 i = nI b0 := (hfr.1 69 i (by unfold mk_Zh; omega)).trans eb
    have hl' : mk_law g s13 s15 (α.1 64 18) c2 c3 (α.1 76) := by
      rw [hfr.1 64 18 (by unfold mk_Zh; omega), funext fun y => hfr.1 76 y (by unfold mk_Zh; omega)]
      exact hl
    obtain ⟨τ1, t1, t2, t3⟩ := mk_upLoop hl' (j := i) (by omega) hb0 a69 (α.1 71 i) (α.1 65 i) (α.1 65 (6 + i)) 1 want (.inr ⟨rfl, fun σ' m hm hz => hw σ' m hm (mk_frt hfr (mk_frw hz (fun x y z => by unfold mk_Zu at z; unfold mk_Zh; omega)))⟩) mj_fu 0 (α.1 71 i) α (by show 600 < 5000 + 0; omega) (by omega) ⟨fun _ _ _ => rfl, rfl⟩ (fun _ => (if_pos (by omega)).symm)
    have u1 : f_X10_growsUp α (nI i) (α.1 65 i) (α.1 65 (6 + i)) 1 = some τ1 := by
      unfold f_X10_growsUp
      rw [if_pos (mk_in7 (by omega)), nI_clamp (by omega)]
      rw [nI_0] at t1
      exact t1
    rw [if_neg (nI_ge (by omega) (by omega)), if_pos (mk_in72 (by omega)), e6, if_pos (mk_in72 (by omega)), nI_clamp (by omega), nI_clamp (by omega), u1, mk_bs, nI_1]
    refine mk_allG hl hc h64 hb want hw f (i + 1) τ1 (by omega) (by omega) (mk_frt hfr (mk_frw t2 (fun x y z => by unfold mk_Zu at z; unfold mk_Zh; omega))) (fun j hj m hm => ?_)
    by_cases hji : j = i
    · rw [hji, t3 m hm, if_pos (by omega), hfr.1 71 i (by unfold mk_Zh; omega), hfr.1 65 i (by unfold mk_Zh; omega), hfr.1 65 (6 + i) (by unfold mk_Zh; omega), hfr.1 70 i (by unfold mk_Zh; omega), eb]
    · rw [t2.1 78 _ (by unfold mk_Zu; omega)]
      exact hr j (by omega) m hm
