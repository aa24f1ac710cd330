theorem mk_think {g c w n k d d2 a σ} (h : mk_J g c w n k d d2 a σ) {j F T : Nat} (hj : j < c) (hF : F ≤ 600) (hT : T ≤ 599) (v : Int32) : ∃ α, f_X2_think σ (nI j) (nI F) (nI T) v = some α ∧ mk_J g c w n k d d2 a α ∧ mk_fr mk_Zq σ α ∧ ∀ m, m < 600 → α.1 32 m = mk_hh g (σ.1 10 j) (σ.1 12 j) (σ.1 13 j) (σ.1 11 j) (σ.1 14 j) (nI j) (fun m => if F ≤ m ∧ m ≤ T then mj_max (σ.1 15 m) v else σ.1 15 m) m := by
  have hc := h.hc
  have hb := mk_in6 (e := j) (by omega)
  have hcl : (nI j).toNatClampNeg = j := nI_clamp (by omega)
  obtain ⟨cp, hcp⟩ : ∃ cp, cp = va_cpy (σ.1 15) (σ.1 17) 0 0 600 := ⟨_, rfl⟩
  have cpv : ∀ m, m < 600 → cp m = σ.1 15 m := fun m hm => by
    rw [hcp]
    unfold va_cpy
    rw [if_pos (by omega), show 0 + (m - 0) = m by omega]
  obtain ⟨f17, r1, r2⟩ := mk_raise (σ := mj_sR σ 17 cp) 17 hF hT v
  obtain ⟨α1, hα1⟩ : ∃ α1, α1 = mj_sI (mj_sI (mj_sI (mj_sR (mj_sR σ 17 cp) 17 f17) 34 1 (σ.1 11 j)) 34 4 ((σ.1 14 j) / 64)) 34 6 (nI j) := ⟨_, rfl⟩
  have hl : mk_law g (α1.1 1 3) (α1.1 1 5) (α1.1 64 18) (α1.1 2) (α1.1 3) (α1.1 76) := by
    rw [hα1]
    exact h.law
  obtain ⟨α2, k1, k2, k3⟩ := mk_grow hl 32 17 (by omega) (by omega) (by omega) (by omega) (by omega) (α1.1 10 j) (α1.1 12 j) (α1.1 13 j) (σ.1 14 j) (by rw [hα1]; rfl)
  have f1 : mk_fr mk_Zq σ α1 := by
    refine ⟨fun x y hz => ?_, by rw [hα1]; rfl⟩
    rw [hα1, mk_g, if_neg (fun q => hz (by unfold mk_Zq; omega)), mk_g, if_neg (fun q => hz (by unfold mk_Zq; omega)), mk_g, if_neg (fun q => hz (by unfold mk_Zq; omega)), mk_gR, if_neg (fun q => hz (by unfold mk_Zq; omega)), mk_gR, if_neg (fun q => hz (by unfold mk_Zq; omega))]
  have f2 : mk_fr mk_Zq σ α2 := mk_frt f1 (mk_frw k2 (fun x y z => by unfold mk_Zg at z; unfold mk_Zq; omega))
  have g6 : α2.1 64 6 = σ.1 64 6 := by
    rw [k2.1 64 6 (by unfold mk_Zg; omega), hα1]
    rfl
  have g78 : α2.1 78 = σ.1 78 := funext fun y => by
    rw [k2.1 78 y (by unfold mk_Zg; omega), hα1]
    rfl
  refine ⟨α2, ?_, mk_JQ h f2 (by rw [g6, g78]; exact h.grown), f2, fun m hm => ?_⟩
  · unfold f_X2_think
    rw [mk_has2 h, if_neg (mk_btn (by rw [nI_toInt (by omega)]; omega)), if_pos (by decide)]
    have z0 : (0 : Int32).toNatClampNeg = 0 := rfl
    have z6 : (600 : Int32).toNatClampNeg = 600 := rfl
    rw [← hcp, r1, mk_bs]
    simp only [if_pos hb, hcl]
    have en : f_X2_name (mj_sR (mj_sR σ 17 cp) 17 f17) ((mj_sR (mj_sR σ 17 cp) 17 f17).1 11 j) ((mj_sR (mj_sR σ 17 cp) 17 f17).1 14 j) (nI j) = some α1 := by
      rw [hα1]
      rfl
    rw [en, mk_bs, k1, mk_bs]
  · have c10 : α1.1 10 j = σ.1 10 j := by rw [hα1]; rfl
    have c12 : α1.1 12 j = σ.1 12 j := by rw [hα1]; rfl
    have c13 : α1.1 13 j = σ.1 13 j := by rw [hα1]; rfl
    have c1 : α1.1 34 1 = σ.1 11 j := by rw [hα1]; rfl
    have c6 : α1.1 34 6 = nI j := by rw [hα1]; rfl
    have c17 : α1.1 17 = f17 := by rw [hα1]; rfl
    rw [k3 m hm, c10, c12, c13, c1, c6, c17]
    refine mk_hh_congr g _ _ _ _ _ _ (fun m hm => ?_) m hm
    rw [r2 m hm]
    have e17 : (mj_sR σ 17 cp).1 17 m = cp m := rfl
    rw [e17, cpv m hm]
