set_option maxRecDepth 100000 in
set_option maxHeartbeats 4000000 in
theorem c_X7_giveTo {G : mj_G} {l : Launch} (σ : mj_S) (R : mj_S) (hF : f_X7_giveTo σ = some R) : mj_C G l yX7_giveTo cX7_giveTo 2 (none) 2 [.ref (G.2.1 5), .ref (G.2.1 1)] σ none R := by
  unfold f_X7_giveTo at hF
  refine mj_of (ls := [(0, .ref (G.2.1 5)), (1, .ref (G.2.1 1))]) (by decide) (Nat.le_of_ble_eq_true rfl) rfl (fun p e s m args below meth c C hr hlk => ?_)
  refine mj_aload_n C dX7_giveTo_0 rfl ?_
  refine mj_aload_n C dX7_giveTo_1 rfl ?_
  refine mg_X7_15 C dX7_giveTo_2 ?_
  refine mj_aload_n C dX7_giveTo_5 rfl ?_
  refine mg_X7_18 C dX7_giveTo_6 ?_
  refine mj_aload_n C dX7_giveTo_9 rfl ?_
  refine mg_X7_28 C dX7_giveTo_10 ?_
  obtain ⟨r1, hq1, hF⟩ := mj_ob hF
  refine mj_callVv C (c_X4_become σ 7 121 rfl 8 121 rfl (σ.1 5 5) r1 hq1) yv_X4_become kl_X7_31 (mo_1 G _) rfl rfl rfl rfl (Nat.le_of_ble_eq_true rfl) (mj_roomC (by decide) (by decide)) ⟨Nat.zero_le _, Nat.zero_le _⟩ dX7_giveTo_13 ?_
  have hF := mj_oi hF; subst hF
  exact mj_vret C hr hlk dX7_giveTo_16
