set_option maxRecDepth 100000 in
set_option maxHeartbeats 4000000 in
theorem c_J0_indexOf_7cf53 {G : mj_G} {l : Launch} (σ : mj_S) (p1 : Int32) (p2 : Int32) (R : Int32) (hF : f_J0_indexOf_7cf53 σ p1 p2 = some R) : mj_C G l yJ0_indexOf_7cf53 cJ0_indexOf_7cf53 3 (some .int) 3 [.ref (G.2.1 1002), .int p1, .int p2] σ (some (.int R)) σ := by
  unfold f_J0_indexOf_7cf53 at hF
  refine mj_of (ls := [(0, .ref (G.2.1 1002)), (1, .int p1), (2, .int p2)]) (by decide) (Nat.le_of_ble_eq_true rfl) rfl (fun p e s m args below meth c C hr hlk => ?_)
  refine mj_aload_n C dJ0_indexOf_7cf53_0 rfl ?_
  refine mj_callTi C (c_J0_isLatin1_aae02 σ) yv_J0_isLatin1_aae02 kl_J0_492 rfl rfl rfl (Nat.le_of_ble_eq_true rfl) (mj_roomC (by decide) (by decide)) ⟨Nat.zero_le _, Nat.zero_le _⟩ dJ0_indexOf_7cf53_1 ?_
  refine mj_if_eq C dJ0_indexOf_7cf53_4 rfl ((ite_self _).trans hF) (fun hc hF => ?_) (fun hc hF => ?_)
  · exact absurd hc (show ¬ ((1 : Int32) = 0) by decide)
  · refine mj_aload_n C dJ0_indexOf_7cf53_7 rfl ?_
    refine mj_sv C dJ0_indexOf_7cf53_8 ?_
    refine mj_iload_n C dJ0_indexOf_7cf53_11 rfl ?_
    refine mj_iload_n C dJ0_indexOf_7cf53_12 rfl ?_
    refine mj_aload_n C dJ0_indexOf_7cf53_13 rfl ?_
    refine mj_callTi C (c_J0_length_8abf5 σ) yv_J0_length_8abf5 kl_J0_505 rfl rfl rfl (Nat.le_of_ble_eq_true rfl) (mj_roomC (by decide) (by decide)) ⟨Nat.zero_le _, Nat.zero_le _⟩ dJ0_indexOf_7cf53_14 ?_
    obtain ⟨r1, hq1, hF⟩ := mj_ob hF
    refine mj_callSi C (c_J1_indexOf_4cfef σ p1 p2 (f_J0_length_8abf5 σ) r1 hq1) ys_J1_indexOf_4cfef kl_J0_637 rfl rfl (Nat.le_of_ble_eq_true rfl) (mj_roomC (by decide) (by decide)) ⟨Nat.zero_le _, Nat.zero_le _⟩ dJ0_indexOf_7cf53_17 ?_
    refine mj_goto C dJ0_indexOf_7cf53_20 rfl ?_
    have hF := mj_oi hF; subst hF
    exact mj_iret C hr hlk dJ0_indexOf_7cf53_36
set_option maxRecDepth 100000 in
set_option maxHeartbeats 4000000 in
theorem c_J0_indexOf_0f7a4 {G : mj_G} {l : Launch} (σ : mj_S) (p1 : Int32) (R : Int32) (hF : f_J0_indexOf_0f7a4 σ p1 = some R) : mj_C G l yJ0_indexOf_0f7a4 cJ0_indexOf_0f7a4 2 (some .int) 4 [.ref (G.2.1 1002), .int p1] σ (some (.int R)) σ := by
  unfold f_J0_indexOf_0f7a4 at hF
  refine mj_of (ls := [(0, .ref (G.2.1 1002)), (1, .int p1)]) (by decide) (Nat.le_of_ble_eq_true rfl) rfl (fun p e s m args below meth c C hr hlk => ?_)
  refine mj_aload_n C dJ0_indexOf_0f7a4_0 rfl ?_
  refine mj_iload_n C dJ0_indexOf_0f7a4_1 rfl ?_
  refine mj_iconstV (v := 0) C dJ0_indexOf_0f7a4_2 mc_i_0 ?_
  obtain ⟨r1, hq1, hF⟩ := mj_ob hF
  refine mj_callTi C (c_J0_indexOf_7cf53 σ p1 0 r1 hq1) yv_J0_indexOf_7cf53 kl_J0_633 rfl rfl rfl (Nat.le_of_ble_eq_true rfl) (mj_roomC (by decide) (by decide)) ⟨Nat.zero_le _, Nat.zero_le _⟩ dJ0_indexOf_0f7a4_3 ?_
  have hF := mj_oi hF; subst hF
  exact mj_iret C hr hlk dJ0_indexOf_0f7a4_6
