set_option maxRecDepth 100000 in
set_option maxHeartbeats 4000000 in
theorem c_J0_isLatin1_aae02 {G : mj_G} {l : Launch} (σ : mj_S) : mj_C G l yJ0_isLatin1_aae02 cJ0_isLatin1_aae02 1 (some .boolean) 1 [.ref (G.2.1 1002)] σ (some (.int (f_J0_isLatin1_aae02 σ))) σ := by
  generalize hF : f_J0_isLatin1_aae02 σ = R
  unfold f_J0_isLatin1_aae02 at hF
  refine mj_of (ls := [(0, .ref (G.2.1 1002))]) (by decide) (Nat.le_of_ble_eq_true rfl) rfl (fun p e s m args below meth c C hr hlk => ?_)
  refine mj_cps C dJ0_isLatin1_aae02_0 ?_
  refine mj_if_eq C dJ0_isLatin1_aae02_3 rfl ((ite_self _).trans hF) (fun hc hF => ?_) (fun hc hF => ?_)
  · exact absurd hc (show ¬ ((1 : Int32) = 0) by decide)
  · refine mj_aload_n C dJ0_isLatin1_aae02_6 rfl ?_
    refine mj_sc C dJ0_isLatin1_aae02_7 ?_
    refine mj_if_ne C dJ0_isLatin1_aae02_10 rfl ((ite_self _).trans hF) (fun hc hF => ?_) (fun hc hF => ?_)
    · exact absurd (show (0 : Int32) = 0 by decide) hc
    · refine mj_iconstV (v := 1) C dJ0_isLatin1_aae02_13 mc_i_1 ?_
      refine mj_goto C dJ0_isLatin1_aae02_14 rfl ?_
      subst hF
      exact mj_zret (v := 1) rfl C hr hlk dJ0_isLatin1_aae02_18
set_option maxRecDepth 100000 in
set_option maxHeartbeats 4000000 in
theorem c_J0_coder_7d493 {G : mj_G} {l : Launch} (σ : mj_S) : mj_C G l yJ0_coder_7d493 cJ0_coder_7d493 1 (some .byte) 1 [.ref (G.2.1 1002)] σ (some (.int (f_J0_coder_7d493 σ))) σ := by
  generalize hF : f_J0_coder_7d493 σ = R
  unfold f_J0_coder_7d493 at hF
  refine mj_of (ls := [(0, .ref (G.2.1 1002))]) (by decide) (Nat.le_of_ble_eq_true rfl) rfl (fun p e s m args below meth c C hr hlk => ?_)
  refine mj_cps C dJ0_coder_7d493_0 ?_
  refine mj_if_eq C dJ0_coder_7d493_3 rfl ((ite_self _).trans hF) (fun hc hF => ?_) (fun hc hF => ?_)
  · exact absurd hc (show ¬ ((1 : Int32) = 0) by decide)
  · refine mj_aload_n C dJ0_coder_7d493_6 rfl ?_
    refine mj_sc C dJ0_coder_7d493_7 ?_
    refine mj_goto C dJ0_coder_7d493_10 rfl ?_
    subst hF
    exact mj_bret (v := 0) rfl C hr hlk dJ0_coder_7d493_14
set_option maxRecDepth 100000 in
set_option maxHeartbeats 4000000 in
theorem c_J0_length_8abf5 {G : mj_G} {l : Launch} (σ : mj_S) : mj_C G l yJ0_length_8abf5 cJ0_length_8abf5 1 (some .int) 2 [.ref (G.2.1 1002)] σ (some (.int (f_J0_length_8abf5 σ))) σ := by
  generalize hF : f_J0_length_8abf5 σ = R
  unfold f_J0_length_8abf5 at hF
  refine mj_of (ls := [(0, .ref (G.2.1 1002))]) (by decide) (Nat.le_of_ble_eq_true rfl) rfl (fun p e s m args below meth c C hr hlk => ?_)
  refine mj_aload_n C dJ0_length_8abf5_0 rfl ?_
  refine mj_sv C dJ0_length_8abf5_1 ?_
  refine mj_sbl C dJ0_length_8abf5_4 ?_
  refine mj_aload_n C dJ0_length_8abf5_5 rfl ?_
  refine mj_callTi C (c_J0_coder_7d493 σ) yv_J0_coder_7d493 kl_J0_335 rfl rfl rfl (Nat.le_of_ble_eq_true rfl) (mj_roomC (by decide) (by decide)) ⟨Nat.zero_le _, Nat.zero_le _⟩ dJ0_length_8abf5_6 ?_
  refine mj_ishr C dJ0_length_8abf5_9 rfl ?_
  subst hF
  exact mj_iret C hr hlk dJ0_length_8abf5_10
