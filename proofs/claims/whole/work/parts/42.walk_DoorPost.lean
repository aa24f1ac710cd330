set_option maxRecDepth 100000 in
set_option maxHeartbeats 4000000 in
theorem c_X9_body {G : mj_G} {l : Launch} (σ : mj_S) (p1 : Int32) (R : (Int32 × mj_S)) (hF : f_X9_body σ p1 = some R) : mj_C G l yX9_body cX9_body 2 (some .int) 3 [.ref (G.2.1 0), .int p1] σ (some (.int R.1)) R.2 := by
  unfold f_X9_body at hF
  refine mj_of (ls := [(0, .ref (G.2.1 0)), (1, .int p1)]) (by decide) (Nat.le_of_ble_eq_true rfl) rfl (fun p e s m args below meth c C hr hlk => ?_)
  refine mj_iload_n C dX9_body_0 rfl ?_
  refine mj_callSi C (c_X0_isKind σ p1) ys_X0_isKind kl_X9_284 rfl rfl (Nat.le_of_ble_eq_true rfl) (mj_roomC (by decide) (by decide)) ⟨Nat.zero_le _, Nat.zero_le _⟩ dX9_body_1 ?_
  refine mj_if_ne C dX9_body_4 rfl hF (fun hc1 hF => ?_) (fun hc1 hF => ?_)
  · refine mj_aload_n C dX9_body_9 rfl ?_
    refine mg_X9_67 C dX9_body_10 ?_
    refine mj_callVi C (c_X0_size σ) yv_X0_size kl_X9_287 (mo_50 G _) rfl rfl rfl rfl (Nat.le_of_ble_eq_true rfl) (mj_roomC (by decide) (by decide)) ⟨Nat.zero_le _, Nat.zero_le _⟩ dX9_body_13 ?_
    refine mj_bipushV (v := 50) C dX9_body_16 mc_b_50 ?_
    refine mj_ic_ge C dX9_body_18 rfl hF (fun hc2 hF => ?_) (fun hc2 hF => ?_)
    · refine mj_bipushV (v := (-3)) C dX9_body_32 mc_b_m3 ?_
      have hF := mj_oi hF; subst hF
      exact mj_iret C hr hlk dX9_body_34
    · refine mj_aload_n C dX9_body_21 rfl ?_
      refine mg_X9_67 C dX9_body_22 ?_
      refine mj_iload_n C dX9_body_25 rfl ?_
      obtain ⟨r3, hq3, hF⟩ := mj_ob hF
      refine mj_callVi C (c_X0_add σ p1 r3 hq3) yv_X0_add kl_X9_288 (mo_50 G _) rfl rfl rfl rfl (Nat.le_of_ble_eq_true rfl) (mj_roomC (by decide) (by decide)) ⟨Nat.zero_le _, Nat.zero_le _⟩ dX9_body_26 ?_
      refine mj_goto C dX9_body_29 rfl ?_
      have hF := mj_oi hF; subst hF
      exact mj_iret C hr hlk dX9_body_34
  · refine mj_iconstV (v := (-1)) C dX9_body_7 mc_i_m1 ?_
    have hF := mj_oi hF; subst hF
    exact mj_iret C hr hlk dX9_body_8
set_option maxRecDepth 100000 in
set_option maxHeartbeats 4000000 in
theorem c_X9_act {G : mj_G} {l : Launch} (σ : mj_S) (p1 : Int32) (p2 : Int32) (p3 : Int32) (R : (Int32 × mj_S)) (hF : f_X9_act σ p1 p2 p3 = some R) : mj_C G l yX9_act cX9_act 4 (some .int) 106 [.ref (G.2.1 0), .int p1, .int p2, .int p3] σ (some (.int R.1)) R.2 := by
  unfold f_X9_act at hF
  refine mj_of (ls := [(0, .ref (G.2.1 0)), (1, .int p1), (2, .int p2), (3, .int p3)]) (by decide) (Nat.le_of_ble_eq_true rfl) rfl (fun p e s m args below meth c C hr hlk => ?_)
  refine mj_aload_n C dX9_act_0 rfl ?_
  refine mg_X9_67 C dX9_act_1 ?_
  refine mj_iload_n C dX9_act_4 rfl ?_
  refine mj_iload_n C dX9_act_5 rfl ?_
  refine mj_iload_n C dX9_act_6 rfl ?_
  obtain ⟨r1, hq1, hF⟩ := mj_ob hF
  refine mj_callVi C (c_X0_start σ p1 p2 p3 r1 hq1) yv_X0_start kl_X9_290 (mo_50 G _) rfl rfl rfl rfl (Nat.le_of_ble_eq_true rfl) (mj_roomC (by decide) (by decide)) ⟨Nat.zero_le _, Nat.zero_le _⟩ dX9_act_7 ?_
  have hF := mj_oi hF; subst hF
  exact mj_iret C hr hlk dX9_act_10
set_option maxRecDepth 100000 in
set_option maxHeartbeats 4000000 in
theorem c_X9_taken {G : mj_G} {l : Launch} (σ : mj_S) (p1 : Int32) (p2 : Int32) (R : Int32) (hF : f_X9_taken σ p1 p2 = some R) : mj_C G l yX9_taken cX9_taken 4 (some .int) 4 [.ref (G.2.1 0), .int p1, .int p2] σ (some (.int R)) σ := by
  unfold f_X9_taken at hF
  refine mj_of (ls := [(0, .ref (G.2.1 0)), (1, .int p1), (2, .int p2)]) (by decide) (Nat.le_of_ble_eq_true rfl) rfl (fun p e s m args below meth c C hr hlk => ?_)
  refine mj_aload_n C dX9_taken_0 rfl ?_
  refine mg_X9_74 C dX9_taken_1 ?_
  refine mj_iload_n C dX9_taken_4 rfl ?_
  refine mj_callVi C (c_X8_has σ p1) yv_X8_has kl_X9_150 (mo_53 G _) rfl rfl rfl rfl (Nat.le_of_ble_eq_true rfl) (mj_roomC (by decide) (by decide)) ⟨Nat.zero_le _, Nat.zero_le _⟩ dX9_taken_5 ?_
  refine mj_if_eq C dX9_taken_8 rfl hF (fun hc1 hF => ?_) (fun hc1 hF => ?_)
  · refine mj_iconstV (v := (-1)) C dX9_taken_18 mc_i_m1 ?_
    have hF := mj_oi hF; subst hF
    exact mj_iret C hr hlk dX9_taken_19
  · refine mj_iload_n C dX9_taken_11 rfl ?_
    refine mj_callSi C (c_X0_isKind σ p2) ys_X0_isKind kl_X9_284 rfl rfl (Nat.le_of_ble_eq_true rfl) (mj_roomC (by decide) (by decide)) ⟨Nat.zero_le _, Nat.zero_le _⟩ dX9_taken_12 ?_
    refine mj_if_ne C dX9_taken_15 rfl hF (fun hc2 hF => ?_) (fun hc2 hF => ?_)
    · refine mj_aload_n C dX9_taken_20 rfl ?_
      refine mg_X9_74 C dX9_taken_21 ?_
      refine mj_iload_n C dX9_taken_24 rfl ?_
      obtain ⟨r3, hq3, hF⟩ := mj_ob hF
      refine mj_callVi C (c_X8_holdsNothing σ p1 r3 hq3) yv_X8_holdsNothing kl_X9_151 (mo_53 G _) rfl rfl rfl rfl (Nat.le_of_ble_eq_true rfl) (mj_roomC (by decide) (by decide)) ⟨Nat.zero_le _, Nat.zero_le _⟩ dX9_taken_25 ?_
      refine mj_if_eq C dX9_taken_28 rfl hF (fun hc4 hF => ?_) (fun hc4 hF => ?_)
      · refine mj_aload_n C dX9_taken_34 rfl ?_
        refine mg_X9_74 C dX9_taken_35 ?_
        refine mj_iload_n C dX9_taken_38 rfl ?_
        obtain ⟨r5, hq5, hF⟩ := mj_ob hF
        refine mj_callVi C (c_X8_holdsRow σ p1 r5 hq5) yv_X8_holdsRow kl_X9_323 (mo_53 G _) rfl rfl rfl rfl (Nat.le_of_ble_eq_true rfl) (mj_roomC (by decide) (by decide)) ⟨Nat.zero_le _, Nat.zero_le _⟩ dX9_taken_39 ?_
        refine mj_if_eq C dX9_taken_42 rfl hF (fun hc6 hF => ?_) (fun hc6 hF => ?_)
        · refine mj_aload_n C dX9_taken_48 rfl ?_
          refine mg_X9_67 C dX9_taken_49 ?_
          refine mj_aload_n C dX9_taken_52 rfl ?_
          refine mg_X9_74 C dX9_taken_53 ?_
          refine mj_iload_n C dX9_taken_56 rfl ?_
          obtain ⟨r7, hq7, hF⟩ := mj_ob hF
          refine mj_callVi C (c_X8_bodyOn σ p1 r7 hq7) yv_X8_bodyOn kl_X9_336 (mo_53 G _) rfl rfl rfl rfl (Nat.le_of_ble_eq_true rfl) (mj_roomC (by decide) (by decide)) ⟨Nat.zero_le _, Nat.zero_le _⟩ dX9_taken_57 ?_
          obtain ⟨r8, hq8, hF⟩ := mj_ob hF
          refine mj_callVi C (c_X0_kindOf σ r7 r8 hq8) yv_X0_kindOf kl_X9_339 (mo_50 G _) rfl rfl rfl rfl (Nat.le_of_ble_eq_true rfl) (mj_roomC (by decide) (by decide)) ⟨Nat.zero_le _, Nat.zero_le _⟩ dX9_taken_60 ?_
          refine mj_istore_n C dX9_taken_63 (by decide) ?_
          refine mj_iload_n C dX9_taken_64 rfl ?_
          refine mj_iload_n C dX9_taken_65 rfl ?_
          obtain ⟨r9, hq9, hF⟩ := mj_ob hF
          refine mj_callSi C (c_X0_isUnder σ r8 p2 r9 hq9) ys_X0_isUnder kl_X9_342 rfl rfl (Nat.le_of_ble_eq_true rfl) (mj_roomC (by decide) (by decide)) ⟨Nat.zero_le _, Nat.zero_le _⟩ dX9_taken_66 ?_
          refine mj_if_eq C dX9_taken_69 rfl hF (fun hc10 hF => ?_) (fun hc10 hF => ?_)
          · refine mj_bipushV (v := (-12)) C dX9_taken_76 mc_b_m12 ?_
            have hF := mj_oi hF; subst hF
            exact mj_iret C hr hlk dX9_taken_78
          · refine mj_iload_n C dX9_taken_72 rfl ?_
            refine mj_goto C dX9_taken_73 rfl ?_
            have hF := mj_oi hF; subst hF
            exact mj_iret C hr hlk dX9_taken_78
        · refine mj_bipushV (v := (-12)) C dX9_taken_45 mc_b_m12 ?_
          have hF := mj_oi hF; subst hF
          exact mj_iret C hr hlk dX9_taken_47
      · refine mj_bipushV (v := (-11)) C dX9_taken_31 mc_b_m11 ?_
        have hF := mj_oi hF; subst hF
        exact mj_iret C hr hlk dX9_taken_33
    · refine mj_iconstV (v := (-1)) C dX9_taken_18 mc_i_m1 ?_
      have hF := mj_oi hF; subst hF
      exact mj_iret C hr hlk dX9_taken_19
