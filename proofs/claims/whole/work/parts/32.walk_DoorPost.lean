set_option maxRecDepth 100000 in
set_option maxHeartbeats 4000000 in
theorem c_X9_whose {G : mj_G} {l : Launch} (σ : mj_S) (p1 : Int32) (p2 : Int32) (R : (Int32 × mj_S)) (hF : f_X9_whose σ p1 p2 = some R) : mj_C G l yX9_whose cX9_whose 3 (some .int) 6 [.ref (G.2.1 0), .int p1, .int p2] σ (some (.int R.1)) R.2 := by
  unfold f_X9_whose at hF
  refine mj_of (ls := [(0, .ref (G.2.1 0)), (1, .int p1), (2, .int p2)]) (by decide) (Nat.le_of_ble_eq_true rfl) rfl (fun p e s m args below meth c C hr hlk => ?_)
  refine mj_aload_n C dX9_whose_0 rfl ?_
  refine mg_X9_35 C dX9_whose_1 ?_
  refine mj_iload_n C dX9_whose_4 rfl ?_
  refine mj_callVi C (c_X5_has σ p1) yv_X5_has kl_X9_168 (mo_35 G _) rfl rfl rfl rfl (Nat.le_of_ble_eq_true rfl) (mj_roomC (by decide) (by decide)) ⟨Nat.zero_le _, Nat.zero_le _⟩ dX9_whose_5 ?_
  refine mj_if_eq C dX9_whose_8 rfl hF (fun hc1 hF => ?_) (fun hc1 hF => ?_)
  · refine mj_iconstV (v := (-1)) C dX9_whose_20 mc_i_m1 ?_
    have hF := mj_oi hF; subst hF
    exact mj_iret C hr hlk dX9_whose_21
  · refine mj_iload_n C dX9_whose_11 rfl ?_
    refine mj_iconstV (v := 0) C dX9_whose_12 mc_i_0 ?_
    refine mj_iconstV (v := 2) C dX9_whose_13 mc_i_2 ?_
    refine mj_callSi C (c_X9_within σ p2 0 2) ys_X9_within kl_X9_82 rfl rfl (Nat.le_of_ble_eq_true rfl) (mj_roomC (by decide) (by decide)) ⟨Nat.zero_le _, Nat.zero_le _⟩ dX9_whose_14 ?_
    refine mj_if_ne C dX9_whose_17 rfl hF (fun hc2 hF => ?_) (fun hc2 hF => ?_)
    · refine mj_aload_n C dX9_whose_22 rfl ?_
      refine mg_X9_44 C dX9_whose_23 ?_
      refine mj_iload_n C dX9_whose_26 rfl ?_
      obtain ⟨r3, hq3, hF⟩ := mj_ob hF
      refine mj_callVi C (c_X3_findFor σ p1 r3 hq3) yv_X3_findFor kl_X9_189 (mo_40 G _) rfl rfl rfl rfl (Nat.le_of_ble_eq_true rfl) (mj_roomC (by decide) (by decide)) ⟨Nat.zero_le _, Nat.zero_le _⟩ dX9_whose_27 ?_
      refine mj_if_ne C dX9_whose_30 rfl hF (fun hc4 hF => ?_) (fun hc4 hF => ?_)
      · refine mj_iload_n C dX9_whose_36 rfl ?_
        by_cases hw5_0 : p2 = 0
        · rw [if_pos hw5_0] at hF
          refine mj_lsw (off := 27) C dX9_whose_37 rfl (by rw [hw5_0]; rfl) rfl ?_
          refine mj_aload_n C dX9_whose_64 rfl ?_
          refine mg_X9_44 C dX9_whose_65 ?_
          refine mj_callVi C (c_X3_foundChild r3.2) yv_X3_foundChild kl_X9_192 (mo_40 G _) rfl rfl rfl rfl (Nat.le_of_ble_eq_true rfl) (mj_roomC (by decide) (by decide)) ⟨Nat.zero_le _, Nat.zero_le _⟩ dX9_whose_68 ?_
          have hF := mj_oi hF; subst hF
          exact mj_iret C hr hlk dX9_whose_71
        rw [if_neg hw5_0] at hF
        by_cases hw5_1 : p2 = 1
        · rw [if_pos hw5_1] at hF
          refine mj_lsw (off := 35) C dX9_whose_37 rfl (by rw [hw5_1]; rfl) rfl ?_
          refine mj_aload_n C dX9_whose_72 rfl ?_
          refine mg_X9_44 C dX9_whose_73 ?_
          refine mj_callVi C (c_X3_foundMonth r3.2) yv_X3_foundMonth kl_X9_195 (mo_40 G _) rfl rfl rfl rfl (Nat.le_of_ble_eq_true rfl) (mj_roomC (by decide) (by decide)) ⟨Nat.zero_le _, Nat.zero_le _⟩ dX9_whose_76 ?_
          have hF := mj_oi hF; subst hF
          exact mj_iret C hr hlk dX9_whose_79
        rw [if_neg hw5_1] at hF
        refine mj_lsw (off := 43) C dX9_whose_37 rfl (by refine (lv_osw hw5_0 rfl).trans ?_; refine (lv_osw hw5_1 rfl).trans ?_; rfl) rfl ?_
        refine mj_aload_n C dX9_whose_80 rfl ?_
        refine mg_X9_44 C dX9_whose_81 ?_
        refine mj_callVi C (c_X3_foundDistance r3.2) yv_X3_foundDistance kl_X9_198 (mo_40 G _) rfl rfl rfl rfl (Nat.le_of_ble_eq_true rfl) (mj_roomC (by decide) (by decide)) ⟨Nat.zero_le _, Nat.zero_le _⟩ dX9_whose_84 ?_
        have hF := mj_oi hF; subst hF
        exact mj_iret C hr hlk dX9_whose_87
      · refine mj_bipushV (v := (-2)) C dX9_whose_33 mc_b_m2 ?_
        have hF := mj_oi hF; subst hF
        exact mj_iret C hr hlk dX9_whose_35
    · refine mj_iconstV (v := (-1)) C dX9_whose_20 mc_i_m1 ?_
      have hF := mj_oi hF; subst hF
      exact mj_iret C hr hlk dX9_whose_21
set_option maxRecDepth 100000 in
set_option maxHeartbeats 4000000 in
theorem c_X9_odds {G : mj_G} {l : Launch} (σ : mj_S) (p1 : Int32) (R : Int32) (hF : f_X9_odds σ p1 = some R) : mj_C G l yX9_odds cX9_odds 2 (some .int) 6 [.ref (G.2.1 0), .int p1] σ (some (.int R)) σ := by
  unfold f_X9_odds at hF
  refine mj_of (ls := [(0, .ref (G.2.1 0)), (1, .int p1)]) (by decide) (Nat.le_of_ble_eq_true rfl) rfl (fun p e s m args below meth c C hr hlk => ?_)
  refine mj_aload_n C dX9_odds_0 rfl ?_
  refine mj_iload_n C dX9_odds_1 rfl ?_
  refine mj_callVi C (c_X9_isMarkAndChild σ p1) yv_X9_isMarkAndChild kl_X9_180 (mo_0 G _) rfl rfl rfl rfl (Nat.le_of_ble_eq_true rfl) (mj_roomC (by decide) (by decide)) ⟨Nat.zero_le _, Nat.zero_le _⟩ dX9_odds_2 ?_
  refine mj_if_eq C dX9_odds_5 rfl hF (fun hc1 hF => ?_) (fun hc1 hF => ?_)
  · refine mj_iconstV (v := (-1)) C dX9_odds_26 mc_i_m1 ?_
    have hF := mj_oi hF; subst hF
    exact mj_iret C hr hlk dX9_odds_27
  · refine mj_aload_n C dX9_odds_8 rfl ?_
    refine mg_X9_44 C dX9_odds_9 ?_
    refine mj_iload_n C dX9_odds_12 rfl ?_
    refine mj_bipushV (v := 10) C dX9_odds_13 mc_b_10 ?_
    refine mj_idiv C dX9_odds_15 (by decide) ?_
    refine mj_iload_n C dX9_odds_16 rfl ?_
    refine mj_bipushV (v := 10) C dX9_odds_17 mc_b_10 ?_
    refine mj_irem C dX9_odds_19 (by decide) ?_
    obtain ⟨r2, hq2, hF⟩ := mj_ob hF
    refine mj_callVi C (c_X3_chance σ (p1 / 10) (mj_rem p1 10) r2 hq2) yv_X3_chance kl_X9_201 (mo_40 G _) rfl rfl rfl rfl (Nat.le_of_ble_eq_true rfl) (mj_roomC (by decide) (by decide)) ⟨Nat.zero_le _, Nat.zero_le _⟩ dX9_odds_20 ?_
    refine mj_goto C dX9_odds_23 rfl ?_
    have hF := mj_oi hF; subst hF
    exact mj_iret C hr hlk dX9_odds_27
set_option maxRecDepth 100000 in
set_option maxHeartbeats 4000000 in
theorem c_X9_how {G : mj_G} {l : Launch} (σ : mj_S) (p1 : Int32) (p2 : Int32) (R : (Int32 × mj_S)) (hF : f_X9_how σ p1 p2 = some R) : mj_C G l yX9_how cX9_how 3 (some .int) 7 [.ref (G.2.1 0), .int p1, .int p2] σ (some (.int R.1)) R.2 := by
  unfold f_X9_how at hF
  refine mj_of (ls := [(0, .ref (G.2.1 0)), (1, .int p1), (2, .int p2)]) (by decide) (Nat.le_of_ble_eq_true rfl) rfl (fun p e s m args below meth c C hr hlk => ?_)
  refine mj_aload_n C dX9_how_0 rfl ?_
  refine mg_X9_35 C dX9_how_1 ?_
  refine mj_iload_n C dX9_how_4 rfl ?_
  refine mj_callVi C (c_X5_has σ p1) yv_X5_has kl_X9_168 (mo_35 G _) rfl rfl rfl rfl (Nat.le_of_ble_eq_true rfl) (mj_roomC (by decide) (by decide)) ⟨Nat.zero_le _, Nat.zero_le _⟩ dX9_how_5 ?_
  refine mj_if_eq C dX9_how_8 rfl hF (fun hc1 hF => ?_) (fun hc1 hF => ?_)
  · refine mj_iconstV (v := (-1)) C dX9_how_20 mc_i_m1 ?_
    have hF := mj_oi hF; subst hF
    exact mj_iret C hr hlk dX9_how_21
  · refine mj_iload_n C dX9_how_11 rfl ?_
    refine mj_iconstV (v := 0) C dX9_how_12 mc_i_0 ?_
    refine mj_iconstV (v := 1) C dX9_how_13 mc_i_1 ?_
    refine mj_callSi C (c_X9_within σ p2 0 1) ys_X9_within kl_X9_82 rfl rfl (Nat.le_of_ble_eq_true rfl) (mj_roomC (by decide) (by decide)) ⟨Nat.zero_le _, Nat.zero_le _⟩ dX9_how_14 ?_
    refine mj_if_ne C dX9_how_17 rfl hF (fun hc2 hF => ?_) (fun hc2 hF => ?_)
    · refine mj_aload_n C dX9_how_22 rfl ?_
      refine mg_X9_44 C dX9_how_23 ?_
      refine mj_iload_n C dX9_how_26 rfl ?_
      obtain ⟨r3, hq3, hF⟩ := mj_ob hF
      refine mj_callVi C (c_X3_findFor σ p1 r3 hq3) yv_X3_findFor kl_X9_189 (mo_40 G _) rfl rfl rfl rfl (Nat.le_of_ble_eq_true rfl) (mj_roomC (by decide) (by decide)) ⟨Nat.zero_le _, Nat.zero_le _⟩ dX9_how_27 ?_
      refine mj_if_ne C dX9_how_30 rfl hF (fun hc4 hF => ?_) (fun hc4 hF => ?_)
      · refine mj_iload_n C dX9_how_36 rfl ?_
        refine mj_if_ne C dX9_how_37 rfl hF (fun hc5 hF => ?_) (fun hc5 hF => ?_)
        · refine mj_aload_n C dX9_how_51 rfl ?_
          refine mg_X9_44 C dX9_how_52 ?_
          refine mj_iload_n C dX9_how_55 rfl ?_
          obtain ⟨r6, hq6, hF⟩ := mj_ob hF
          refine mj_callVi C (c_X3_wrongWay r3.2 p1 r6 hq6) yv_X3_wrongWay kl_X9_207 (mo_40 G _) rfl rfl rfl rfl (Nat.le_of_ble_eq_true rfl) (mj_roomC (by decide) (by decide)) ⟨Nat.zero_le _, Nat.zero_le _⟩ dX9_how_56 ?_
          have hF := mj_oi hF; subst hF
          exact mj_iret C hr hlk dX9_how_59
        · refine mj_aload_n C dX9_how_40 rfl ?_
          refine mg_X9_44 C dX9_how_41 ?_
          refine mj_iload_n C dX9_how_44 rfl ?_
          obtain ⟨r7, hq7, hF⟩ := mj_ob hF
          refine mj_callVi C (c_X3_likeliestWay r3.2 p1 r7 hq7) yv_X3_likeliestWay kl_X9_204 (mo_40 G _) rfl rfl rfl rfl (Nat.le_of_ble_eq_true rfl) (mj_roomC (by decide) (by decide)) ⟨Nat.zero_le _, Nat.zero_le _⟩ dX9_how_45 ?_
          refine mj_goto C dX9_how_48 rfl ?_
          have hF := mj_oi hF; subst hF
          exact mj_iret C hr hlk dX9_how_59
      · refine mj_bipushV (v := (-2)) C dX9_how_33 mc_b_m2 ?_
        have hF := mj_oi hF; subst hF
        exact mj_iret C hr hlk dX9_how_35
    · refine mj_iconstV (v := (-1)) C dX9_how_20 mc_i_m1 ?_
      have hF := mj_oi hF; subst hF
      exact mj_iret C hr hlk dX9_how_21
set_option maxRecDepth 100000 in
set_option maxHeartbeats 4000000 in
theorem c_X9_together {G : mj_G} {l : Launch} (σ : mj_S) (p1 : Int32) (p2 : Int32) (R : (Int32 × mj_S)) (hF : f_X9_together σ p1 p2 = some R) : mj_C G l yX9_together cX9_together 4 (some .int) 6 [.ref (G.2.1 0), .int p1, .int p2] σ (some (.int R.1)) R.2 := by
  unfold f_X9_together at hF
  refine mj_of (ls := [(0, .ref (G.2.1 0)), (1, .int p1), (2, .int p2)]) (by decide) (Nat.le_of_ble_eq_true rfl) rfl (fun p e s m args below meth c C hr hlk => ?_)
  refine mj_iload_n C dX9_together_0 rfl ?_
  refine mj_callSi C (c_X9_isMonth σ p1) ys_X9_isMonth kl_X9_78 rfl rfl (Nat.le_of_ble_eq_true rfl) (mj_roomC (by decide) (by decide)) ⟨Nat.zero_le _, Nat.zero_le _⟩ dX9_together_1 ?_
  refine mj_if_ne C dX9_together_4 rfl hF (fun hc1 hF => ?_) (fun hc1 hF => ?_)
  · refine mj_aload_n C dX9_together_9 rfl ?_
    refine mg_X9_44 C dX9_together_10 ?_
    refine mj_iload_n C dX9_together_13 rfl ?_
    obtain ⟨r2, hq2, hF⟩ := mj_ob hF
    refine mj_callVi C (c_X3_gather σ p1 r2 hq2) yv_X3_gather kl_X9_210 (mo_40 G _) rfl rfl rfl rfl (Nat.le_of_ble_eq_true rfl) (mj_roomC (by decide) (by decide)) ⟨Nat.zero_le _, Nat.zero_le _⟩ dX9_together_14 ?_
    refine mj_istore_n C dX9_together_17 (by decide) ?_
    refine mj_iload_n C dX9_together_18 rfl ?_
    refine mj_iconstV (v := (-1)) C dX9_together_19 mc_i_m1 ?_
    refine mj_ic_lt C dX9_together_20 rfl hF (fun hc3 hF => ?_) (fun hc3 hF => ?_)
    · refine mj_iconstV (v := (-1)) C dX9_together_28 mc_i_m1 ?_
      have hF := mj_oi hF; subst hF
      exact mj_iret C hr hlk dX9_together_29
    · refine mj_iload_n C dX9_together_23 rfl ?_
      refine mj_iload_n C dX9_together_24 rfl ?_
      refine mj_ic_lt C dX9_together_25 rfl hF (fun hc4 hF => ?_) (fun hc4 hF => ?_)
      · refine mj_aload_n C dX9_together_30 rfl ?_
        refine mg_X9_44 C dX9_together_31 ?_
        refine mj_iload_n C dX9_together_34 rfl ?_
        obtain ⟨r5, hq5, hF⟩ := mj_ob hF
        refine mj_callVi C (c_X3_shareOut r2.2 p1 r5 hq5) yv_X3_shareOut kl_X9_213 (mo_40 G _) rfl rfl rfl rfl (Nat.le_of_ble_eq_true rfl) (mj_roomC (by decide) (by decide)) ⟨Nat.zero_le _, Nat.zero_le _⟩ dX9_together_35 ?_
        refine mj_if_ne C dX9_together_38 rfl hF (fun hc6 hF => ?_) (fun hc6 hF => ?_)
        · refine mj_iload_n C dX9_together_44 rfl ?_
          refine mj_if_ge C dX9_together_45 rfl hF (fun hc7 hF => ?_) (fun hc7 hF => ?_)
          · refine mj_aload_n C dX9_together_58 rfl ?_
            refine mg_X9_44 C dX9_together_59 ?_
            refine mj_iload_n C dX9_together_62 rfl ?_
            obtain ⟨r8, hq8, hF⟩ := mj_ob hF
            refine mj_callVi C (c_X3_sharedChild r5.2 p2 r8 hq8) yv_X3_sharedChild kl_X9_219 (mo_40 G _) rfl rfl rfl rfl (Nat.le_of_ble_eq_true rfl) (mj_roomC (by decide) (by decide)) ⟨Nat.zero_le _, Nat.zero_le _⟩ dX9_together_63 ?_
            have hF := mj_oi hF; subst hF
            exact mj_iret C hr hlk dX9_together_66
          · refine mj_aload_n C dX9_together_48 rfl ?_
            refine mg_X9_44 C dX9_together_49 ?_
            refine mj_callVi C (c_X3_sharedSum r5.2) yv_X3_sharedSum kl_X9_216 (mo_40 G _) rfl rfl rfl rfl (Nat.le_of_ble_eq_true rfl) (mj_roomC (by decide) (by decide)) ⟨Nat.zero_le _, Nat.zero_le _⟩ dX9_together_52 ?_
            refine mj_goto C dX9_together_55 rfl ?_
            have hF := mj_oi hF; subst hF
            exact mj_iret C hr hlk dX9_together_66
        · refine mj_bipushV (v := (-2)) C dX9_together_41 mc_b_m2 ?_
          have hF := mj_oi hF; subst hF
          exact mj_iret C hr hlk dX9_together_43
      · refine mj_iconstV (v := (-1)) C dX9_together_28 mc_i_m1 ?_
        have hF := mj_oi hF; subst hF
        exact mj_iret C hr hlk dX9_together_29
  · refine mj_iconstV (v := (-1)) C dX9_together_7 mc_i_m1 ?_
    have hF := mj_oi hF; subst hF
    exact mj_iret C hr hlk dX9_together_8
set_option maxRecDepth 100000 in
set_option maxHeartbeats 4000000 in
theorem c_X9_led {G : mj_G} {l : Launch} (σ : mj_S) (p1 : Int32) (R : (Int32 × mj_S)) (hF : f_X9_led σ p1 = some R) : mj_C G l yX9_led cX9_led 2 (some .int) 7 [.ref (G.2.1 0), .int p1] σ (some (.int R.1)) R.2 := by
  unfold f_X9_led at hF
  refine mj_of (ls := [(0, .ref (G.2.1 0)), (1, .int p1)]) (by decide) (Nat.le_of_ble_eq_true rfl) rfl (fun p e s m args below meth c C hr hlk => ?_)
  refine mj_aload_n C dX9_led_0 rfl ?_
  refine mg_X9_28 C dX9_led_1 ?_
  refine mj_iload_n C dX9_led_4 rfl ?_
  refine mj_callVi C (c_X2_has σ p1) yv_X2_has kl_X9_132 (mo_9 G _) rfl rfl rfl rfl (Nat.le_of_ble_eq_true rfl) (mj_roomC (by decide) (by decide)) ⟨Nat.zero_le _, Nat.zero_le _⟩ dX9_led_5 ?_
  refine mj_if_eq C dX9_led_8 rfl hF (fun hc1 hF => ?_) (fun hc1 hF => ?_)
  · refine mj_iconstV (v := (-1)) C dX9_led_22 mc_i_m1 ?_
    have hF := mj_oi hF; subst hF
    exact mj_iret C hr hlk dX9_led_23
  · refine mj_aload_n C dX9_led_11 rfl ?_
    refine mg_X9_44 C dX9_led_12 ?_
    refine mj_iload_n C dX9_led_15 rfl ?_
    obtain ⟨r2, hq2, hF⟩ := mj_ob hF
    refine mj_callVi C (c_X3_leadingTo σ p1 r2 hq2) yv_X3_leadingTo kl_X9_228 (mo_40 G _) rfl rfl rfl rfl (Nat.le_of_ble_eq_true rfl) (mj_roomC (by decide) (by decide)) ⟨Nat.zero_le _, Nat.zero_le _⟩ dX9_led_16 ?_
    refine mj_goto C dX9_led_19 rfl ?_
    have hF := mj_oi hF; subst hF
    exact mj_iret C hr hlk dX9_led_23
set_option maxRecDepth 100000 in
set_option maxHeartbeats 4000000 in
theorem c_X9_slips {G : mj_G} {l : Launch} (σ : mj_S) (p1 : Int32) (p2 : Int32) (p3 : Int32) (p4 : Int32) (R : (Int32 × mj_S)) (hF : f_X9_slips σ p1 p2 p3 p4 = some R) : mj_C G l yX9_slips cX9_slips 5 (some .int) 6 [.ref (G.2.1 0), .int p1, .int p2, .int p3, .int p4] σ (some (.int R.1)) R.2 := by
  unfold f_X9_slips at hF
  refine mj_of (ls := [(0, .ref (G.2.1 0)), (1, .int p1), (2, .int p2), (3, .int p3), (4, .int p4)]) (by decide) (Nat.le_of_ble_eq_true rfl) rfl (fun p e s m args below meth c C hr hlk => ?_)
  refine mj_aload_n C dX9_slips_0 rfl ?_
  refine mg_X9_28 C dX9_slips_1 ?_
  refine mj_iload_n C dX9_slips_4 rfl ?_
  refine mj_callVi C (c_X2_has σ p1) yv_X2_has kl_X9_132 (mo_9 G _) rfl rfl rfl rfl (Nat.le_of_ble_eq_true rfl) (mj_roomC (by decide) (by decide)) ⟨Nat.zero_le _, Nat.zero_le _⟩ dX9_slips_5 ?_
  refine mj_if_eq C dX9_slips_8 rfl hF (fun hc1 hF => ?_) (fun hc1 hF => ?_)
  · refine mj_iconstV (v := (-1)) C dX9_slips_37 mc_i_m1 ?_
    have hF := mj_oi hF; subst hF
    exact mj_iret C hr hlk dX9_slips_38
  · refine mj_iload_n C dX9_slips_11 rfl ?_
    refine mj_callSi C (c_X9_isMonth σ p2) ys_X9_isMonth kl_X9_78 rfl rfl (Nat.le_of_ble_eq_true rfl) (mj_roomC (by decide) (by decide)) ⟨Nat.zero_le _, Nat.zero_le _⟩ dX9_slips_12 ?_
    refine mj_if_eq C dX9_slips_15 rfl hF (fun hc2 hF => ?_) (fun hc2 hF => ?_)
    · refine mj_iconstV (v := (-1)) C dX9_slips_37 mc_i_m1 ?_
      have hF := mj_oi hF; subst hF
      exact mj_iret C hr hlk dX9_slips_38
    · refine mj_iload C dX9_slips_18 rfl ?_
      refine mj_if_lt C dX9_slips_20 rfl hF (fun hc3 hF => ?_) (fun hc3 hF => ?_)
      · refine mj_iconstV (v := (-1)) C dX9_slips_37 mc_i_m1 ?_
        have hF := mj_oi hF; subst hF
        exact mj_iret C hr hlk dX9_slips_38
      · refine mj_iload C dX9_slips_23 rfl ?_
        refine mj_bipushV (v := 100) C dX9_slips_25 mc_b_100 ?_
        refine mj_idiv C dX9_slips_27 (by decide) ?_
        refine mj_iconstV (v := 1) C dX9_slips_28 mc_i_1 ?_
        refine mj_bipushV (v := 50) C dX9_slips_29 mc_b_50 ?_
        refine mj_callSi C (c_X9_within σ (p4 / 100) 1 50) ys_X9_within kl_X9_82 rfl rfl (Nat.le_of_ble_eq_true rfl) (mj_roomC (by decide) (by decide)) ⟨Nat.zero_le _, Nat.zero_le _⟩ dX9_slips_31 ?_
        refine mj_if_ne C dX9_slips_34 rfl hF (fun hc4 hF => ?_) (fun hc4 hF => ?_)
        · refine mj_aload_n C dX9_slips_39 rfl ?_
          refine mg_X9_28 C dX9_slips_40 ?_
          refine mj_iload_n C dX9_slips_43 rfl ?_
          refine mj_iload_n C dX9_slips_44 rfl ?_
          obtain ⟨r5, hq5, hF⟩ := mj_ob hF
          refine mj_callVi C (c_X2_isBorn σ p1 p2 r5 hq5) yv_X2_isBorn kl_X9_247 (mo_9 G _) rfl rfl rfl rfl (Nat.le_of_ble_eq_true rfl) (mj_roomC (by decide) (by decide)) ⟨Nat.zero_le _, Nat.zero_le _⟩ dX9_slips_45 ?_
          refine mj_if_ne C dX9_slips_48 rfl hF (fun hc6 hF => ?_) (fun hc6 hF => ?_)
          · refine mj_aload_n C dX9_slips_54 rfl ?_
            refine mg_X9_44 C dX9_slips_55 ?_
            refine mj_iload_n C dX9_slips_58 rfl ?_
            refine mj_iload_n C dX9_slips_59 rfl ?_
            refine mj_iload_n C dX9_slips_60 rfl ?_
            refine mj_iload C dX9_slips_61 rfl ?_
            refine mj_bipushV (v := 100) C dX9_slips_63 mc_b_100 ?_
            refine mj_idiv C dX9_slips_65 (by decide) ?_
            refine mj_iload C dX9_slips_66 rfl ?_
            refine mj_bipushV (v := 100) C dX9_slips_68 mc_b_100 ?_
            refine mj_irem C dX9_slips_70 (by decide) ?_
            obtain ⟨r7, hq7, hF⟩ := mj_ob hF
            refine mj_callVi C (c_X3_slipsFound σ p1 p2 p3 (p4 / 100) (mj_rem p4 100) r7 hq7) yv_X3_slipsFound kl_X9_269 (mo_40 G _) rfl rfl rfl rfl (Nat.le_of_ble_eq_true rfl) (mj_roomC (by decide) (by decide)) ⟨Nat.zero_le _, Nat.zero_le _⟩ dX9_slips_71 ?_
            have hF := mj_oi hF; subst hF
            exact mj_iret C hr hlk dX9_slips_74
          · refine mj_bipushV (v := (-2)) C dX9_slips_51 mc_b_m2 ?_
            have hF := mj_oi hF; subst hF
            exact mj_iret C hr hlk dX9_slips_53
        · refine mj_iconstV (v := (-1)) C dX9_slips_37 mc_i_m1 ?_
          have hF := mj_oi hF; subst hF
          exact mj_iret C hr hlk dX9_slips_38
set_option maxRecDepth 100000 in
set_option maxHeartbeats 4000000 in
theorem c_X9_count {G : mj_G} {l : Launch} (σ : mj_S) (p1 : Int32) : mj_C G l yX9_count cX9_count 2 (some .int) 2 [.ref (G.2.1 0), .int p1] σ (some (.int (f_X9_count σ p1))) σ := by
  generalize hF : f_X9_count σ p1 = R
  unfold f_X9_count at hF
  refine mj_of (ls := [(0, .ref (G.2.1 0)), (1, .int p1)]) (by decide) (Nat.le_of_ble_eq_true rfl) rfl (fun p e s m args below meth c C hr hlk => ?_)
  refine mj_iload_n C dX9_count_0 rfl ?_
  by_cases hw1_0 : p1 = 0
  · rw [if_pos hw1_0] at hF
    refine mj_tsIn (off := 43) C dX9_count_1 (by rw [hw1_0]; decide) (by rw [hw1_0]; decide) (by rw [hw1_0]; rfl) rfl ?_
    refine mj_aload_n C dX9_count_44 rfl ?_
    refine mg_X9_28 C dX9_count_45 ?_
    refine mj_callVi C (c_X2_size σ) yv_X2_size kl_X9_92 (mo_9 G _) rfl rfl rfl rfl (Nat.le_of_ble_eq_true rfl) (mj_roomC (by decide) (by decide)) ⟨Nat.zero_le _, Nat.zero_le _⟩ dX9_count_48 ?_
    subst hF
    exact mj_iret C hr hlk dX9_count_51
  rw [if_neg hw1_0] at hF
  by_cases hw1_1 : p1 = 1
  · rw [if_pos hw1_1] at hF
    refine mj_tsIn (off := 51) C dX9_count_1 (by rw [hw1_1]; decide) (by rw [hw1_1]; decide) (by rw [hw1_1]; rfl) rfl ?_
    refine mj_aload_n C dX9_count_52 rfl ?_
    refine mg_X9_28 C dX9_count_53 ?_
    refine mj_callVi C (c_X2_wantsTold σ) yv_X2_wantsTold kl_X9_106 (mo_9 G _) rfl rfl rfl rfl (Nat.le_of_ble_eq_true rfl) (mj_roomC (by decide) (by decide)) ⟨Nat.zero_le _, Nat.zero_le _⟩ dX9_count_56 ?_
    subst hF
    exact mj_iret C hr hlk dX9_count_59
  rw [if_neg hw1_1] at hF
  by_cases hw1_2 : p1 = 2
  · rw [if_pos hw1_2] at hF
    refine mj_tsIn (off := 59) C dX9_count_1 (by rw [hw1_2]; decide) (by rw [hw1_2]; decide) (by rw [hw1_2]; rfl) rfl ?_
    refine mj_aload_n C dX9_count_60 rfl ?_
    refine mg_X9_35 C dX9_count_61 ?_
    refine mj_callVi C (c_X5_size σ) yv_X5_size kl_X9_146 (mo_35 G _) rfl rfl rfl rfl (Nat.le_of_ble_eq_true rfl) (mj_roomC (by decide) (by decide)) ⟨Nat.zero_le _, Nat.zero_le _⟩ dX9_count_64 ?_
    subst hF
    exact mj_iret C hr hlk dX9_count_67
  rw [if_neg hw1_2] at hF
  by_cases hw1_3 : p1 = 3
  · rw [if_pos hw1_3] at hF
    refine mj_tsIn (off := 67) C dX9_count_1 (by rw [hw1_3]; decide) (by rw [hw1_3]; decide) (by rw [hw1_3]; rfl) rfl ?_
    refine mj_aload_n C dX9_count_68 rfl ?_
    refine mg_X9_19 C dX9_count_69 ?_
    refine mj_callVi C (c_X7_tapeLength σ) yv_X7_tapeLength kl_X9_113 (mo_5 G _) rfl rfl rfl rfl (Nat.le_of_ble_eq_true rfl) (mj_roomC (by decide) (by decide)) ⟨Nat.zero_le _, Nat.zero_le _⟩ dX9_count_72 ?_
    subst hF
    exact mj_iret C hr hlk dX9_count_75
  rw [if_neg hw1_3] at hF
  by_cases hw1_4 : p1 = 4
  · rw [if_pos hw1_4] at hF
    refine mj_tsIn (off := 75) C dX9_count_1 (by rw [hw1_4]; decide) (by rw [hw1_4]; decide) (by rw [hw1_4]; rfl) rfl ?_
    refine mj_aload_n C dX9_count_76 rfl ?_
    refine mg_X9_60 C dX9_count_77 ?_
    refine mj_callVi C (c_X1_toUndo σ) yv_X1_toUndo kl_X9_272 (mo_45 G _) rfl rfl rfl rfl (Nat.le_of_ble_eq_true rfl) (mj_roomC (by decide) (by decide)) ⟨Nat.zero_le _, Nat.zero_le _⟩ dX9_count_80 ?_
    subst hF
    exact mj_iret C hr hlk dX9_count_83
  rw [if_neg hw1_4] at hF
  by_cases hw1_5 : p1 = 5
  · rw [if_pos hw1_5] at hF
    refine mj_tsIn (off := 83) C dX9_count_1 (by rw [hw1_5]; decide) (by rw [hw1_5]; decide) (by rw [hw1_5]; rfl) rfl ?_
    refine mj_aload_n C dX9_count_84 rfl ?_
    refine mg_X9_67 C dX9_count_85 ?_
    refine mj_callVi C (c_X0_size σ) yv_X0_size kl_X9_287 (mo_50 G _) rfl rfl rfl rfl (Nat.le_of_ble_eq_true rfl) (mj_roomC (by decide) (by decide)) ⟨Nat.zero_le _, Nat.zero_le _⟩ dX9_count_88 ?_
    subst hF
    exact mj_iret C hr hlk dX9_count_91
  rw [if_neg hw1_5] at hF
  by_cases hw1_6 : p1 = 6
  · rw [if_pos hw1_6] at hF
    refine mj_tsIn (off := 91) C dX9_count_1 (by rw [hw1_6]; decide) (by rw [hw1_6]; decide) (by rw [hw1_6]; rfl) rfl ?_
    refine mj_aload_n C dX9_count_92 rfl ?_
    refine mg_X9_67 C dX9_count_93 ?_
    refine mj_callVi C (c_X0_ranInAll σ) yv_X0_ranInAll kl_X9_345 (mo_50 G _) rfl rfl rfl rfl (Nat.le_of_ble_eq_true rfl) (mj_roomC (by decide) (by decide)) ⟨Nat.zero_le _, Nat.zero_le _⟩ dX9_count_96 ?_
    subst hF
    exact mj_iret C hr hlk dX9_count_99
  rw [if_neg hw1_6] at hF
  refine mj_tsOut C dX9_count_1 (mj_sw_0_7 hw1_0 hw1_1 hw1_2 hw1_3 hw1_4 hw1_5 hw1_6) rfl ?_
  refine mj_iconstV (v := (-1)) C dX9_count_100 mc_i_m1 ?_
  subst hF
  exact mj_iret C hr hlk dX9_count_101
