set_option maxRecDepth 100000 in
set_option maxHeartbeats 4000000 in
theorem c_X9_child {G : mj_G} {l : Launch} (σ : mj_S) (p1 : Int32) (p2 : Int32) (p3 : Int32) (R : (Int32 × mj_S)) (hF : f_X9_child σ p1 p2 p3 = some R) : mj_C G l yX9_child cX9_child 9 (some .int) 7 [.ref (G.2.1 0), .int p1, .int p2, .int p3] σ (some (.int R.1)) R.2 := by
  unfold f_X9_child at hF
  refine mj_of (ls := [(0, .ref (G.2.1 0)), (1, .int p1), (2, .int p2), (3, .int p3)]) (by decide) (Nat.le_of_ble_eq_true rfl) rfl (fun p e s m args below meth c C hr hlk => ?_)
  refine mj_iload_n C dX9_child_0 rfl ?_
  refine mj_if_lt C dX9_child_1 rfl hF (fun hc1 hF => ?_) (fun hc1 hF => ?_)
  · refine mj_iconstV (v := (-1)) C dX9_child_8 mc_i_m1 ?_
    have hF := mj_oi hF; subst hF
    exact mj_iret C hr hlk dX9_child_9
  · refine mj_iload_n C dX9_child_4 rfl ?_
    refine mj_if_ge C dX9_child_5 rfl hF (fun hc2 hF => ?_) (fun hc2 hF => ?_)
    · refine mj_iload_n C dX9_child_10 rfl ?_
      refine mj_bipushV (v := 10) C dX9_child_11 mc_b_10 ?_
      refine mj_idiv C dX9_child_13 (by decide) ?_
      refine mj_istore C dX9_child_14 (by decide) ?_
      refine mj_iload_n C dX9_child_16 rfl ?_
      refine mj_bipushV (v := 10) C dX9_child_17 mc_b_10 ?_
      refine mj_irem C dX9_child_19 (by decide) ?_
      refine mj_istore C dX9_child_20 (by decide) ?_
      refine mj_iload_n C dX9_child_22 rfl ?_
      refine mj_sipushV (v := 10000) C dX9_child_23 mc_s_10000 ?_
      refine mj_idiv C dX9_child_26 (by decide) ?_
      refine mj_bipushV (v := 24) C dX9_child_27 mc_b_24 ?_
      refine mj_isub C dX9_child_29 ?_
      refine mj_istore C dX9_child_30 (by decide) ?_
      refine mj_iload_n C dX9_child_32 rfl ?_
      refine mj_sipushV (v := 10000) C dX9_child_33 mc_s_10000 ?_
      refine mj_irem C dX9_child_36 (by decide) ?_
      refine mj_istore C dX9_child_37 (by decide) ?_
      refine mj_iload C dX9_child_39 rfl ?_
      refine mj_callSi C (c_X9_isMonth σ (p1 / 10)) ys_X9_isMonth kl_X9_78 rfl rfl (Nat.le_of_ble_eq_true rfl) (mj_roomC (by decide) (by decide)) ⟨Nat.zero_le _, Nat.zero_le _⟩ dX9_child_41 ?_
      refine mj_if_eq C dX9_child_44 rfl hF (fun hc3 hF => ?_) (fun hc3 hF => ?_)
      · refine mj_iconstV (v := (-1)) C dX9_child_82 mc_i_m1 ?_
        have hF := mj_oi hF; subst hF
        exact mj_iret C hr hlk dX9_child_83
      · refine mj_iload C dX9_child_47 rfl ?_
        refine mj_iconstV (v := 1) C dX9_child_49 mc_i_1 ?_
        refine mj_ic_gt C dX9_child_50 rfl hF (fun hc4 hF => ?_) (fun hc4 hF => ?_)
        · refine mj_iconstV (v := (-1)) C dX9_child_82 mc_i_m1 ?_
          have hF := mj_oi hF; subst hF
          exact mj_iret C hr hlk dX9_child_83
        · refine mj_iload_n C dX9_child_53 rfl ?_
          refine mj_sipushV (v := 500) C dX9_child_54 mc_s_500 ?_
          refine mj_sipushV (v := 2000) C dX9_child_57 mc_s_2000 ?_
          refine mj_callSi C (c_X9_within σ p2 500 2000) ys_X9_within kl_X9_82 rfl rfl (Nat.le_of_ble_eq_true rfl) (mj_roomC (by decide) (by decide)) ⟨Nat.zero_le _, Nat.zero_le _⟩ dX9_child_60 ?_
          refine mj_if_eq C dX9_child_63 rfl hF (fun hc5 hF => ?_) (fun hc5 hF => ?_)
          · refine mj_iconstV (v := (-1)) C dX9_child_82 mc_i_m1 ?_
            have hF := mj_oi hF; subst hF
            exact mj_iret C hr hlk dX9_child_83
          · refine mj_iload C dX9_child_66 rfl ?_
            refine mj_callSi C (c_X9_isLate σ ((p3 / 10000) - 24)) ys_X9_isLate kl_X9_86 rfl rfl (Nat.le_of_ble_eq_true rfl) (mj_roomC (by decide) (by decide)) ⟨Nat.zero_le _, Nat.zero_le _⟩ dX9_child_68 ?_
            refine mj_if_eq C dX9_child_71 rfl hF (fun hc6 hF => ?_) (fun hc6 hF => ?_)
            · refine mj_iconstV (v := (-1)) C dX9_child_82 mc_i_m1 ?_
              have hF := mj_oi hF; subst hF
              exact mj_iret C hr hlk dX9_child_83
            · refine mj_iload C dX9_child_74 rfl ?_
              refine mj_callSi C (c_X9_isParents σ (mj_rem p3 10000)) ys_X9_isParents kl_X9_89 rfl rfl (Nat.le_of_ble_eq_true rfl) (mj_roomC (by decide) (by decide)) ⟨Nat.zero_le _, Nat.zero_le _⟩ dX9_child_76 ?_
              refine mj_if_ne C dX9_child_79 rfl hF (fun hc7 hF => ?_) (fun hc7 hF => ?_)
              · refine mj_aload_n C dX9_child_84 rfl ?_
                refine mg_X9_28 C dX9_child_85 ?_
                refine mj_callVi C (c_X2_size σ) yv_X2_size kl_X9_92 (mo_9 G _) rfl rfl rfl rfl (Nat.le_of_ble_eq_true rfl) (mj_roomC (by decide) (by decide)) ⟨Nat.zero_le _, Nat.zero_le _⟩ dX9_child_88 ?_
                refine mj_bipushV (v := 6) C dX9_child_91 mc_b_6 ?_
                refine mj_ic_lt C dX9_child_93 rfl hF (fun hc8 hF => ?_) (fun hc8 hF => ?_)
                · refine mj_aload_n C dX9_child_99 rfl ?_
                  refine mg_X9_28 C dX9_child_100 ?_
                  refine mj_iload C dX9_child_103 rfl ?_
                  refine mj_iload C dX9_child_105 rfl ?_
                  refine mj_iload_n C dX9_child_107 rfl ?_
                  refine mj_iload C dX9_child_108 rfl ?_
                  refine mj_iload C dX9_child_110 rfl ?_
                  obtain ⟨r9, hq9, hF⟩ := mj_ob hF
                  refine mj_callVi C (c_X2_add σ (p1 / 10) (mj_rem p1 10) p2 ((p3 / 10000) - 24) (mj_rem p3 10000) r9 hq9) yv_X2_add kl_X9_96 (mo_9 G _) rfl rfl rfl rfl (Nat.le_of_ble_eq_true rfl) (mj_roomC (by decide) (by decide)) ⟨Nat.zero_le _, Nat.zero_le _⟩ dX9_child_112 ?_
                  refine mj_istore C dX9_child_115 (by decide) ?_
                  refine mj_aload_n C dX9_child_117 rfl ?_
                  refine mg_X9_28 C dX9_child_118 ?_
                  obtain ⟨r10, hq10, hF⟩ := mj_ob hF
                  refine mj_callVv C (c_X2_refresh r9.2 r10 hq10) yv_X2_refresh kl_X9_100 (mo_9 G _) rfl rfl rfl rfl (Nat.le_of_ble_eq_true rfl) (mj_roomC (by decide) (by decide)) ⟨Nat.zero_le _, Nat.zero_le _⟩ dX9_child_121 ?_
                  refine mj_iload C dX9_child_124 rfl ?_
                  have hF := mj_oi hF; subst hF
                  exact mj_iret C hr hlk dX9_child_126
                · refine mj_bipushV (v := (-3)) C dX9_child_96 mc_b_m3 ?_
                  have hF := mj_oi hF; subst hF
                  exact mj_iret C hr hlk dX9_child_98
              · refine mj_iconstV (v := (-1)) C dX9_child_82 mc_i_m1 ?_
                have hF := mj_oi hF; subst hF
                exact mj_iret C hr hlk dX9_child_83
    · refine mj_iconstV (v := (-1)) C dX9_child_8 mc_i_m1 ?_
      have hF := mj_oi hF; subst hF
      exact mj_iret C hr hlk dX9_child_9
set_option maxRecDepth 100000 in
set_option maxHeartbeats 4000000 in
theorem c_X9_want {G : mj_G} {l : Launch} (σ : mj_S) (p1 : Int32) (p2 : Int32) (R : (Int32 × mj_S)) (hF : f_X9_want σ p1 p2 = some R) : mj_C G l yX9_want cX9_want 4 (some .int) 7 [.ref (G.2.1 0), .int p1, .int p2] σ (some (.int R.1)) R.2 := by
  unfold f_X9_want at hF
  refine mj_of (ls := [(0, .ref (G.2.1 0)), (1, .int p1), (2, .int p2)]) (by decide) (Nat.le_of_ble_eq_true rfl) rfl (fun p e s m args below meth c C hr hlk => ?_)
  refine mj_iload_n C dX9_want_0 rfl ?_
  refine mj_callSi C (c_X9_isSpan σ p1) ys_X9_isSpan kl_X9_103 rfl rfl (Nat.le_of_ble_eq_true rfl) (mj_roomC (by decide) (by decide)) ⟨Nat.zero_le _, Nat.zero_le _⟩ dX9_want_1 ?_
  refine mj_if_eq C dX9_want_4 rfl hF (fun hc1 hF => ?_) (fun hc1 hF => ?_)
  · refine mj_iconstV (v := (-1)) C dX9_want_17 mc_i_m1 ?_
    have hF := mj_oi hF; subst hF
    exact mj_iret C hr hlk dX9_want_18
  · refine mj_iload_n C dX9_want_7 rfl ?_
    refine mj_iconstV (v := 1) C dX9_want_8 mc_i_1 ?_
    refine mj_bipushV (v := 9) C dX9_want_9 mc_b_9 ?_
    refine mj_callSi C (c_X9_within σ p2 1 9) ys_X9_within kl_X9_82 rfl rfl (Nat.le_of_ble_eq_true rfl) (mj_roomC (by decide) (by decide)) ⟨Nat.zero_le _, Nat.zero_le _⟩ dX9_want_11 ?_
    refine mj_if_ne C dX9_want_14 rfl hF (fun hc2 hF => ?_) (fun hc2 hF => ?_)
    · refine mj_aload_n C dX9_want_19 rfl ?_
      refine mg_X9_28 C dX9_want_20 ?_
      refine mj_callVi C (c_X2_wantsTold σ) yv_X2_wantsTold kl_X9_106 (mo_9 G _) rfl rfl rfl rfl (Nat.le_of_ble_eq_true rfl) (mj_roomC (by decide) (by decide)) ⟨Nat.zero_le _, Nat.zero_le _⟩ dX9_want_23 ?_
      refine mj_bipushV (v := 10) C dX9_want_26 mc_b_10 ?_
      refine mj_ic_lt C dX9_want_28 rfl hF (fun hc3 hF => ?_) (fun hc3 hF => ?_)
      · refine mj_aload_n C dX9_want_34 rfl ?_
        refine mg_X9_28 C dX9_want_35 ?_
        refine mj_iload_n C dX9_want_38 rfl ?_
        refine mj_sipushV (v := 1000) C dX9_want_39 mc_s_1000 ?_
        refine mj_idiv C dX9_want_42 (by decide) ?_
        refine mj_iload_n C dX9_want_43 rfl ?_
        refine mj_sipushV (v := 1000) C dX9_want_44 mc_s_1000 ?_
        refine mj_irem C dX9_want_47 (by decide) ?_
        refine mj_iload_n C dX9_want_48 rfl ?_
        obtain ⟨r4, hq4, hF⟩ := mj_ob hF
        refine mj_callVi C (c_X2_addWant σ (p1 / 1000) (mj_rem p1 1000) p2 r4 hq4) yv_X2_addWant kl_X9_109 (mo_9 G _) rfl rfl rfl rfl (Nat.le_of_ble_eq_true rfl) (mj_roomC (by decide) (by decide)) ⟨Nat.zero_le _, Nat.zero_le _⟩ dX9_want_49 ?_
        refine mj_istore_n C dX9_want_52 (by decide) ?_
        refine mj_aload_n C dX9_want_53 rfl ?_
        refine mg_X9_28 C dX9_want_54 ?_
        obtain ⟨r5, hq5, hF⟩ := mj_ob hF
        refine mj_callVv C (c_X2_refresh r4.2 r5 hq5) yv_X2_refresh kl_X9_100 (mo_9 G _) rfl rfl rfl rfl (Nat.le_of_ble_eq_true rfl) (mj_roomC (by decide) (by decide)) ⟨Nat.zero_le _, Nat.zero_le _⟩ dX9_want_57 ?_
        refine mj_iload_n C dX9_want_60 rfl ?_
        have hF := mj_oi hF; subst hF
        exact mj_iret C hr hlk dX9_want_61
      · refine mj_bipushV (v := (-3)) C dX9_want_31 mc_b_m3 ?_
        have hF := mj_oi hF; subst hF
        exact mj_iret C hr hlk dX9_want_33
    · refine mj_iconstV (v := (-1)) C dX9_want_17 mc_i_m1 ?_
      have hF := mj_oi hF; subst hF
      exact mj_iret C hr hlk dX9_want_18
set_option maxRecDepth 100000 in
set_option maxHeartbeats 4000000 in
theorem c_X9_wants {G : mj_G} {l : Launch} (σ : mj_S) (p1 : Int32) (R : Int32) (hF : f_X9_wants σ p1 = some R) : mj_C G l yX9_wants cX9_wants 2 (some .int) 4 [.ref (G.2.1 0), .int p1] σ (some (.int R)) σ := by
  unfold f_X9_wants at hF
  refine mj_of (ls := [(0, .ref (G.2.1 0)), (1, .int p1)]) (by decide) (Nat.le_of_ble_eq_true rfl) rfl (fun p e s m args below meth c C hr hlk => ?_)
  refine mj_iload_n C dX9_wants_0 rfl ?_
  refine mj_callSi C (c_X9_isMonth σ p1) ys_X9_isMonth kl_X9_78 rfl rfl (Nat.le_of_ble_eq_true rfl) (mj_roomC (by decide) (by decide)) ⟨Nat.zero_le _, Nat.zero_le _⟩ dX9_wants_1 ?_
  refine mj_if_eq C dX9_wants_4 rfl hF (fun hc1 hF => ?_) (fun hc1 hF => ?_)
  · refine mj_iconstV (v := (-1)) C dX9_wants_18 mc_i_m1 ?_
    have hF := mj_oi hF; subst hF
    exact mj_iret C hr hlk dX9_wants_19
  · refine mj_aload_n C dX9_wants_7 rfl ?_
    refine mg_X9_28 C dX9_wants_8 ?_
    refine mj_iload_n C dX9_wants_11 rfl ?_
    obtain ⟨r2, hq2, hF⟩ := mj_ob hF
    refine mj_callVi C (c_X2_wantAt σ p1 r2 hq2) yv_X2_wantAt kl_X9_139 (mo_9 G _) rfl rfl rfl rfl (Nat.le_of_ble_eq_true rfl) (mj_roomC (by decide) (by decide)) ⟨Nat.zero_le _, Nat.zero_le _⟩ dX9_wants_12 ?_
    refine mj_goto C dX9_wants_15 rfl ?_
    have hF := mj_oi hF; subst hF
    exact mj_iret C hr hlk dX9_wants_19
set_option maxRecDepth 100000 in
set_option maxHeartbeats 4000000 in
theorem c_X9_mend {G : mj_G} {l : Launch} (σ : mj_S) (p1 : Int32) (p2 : Int32) (p3 : Int32) (R : (Int32 × mj_S)) (hF : f_X9_mend σ p1 p2 p3 = some R) : mj_C G l yX9_mend cX9_mend 5 (some .int) 7 [.ref (G.2.1 0), .int p1, .int p2, .int p3] σ (some (.int R.1)) R.2 := by
  unfold f_X9_mend at hF
  refine mj_of (ls := [(0, .ref (G.2.1 0)), (1, .int p1), (2, .int p2), (3, .int p3)]) (by decide) (Nat.le_of_ble_eq_true rfl) rfl (fun p e s m args below meth c C hr hlk => ?_)
  refine mj_aload_n C dX9_mend_0 rfl ?_
  refine mj_iload_n C dX9_mend_1 rfl ?_
  refine mj_iload_n C dX9_mend_2 rfl ?_
  refine mj_iload_n C dX9_mend_3 rfl ?_
  refine mj_callVi C (c_X9_isMendable σ p1 p2 p3) yv_X9_isMendable kl_X9_174 (mo_0 G _) rfl rfl rfl rfl (Nat.le_of_ble_eq_true rfl) (mj_roomC (by decide) (by decide)) ⟨Nat.zero_le _, Nat.zero_le _⟩ dX9_mend_4 ?_
  refine mj_if_ne C dX9_mend_7 rfl hF (fun hc1 hF => ?_) (fun hc1 hF => ?_)
  · refine mj_aload_n C dX9_mend_13 rfl ?_
    refine mg_X9_60 C dX9_mend_14 ?_
    refine mj_iload_n C dX9_mend_17 rfl ?_
    refine mj_iload_n C dX9_mend_18 rfl ?_
    refine mj_iload_n C dX9_mend_19 rfl ?_
    obtain ⟨r2, hq2, hF⟩ := mj_ob hF
    refine mj_callVi C (c_X1_change σ p1 p2 p3 r2 hq2) yv_X1_change kl_X9_177 (mo_45 G _) rfl rfl rfl rfl (Nat.le_of_ble_eq_true rfl) (mj_roomC (by decide) (by decide)) ⟨Nat.zero_le _, Nat.zero_le _⟩ dX9_mend_20 ?_
    refine mj_istore C dX9_mend_23 (by decide) ?_
    refine mj_aload_n C dX9_mend_25 rfl ?_
    refine mg_X9_28 C dX9_mend_26 ?_
    obtain ⟨r3, hq3, hF⟩ := mj_ob hF
    refine mj_callVv C (c_X2_refresh r2.2 r3 hq3) yv_X2_refresh kl_X9_100 (mo_9 G _) rfl rfl rfl rfl (Nat.le_of_ble_eq_true rfl) (mj_roomC (by decide) (by decide)) ⟨Nat.zero_le _, Nat.zero_le _⟩ dX9_mend_29 ?_
    refine mj_iload C dX9_mend_32 rfl ?_
    have hF := mj_oi hF; subst hF
    exact mj_iret C hr hlk dX9_mend_34
  · refine mj_ldc C dX9_mend_10 kc_X9_173 ?_
    have hF := mj_oi hF; subst hF
    exact mj_iret C hr hlk dX9_mend_12
set_option maxRecDepth 100000 in
set_option maxHeartbeats 4000000 in
theorem c_X9_enough {G : mj_G} {l : Launch} (σ : mj_S) (p1 : Int32) (p2 : Int32) (p3 : Int32) (R : (Int32 × mj_S)) (hF : f_X9_enough σ p1 p2 p3 = some R) : mj_C G l yX9_enough cX9_enough 4 (some .int) 7 [.ref (G.2.1 0), .int p1, .int p2, .int p3] σ (some (.int R.1)) R.2 := by
  unfold f_X9_enough at hF
  refine mj_of (ls := [(0, .ref (G.2.1 0)), (1, .int p1), (2, .int p2), (3, .int p3)]) (by decide) (Nat.le_of_ble_eq_true rfl) rfl (fun p e s m args below meth c C hr hlk => ?_)
  refine mj_aload_n C dX9_enough_0 rfl ?_
  refine mg_X9_28 C dX9_enough_1 ?_
  refine mj_iload_n C dX9_enough_4 rfl ?_
  refine mj_callVi C (c_X2_has σ p1) yv_X2_has kl_X9_132 (mo_9 G _) rfl rfl rfl rfl (Nat.le_of_ble_eq_true rfl) (mj_roomC (by decide) (by decide)) ⟨Nat.zero_le _, Nat.zero_le _⟩ dX9_enough_5 ?_
  refine mj_if_eq C dX9_enough_8 rfl hF (fun hc1 hF => ?_) (fun hc1 hF => ?_)
  · refine mj_ldc C dX9_enough_28 kc_X9_173 ?_
    have hF := mj_oi hF; subst hF
    exact mj_iret C hr hlk dX9_enough_30
  · refine mj_iload_n C dX9_enough_11 rfl ?_
    refine mj_callSi C (c_X9_isSpan σ p2) ys_X9_isSpan kl_X9_103 rfl rfl (Nat.le_of_ble_eq_true rfl) (mj_roomC (by decide) (by decide)) ⟨Nat.zero_le _, Nat.zero_le _⟩ dX9_enough_12 ?_
    refine mj_if_eq C dX9_enough_15 rfl hF (fun hc2 hF => ?_) (fun hc2 hF => ?_)
    · refine mj_ldc C dX9_enough_28 kc_X9_173 ?_
      have hF := mj_oi hF; subst hF
      exact mj_iret C hr hlk dX9_enough_30
    · refine mj_iload_n C dX9_enough_18 rfl ?_
      refine mj_iconstV (v := 1) C dX9_enough_19 mc_i_1 ?_
      refine mj_bipushV (v := 9) C dX9_enough_20 mc_b_9 ?_
      refine mj_callSi C (c_X9_within σ p3 1 9) ys_X9_within kl_X9_82 rfl rfl (Nat.le_of_ble_eq_true rfl) (mj_roomC (by decide) (by decide)) ⟨Nat.zero_le _, Nat.zero_le _⟩ dX9_enough_22 ?_
      refine mj_if_ne C dX9_enough_25 rfl hF (fun hc3 hF => ?_) (fun hc3 hF => ?_)
      · refine mj_aload_n C dX9_enough_31 rfl ?_
        refine mg_X9_28 C dX9_enough_32 ?_
        refine mj_iload_n C dX9_enough_35 rfl ?_
        refine mj_iload_n C dX9_enough_36 rfl ?_
        refine mj_sipushV (v := 1000) C dX9_enough_37 mc_s_1000 ?_
        refine mj_idiv C dX9_enough_40 (by decide) ?_
        refine mj_iload_n C dX9_enough_41 rfl ?_
        refine mj_sipushV (v := 1000) C dX9_enough_42 mc_s_1000 ?_
        refine mj_irem C dX9_enough_45 (by decide) ?_
        refine mj_iload_n C dX9_enough_46 rfl ?_
        obtain ⟨r4, hq4, hF⟩ := mj_ob hF
        refine mj_callVv C (c_X2_think σ p1 (p2 / 1000) (mj_rem p2 1000) p3 r4 hq4) yv_X2_think kl_X9_259 (mo_9 G _) rfl rfl rfl rfl (Nat.le_of_ble_eq_true rfl) (mj_roomC (by decide) (by decide)) ⟨Nat.zero_le _, Nat.zero_le _⟩ dX9_enough_47 ?_
        refine mj_aload_n C dX9_enough_50 rfl ?_
        refine mg_X9_28 C dX9_enough_51 ?_
        refine mj_aload_n C dX9_enough_54 rfl ?_
        refine mg_X9_53 C dX9_enough_55 ?_
        refine mj_iload_n C dX9_enough_58 rfl ?_
        obtain ⟨r5, hq5, hF⟩ := mj_ob hF
        refine mj_callVi C (c_X6_endMonth r4 p1 r5 hq5) yv_X6_endMonth kl_X9_263 (mo_44 G _) rfl rfl rfl rfl (Nat.le_of_ble_eq_true rfl) (mj_roomC (by decide) (by decide)) ⟨Nat.zero_le _, Nat.zero_le _⟩ dX9_enough_59 ?_
        obtain ⟨r6, hq6, hF⟩ := mj_ob hF
        refine mj_callVi C (c_X2_thoughtHeightAt r4 r5 r6 hq6) yv_X2_thoughtHeightAt kl_X9_266 (mo_9 G _) rfl rfl rfl rfl (Nat.le_of_ble_eq_true rfl) (mj_roomC (by decide) (by decide)) ⟨Nat.zero_le _, Nat.zero_le _⟩ dX9_enough_62 ?_
        refine mj_aload_n C dX9_enough_65 rfl ?_
        refine mg_X9_53 C dX9_enough_66 ?_
        refine mj_iload_n C dX9_enough_69 rfl ?_
        obtain ⟨r7, hq7, hF⟩ := mj_ob hF
        refine mj_callVi C (c_X6_endOf r4 p1 r7 hq7) yv_X6_endOf kl_X9_231 (mo_44 G _) rfl rfl rfl rfl (Nat.le_of_ble_eq_true rfl) (mj_roomC (by decide) (by decide)) ⟨Nat.zero_le _, Nat.zero_le _⟩ dX9_enough_70 ?_
        refine mj_isub C dX9_enough_73 ?_
        have hF := mj_oi hF; subst hF
        exact mj_iret C hr hlk dX9_enough_74
      · refine mj_ldc C dX9_enough_28 kc_X9_173 ?_
        have hF := mj_oi hF; subst hF
        exact mj_iret C hr hlk dX9_enough_30
set_option maxRecDepth 100000 in
set_option maxHeartbeats 4000000 in
theorem c_X9_undo {G : mj_G} {l : Launch} (σ : mj_S) (R : (Int32 × mj_S)) (hF : f_X9_undo σ = some R) : mj_C G l yX9_undo cX9_undo 1 (some .int) 7 [.ref (G.2.1 0)] σ (some (.int R.1)) R.2 := by
  unfold f_X9_undo at hF
  refine mj_of (ls := [(0, .ref (G.2.1 0))]) (by decide) (Nat.le_of_ble_eq_true rfl) rfl (fun p e s m args below meth c C hr hlk => ?_)
  refine mj_aload_n C dX9_undo_0 rfl ?_
  refine mg_X9_60 C dX9_undo_1 ?_
  refine mj_callVi C (c_X1_toUndo σ) yv_X1_toUndo kl_X9_272 (mo_45 G _) rfl rfl rfl rfl (Nat.le_of_ble_eq_true rfl) (mj_roomC (by decide) (by decide)) ⟨Nat.zero_le _, Nat.zero_le _⟩ dX9_undo_4 ?_
  refine mj_if_ne C dX9_undo_7 rfl hF (fun hc1 hF => ?_) (fun hc1 hF => ?_)
  · refine mj_aload_n C dX9_undo_13 rfl ?_
    refine mg_X9_60 C dX9_undo_14 ?_
    obtain ⟨r2, hq2, hF⟩ := mj_ob hF
    refine mj_callVv C (c_X1_goBack σ r2 hq2) yv_X1_goBack kl_X9_275 (mo_45 G _) rfl rfl rfl rfl (Nat.le_of_ble_eq_true rfl) (mj_roomC (by decide) (by decide)) ⟨Nat.zero_le _, Nat.zero_le _⟩ dX9_undo_17 ?_
    refine mj_aload_n C dX9_undo_20 rfl ?_
    refine mg_X9_28 C dX9_undo_21 ?_
    obtain ⟨r3, hq3, hF⟩ := mj_ob hF
    refine mj_callVv C (c_X2_refresh r2 r3 hq3) yv_X2_refresh kl_X9_100 (mo_9 G _) rfl rfl rfl rfl (Nat.le_of_ble_eq_true rfl) (mj_roomC (by decide) (by decide)) ⟨Nat.zero_le _, Nat.zero_le _⟩ dX9_undo_24 ?_
    refine mj_aload_n C dX9_undo_27 rfl ?_
    refine mg_X9_60 C dX9_undo_28 ?_
    refine mj_callVi C (c_X1_toUndo r3) yv_X1_toUndo kl_X9_272 (mo_45 G _) rfl rfl rfl rfl (Nat.le_of_ble_eq_true rfl) (mj_roomC (by decide) (by decide)) ⟨Nat.zero_le _, Nat.zero_le _⟩ dX9_undo_31 ?_
    have hF := mj_oi hF; subst hF
    exact mj_iret C hr hlk dX9_undo_34
  · refine mj_bipushV (v := (-5)) C dX9_undo_10 mc_b_m5 ?_
    have hF := mj_oi hF; subst hF
    exact mj_iret C hr hlk dX9_undo_12
set_option maxRecDepth 100000 in
set_option maxHeartbeats 4000000 in
theorem c_X9_redo {G : mj_G} {l : Launch} (σ : mj_S) (R : (Int32 × mj_S)) (hF : f_X9_redo σ = some R) : mj_C G l yX9_redo cX9_redo 1 (some .int) 7 [.ref (G.2.1 0)] σ (some (.int R.1)) R.2 := by
  unfold f_X9_redo at hF
  refine mj_of (ls := [(0, .ref (G.2.1 0))]) (by decide) (Nat.le_of_ble_eq_true rfl) rfl (fun p e s m args below meth c C hr hlk => ?_)
  refine mj_aload_n C dX9_redo_0 rfl ?_
  refine mg_X9_60 C dX9_redo_1 ?_
  refine mj_callVi C (c_X1_toRedo σ) yv_X1_toRedo kl_X9_278 (mo_45 G _) rfl rfl rfl rfl (Nat.le_of_ble_eq_true rfl) (mj_roomC (by decide) (by decide)) ⟨Nat.zero_le _, Nat.zero_le _⟩ dX9_redo_4 ?_
  refine mj_if_ne C dX9_redo_7 rfl hF (fun hc1 hF => ?_) (fun hc1 hF => ?_)
  · refine mj_aload_n C dX9_redo_13 rfl ?_
    refine mg_X9_60 C dX9_redo_14 ?_
    obtain ⟨r2, hq2, hF⟩ := mj_ob hF
    refine mj_callVv C (c_X1_goForward σ r2 hq2) yv_X1_goForward kl_X9_281 (mo_45 G _) rfl rfl rfl rfl (Nat.le_of_ble_eq_true rfl) (mj_roomC (by decide) (by decide)) ⟨Nat.zero_le _, Nat.zero_le _⟩ dX9_redo_17 ?_
    refine mj_aload_n C dX9_redo_20 rfl ?_
    refine mg_X9_28 C dX9_redo_21 ?_
    obtain ⟨r3, hq3, hF⟩ := mj_ob hF
    refine mj_callVv C (c_X2_refresh r2 r3 hq3) yv_X2_refresh kl_X9_100 (mo_9 G _) rfl rfl rfl rfl (Nat.le_of_ble_eq_true rfl) (mj_roomC (by decide) (by decide)) ⟨Nat.zero_le _, Nat.zero_le _⟩ dX9_redo_24 ?_
    refine mj_aload_n C dX9_redo_27 rfl ?_
    refine mg_X9_60 C dX9_redo_28 ?_
    refine mj_callVi C (c_X1_toRedo r3) yv_X1_toRedo kl_X9_278 (mo_45 G _) rfl rfl rfl rfl (Nat.le_of_ble_eq_true rfl) (mj_roomC (by decide) (by decide)) ⟨Nat.zero_le _, Nat.zero_le _⟩ dX9_redo_31 ?_
    have hF := mj_oi hF; subst hF
    exact mj_iret C hr hlk dX9_redo_34
  · refine mj_bipushV (v := (-5)) C dX9_redo_10 mc_b_m5 ?_
    have hF := mj_oi hF; subst hF
    exact mj_iret C hr hlk dX9_redo_12
