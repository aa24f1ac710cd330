set_option maxRecDepth 100000 in
set_option maxHeartbeats 4000000 in
theorem c_X5_has {G : mj_G} {l : Launch} (σ : mj_S) (p1 : Int32) : mj_C G l yX5_has cX5_has 2 (some .boolean) 1 [.ref (G.2.1 35), .int p1] σ (some (.int (f_X5_has σ p1))) σ := by
  generalize hF : f_X5_has σ p1 = R
  unfold f_X5_has at hF
  refine mj_of (ls := [(0, .ref (G.2.1 35)), (1, .int p1)]) (by decide) (Nat.le_of_ble_eq_true rfl) rfl (fun p e s m args below meth c C hr hlk => ?_)
  refine mj_iconstV (v := 0) C dX5_has_0 mc_i_0 ?_
  refine mj_iload_n C dX5_has_1 rfl ?_
  refine mj_ic_gt C dX5_has_2 rfl hF (fun hc1 hF => ?_) (fun hc1 hF => ?_)
  · refine mj_iconstV (v := 0) C dX5_has_17 mc_i_0 ?_
    subst hF
    exact mj_zret (v := 0) rfl C hr hlk dX5_has_18
  · refine mj_iload_n C dX5_has_5 rfl ?_
    refine mj_aload_n C dX5_has_6 rfl ?_
    refine mg_X5_24 C dX5_has_7 ?_
    refine mj_ic_ge C dX5_has_10 rfl hF (fun hc2 hF => ?_) (fun hc2 hF => ?_)
    · refine mj_iconstV (v := 0) C dX5_has_17 mc_i_0 ?_
      subst hF
      exact mj_zret (v := 0) rfl C hr hlk dX5_has_18
    · refine mj_iconstV (v := 1) C dX5_has_13 mc_i_1 ?_
      refine mj_goto C dX5_has_14 rfl ?_
      subst hF
      exact mj_zret (v := 1) rfl C hr hlk dX5_has_18
set_option maxRecDepth 100000 in
set_option maxHeartbeats 4000000 in
theorem c_X5_becomeHeight {G : mj_G} {l : Launch} (σ : mj_S) (p1 : Int32) (p2 : Int32) (R : mj_S) (hF : f_X5_becomeHeight σ p1 p2 = some R) : mj_C G l yX5_becomeHeight cX5_becomeHeight 3 (none) 2 [.ref (G.2.1 35), .int p1, .int p2] σ none R := by
  unfold f_X5_becomeHeight at hF
  refine mj_of (ls := [(0, .ref (G.2.1 35)), (1, .int p1), (2, .int p2)]) (by decide) (Nat.le_of_ble_eq_true rfl) rfl (fun p e s m args below meth c C hr hlk => ?_)
  refine mj_aload_n C dX5_becomeHeight_0 rfl ?_
  refine mj_iload_n C dX5_becomeHeight_1 rfl ?_
  refine mj_callVi C (c_X5_has σ p1) yv_X5_has kl_X5_52 (mo_35 G _) rfl rfl rfl rfl (Nat.le_of_ble_eq_true rfl) (mj_roomC (by decide) (by decide)) ⟨Nat.zero_le _, Nat.zero_le _⟩ dX5_becomeHeight_2 ?_
  refine mj_if_eq C dX5_becomeHeight_5 rfl hF (fun hc1 hF => ?_) (fun hc1 hF => ?_)
  · have hF := mj_oi hF; subst hF
    exact mj_vret C hr hlk dX5_becomeHeight_15
  · refine mj_aload_n C dX5_becomeHeight_8 rfl ?_
    refine mg_X5_9 C dX5_becomeHeight_9 ?_
    refine mj_iload_n C dX5_becomeHeight_12 rfl ?_
    refine mj_iload_n C dX5_becomeHeight_13 rfl ?_
    obtain ⟨hg2, hF⟩ := mj_og hF
    refine mj_iastore C dX5_becomeHeight_14 rfl hg2 ?_
    have hF := mj_oi hF; subst hF
    exact mj_vret C hr hlk dX5_becomeHeight_15
set_option maxRecDepth 100000 in
set_option maxHeartbeats 4000000 in
theorem c_X5_becomeWay {G : mj_G} {l : Launch} (σ : mj_S) (p1 : Int32) (p2 : Int32) (R : mj_S) (hF : f_X5_becomeWay σ p1 p2 = some R) : mj_C G l yX5_becomeWay cX5_becomeWay 3 (none) 2 [.ref (G.2.1 35), .int p1, .int p2] σ none R := by
  unfold f_X5_becomeWay at hF
  refine mj_of (ls := [(0, .ref (G.2.1 35)), (1, .int p1), (2, .int p2)]) (by decide) (Nat.le_of_ble_eq_true rfl) rfl (fun p e s m args below meth c C hr hlk => ?_)
  refine mj_aload_n C dX5_becomeWay_0 rfl ?_
  refine mj_iload_n C dX5_becomeWay_1 rfl ?_
  refine mj_callVi C (c_X5_has σ p1) yv_X5_has kl_X5_52 (mo_35 G _) rfl rfl rfl rfl (Nat.le_of_ble_eq_true rfl) (mj_roomC (by decide) (by decide)) ⟨Nat.zero_le _, Nat.zero_le _⟩ dX5_becomeWay_2 ?_
  refine mj_if_eq C dX5_becomeWay_5 rfl hF (fun hc1 hF => ?_) (fun hc1 hF => ?_)
  · have hF := mj_oi hF; subst hF
    exact mj_vret C hr hlk dX5_becomeWay_15
  · refine mj_aload_n C dX5_becomeWay_8 rfl ?_
    refine mg_X5_21 C dX5_becomeWay_9 ?_
    refine mj_iload_n C dX5_becomeWay_12 rfl ?_
    refine mj_iload_n C dX5_becomeWay_13 rfl ?_
    obtain ⟨hg2, hF⟩ := mj_og hF
    refine mj_iastore C dX5_becomeWay_14 rfl hg2 ?_
    have hF := mj_oi hF; subst hF
    exact mj_vret C hr hlk dX5_becomeWay_15
set_option maxRecDepth 100000 in
set_option maxHeartbeats 4000000 in
theorem c_X5_heightOf {G : mj_G} {l : Launch} (σ : mj_S) (p1 : Int32) (R : Int32) (hF : f_X5_heightOf σ p1 = some R) : mj_C G l yX5_heightOf cX5_heightOf 2 (some .int) 2 [.ref (G.2.1 35), .int p1] σ (some (.int R)) σ := by
  unfold f_X5_heightOf at hF
  refine mj_of (ls := [(0, .ref (G.2.1 35)), (1, .int p1)]) (by decide) (Nat.le_of_ble_eq_true rfl) rfl (fun p e s m args below meth c C hr hlk => ?_)
  refine mj_aload_n C dX5_heightOf_0 rfl ?_
  refine mj_iload_n C dX5_heightOf_1 rfl ?_
  refine mj_callVi C (c_X5_has σ p1) yv_X5_has kl_X5_52 (mo_35 G _) rfl rfl rfl rfl (Nat.le_of_ble_eq_true rfl) (mj_roomC (by decide) (by decide)) ⟨Nat.zero_le _, Nat.zero_le _⟩ dX5_heightOf_2 ?_
  refine mj_if_eq C dX5_heightOf_5 rfl hF (fun hc1 hF => ?_) (fun hc1 hF => ?_)
  · refine mj_iconstV (v := 0) C dX5_heightOf_17 mc_i_0 ?_
    have hF := mj_oi hF; subst hF
    exact mj_iret C hr hlk dX5_heightOf_18
  · refine mj_aload_n C dX5_heightOf_8 rfl ?_
    refine mg_X5_9 C dX5_heightOf_9 ?_
    refine mj_iload_n C dX5_heightOf_12 rfl ?_
    obtain ⟨hg2, hF⟩ := mj_og hF
    refine mj_iaload C dX5_heightOf_13 rfl hg2 ?_
    refine mj_goto C dX5_heightOf_14 rfl ?_
    have hF := mj_oi hF; subst hF
    exact mj_iret C hr hlk dX5_heightOf_18
set_option maxRecDepth 100000 in
set_option maxHeartbeats 4000000 in
theorem c_X5_wayOf {G : mj_G} {l : Launch} (σ : mj_S) (p1 : Int32) (R : Int32) (hF : f_X5_wayOf σ p1 = some R) : mj_C G l yX5_wayOf cX5_wayOf 2 (some .int) 2 [.ref (G.2.1 35), .int p1] σ (some (.int R)) σ := by
  unfold f_X5_wayOf at hF
  refine mj_of (ls := [(0, .ref (G.2.1 35)), (1, .int p1)]) (by decide) (Nat.le_of_ble_eq_true rfl) rfl (fun p e s m args below meth c C hr hlk => ?_)
  refine mj_aload_n C dX5_wayOf_0 rfl ?_
  refine mj_iload_n C dX5_wayOf_1 rfl ?_
  refine mj_callVi C (c_X5_has σ p1) yv_X5_has kl_X5_52 (mo_35 G _) rfl rfl rfl rfl (Nat.le_of_ble_eq_true rfl) (mj_roomC (by decide) (by decide)) ⟨Nat.zero_le _, Nat.zero_le _⟩ dX5_wayOf_2 ?_
  refine mj_if_eq C dX5_wayOf_5 rfl hF (fun hc1 hF => ?_) (fun hc1 hF => ?_)
  · refine mj_iconstV (v := 0) C dX5_wayOf_17 mc_i_0 ?_
    have hF := mj_oi hF; subst hF
    exact mj_iret C hr hlk dX5_wayOf_18
  · refine mj_aload_n C dX5_wayOf_8 rfl ?_
    refine mg_X5_21 C dX5_wayOf_9 ?_
    refine mj_iload_n C dX5_wayOf_12 rfl ?_
    obtain ⟨hg2, hF⟩ := mj_og hF
    refine mj_iaload C dX5_wayOf_13 rfl hg2 ?_
    refine mj_goto C dX5_wayOf_14 rfl ?_
    have hF := mj_oi hF; subst hF
    exact mj_iret C hr hlk dX5_wayOf_18
set_option maxRecDepth 100000 in
set_option maxHeartbeats 4000000 in
theorem c_X5_monthOf {G : mj_G} {l : Launch} (σ : mj_S) (p1 : Int32) (R : Int32) (hF : f_X5_monthOf σ p1 = some R) : mj_C G l yX5_monthOf cX5_monthOf 2 (some .int) 2 [.ref (G.2.1 35), .int p1] σ (some (.int R)) σ := by
  unfold f_X5_monthOf at hF
  refine mj_of (ls := [(0, .ref (G.2.1 35)), (1, .int p1)]) (by decide) (Nat.le_of_ble_eq_true rfl) rfl (fun p e s m args below meth c C hr hlk => ?_)
  refine mj_aload_n C dX5_monthOf_0 rfl ?_
  refine mj_iload_n C dX5_monthOf_1 rfl ?_
  refine mj_callVi C (c_X5_has σ p1) yv_X5_has kl_X5_52 (mo_35 G _) rfl rfl rfl rfl (Nat.le_of_ble_eq_true rfl) (mj_roomC (by decide) (by decide)) ⟨Nat.zero_le _, Nat.zero_le _⟩ dX5_monthOf_2 ?_
  refine mj_if_eq C dX5_monthOf_5 rfl hF (fun hc1 hF => ?_) (fun hc1 hF => ?_)
  · refine mj_sipushV (v := 600) C dX5_monthOf_17 mc_s_600 ?_
    have hF := mj_oi hF; subst hF
    exact mj_iret C hr hlk dX5_monthOf_20
  · refine mj_aload_n C dX5_monthOf_8 rfl ?_
    refine mg_X5_18 C dX5_monthOf_9 ?_
    refine mj_iload_n C dX5_monthOf_12 rfl ?_
    obtain ⟨hg2, hF⟩ := mj_og hF
    refine mj_iaload C dX5_monthOf_13 rfl hg2 ?_
    refine mj_goto C dX5_monthOf_14 rfl ?_
    have hF := mj_oi hF; subst hF
    exact mj_iret C hr hlk dX5_monthOf_20
set_option maxRecDepth 100000 in
set_option maxHeartbeats 4000000 in
theorem c_X5_nameOf {G : mj_G} {l : Launch} (σ : mj_S) (p1 : Int32) (R : Int32) (hF : f_X5_nameOf σ p1 = some R) : mj_C G l yX5_nameOf cX5_nameOf 2 (some .int) 2 [.ref (G.2.1 35), .int p1] σ (some (.int R)) σ := by
  unfold f_X5_nameOf at hF
  refine mj_of (ls := [(0, .ref (G.2.1 35)), (1, .int p1)]) (by decide) (Nat.le_of_ble_eq_true rfl) rfl (fun p e s m args below meth c C hr hlk => ?_)
  refine mj_aload_n C dX5_nameOf_0 rfl ?_
  refine mj_iload_n C dX5_nameOf_1 rfl ?_
  refine mj_callVi C (c_X5_has σ p1) yv_X5_has kl_X5_52 (mo_35 G _) rfl rfl rfl rfl (Nat.le_of_ble_eq_true rfl) (mj_roomC (by decide) (by decide)) ⟨Nat.zero_le _, Nat.zero_le _⟩ dX5_nameOf_2 ?_
  refine mj_if_eq C dX5_nameOf_5 rfl hF (fun hc1 hF => ?_) (fun hc1 hF => ?_)
  · refine mj_bipushV (v := 6) C dX5_nameOf_17 mc_b_6 ?_
    have hF := mj_oi hF; subst hF
    exact mj_iret C hr hlk dX5_nameOf_19
  · refine mj_aload_n C dX5_nameOf_8 rfl ?_
    refine mg_X5_15 C dX5_nameOf_9 ?_
    refine mj_iload_n C dX5_nameOf_12 rfl ?_
    obtain ⟨hg2, hF⟩ := mj_og hF
    refine mj_iaload C dX5_nameOf_13 rfl hg2 ?_
    refine mj_goto C dX5_nameOf_14 rfl ?_
    have hF := mj_oi hF; subst hF
    exact mj_iret C hr hlk dX5_nameOf_19
set_option maxRecDepth 100000 in
set_option maxHeartbeats 4000000 in
theorem c_X5_size {G : mj_G} {l : Launch} (σ : mj_S) : mj_C G l yX5_size cX5_size 1 (some .int) 1 [.ref (G.2.1 35)] σ (some (.int (f_X5_size σ))) σ := by
  generalize hF : f_X5_size σ = R
  unfold f_X5_size at hF
  refine mj_of (ls := [(0, .ref (G.2.1 35))]) (by decide) (Nat.le_of_ble_eq_true rfl) rfl (fun p e s m args below meth c C hr hlk => ?_)
  refine mj_aload_n C dX5_size_0 rfl ?_
  refine mg_X5_24 C dX5_size_1 ?_
  subst hF
  exact mj_iret C hr hlk dX5_size_4
set_option maxRecDepth 100000 in
set_option maxHeartbeats 4000000 in
theorem c_X5_add {G : mj_G} {l : Launch} (σ : mj_S) (p1 : Int32) (p2 : Int32) (p3 : Int32) (p4 : Int32) (R : (Int32 × mj_S)) (hF : f_X5_add σ p1 p2 p3 p4 = some R) : mj_C G l yX5_add cX5_add 5 (some .int) 1 [.ref (G.2.1 35), .int p1, .int p2, .int p3, .int p4] σ (some (.int R.1)) R.2 := by
  unfold f_X5_add at hF
  refine mj_of (ls := [(0, .ref (G.2.1 35)), (1, .int p1), (2, .int p2), (3, .int p3), (4, .int p4)]) (by decide) (Nat.le_of_ble_eq_true rfl) rfl (fun p e s m args below meth c C hr hlk => ?_)
  refine mj_aload_n C dX5_add_0 rfl ?_
  refine mg_X5_24 C dX5_add_1 ?_
  refine mj_bipushV (v := 30) C dX5_add_4 mc_b_30 ?_
  refine mj_ic_lt C dX5_add_6 rfl hF (fun hc1 hF => ?_) (fun hc1 hF => ?_)
  · refine mj_aload_n C dX5_add_12 rfl ?_
    refine mg_X5_9 C dX5_add_13 ?_
    refine mj_aload_n C dX5_add_16 rfl ?_
    refine mg_X5_24 C dX5_add_17 ?_
    refine mj_iload_n C dX5_add_20 rfl ?_
    obtain ⟨hg2, hF⟩ := mj_og hF
    refine mj_iastore C dX5_add_21 rfl hg2 ?_
    refine mj_aload_n C dX5_add_22 rfl ?_
    refine mg_X5_15 C dX5_add_23 ?_
    refine mj_aload_n C dX5_add_26 rfl ?_
    refine mg_X5_24 C dX5_add_27 ?_
    refine mj_iload_n C dX5_add_30 rfl ?_
    obtain ⟨hg3, hF⟩ := mj_og hF
    refine mj_iastore C dX5_add_31 rfl hg3 ?_
    refine mj_aload_n C dX5_add_32 rfl ?_
    refine mg_X5_18 C dX5_add_33 ?_
    refine mj_aload_n C dX5_add_36 rfl ?_
    refine mg_X5_24 C dX5_add_37 ?_
    refine mj_iload_n C dX5_add_40 rfl ?_
    obtain ⟨hg4, hF⟩ := mj_og hF
    refine mj_iastore C dX5_add_41 rfl hg4 ?_
    refine mj_aload_n C dX5_add_42 rfl ?_
    refine mg_X5_21 C dX5_add_43 ?_
    refine mj_aload_n C dX5_add_46 rfl ?_
    refine mg_X5_24 C dX5_add_47 ?_
    refine mj_iload C dX5_add_50 rfl ?_
    obtain ⟨hg5, hF⟩ := mj_og hF
    refine mj_iastore C dX5_add_52 rfl hg5 ?_
    refine mj_aload_n C dX5_add_53 rfl ?_
    refine mj_dup C dX5_add_54 rfl ?_
    refine mg_X5_24 C dX5_add_55 ?_
    refine mj_iconstV (v := 1) C dX5_add_58 mc_i_1 ?_
    refine mj_iadd C dX5_add_59 ?_
    refine mp_X5_24 C dX5_add_60 ?_
    refine mj_aload_n C dX5_add_63 rfl ?_
    refine mg_X5_24 C dX5_add_64 ?_
    refine mj_iconstV (v := 1) C dX5_add_67 mc_i_1 ?_
    refine mj_isub C dX5_add_68 ?_
    have hF := mj_oi hF; subst hF
    exact mj_iret C hr hlk dX5_add_69
  · refine mj_bipushV (v := (-3)) C dX5_add_9 mc_b_m3 ?_
    have hF := mj_oi hF; subst hF
    exact mj_iret C hr hlk dX5_add_11
set_option maxRecDepth 100000 in
set_option maxHeartbeats 4000000 in
theorem c_X5_isCovered {G : mj_G} {l : Launch} (σ : mj_S) (p1 : Int32) (R : Int32) (hF : f_X5_isCovered σ p1 = some R) : mj_C G l yX5_isCovered cX5_isCovered 3 (some .boolean) 3 [.ref (G.2.1 35), .int p1] σ (some (.int R)) σ := by
  unfold f_X5_isCovered at hF
  refine mj_of (ls := [(0, .ref (G.2.1 35)), (1, .int p1)]) (by decide) (Nat.le_of_ble_eq_true rfl) rfl (fun p e s m args below meth c C hr hlk => ?_)
  refine mj_aload_n C dX5_isCovered_0 rfl ?_
  refine mj_iload_n C dX5_isCovered_1 rfl ?_
  obtain ⟨r1, hq1, hF⟩ := mj_ob hF
  refine mj_callVi C (c_X5_monthOf σ p1 r1 hq1) yv_X5_monthOf kl_X5_41 (mo_35 G _) rfl rfl rfl rfl (Nat.le_of_ble_eq_true rfl) (mj_roomC (by decide) (by decide)) ⟨Nat.zero_le _, Nat.zero_le _⟩ dX5_isCovered_2 ?_
  refine mj_istore_n C dX5_isCovered_5 (by decide) ?_
  refine mj_iload_n C dX5_isCovered_6 rfl ?_
  refine mj_sipushV (v := 600) C dX5_isCovered_7 mc_s_600 ?_
  refine mj_ic_ne C dX5_isCovered_10 rfl hF (fun hc2 hF => ?_) (fun hc2 hF => ?_)
  · refine mj_iload_n C dX5_isCovered_29 rfl ?_
    refine mj_aload_n C dX5_isCovered_30 rfl ?_
    refine mg_X5_28 C dX5_isCovered_31 ?_
    refine mj_ic_gt C dX5_isCovered_34 rfl hF (fun hc3 hF => ?_) (fun hc3 hF => ?_)
    · refine mj_iconstV (v := 0) C dX5_isCovered_41 mc_i_0 ?_
      have hF := mj_oi hF; subst hF
      exact mj_zret (v := 0) rfl C hr hlk dX5_isCovered_42
    · refine mj_iconstV (v := 1) C dX5_isCovered_37 mc_i_1 ?_
      refine mj_goto C dX5_isCovered_38 rfl ?_
      have hF := mj_oi hF; subst hF
      exact mj_zret (v := 1) rfl C hr hlk dX5_isCovered_42
  · refine mj_iload_n C dX5_isCovered_13 rfl ?_
    refine mj_aload_n C dX5_isCovered_14 rfl ?_
    refine mg_X5_31 C dX5_isCovered_15 ?_
    refine mj_ic_ge C dX5_isCovered_18 rfl hF (fun hc4 hF => ?_) (fun hc4 hF => ?_)
    · refine mj_iconstV (v := 0) C dX5_isCovered_25 mc_i_0 ?_
      refine mj_goto C dX5_isCovered_26 rfl ?_
      have hF := mj_oi hF; subst hF
      exact mj_zret (v := 0) rfl C hr hlk dX5_isCovered_42
    · refine mj_iconstV (v := 1) C dX5_isCovered_21 mc_i_1 ?_
      refine mj_goto C dX5_isCovered_22 rfl ?_
      have hF := mj_oi hF; subst hF
      exact mj_zret (v := 1) rfl C hr hlk dX5_isCovered_42
set_option maxRecDepth 100000 in
set_option maxHeartbeats 4000000 in
theorem c_X5_told {G : mj_G} {l : Launch} (σ : mj_S) (p1 : Int32) (p2 : Int32) (R : Int32) (hF : f_X5_told σ p1 p2 = some R) : mj_C G l yX5_told cX5_told 3 (some .int) 4 [.ref (G.2.1 35), .int p1, .int p2] σ (some (.int R)) σ := by
  unfold f_X5_told at hF
  refine mj_of (ls := [(0, .ref (G.2.1 35)), (1, .int p1), (2, .int p2)]) (by decide) (Nat.le_of_ble_eq_true rfl) rfl (fun p e s m args below meth c C hr hlk => ?_)
  refine mj_iload_n C dX5_told_0 rfl ?_
  by_cases hw1_0 : p2 = 0
  · rw [if_pos hw1_0] at hF
    refine mj_tsIn (off := 35) C dX5_told_1 (by rw [hw1_0]; decide) (by rw [hw1_0]; decide) (by rw [hw1_0]; rfl) rfl ?_
    refine mj_aload_n C dX5_told_36 rfl ?_
    refine mj_iload_n C dX5_told_37 rfl ?_
    obtain ⟨r2, hq2, hF⟩ := mj_ob hF
    refine mj_callVi C (c_X5_heightOf σ p1 r2 hq2) yv_X5_heightOf kl_X5_34 (mo_35 G _) rfl rfl rfl rfl (Nat.le_of_ble_eq_true rfl) (mj_roomC (by decide) (by decide)) ⟨Nat.zero_le _, Nat.zero_le _⟩ dX5_told_38 ?_
    have hF := mj_oi hF; subst hF
    exact mj_iret C hr hlk dX5_told_41
  rw [if_neg hw1_0] at hF
  by_cases hw1_1 : p2 = 1
  · rw [if_pos hw1_1] at hF
    refine mj_tsIn (off := 41) C dX5_told_1 (by rw [hw1_1]; decide) (by rw [hw1_1]; decide) (by rw [hw1_1]; rfl) rfl ?_
    refine mj_aload_n C dX5_told_42 rfl ?_
    refine mj_iload_n C dX5_told_43 rfl ?_
    obtain ⟨r3, hq3, hF⟩ := mj_ob hF
    refine mj_callVi C (c_X5_nameOf σ p1 r3 hq3) yv_X5_nameOf kl_X5_38 (mo_35 G _) rfl rfl rfl rfl (Nat.le_of_ble_eq_true rfl) (mj_roomC (by decide) (by decide)) ⟨Nat.zero_le _, Nat.zero_le _⟩ dX5_told_44 ?_
    have hF := mj_oi hF; subst hF
    exact mj_iret C hr hlk dX5_told_47
  rw [if_neg hw1_1] at hF
  by_cases hw1_2 : p2 = 2
  · rw [if_pos hw1_2] at hF
    refine mj_tsIn (off := 47) C dX5_told_1 (by rw [hw1_2]; decide) (by rw [hw1_2]; decide) (by rw [hw1_2]; rfl) rfl ?_
    refine mj_aload_n C dX5_told_48 rfl ?_
    refine mj_iload_n C dX5_told_49 rfl ?_
    obtain ⟨r4, hq4, hF⟩ := mj_ob hF
    refine mj_callVi C (c_X5_monthOf σ p1 r4 hq4) yv_X5_monthOf kl_X5_41 (mo_35 G _) rfl rfl rfl rfl (Nat.le_of_ble_eq_true rfl) (mj_roomC (by decide) (by decide)) ⟨Nat.zero_le _, Nat.zero_le _⟩ dX5_told_50 ?_
    have hF := mj_oi hF; subst hF
    exact mj_iret C hr hlk dX5_told_53
  rw [if_neg hw1_2] at hF
  by_cases hw1_3 : p2 = 3
  · rw [if_pos hw1_3] at hF
    refine mj_tsIn (off := 53) C dX5_told_1 (by rw [hw1_3]; decide) (by rw [hw1_3]; decide) (by rw [hw1_3]; rfl) rfl ?_
    refine mj_aload_n C dX5_told_54 rfl ?_
    refine mj_iload_n C dX5_told_55 rfl ?_
    obtain ⟨r5, hq5, hF⟩ := mj_ob hF
    refine mj_callVi C (c_X5_wayOf σ p1 r5 hq5) yv_X5_wayOf kl_X5_44 (mo_35 G _) rfl rfl rfl rfl (Nat.le_of_ble_eq_true rfl) (mj_roomC (by decide) (by decide)) ⟨Nat.zero_le _, Nat.zero_le _⟩ dX5_told_56 ?_
    have hF := mj_oi hF; subst hF
    exact mj_iret C hr hlk dX5_told_59
  rw [if_neg hw1_3] at hF
  by_cases hw1_4 : p2 = 4
  · rw [if_pos hw1_4] at hF
    refine mj_tsIn (off := 59) C dX5_told_1 (by rw [hw1_4]; decide) (by rw [hw1_4]; decide) (by rw [hw1_4]; rfl) rfl ?_
    refine mj_aload_n C dX5_told_60 rfl ?_
    refine mj_iload_n C dX5_told_61 rfl ?_
    obtain ⟨r6, hq6, hF⟩ := mj_ob hF
    refine mj_callVi C (c_X5_isCovered σ p1 r6 hq6) yv_X5_isCovered kl_X5_47 (mo_35 G _) rfl rfl rfl rfl (Nat.le_of_ble_eq_true rfl) (mj_roomC (by decide) (by decide)) ⟨Nat.zero_le _, Nat.zero_le _⟩ dX5_told_62 ?_
    refine mj_if_eq C dX5_told_65 rfl hF (fun hc7 hF => ?_) (fun hc7 hF => ?_)
    · refine mj_iconstV (v := 0) C dX5_told_72 mc_i_0 ?_
      have hF := mj_oi hF; subst hF
      exact mj_iret C hr hlk dX5_told_73
    · refine mj_iconstV (v := 1) C dX5_told_68 mc_i_1 ?_
      refine mj_goto C dX5_told_69 rfl ?_
      have hF := mj_oi hF; subst hF
      exact mj_iret C hr hlk dX5_told_73
  rw [if_neg hw1_4] at hF
  refine mj_tsOut C dX5_told_1 (mj_sw_0_5 hw1_0 hw1_1 hw1_2 hw1_3 hw1_4) rfl ?_
  refine mj_ldc C dX5_told_74 kc_X5_51 ?_
  have hF := mj_oi hF; subst hF
  exact mj_iret C hr hlk dX5_told_76
set_option maxRecDepth 100000 in
set_option maxHeartbeats 4000000 in
theorem c_X5_cover {G : mj_G} {l : Launch} (σ : mj_S) (p1 : Int32) : mj_C G l yX5_cover cX5_cover 2 (none) 1 [.ref (G.2.1 35), .int p1] σ none (f_X5_cover σ p1) := by
  generalize hF : f_X5_cover σ p1 = R
  unfold f_X5_cover at hF
  refine mj_of (ls := [(0, .ref (G.2.1 35)), (1, .int p1)]) (by decide) (Nat.le_of_ble_eq_true rfl) rfl (fun p e s m args below meth c C hr hlk => ?_)
  refine mj_aload_n C dX5_cover_0 rfl ?_
  refine mj_aload_n C dX5_cover_1 rfl ?_
  refine mg_X5_28 C dX5_cover_2 ?_
  refine mj_iload_n C dX5_cover_5 rfl ?_
  refine mj_mmax C kl_X5_55 (mj_room13 (by decide) (Nat.le_of_ble_eq_true rfl)) ⟨Nat.zero_le _, Nat.zero_le _⟩ dX5_cover_6 ?_
  refine mp_X5_28 C dX5_cover_9 ?_
  refine mj_aload_n C dX5_cover_12 rfl ?_
  refine mj_aload_n C dX5_cover_13 rfl ?_
  refine mg_X5_24 C dX5_cover_14 ?_
  refine mp_X5_31 C dX5_cover_17 ?_
  subst hF
  exact mj_vret C hr hlk dX5_cover_20
set_option maxRecDepth 100000 in
set_option maxHeartbeats 4000000 in
theorem w_X5_covered_4 {p : Program} {l : Launch} {e : Env} {s : State} {m : MethodId} {args : Array Value} {below : List Frame} {meth : Method} {c : Code} {G : mj_G} {σ : mj_S} (C : mj_X p s m args meth c G cX5_covered 3 RX5) (hr : meth.sig.returnType = some .int) (hlk : meth.locks = false) : ∀ (n : Nat) (v1 : Int32) (v2 : Int32) (R : Int32), b_X5_covered_4 σ n v1 v2 = some R → mj_W p l e (mj_rm 4) s m args below meth c G 0 0 3 (MQ below (mj_Q G (some (.int R)) σ) args s 0 0 G.2.2.2) 4 [(0, .ref (G.2.1 35)), (1, .int v1), (2, .int v2)] [] σ := by
  intro n
  induction n with
  | zero =>
    intro v1 v2 R hF
    cases hF
  | succ n ih =>
    intro v1 v2 R hF
    rw [b_X5_covered_4] at hF
    refine mj_iload_n C dX5_covered_4 rfl ?_
    refine mj_aload_n C dX5_covered_5 rfl ?_
    refine mg_X5_24 C dX5_covered_6 ?_
    refine mj_ic_ge C dX5_covered_9 rfl hF (fun hc1 hF => ?_) (fun hc1 hF => ?_)
    · refine mj_iload_n C dX5_covered_29 rfl ?_
      have hF := mj_oi hF; subst hF
      exact mj_iret C hr hlk dX5_covered_30
    · refine mj_aload_n C dX5_covered_12 rfl ?_
      refine mj_iload_n C dX5_covered_13 rfl ?_
      obtain ⟨r2, hq2, hF⟩ := mj_ob hF
      refine mj_callVi C (c_X5_isCovered σ v2 r2 hq2) yv_X5_isCovered kl_X5_47 (mo_35 G _) rfl rfl rfl rfl (Nat.le_of_ble_eq_true rfl) (mj_roomC (by decide) (by decide)) ⟨Nat.zero_le _, Nat.zero_le _⟩ dX5_covered_14 ?_
      refine mj_if_eq C dX5_covered_17 rfl hF (fun hc3 hF => ?_) (fun hc3 hF => ?_)
      · refine mj_iinc (v := v2 + 1) C dX5_covered_23 rfl rfl (by decide) ?_
        refine mj_goto C dX5_covered_26 rfl ?_
        refine mj_to ?_ (ih v1 (v2 + 1) R hF)
        exact ⟨rfl, rfl, rfl, trivial⟩
      · refine mj_iinc (v := v1 + 1) C dX5_covered_20 rfl rfl (by decide) ?_
        refine mj_iinc (v := v2 + 1) C dX5_covered_23 rfl rfl (by decide) ?_
        refine mj_goto C dX5_covered_26 rfl ?_
        refine mj_to ?_ (ih (v1 + 1) (v2 + 1) R hF)
        exact ⟨rfl, rfl, rfl, trivial⟩
set_option maxRecDepth 100000 in
set_option maxHeartbeats 4000000 in
theorem c_X5_covered {G : mj_G} {l : Launch} (σ : mj_S) (R : Int32) (hF : f_X5_covered σ = some R) : mj_C G l yX5_covered cX5_covered 3 (some .int) 4 [.ref (G.2.1 35)] σ (some (.int R)) σ := by
  unfold f_X5_covered at hF
  refine mj_of (ls := [(0, .ref (G.2.1 35))]) (by decide) (Nat.le_of_ble_eq_true rfl) rfl (fun p e s m args below meth c C hr hlk => ?_)
  refine mj_iconstV (v := 0) C dX5_covered_0 mc_i_0 ?_
  refine mj_istore_n C dX5_covered_1 (by decide) ?_
  refine mj_iconstV (v := 0) C dX5_covered_2 mc_i_0 ?_
  refine mj_istore_n C dX5_covered_3 (by decide) ?_
  refine mj_to ?_ (w_X5_covered_4 C hr hlk mj_fu 0 0 R hF)
  exact ⟨rfl, rfl, rfl, trivial⟩
set_option maxRecDepth 100000 in
set_option maxHeartbeats 4000000 in
theorem c_X5_isToldOf {G : mj_G} {l : Launch} (σ : mj_S) (p1 : Int32) (p2 : Int32) (R : Int32) (hF : f_X5_isToldOf σ p1 p2 = some R) : mj_C G l yX5_isToldOf cX5_isToldOf 3 (some .boolean) 3 [.ref (G.2.1 35), .int p1, .int p2] σ (some (.int R)) σ := by
  unfold f_X5_isToldOf at hF
  refine mj_of (ls := [(0, .ref (G.2.1 35)), (1, .int p1), (2, .int p2)]) (by decide) (Nat.le_of_ble_eq_true rfl) rfl (fun p e s m args below meth c C hr hlk => ?_)
  refine mj_aload_n C dX5_isToldOf_0 rfl ?_
  refine mj_iload_n C dX5_isToldOf_1 rfl ?_
  obtain ⟨r1, hq1, hF⟩ := mj_ob hF
  refine mj_callVi C (c_X5_nameOf σ p1 r1 hq1) yv_X5_nameOf kl_X5_38 (mo_35 G _) rfl rfl rfl rfl (Nat.le_of_ble_eq_true rfl) (mj_roomC (by decide) (by decide)) ⟨Nat.zero_le _, Nat.zero_le _⟩ dX5_isToldOf_2 ?_
  refine mj_iload_n C dX5_isToldOf_5 rfl ?_
  refine mj_ic_ne C dX5_isToldOf_6 rfl hF (fun hc2 hF => ?_) (fun hc2 hF => ?_)
  · refine mj_iconstV (v := 0) C dX5_isToldOf_24 mc_i_0 ?_
    have hF := mj_oi hF; subst hF
    exact mj_zret (v := 0) rfl C hr hlk dX5_isToldOf_25
  · refine mj_aload_n C dX5_isToldOf_9 rfl ?_
    refine mj_iload_n C dX5_isToldOf_10 rfl ?_
    obtain ⟨r3, hq3, hF⟩ := mj_ob hF
    refine mj_callVi C (c_X5_monthOf σ p1 r3 hq3) yv_X5_monthOf kl_X5_41 (mo_35 G _) rfl rfl rfl rfl (Nat.le_of_ble_eq_true rfl) (mj_roomC (by decide) (by decide)) ⟨Nat.zero_le _, Nat.zero_le _⟩ dX5_isToldOf_11 ?_
    refine mj_sipushV (v := 600) C dX5_isToldOf_14 mc_s_600 ?_
    refine mj_ic_eq C dX5_isToldOf_17 rfl hF (fun hc4 hF => ?_) (fun hc4 hF => ?_)
    · refine mj_iconstV (v := 0) C dX5_isToldOf_24 mc_i_0 ?_
      have hF := mj_oi hF; subst hF
      exact mj_zret (v := 0) rfl C hr hlk dX5_isToldOf_25
    · refine mj_iconstV (v := 1) C dX5_isToldOf_20 mc_i_1 ?_
      refine mj_goto C dX5_isToldOf_21 rfl ?_
      have hF := mj_oi hF; subst hF
      exact mj_zret (v := 1) rfl C hr hlk dX5_isToldOf_25
set_option maxRecDepth 100000 in
set_option maxHeartbeats 4000000 in
theorem w_X5_isTurned_13 {p : Program} {l : Launch} {e : Env} {s : State} {m : MethodId} {args : Array Value} {below : List Frame} {meth : Method} {c : Code} {G : mj_G} {σ : mj_S} (C : mj_X p s m args meth c G cX5_isTurned 4 RX5) (hr : meth.sig.returnType = some .boolean) (hlk : meth.locks = false) : ∀ (n : Nat) (v1 : Int32) (v2 : Int32) (v3 : Int32) (R : Int32), b_X5_isTurned_13 σ n v1 v2 v3 = some R → mj_W p l e (mj_rm 4) s m args below meth c G 0 0 4 (MQ below (mj_Q G (some (.int R)) σ) args s 0 0 G.2.2.2) 13 [(0, .ref (G.2.1 35)), (1, .int v1), (2, .int v2), (3, .int v3)] [] σ := by
  intro n
  induction n with
  | zero =>
    intro v1 v2 v3 R hF
    cases hF
  | succ n ih =>
    intro v1 v2 v3 R hF
    rw [b_X5_isTurned_13] at hF
    refine mj_iload_n C dX5_isTurned_13 rfl ?_
    refine mj_aload_n C dX5_isTurned_14 rfl ?_
    refine mg_X5_24 C dX5_isTurned_15 ?_
    refine mj_ic_ge C dX5_isTurned_18 rfl hF (fun hc3 hF => ?_) (fun hc3 hF => ?_)
    · refine mj_iconstV (v := 0) C dX5_isTurned_64 mc_i_0 ?_
      have hF := mj_oi hF; subst hF
      exact mj_zret (v := 0) rfl C hr hlk dX5_isTurned_65
    · refine mj_aload_n C dX5_isTurned_21 rfl ?_
      refine mj_iload_n C dX5_isTurned_22 rfl ?_
      refine mj_iload_n C dX5_isTurned_23 rfl ?_
      obtain ⟨r4, hq4, hF⟩ := mj_ob hF
      refine mj_callVi C (c_X5_isToldOf σ v3 v2 r4 hq4) yv_X5_isToldOf kl_X5_65 (mo_35 G _) rfl rfl rfl rfl (Nat.le_of_ble_eq_true rfl) (mj_roomC (by decide) (by decide)) ⟨Nat.zero_le _, Nat.zero_le _⟩ dX5_isTurned_24 ?_
      refine mj_if_eq C dX5_isTurned_27 rfl hF (fun hc5 hF => ?_) (fun hc5 hF => ?_)
      · refine mj_iinc (v := v3 + 1) C dX5_isTurned_58 rfl rfl (by decide) ?_
        refine mj_goto C dX5_isTurned_61 rfl ?_
        refine mj_to ?_ (ih v1 v2 (v3 + 1) R hF)
        exact ⟨rfl, rfl, rfl, rfl, trivial⟩
      · refine mj_aload_n C dX5_isTurned_30 rfl ?_
        refine mj_iload_n C dX5_isTurned_31 rfl ?_
        obtain ⟨r6, hq6, hF⟩ := mj_ob hF
        refine mj_callVi C (c_X5_monthOf σ v3 r6 hq6) yv_X5_monthOf kl_X5_41 (mo_35 G _) rfl rfl rfl rfl (Nat.le_of_ble_eq_true rfl) (mj_roomC (by decide) (by decide)) ⟨Nat.zero_le _, Nat.zero_le _⟩ dX5_isTurned_32 ?_
        refine mj_aload_n C dX5_isTurned_35 rfl ?_
        refine mj_iload_n C dX5_isTurned_36 rfl ?_
        obtain ⟨r7, hq7, hF⟩ := mj_ob hF
        refine mj_callVi C (c_X5_monthOf σ v1 r7 hq7) yv_X5_monthOf kl_X5_41 (mo_35 G _) rfl rfl rfl rfl (Nat.le_of_ble_eq_true rfl) (mj_roomC (by decide) (by decide)) ⟨Nat.zero_le _, Nat.zero_le _⟩ dX5_isTurned_37 ?_
        refine mj_ic_ge C dX5_isTurned_40 rfl hF (fun hc8 hF => ?_) (fun hc8 hF => ?_)
        · refine mj_iinc (v := v3 + 1) C dX5_isTurned_58 rfl rfl (by decide) ?_
          refine mj_goto C dX5_isTurned_61 rfl ?_
          refine mj_to ?_ (ih v1 v2 (v3 + 1) R hF)
          exact ⟨rfl, rfl, rfl, rfl, trivial⟩
        · refine mj_aload_n C dX5_isTurned_43 rfl ?_
          refine mj_iload_n C dX5_isTurned_44 rfl ?_
          obtain ⟨r9, hq9, hF⟩ := mj_ob hF
          refine mj_callVi C (c_X5_heightOf σ v1 r9 hq9) yv_X5_heightOf kl_X5_34 (mo_35 G _) rfl rfl rfl rfl (Nat.le_of_ble_eq_true rfl) (mj_roomC (by decide) (by decide)) ⟨Nat.zero_le _, Nat.zero_le _⟩ dX5_isTurned_45 ?_
          refine mj_aload_n C dX5_isTurned_48 rfl ?_
          refine mj_iload_n C dX5_isTurned_49 rfl ?_
          obtain ⟨r10, hq10, hF⟩ := mj_ob hF
          refine mj_callVi C (c_X5_heightOf σ v3 r10 hq10) yv_X5_heightOf kl_X5_34 (mo_35 G _) rfl rfl rfl rfl (Nat.le_of_ble_eq_true rfl) (mj_roomC (by decide) (by decide)) ⟨Nat.zero_le _, Nat.zero_le _⟩ dX5_isTurned_50 ?_
          refine mj_ic_gt C dX5_isTurned_53 rfl hF (fun hc11 hF => ?_) (fun hc11 hF => ?_)
          · refine mj_iinc (v := v3 + 1) C dX5_isTurned_58 rfl rfl (by decide) ?_
            refine mj_goto C dX5_isTurned_61 rfl ?_
            refine mj_to ?_ (ih v1 v2 (v3 + 1) R hF)
            exact ⟨rfl, rfl, rfl, rfl, trivial⟩
          · refine mj_iconstV (v := 1) C dX5_isTurned_56 mc_i_1 ?_
            have hF := mj_oi hF; subst hF
            exact mj_zret (v := 1) rfl C hr hlk dX5_isTurned_57
set_option maxRecDepth 100000 in
set_option maxHeartbeats 4000000 in
theorem c_X5_isTurned {G : mj_G} {l : Launch} (σ : mj_S) (p1 : Int32) (p2 : Int32) (R : Int32) (hF : f_X5_isTurned σ p1 p2 = some R) : mj_C G l yX5_isTurned cX5_isTurned 4 (some .boolean) 4 [.ref (G.2.1 35), .int p1, .int p2] σ (some (.int R)) σ := by
  unfold f_X5_isTurned at hF
  refine mj_of (ls := [(0, .ref (G.2.1 35)), (1, .int p1), (2, .int p2)]) (by decide) (Nat.le_of_ble_eq_true rfl) rfl (fun p e s m args below meth c C hr hlk => ?_)
  refine mj_aload_n C dX5_isTurned_0 rfl ?_
  refine mj_iload_n C dX5_isTurned_1 rfl ?_
  refine mj_iload_n C dX5_isTurned_2 rfl ?_
  obtain ⟨r1, hq1, hF⟩ := mj_ob hF
  refine mj_callVi C (c_X5_isToldOf σ p1 p2 r1 hq1) yv_X5_isToldOf kl_X5_65 (mo_35 G _) rfl rfl rfl rfl (Nat.le_of_ble_eq_true rfl) (mj_roomC (by decide) (by decide)) ⟨Nat.zero_le _, Nat.zero_le _⟩ dX5_isTurned_3 ?_
  refine mj_if_ne C dX5_isTurned_6 rfl hF (fun hc2 hF => ?_) (fun hc2 hF => ?_)
  · refine mj_iconstV (v := 0) C dX5_isTurned_11 mc_i_0 ?_
    refine mj_istore_n C dX5_isTurned_12 (by decide) ?_
    refine mj_to ?_ (w_X5_isTurned_13 C hr hlk mj_fu p1 p2 0 R hF)
    exact ⟨rfl, rfl, rfl, rfl, trivial⟩
  · refine mj_iconstV (v := 0) C dX5_isTurned_9 mc_i_0 ?_
    have hF := mj_oi hF; subst hF
    exact mj_zret (v := 0) rfl C hr hlk dX5_isTurned_10
set_option maxRecDepth 100000 in
set_option maxHeartbeats 4000000 in
theorem w_X5_turnedMarks_4 {p : Program} {l : Launch} {e : Env} {s : State} {m : MethodId} {args : Array Value} {below : List Frame} {meth : Method} {c : Code} {G : mj_G} {σ : mj_S} (C : mj_X p s m args meth c G cX5_turnedMarks 4 RX5) (hr : meth.sig.returnType = some .int) (hlk : meth.locks = false) : ∀ (n : Nat) (v1 : Int32) (v2 : Int32) (v3 : Int32) (R : Int32), b_X5_turnedMarks_4 σ n v1 v2 v3 = some R → mj_W p l e (mj_rm 5) s m args below meth c G 0 0 4 (MQ below (mj_Q G (some (.int R)) σ) args s 0 0 G.2.2.2) 4 [(0, .ref (G.2.1 35)), (1, .int v1), (2, .int v2), (3, .int v3)] [] σ := by
  intro n
  induction n with
  | zero =>
    intro v1 v2 v3 R hF
    cases hF
  | succ n ih =>
    intro v1 v2 v3 R hF
    rw [b_X5_turnedMarks_4] at hF
    refine mj_iload_n C dX5_turnedMarks_4 rfl ?_
    refine mj_aload_n C dX5_turnedMarks_5 rfl ?_
    refine mg_X5_24 C dX5_turnedMarks_6 ?_
    refine mj_ic_ge C dX5_turnedMarks_9 rfl hF (fun hc1 hF => ?_) (fun hc1 hF => ?_)
    · refine mj_iload_n C dX5_turnedMarks_30 rfl ?_
      have hF := mj_oi hF; subst hF
      exact mj_iret C hr hlk dX5_turnedMarks_31
    · refine mj_aload_n C dX5_turnedMarks_12 rfl ?_
      refine mj_iload_n C dX5_turnedMarks_13 rfl ?_
      refine mj_iload_n C dX5_turnedMarks_14 rfl ?_
      obtain ⟨r2, hq2, hF⟩ := mj_ob hF
      refine mj_callVi C (c_X5_isTurned σ v3 v1 r2 hq2) yv_X5_isTurned kl_X5_61 (mo_35 G _) rfl rfl rfl rfl (Nat.le_of_ble_eq_true rfl) (mj_roomC (by decide) (by decide)) ⟨Nat.zero_le _, Nat.zero_le _⟩ dX5_turnedMarks_15 ?_
      refine mj_if_eq C dX5_turnedMarks_18 rfl hF (fun hc3 hF => ?_) (fun hc3 hF => ?_)
      · refine mj_iinc (v := v3 + 1) C dX5_turnedMarks_24 rfl rfl (by decide) ?_
        refine mj_goto C dX5_turnedMarks_27 rfl ?_
        refine mj_to ?_ (ih v1 v2 (v3 + 1) R hF)
        exact ⟨rfl, rfl, rfl, rfl, trivial⟩
      · refine mj_iinc (v := v2 + 1) C dX5_turnedMarks_21 rfl rfl (by decide) ?_
        refine mj_iinc (v := v3 + 1) C dX5_turnedMarks_24 rfl rfl (by decide) ?_
        refine mj_goto C dX5_turnedMarks_27 rfl ?_
        refine mj_to ?_ (ih v1 (v2 + 1) (v3 + 1) R hF)
        exact ⟨rfl, rfl, rfl, rfl, trivial⟩
set_option maxRecDepth 100000 in
set_option maxHeartbeats 4000000 in
theorem c_X5_turnedMarks {G : mj_G} {l : Launch} (σ : mj_S) (p1 : Int32) (R : Int32) (hF : f_X5_turnedMarks σ p1 = some R) : mj_C G l yX5_turnedMarks cX5_turnedMarks 4 (some .int) 5 [.ref (G.2.1 35), .int p1] σ (some (.int R)) σ := by
  unfold f_X5_turnedMarks at hF
  refine mj_of (ls := [(0, .ref (G.2.1 35)), (1, .int p1)]) (by decide) (Nat.le_of_ble_eq_true rfl) rfl (fun p e s m args below meth c C hr hlk => ?_)
  refine mj_iconstV (v := 0) C dX5_turnedMarks_0 mc_i_0 ?_
  refine mj_istore_n C dX5_turnedMarks_1 (by decide) ?_
  refine mj_iconstV (v := 0) C dX5_turnedMarks_2 mc_i_0 ?_
  refine mj_istore_n C dX5_turnedMarks_3 (by decide) ?_
  refine mj_to ?_ (w_X5_turnedMarks_4 C hr hlk mj_fu p1 0 0 R hF)
  exact ⟨rfl, rfl, rfl, rfl, trivial⟩
set_option maxRecDepth 100000 in
set_option maxHeartbeats 4000000 in
theorem w_X5_firstTurned_2 {p : Program} {l : Launch} {e : Env} {s : State} {m : MethodId} {args : Array Value} {below : List Frame} {meth : Method} {c : Code} {G : mj_G} {σ : mj_S} (C : mj_X p s m args meth c G cX5_firstTurned 3 RX5) (hr : meth.sig.returnType = some .int) (hlk : meth.locks = false) : ∀ (n : Nat) (v1 : Int32) (v2 : Int32) (R : Int32), b_X5_firstTurned_2 σ n v1 v2 = some R → mj_W p l e (mj_rm 5) s m args below meth c G 0 0 3 (MQ below (mj_Q G (some (.int R)) σ) args s 0 0 G.2.2.2) 2 [(0, .ref (G.2.1 35)), (1, .int v1), (2, .int v2)] [] σ := by
  intro n
  induction n with
  | zero =>
    intro v1 v2 R hF
    cases hF
  | succ n ih =>
    intro v1 v2 R hF
    rw [b_X5_firstTurned_2] at hF
    refine mj_iload_n C dX5_firstTurned_2 rfl ?_
    refine mj_aload_n C dX5_firstTurned_3 rfl ?_
    refine mg_X5_24 C dX5_firstTurned_4 ?_
    refine mj_ic_ge C dX5_firstTurned_7 rfl hF (fun hc1 hF => ?_) (fun hc1 hF => ?_)
    · refine mj_bipushV (v := (-2)) C dX5_firstTurned_27 mc_b_m2 ?_
      have hF := mj_oi hF; subst hF
      exact mj_iret C hr hlk dX5_firstTurned_29
    · refine mj_aload_n C dX5_firstTurned_10 rfl ?_
      refine mj_iload_n C dX5_firstTurned_11 rfl ?_
      refine mj_iload_n C dX5_firstTurned_12 rfl ?_
      obtain ⟨r2, hq2, hF⟩ := mj_ob hF
      refine mj_callVi C (c_X5_isTurned σ v2 v1 r2 hq2) yv_X5_isTurned kl_X5_61 (mo_35 G _) rfl rfl rfl rfl (Nat.le_of_ble_eq_true rfl) (mj_roomC (by decide) (by decide)) ⟨Nat.zero_le _, Nat.zero_le _⟩ dX5_firstTurned_13 ?_
      refine mj_if_eq C dX5_firstTurned_16 rfl hF (fun hc3 hF => ?_) (fun hc3 hF => ?_)
      · refine mj_iinc (v := v2 + 1) C dX5_firstTurned_21 rfl rfl (by decide) ?_
        refine mj_goto C dX5_firstTurned_24 rfl ?_
        refine mj_to ?_ (ih v1 (v2 + 1) R hF)
        exact ⟨rfl, rfl, rfl, trivial⟩
      · refine mj_iload_n C dX5_firstTurned_19 rfl ?_
        have hF := mj_oi hF; subst hF
        exact mj_iret C hr hlk dX5_firstTurned_20
set_option maxRecDepth 100000 in
set_option maxHeartbeats 4000000 in
theorem c_X5_firstTurned {G : mj_G} {l : Launch} (σ : mj_S) (p1 : Int32) (R : Int32) (hF : f_X5_firstTurned σ p1 = some R) : mj_C G l yX5_firstTurned cX5_firstTurned 3 (some .int) 5 [.ref (G.2.1 35), .int p1] σ (some (.int R)) σ := by
  unfold f_X5_firstTurned at hF
  refine mj_of (ls := [(0, .ref (G.2.1 35)), (1, .int p1)]) (by decide) (Nat.le_of_ble_eq_true rfl) rfl (fun p e s m args below meth c C hr hlk => ?_)
  refine mj_iconstV (v := 0) C dX5_firstTurned_0 mc_i_0 ?_
  refine mj_istore_n C dX5_firstTurned_1 (by decide) ?_
  refine mj_to ?_ (w_X5_firstTurned_2 C hr hlk mj_fu p1 0 R hF)
  exact ⟨rfl, rfl, rfl, trivial⟩
