set_option maxRecDepth 100000 in
set_option maxHeartbeats 4000000 in
theorem c_X9_within {G : mj_G} {l : Launch} (σ : mj_S) (p0 : Int32) (p1 : Int32) (p2 : Int32) : mj_C G l yX9_within cX9_within 3 (some .boolean) 1 [.int p0, .int p1, .int p2] σ (some (.int (f_X9_within σ p0 p1 p2))) σ := by
  generalize hF : f_X9_within σ p0 p1 p2 = R
  unfold f_X9_within at hF
  refine mj_of (ls := [(0, .int p0), (1, .int p1), (2, .int p2)]) (by decide) (Nat.le_of_ble_eq_true rfl) rfl (fun p e s m args below meth c C hr hlk => ?_)
  refine mj_iload_n C dX9_within_0 rfl ?_
  refine mj_iload_n C dX9_within_1 rfl ?_
  refine mj_ic_gt C dX9_within_2 rfl hF (fun hc1 hF => ?_) (fun hc1 hF => ?_)
  · refine mj_iconstV (v := 0) C dX9_within_14 mc_i_0 ?_
    subst hF
    exact mj_zret (v := 0) rfl C hr hlk dX9_within_15
  · refine mj_iload_n C dX9_within_5 rfl ?_
    refine mj_iload_n C dX9_within_6 rfl ?_
    refine mj_ic_gt C dX9_within_7 rfl hF (fun hc2 hF => ?_) (fun hc2 hF => ?_)
    · refine mj_iconstV (v := 0) C dX9_within_14 mc_i_0 ?_
      subst hF
      exact mj_zret (v := 0) rfl C hr hlk dX9_within_15
    · refine mj_iconstV (v := 1) C dX9_within_10 mc_i_1 ?_
      refine mj_goto C dX9_within_11 rfl ?_
      subst hF
      exact mj_zret (v := 1) rfl C hr hlk dX9_within_15
set_option maxRecDepth 100000 in
set_option maxHeartbeats 4000000 in
theorem c_X9_isMonth {G : mj_G} {l : Launch} (σ : mj_S) (p0 : Int32) : mj_C G l yX9_isMonth cX9_isMonth 1 (some .boolean) 2 [.int p0] σ (some (.int (f_X9_isMonth σ p0))) σ := by
  generalize hF : f_X9_isMonth σ p0 = R
  unfold f_X9_isMonth at hF
  refine mj_of (ls := [(0, .int p0)]) (by decide) (Nat.le_of_ble_eq_true rfl) rfl (fun p e s m args below meth c C hr hlk => ?_)
  refine mj_iload_n C dX9_isMonth_0 rfl ?_
  refine mj_iconstV (v := 0) C dX9_isMonth_1 mc_i_0 ?_
  refine mj_sipushV (v := 599) C dX9_isMonth_2 mc_s_599 ?_
  refine mj_callSi C (c_X9_within σ p0 0 599) ys_X9_within kl_X9_82 rfl rfl (Nat.le_of_ble_eq_true rfl) (mj_roomC (by decide) (by decide)) ⟨Nat.zero_le _, Nat.zero_le _⟩ dX9_isMonth_5 ?_
  subst hF
  exact mj_zbret C hr hlk dX9_isMonth_8
set_option maxRecDepth 100000 in
set_option maxHeartbeats 4000000 in
theorem c_X9_isLate {G : mj_G} {l : Launch} (σ : mj_S) (p0 : Int32) : mj_C G l yX9_isLate cX9_isLate 1 (some .boolean) 2 [.int p0] σ (some (.int (f_X9_isLate σ p0))) σ := by
  generalize hF : f_X9_isLate σ p0 = R
  unfold f_X9_isLate at hF
  refine mj_of (ls := [(0, .int p0)]) (by decide) (Nat.le_of_ble_eq_true rfl) rfl (fun p e s m args below meth c C hr hlk => ?_)
  refine mj_iload_n C dX9_isLate_0 rfl ?_
  refine mj_bipushV (v := (-24)) C dX9_isLate_1 mc_b_m24 ?_
  refine mj_bipushV (v := 24) C dX9_isLate_3 mc_b_24 ?_
  refine mj_callSi C (c_X9_within σ p0 (-24) 24) ys_X9_within kl_X9_82 rfl rfl (Nat.le_of_ble_eq_true rfl) (mj_roomC (by decide) (by decide)) ⟨Nat.zero_le _, Nat.zero_le _⟩ dX9_isLate_5 ?_
  subst hF
  exact mj_zbret C hr hlk dX9_isLate_8
set_option maxRecDepth 100000 in
set_option maxHeartbeats 4000000 in
theorem c_X9_isParents {G : mj_G} {l : Launch} (σ : mj_S) (p0 : Int32) : mj_C G l yX9_isParents cX9_isParents 1 (some .boolean) 2 [.int p0] σ (some (.int (f_X9_isParents σ p0))) σ := by
  generalize hF : f_X9_isParents σ p0 = R
  unfold f_X9_isParents at hF
  refine mj_of (ls := [(0, .int p0)]) (by decide) (Nat.le_of_ble_eq_true rfl) rfl (fun p e s m args below meth c C hr hlk => ?_)
  refine mj_iload_n C dX9_isParents_0 rfl ?_
  refine mj_sipushV (v := 3000) C dX9_isParents_1 mc_s_3000 ?_
  refine mj_sipushV (v := 6000) C dX9_isParents_4 mc_s_6000 ?_
  refine mj_callSi C (c_X9_within σ p0 3000 6000) ys_X9_within kl_X9_82 rfl rfl (Nat.le_of_ble_eq_true rfl) (mj_roomC (by decide) (by decide)) ⟨Nat.zero_le _, Nat.zero_le _⟩ dX9_isParents_7 ?_
  subst hF
  exact mj_zbret C hr hlk dX9_isParents_10
set_option maxRecDepth 100000 in
set_option maxHeartbeats 4000000 in
theorem c_X9_isSpan {G : mj_G} {l : Launch} (σ : mj_S) (p0 : Int32) : mj_C G l yX9_isSpan cX9_isSpan 1 (some .boolean) 3 [.int p0] σ (some (.int (f_X9_isSpan σ p0))) σ := by
  generalize hF : f_X9_isSpan σ p0 = R
  unfold f_X9_isSpan at hF
  refine mj_of (ls := [(0, .int p0)]) (by decide) (Nat.le_of_ble_eq_true rfl) rfl (fun p e s m args below meth c C hr hlk => ?_)
  refine mj_iload_n C dX9_isSpan_0 rfl ?_
  refine mj_if_lt C dX9_isSpan_1 rfl hF (fun hc1 hF => ?_) (fun hc1 hF => ?_)
  · refine mj_iconstV (v := 0) C dX9_isSpan_43 mc_i_0 ?_
    subst hF
    exact mj_zret (v := 0) rfl C hr hlk dX9_isSpan_44
  · refine mj_iload_n C dX9_isSpan_4 rfl ?_
    refine mj_sipushV (v := 1000) C dX9_isSpan_5 mc_s_1000 ?_
    refine mj_idiv C dX9_isSpan_8 (by decide) ?_
    refine mj_callSi C (c_X9_isMonth σ (p0 / 1000)) ys_X9_isMonth kl_X9_78 rfl rfl (Nat.le_of_ble_eq_true rfl) (mj_roomC (by decide) (by decide)) ⟨Nat.zero_le _, Nat.zero_le _⟩ dX9_isSpan_9 ?_
    refine mj_if_eq C dX9_isSpan_12 rfl hF (fun hc2 hF => ?_) (fun hc2 hF => ?_)
    · refine mj_iconstV (v := 0) C dX9_isSpan_43 mc_i_0 ?_
      subst hF
      exact mj_zret (v := 0) rfl C hr hlk dX9_isSpan_44
    · refine mj_iload_n C dX9_isSpan_15 rfl ?_
      refine mj_sipushV (v := 1000) C dX9_isSpan_16 mc_s_1000 ?_
      refine mj_irem C dX9_isSpan_19 (by decide) ?_
      refine mj_callSi C (c_X9_isMonth σ (mj_rem p0 1000)) ys_X9_isMonth kl_X9_78 rfl rfl (Nat.le_of_ble_eq_true rfl) (mj_roomC (by decide) (by decide)) ⟨Nat.zero_le _, Nat.zero_le _⟩ dX9_isSpan_20 ?_
      refine mj_if_eq C dX9_isSpan_23 rfl hF (fun hc3 hF => ?_) (fun hc3 hF => ?_)
      · refine mj_iconstV (v := 0) C dX9_isSpan_43 mc_i_0 ?_
        subst hF
        exact mj_zret (v := 0) rfl C hr hlk dX9_isSpan_44
      · refine mj_iload_n C dX9_isSpan_26 rfl ?_
        refine mj_sipushV (v := 1000) C dX9_isSpan_27 mc_s_1000 ?_
        refine mj_idiv C dX9_isSpan_30 (by decide) ?_
        refine mj_iload_n C dX9_isSpan_31 rfl ?_
        refine mj_sipushV (v := 1000) C dX9_isSpan_32 mc_s_1000 ?_
        refine mj_irem C dX9_isSpan_35 (by decide) ?_
        refine mj_ic_gt C dX9_isSpan_36 rfl hF (fun hc4 hF => ?_) (fun hc4 hF => ?_)
        · refine mj_iconstV (v := 0) C dX9_isSpan_43 mc_i_0 ?_
          subst hF
          exact mj_zret (v := 0) rfl C hr hlk dX9_isSpan_44
        · refine mj_iconstV (v := 1) C dX9_isSpan_39 mc_i_1 ?_
          refine mj_goto C dX9_isSpan_40 rfl ?_
          subst hF
          exact mj_zret (v := 1) rfl C hr hlk dX9_isSpan_44
set_option maxRecDepth 100000 in
set_option maxHeartbeats 4000000 in
theorem c_X9_feed {G : mj_G} {l : Launch} (σ : mj_S) (p1 : Int32) (R : (Int32 × mj_S)) (hF : f_X9_feed σ p1 = some R) : mj_C G l yX9_feed cX9_feed 2 (some .int) 2 [.ref (G.2.1 0), .int p1] σ (some (.int R.1)) R.2 := by
  unfold f_X9_feed at hF
  refine mj_of (ls := [(0, .ref (G.2.1 0)), (1, .int p1)]) (by decide) (Nat.le_of_ble_eq_true rfl) rfl (fun p e s m args below meth c C hr hlk => ?_)
  refine mj_iload_n C dX9_feed_0 rfl ?_
  refine mj_iconstV (v := 0) C dX9_feed_1 mc_i_0 ?_
  refine mj_sipushV (v := 255) C dX9_feed_2 mc_s_255 ?_
  refine mj_callSi C (c_X9_within σ p1 0 255) ys_X9_within kl_X9_82 rfl rfl (Nat.le_of_ble_eq_true rfl) (mj_roomC (by decide) (by decide)) ⟨Nat.zero_le _, Nat.zero_le _⟩ dX9_feed_5 ?_
  refine mj_if_ne C dX9_feed_8 rfl hF (fun hc1 hF => ?_) (fun hc1 hF => ?_)
  · refine mj_aload_n C dX9_feed_13 rfl ?_
    refine mg_X9_19 C dX9_feed_14 ?_
    refine mj_callVi C (c_X7_tapeLength σ) yv_X7_tapeLength kl_X9_113 (mo_5 G _) rfl rfl rfl rfl (Nat.le_of_ble_eq_true rfl) (mj_roomC (by decide) (by decide)) ⟨Nat.zero_le _, Nat.zero_le _⟩ dX9_feed_17 ?_
    refine mj_bipushV (v := 120) C dX9_feed_20 mc_b_120 ?_
    refine mj_ic_lt C dX9_feed_22 rfl hF (fun hc2 hF => ?_) (fun hc2 hF => ?_)
    · refine mj_aload_n C dX9_feed_28 rfl ?_
      refine mg_X9_19 C dX9_feed_29 ?_
      refine mj_iload_n C dX9_feed_32 rfl ?_
      obtain ⟨r3, hq3, hF⟩ := mj_ob hF
      refine mj_callVi C (c_X7_take σ p1 r3 hq3) yv_X7_take kl_X9_116 (mo_5 G _) rfl rfl rfl rfl (Nat.le_of_ble_eq_true rfl) (mj_roomC (by decide) (by decide)) ⟨Nat.zero_le _, Nat.zero_le _⟩ dX9_feed_33 ?_
      have hF := mj_oi hF; subst hF
      exact mj_iret C hr hlk dX9_feed_36
    · refine mj_bipushV (v := (-3)) C dX9_feed_25 mc_b_m3 ?_
      have hF := mj_oi hF; subst hF
      exact mj_iret C hr hlk dX9_feed_27
  · refine mj_iconstV (v := (-1)) C dX9_feed_11 mc_i_m1 ?_
    have hF := mj_oi hF; subst hF
    exact mj_iret C hr hlk dX9_feed_12
set_option maxRecDepth 100000 in
set_option maxHeartbeats 4000000 in
theorem c_X9_height {G : mj_G} {l : Launch} (σ : mj_S) (p1 : Int32) (p2 : Int32) (R : Int32) (hF : f_X9_height σ p1 p2 = some R) : mj_C G l yX9_height cX9_height 3 (some .int) 3 [.ref (G.2.1 0), .int p1, .int p2] σ (some (.int R)) σ := by
  unfold f_X9_height at hF
  refine mj_of (ls := [(0, .ref (G.2.1 0)), (1, .int p1), (2, .int p2)]) (by decide) (Nat.le_of_ble_eq_true rfl) rfl (fun p e s m args below meth c C hr hlk => ?_)
  refine mj_aload_n C dX9_height_0 rfl ?_
  refine mg_X9_28 C dX9_height_1 ?_
  refine mj_iload_n C dX9_height_4 rfl ?_
  refine mj_callVi C (c_X2_has σ p1) yv_X2_has kl_X9_132 (mo_9 G _) rfl rfl rfl rfl (Nat.le_of_ble_eq_true rfl) (mj_roomC (by decide) (by decide)) ⟨Nat.zero_le _, Nat.zero_le _⟩ dX9_height_5 ?_
  refine mj_if_eq C dX9_height_8 rfl hF (fun hc1 hF => ?_) (fun hc1 hF => ?_)
  · refine mj_iconstV (v := (-1)) C dX9_height_18 mc_i_m1 ?_
    have hF := mj_oi hF; subst hF
    exact mj_iret C hr hlk dX9_height_19
  · refine mj_iload_n C dX9_height_11 rfl ?_
    refine mj_callSi C (c_X9_isMonth σ p2) ys_X9_isMonth kl_X9_78 rfl rfl (Nat.le_of_ble_eq_true rfl) (mj_roomC (by decide) (by decide)) ⟨Nat.zero_le _, Nat.zero_le _⟩ dX9_height_12 ?_
    refine mj_if_ne C dX9_height_15 rfl hF (fun hc2 hF => ?_) (fun hc2 hF => ?_)
    · refine mj_aload_n C dX9_height_20 rfl ?_
      refine mg_X9_28 C dX9_height_21 ?_
      refine mj_iload_n C dX9_height_24 rfl ?_
      refine mj_iload_n C dX9_height_25 rfl ?_
      obtain ⟨r3, hq3, hF⟩ := mj_ob hF
      refine mj_callVi C (c_X2_heightAt σ p1 p2 r3 hq3) yv_X2_heightAt kl_X9_135 (mo_9 G _) rfl rfl rfl rfl (Nat.le_of_ble_eq_true rfl) (mj_roomC (by decide) (by decide)) ⟨Nat.zero_le _, Nat.zero_le _⟩ dX9_height_26 ?_
      have hF := mj_oi hF; subst hF
      exact mj_iret C hr hlk dX9_height_29
    · refine mj_iconstV (v := (-1)) C dX9_height_18 mc_i_m1 ?_
      have hF := mj_oi hF; subst hF
      exact mj_iret C hr hlk dX9_height_19
set_option maxRecDepth 100000 in
set_option maxHeartbeats 4000000 in
theorem c_X9_isMark {G : mj_G} {l : Launch} (σ : mj_S) (p0 : Int32) (p1 : Int32) (p2 : Int32) (p3 : Int32) : mj_C G l yX9_isMark cX9_isMark 4 (some .boolean) 2 [.int p0, .int p1, .int p2, .int p3] σ (some (.int (f_X9_isMark σ p0 p1 p2 p3))) σ := by
  generalize hF : f_X9_isMark σ p0 p1 p2 p3 = R
  unfold f_X9_isMark at hF
  refine mj_of (ls := [(0, .int p0), (1, .int p1), (2, .int p2), (3, .int p3)]) (by decide) (Nat.le_of_ble_eq_true rfl) rfl (fun p e s m args below meth c C hr hlk => ?_)
  refine mj_iload_n C dX9_isMark_0 rfl ?_
  refine mj_iconstV (v := 0) C dX9_isMark_1 mc_i_0 ?_
  refine mj_sipushV (v := 9999) C dX9_isMark_2 mc_s_9999 ?_
  refine mj_callSi C (c_X9_within σ p0 0 9999) ys_X9_within kl_X9_82 rfl rfl (Nat.le_of_ble_eq_true rfl) (mj_roomC (by decide) (by decide)) ⟨Nat.zero_le _, Nat.zero_le _⟩ dX9_isMark_5 ?_
  refine mj_if_eq C dX9_isMark_8 rfl hF (fun hc1 hF => ?_) (fun hc1 hF => ?_)
  · refine mj_iconstV (v := 0) C dX9_isMark_45 mc_i_0 ?_
    subst hF
    exact mj_zret (v := 0) rfl C hr hlk dX9_isMark_46
  · refine mj_iload_n C dX9_isMark_11 rfl ?_
    refine mj_iconstV (v := 0) C dX9_isMark_12 mc_i_0 ?_
    refine mj_bipushV (v := 6) C dX9_isMark_13 mc_b_6 ?_
    refine mj_callSi C (c_X9_within σ p1 0 6) ys_X9_within kl_X9_82 rfl rfl (Nat.le_of_ble_eq_true rfl) (mj_roomC (by decide) (by decide)) ⟨Nat.zero_le _, Nat.zero_le _⟩ dX9_isMark_15 ?_
    refine mj_if_eq C dX9_isMark_18 rfl hF (fun hc2 hF => ?_) (fun hc2 hF => ?_)
    · refine mj_iconstV (v := 0) C dX9_isMark_45 mc_i_0 ?_
      subst hF
      exact mj_zret (v := 0) rfl C hr hlk dX9_isMark_46
    · refine mj_iload_n C dX9_isMark_21 rfl ?_
      refine mj_iconstV (v := 0) C dX9_isMark_22 mc_i_0 ?_
      refine mj_sipushV (v := 600) C dX9_isMark_23 mc_s_600 ?_
      refine mj_callSi C (c_X9_within σ p2 0 600) ys_X9_within kl_X9_82 rfl rfl (Nat.le_of_ble_eq_true rfl) (mj_roomC (by decide) (by decide)) ⟨Nat.zero_le _, Nat.zero_le _⟩ dX9_isMark_26 ?_
      refine mj_if_eq C dX9_isMark_29 rfl hF (fun hc3 hF => ?_) (fun hc3 hF => ?_)
      · refine mj_iconstV (v := 0) C dX9_isMark_45 mc_i_0 ?_
        subst hF
        exact mj_zret (v := 0) rfl C hr hlk dX9_isMark_46
      · refine mj_iload_n C dX9_isMark_32 rfl ?_
        refine mj_iconstV (v := 0) C dX9_isMark_33 mc_i_0 ?_
        refine mj_iconstV (v := 4) C dX9_isMark_34 mc_i_4 ?_
        refine mj_callSi C (c_X9_within σ p3 0 4) ys_X9_within kl_X9_82 rfl rfl (Nat.le_of_ble_eq_true rfl) (mj_roomC (by decide) (by decide)) ⟨Nat.zero_le _, Nat.zero_le _⟩ dX9_isMark_35 ?_
        refine mj_if_eq C dX9_isMark_38 rfl hF (fun hc4 hF => ?_) (fun hc4 hF => ?_)
        · refine mj_iconstV (v := 0) C dX9_isMark_45 mc_i_0 ?_
          subst hF
          exact mj_zret (v := 0) rfl C hr hlk dX9_isMark_46
        · refine mj_iconstV (v := 1) C dX9_isMark_41 mc_i_1 ?_
          refine mj_goto C dX9_isMark_42 rfl ?_
          subst hF
          exact mj_zret (v := 1) rfl C hr hlk dX9_isMark_46
set_option maxRecDepth 100000 in
set_option maxHeartbeats 4000000 in
theorem c_X9_line {G : mj_G} {l : Launch} (σ : mj_S) (p1 : Int32) (p2 : Int32) (R : Int32) (hF : f_X9_line σ p1 p2 = some R) : mj_C G l yX9_line cX9_line 3 (some .int) 4 [.ref (G.2.1 0), .int p1, .int p2] σ (some (.int R)) σ := by
  unfold f_X9_line at hF
  refine mj_of (ls := [(0, .ref (G.2.1 0)), (1, .int p1), (2, .int p2)]) (by decide) (Nat.le_of_ble_eq_true rfl) rfl (fun p e s m args below meth c C hr hlk => ?_)
  refine mj_aload_n C dX9_line_0 rfl ?_
  refine mg_X9_28 C dX9_line_1 ?_
  refine mj_iload_n C dX9_line_4 rfl ?_
  refine mj_callVi C (c_X2_has σ p1) yv_X2_has kl_X9_132 (mo_9 G _) rfl rfl rfl rfl (Nat.le_of_ble_eq_true rfl) (mj_roomC (by decide) (by decide)) ⟨Nat.zero_le _, Nat.zero_le _⟩ dX9_line_5 ?_
  refine mj_if_eq C dX9_line_8 rfl hF (fun hc1 hF => ?_) (fun hc1 hF => ?_)
  · refine mj_ldc C dX9_line_18 kc_X9_173 ?_
    have hF := mj_oi hF; subst hF
    exact mj_iret C hr hlk dX9_line_20
  · refine mj_iload_n C dX9_line_11 rfl ?_
    refine mj_callSi C (c_X9_isMonth σ p2) ys_X9_isMonth kl_X9_78 rfl rfl (Nat.le_of_ble_eq_true rfl) (mj_roomC (by decide) (by decide)) ⟨Nat.zero_le _, Nat.zero_le _⟩ dX9_line_12 ?_
    refine mj_if_ne C dX9_line_15 rfl hF (fun hc2 hF => ?_) (fun hc2 hF => ?_)
    · refine mj_aload_n C dX9_line_21 rfl ?_
      refine mg_X9_28 C dX9_line_22 ?_
      refine mj_iload_n C dX9_line_25 rfl ?_
      refine mj_iload_n C dX9_line_26 rfl ?_
      obtain ⟨r3, hq3, hF⟩ := mj_ob hF
      refine mj_callVi C (c_X2_isBorn σ p1 p2 r3 hq3) yv_X2_isBorn kl_X9_247 (mo_9 G _) rfl rfl rfl rfl (Nat.le_of_ble_eq_true rfl) (mj_roomC (by decide) (by decide)) ⟨Nat.zero_le _, Nat.zero_le _⟩ dX9_line_27 ?_
      refine mj_if_eq C dX9_line_30 rfl hF (fun hc4 hF => ?_) (fun hc4 hF => ?_)
      · refine mj_sipushV (v := (-1000)) C dX9_line_45 mc_s_m1000 ?_
        have hF := mj_oi hF; subst hF
        exact mj_iret C hr hlk dX9_line_48
      · refine mj_aload_n C dX9_line_33 rfl ?_
        refine mg_X9_53 C dX9_line_34 ?_
        refine mj_iload_n C dX9_line_37 rfl ?_
        refine mj_iload_n C dX9_line_38 rfl ?_
        obtain ⟨r5, hq5, hF⟩ := mj_ob hF
        refine mj_callVi C (c_X6_lineAt σ p1 p2 r5 hq5) yv_X6_lineAt kl_X9_250 (mo_44 G _) rfl rfl rfl rfl (Nat.le_of_ble_eq_true rfl) (mj_roomC (by decide) (by decide)) ⟨Nat.zero_le _, Nat.zero_le _⟩ dX9_line_39 ?_
        refine mj_goto C dX9_line_42 rfl ?_
        have hF := mj_oi hF; subst hF
        exact mj_iret C hr hlk dX9_line_48
    · refine mj_ldc C dX9_line_18 kc_X9_173 ?_
      have hF := mj_oi hF; subst hF
      exact mj_iret C hr hlk dX9_line_20
set_option maxRecDepth 100000 in
set_option maxHeartbeats 4000000 in
theorem c_X9_falls {G : mj_G} {l : Launch} (σ : mj_S) (p1 : Int32) (R : Int32) (hF : f_X9_falls σ p1 = some R) : mj_C G l yX9_falls cX9_falls 2 (some .int) 5 [.ref (G.2.1 0), .int p1] σ (some (.int R)) σ := by
  unfold f_X9_falls at hF
  refine mj_of (ls := [(0, .ref (G.2.1 0)), (1, .int p1)]) (by decide) (Nat.le_of_ble_eq_true rfl) rfl (fun p e s m args below meth c C hr hlk => ?_)
  refine mj_aload_n C dX9_falls_0 rfl ?_
  refine mg_X9_28 C dX9_falls_1 ?_
  refine mj_iload_n C dX9_falls_4 rfl ?_
  refine mj_callVi C (c_X2_has σ p1) yv_X2_has kl_X9_132 (mo_9 G _) rfl rfl rfl rfl (Nat.le_of_ble_eq_true rfl) (mj_roomC (by decide) (by decide)) ⟨Nat.zero_le _, Nat.zero_le _⟩ dX9_falls_5 ?_
  refine mj_if_eq C dX9_falls_8 rfl hF (fun hc1 hF => ?_) (fun hc1 hF => ?_)
  · refine mj_iconstV (v := (-1)) C dX9_falls_22 mc_i_m1 ?_
    have hF := mj_oi hF; subst hF
    exact mj_iret C hr hlk dX9_falls_23
  · refine mj_aload_n C dX9_falls_11 rfl ?_
    refine mg_X9_53 C dX9_falls_12 ?_
    refine mj_iload_n C dX9_falls_15 rfl ?_
    obtain ⟨r2, hq2, hF⟩ := mj_ob hF
    refine mj_callVi C (c_X6_firstFall σ p1 r2 hq2) yv_X6_firstFall kl_X9_253 (mo_44 G _) rfl rfl rfl rfl (Nat.le_of_ble_eq_true rfl) (mj_roomC (by decide) (by decide)) ⟨Nat.zero_le _, Nat.zero_le _⟩ dX9_falls_16 ?_
    refine mj_goto C dX9_falls_19 rfl ?_
    have hF := mj_oi hF; subst hF
    exact mj_iret C hr hlk dX9_falls_23
set_option maxRecDepth 100000 in
set_option maxHeartbeats 4000000 in
theorem c_X9_overtakes {G : mj_G} {l : Launch} (σ : mj_S) (p1 : Int32) (R : Int32) (hF : f_X9_overtakes σ p1 = some R) : mj_C G l yX9_overtakes cX9_overtakes 2 (some .int) 5 [.ref (G.2.1 0), .int p1] σ (some (.int R)) σ := by
  unfold f_X9_overtakes at hF
  refine mj_of (ls := [(0, .ref (G.2.1 0)), (1, .int p1)]) (by decide) (Nat.le_of_ble_eq_true rfl) rfl (fun p e s m args below meth c C hr hlk => ?_)
  refine mj_iload_n C dX9_overtakes_0 rfl ?_
  refine mj_if_lt C dX9_overtakes_1 rfl hF (fun hc1 hF => ?_) (fun hc1 hF => ?_)
  · refine mj_iconstV (v := (-1)) C dX9_overtakes_43 mc_i_m1 ?_
    have hF := mj_oi hF; subst hF
    exact mj_iret C hr hlk dX9_overtakes_44
  · refine mj_aload_n C dX9_overtakes_4 rfl ?_
    refine mg_X9_28 C dX9_overtakes_5 ?_
    refine mj_iload_n C dX9_overtakes_8 rfl ?_
    refine mj_bipushV (v := 10) C dX9_overtakes_9 mc_b_10 ?_
    refine mj_idiv C dX9_overtakes_11 (by decide) ?_
    refine mj_callVi C (c_X2_has σ (p1 / 10)) yv_X2_has kl_X9_132 (mo_9 G _) rfl rfl rfl rfl (Nat.le_of_ble_eq_true rfl) (mj_roomC (by decide) (by decide)) ⟨Nat.zero_le _, Nat.zero_le _⟩ dX9_overtakes_12 ?_
    refine mj_if_eq C dX9_overtakes_15 rfl hF (fun hc2 hF => ?_) (fun hc2 hF => ?_)
    · refine mj_iconstV (v := (-1)) C dX9_overtakes_43 mc_i_m1 ?_
      have hF := mj_oi hF; subst hF
      exact mj_iret C hr hlk dX9_overtakes_44
    · refine mj_aload_n C dX9_overtakes_18 rfl ?_
      refine mg_X9_28 C dX9_overtakes_19 ?_
      refine mj_iload_n C dX9_overtakes_22 rfl ?_
      refine mj_bipushV (v := 10) C dX9_overtakes_23 mc_b_10 ?_
      refine mj_irem C dX9_overtakes_25 (by decide) ?_
      refine mj_callVi C (c_X2_has σ (mj_rem p1 10)) yv_X2_has kl_X9_132 (mo_9 G _) rfl rfl rfl rfl (Nat.le_of_ble_eq_true rfl) (mj_roomC (by decide) (by decide)) ⟨Nat.zero_le _, Nat.zero_le _⟩ dX9_overtakes_26 ?_
      refine mj_if_eq C dX9_overtakes_29 rfl hF (fun hc3 hF => ?_) (fun hc3 hF => ?_)
      · refine mj_iconstV (v := (-1)) C dX9_overtakes_43 mc_i_m1 ?_
        have hF := mj_oi hF; subst hF
        exact mj_iret C hr hlk dX9_overtakes_44
      · refine mj_iload_n C dX9_overtakes_32 rfl ?_
        refine mj_bipushV (v := 10) C dX9_overtakes_33 mc_b_10 ?_
        refine mj_idiv C dX9_overtakes_35 (by decide) ?_
        refine mj_iload_n C dX9_overtakes_36 rfl ?_
        refine mj_bipushV (v := 10) C dX9_overtakes_37 mc_b_10 ?_
        refine mj_irem C dX9_overtakes_39 (by decide) ?_
        refine mj_ic_ne C dX9_overtakes_40 rfl hF (fun hc4 hF => ?_) (fun hc4 hF => ?_)
        · refine mj_aload_n C dX9_overtakes_45 rfl ?_
          refine mg_X9_53 C dX9_overtakes_46 ?_
          refine mj_iload_n C dX9_overtakes_49 rfl ?_
          refine mj_bipushV (v := 10) C dX9_overtakes_50 mc_b_10 ?_
          refine mj_idiv C dX9_overtakes_52 (by decide) ?_
          refine mj_iload_n C dX9_overtakes_53 rfl ?_
          refine mj_bipushV (v := 10) C dX9_overtakes_54 mc_b_10 ?_
          refine mj_irem C dX9_overtakes_56 (by decide) ?_
          obtain ⟨r5, hq5, hF⟩ := mj_ob hF
          refine mj_callVi C (c_X6_firstOvertaking σ (p1 / 10) (mj_rem p1 10) r5 hq5) yv_X6_firstOvertaking kl_X9_256 (mo_44 G _) rfl rfl rfl rfl (Nat.le_of_ble_eq_true rfl) (mj_roomC (by decide) (by decide)) ⟨Nat.zero_le _, Nat.zero_le _⟩ dX9_overtakes_57 ?_
          have hF := mj_oi hF; subst hF
          exact mj_iret C hr hlk dX9_overtakes_60
        · refine mj_iconstV (v := (-1)) C dX9_overtakes_43 mc_i_m1 ?_
          have hF := mj_oi hF; subst hF
          exact mj_iret C hr hlk dX9_overtakes_44
set_option maxRecDepth 100000 in
set_option maxHeartbeats 4000000 in
theorem c_X9_trace {G : mj_G} {l : Launch} (σ : mj_S) (p1 : Int32) (R : Int32) (hF : f_X9_trace σ p1 = some R) : mj_C G l yX9_trace cX9_trace 2 (some .int) 2 [.ref (G.2.1 0), .int p1] σ (some (.int R)) σ := by
  unfold f_X9_trace at hF
  refine mj_of (ls := [(0, .ref (G.2.1 0)), (1, .int p1)]) (by decide) (Nat.le_of_ble_eq_true rfl) rfl (fun p e s m args below meth c C hr hlk => ?_)
  refine mj_aload_n C dX9_trace_0 rfl ?_
  refine mg_X9_67 C dX9_trace_1 ?_
  refine mj_iload_n C dX9_trace_4 rfl ?_
  obtain ⟨r1, hq1, hF⟩ := mj_ob hF
  refine mj_callVi C (c_X0_ranAt σ p1 r1 hq1) yv_X0_ranAt kl_X9_293 (mo_50 G _) rfl rfl rfl rfl (Nat.le_of_ble_eq_true rfl) (mj_roomC (by decide) (by decide)) ⟨Nat.zero_le _, Nat.zero_le _⟩ dX9_trace_5 ?_
  have hF := mj_oi hF; subst hF
  exact mj_iret C hr hlk dX9_trace_8
