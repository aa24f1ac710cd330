set_option maxRecDepth 100000 in
set_option maxHeartbeats 4000000 in
theorem c_X2_has {G : mj_G} {l : Launch} (σ : mj_S) (p1 : Int32) : mj_C G l yX2_has cX2_has 2 (some .boolean) 1 [.ref (G.2.1 9), .int p1] σ (some (.int (f_X2_has σ p1))) σ := by
  generalize hF : f_X2_has σ p1 = R
  unfold f_X2_has at hF
  refine mj_of (ls := [(0, .ref (G.2.1 9)), (1, .int p1)]) (by decide) (Nat.le_of_ble_eq_true rfl) rfl (fun p e s m args below meth c C hr hlk => ?_)
  refine mj_iconstV (v := 0) C dX2_has_0 mc_i_0 ?_
  refine mj_iload_n C dX2_has_1 rfl ?_
  refine mj_ic_gt C dX2_has_2 rfl hF (fun hc1 hF => ?_) (fun hc1 hF => ?_)
  · refine mj_iconstV (v := 0) C dX2_has_17 mc_i_0 ?_
    subst hF
    exact mj_zret (v := 0) rfl C hr hlk dX2_has_18
  · refine mj_iload_n C dX2_has_5 rfl ?_
    refine mj_aload_n C dX2_has_6 rfl ?_
    refine mg_X2_27 C dX2_has_7 ?_
    refine mj_ic_ge C dX2_has_10 rfl hF (fun hc2 hF => ?_) (fun hc2 hF => ?_)
    · refine mj_iconstV (v := 0) C dX2_has_17 mc_i_0 ?_
      subst hF
      exact mj_zret (v := 0) rfl C hr hlk dX2_has_18
    · refine mj_iconstV (v := 1) C dX2_has_13 mc_i_1 ?_
      refine mj_goto C dX2_has_14 rfl ?_
      subst hF
      exact mj_zret (v := 1) rfl C hr hlk dX2_has_18
set_option maxRecDepth 100000 in
set_option maxHeartbeats 4000000 in
theorem c_X2_becomeLate {G : mj_G} {l : Launch} (σ : mj_S) (p1 : Int32) (p2 : Int32) (R : mj_S) (hF : f_X2_becomeLate σ p1 p2 = some R) : mj_C G l yX2_becomeLate cX2_becomeLate 3 (none) 2 [.ref (G.2.1 9), .int p1, .int p2] σ none R := by
  unfold f_X2_becomeLate at hF
  refine mj_of (ls := [(0, .ref (G.2.1 9)), (1, .int p1), (2, .int p2)]) (by decide) (Nat.le_of_ble_eq_true rfl) rfl (fun p e s m args below meth c C hr hlk => ?_)
  refine mj_aload_n C dX2_becomeLate_0 rfl ?_
  refine mj_iload_n C dX2_becomeLate_1 rfl ?_
  refine mj_callVi C (c_X2_has σ p1) yv_X2_has kl_X2_67 (mo_9 G _) rfl rfl rfl rfl (Nat.le_of_ble_eq_true rfl) (mj_roomC (by decide) (by decide)) ⟨Nat.zero_le _, Nat.zero_le _⟩ dX2_becomeLate_2 ?_
  refine mj_if_eq C dX2_becomeLate_5 rfl hF (fun hc1 hF => ?_) (fun hc1 hF => ?_)
  · have hF := mj_oi hF; subst hF
    exact mj_vret C hr hlk dX2_becomeLate_22
  · refine mj_aload_n C dX2_becomeLate_8 rfl ?_
    refine mg_X2_21 C dX2_becomeLate_9 ?_
    refine mj_iload_n C dX2_becomeLate_12 rfl ?_
    refine mj_iload_n C dX2_becomeLate_13 rfl ?_
    obtain ⟨hg2, hF⟩ := mj_og hF
    refine mj_iastore C dX2_becomeLate_14 rfl hg2 ?_
    refine mj_aload_n C dX2_becomeLate_15 rfl ?_
    refine mg_X2_54 C dX2_becomeLate_16 ?_
    refine mj_iload_n C dX2_becomeLate_19 rfl ?_
    refine mj_iconstV (v := 1) C dX2_becomeLate_20 mc_i_1 ?_
    obtain ⟨hg3, hF⟩ := mj_og hF
    refine mj_zastore C dX2_becomeLate_21 rfl rfl hg3 ?_
    have hF := mj_oi hF; subst hF
    exact mj_vret C hr hlk dX2_becomeLate_22
set_option maxRecDepth 100000 in
set_option maxHeartbeats 4000000 in
theorem c_X2_becomeParents {G : mj_G} {l : Launch} (σ : mj_S) (p1 : Int32) (p2 : Int32) (R : mj_S) (hF : f_X2_becomeParents σ p1 p2 = some R) : mj_C G l yX2_becomeParents cX2_becomeParents 3 (none) 2 [.ref (G.2.1 9), .int p1, .int p2] σ none R := by
  unfold f_X2_becomeParents at hF
  refine mj_of (ls := [(0, .ref (G.2.1 9)), (1, .int p1), (2, .int p2)]) (by decide) (Nat.le_of_ble_eq_true rfl) rfl (fun p e s m args below meth c C hr hlk => ?_)
  refine mj_aload_n C dX2_becomeParents_0 rfl ?_
  refine mj_iload_n C dX2_becomeParents_1 rfl ?_
  refine mj_callVi C (c_X2_has σ p1) yv_X2_has kl_X2_67 (mo_9 G _) rfl rfl rfl rfl (Nat.le_of_ble_eq_true rfl) (mj_roomC (by decide) (by decide)) ⟨Nat.zero_le _, Nat.zero_le _⟩ dX2_becomeParents_2 ?_
  refine mj_if_eq C dX2_becomeParents_5 rfl hF (fun hc1 hF => ?_) (fun hc1 hF => ?_)
  · have hF := mj_oi hF; subst hF
    exact mj_vret C hr hlk dX2_becomeParents_22
  · refine mj_aload_n C dX2_becomeParents_8 rfl ?_
    refine mg_X2_24 C dX2_becomeParents_9 ?_
    refine mj_iload_n C dX2_becomeParents_12 rfl ?_
    refine mj_iload_n C dX2_becomeParents_13 rfl ?_
    obtain ⟨hg2, hF⟩ := mj_og hF
    refine mj_iastore C dX2_becomeParents_14 rfl hg2 ?_
    refine mj_aload_n C dX2_becomeParents_15 rfl ?_
    refine mg_X2_54 C dX2_becomeParents_16 ?_
    refine mj_iload_n C dX2_becomeParents_19 rfl ?_
    refine mj_iconstV (v := 1) C dX2_becomeParents_20 mc_i_1 ?_
    obtain ⟨hg3, hF⟩ := mj_og hF
    refine mj_zastore C dX2_becomeParents_21 rfl rfl hg3 ?_
    have hF := mj_oi hF; subst hF
    exact mj_vret C hr hlk dX2_becomeParents_22
set_option maxRecDepth 100000 in
set_option maxHeartbeats 4000000 in
theorem c_X2_told {G : mj_G} {l : Launch} (σ : mj_S) (p1 : Int32) (p2 : Int32) (R : Int32) (hF : f_X2_told σ p1 p2 = some R) : mj_C G l yX2_told cX2_told 3 (some .int) 2 [.ref (G.2.1 9), .int p1, .int p2] σ (some (.int R)) σ := by
  unfold f_X2_told at hF
  refine mj_of (ls := [(0, .ref (G.2.1 9)), (1, .int p1), (2, .int p2)]) (by decide) (Nat.le_of_ble_eq_true rfl) rfl (fun p e s m args below meth c C hr hlk => ?_)
  refine mj_aload_n C dX2_told_0 rfl ?_
  refine mj_iload_n C dX2_told_1 rfl ?_
  refine mj_callVi C (c_X2_has σ p1) yv_X2_has kl_X2_67 (mo_9 G _) rfl rfl rfl rfl (Nat.le_of_ble_eq_true rfl) (mj_roomC (by decide) (by decide)) ⟨Nat.zero_le _, Nat.zero_le _⟩ dX2_told_2 ?_
  refine mj_if_ne C dX2_told_5 rfl hF (fun hc1 hF => ?_) (fun hc1 hF => ?_)
  · refine mj_iload_n C dX2_told_11 rfl ?_
    by_cases hw2_0 : p2 = 0
    · rw [if_pos hw2_0] at hF
      refine mj_tsIn (off := 36) C dX2_told_12 (by rw [hw2_0]; decide) (by rw [hw2_0]; decide) (by rw [hw2_0]; rfl) rfl ?_
      refine mj_aload_n C dX2_told_48 rfl ?_
      refine mg_X2_9 C dX2_told_49 ?_
      refine mj_iload_n C dX2_told_52 rfl ?_
      obtain ⟨hg3, hF⟩ := mj_og hF
      refine mj_iaload C dX2_told_53 rfl hg3 ?_
      have hF := mj_oi hF; subst hF
      exact mj_iret C hr hlk dX2_told_54
    rw [if_neg hw2_0] at hF
    by_cases hw2_1 : p2 = 1
    · rw [if_pos hw2_1] at hF
      refine mj_tsIn (off := 43) C dX2_told_12 (by rw [hw2_1]; decide) (by rw [hw2_1]; decide) (by rw [hw2_1]; rfl) rfl ?_
      refine mj_aload_n C dX2_told_55 rfl ?_
      refine mg_X2_15 C dX2_told_56 ?_
      refine mj_iload_n C dX2_told_59 rfl ?_
      obtain ⟨hg4, hF⟩ := mj_og hF
      refine mj_iaload C dX2_told_60 rfl hg4 ?_
      have hF := mj_oi hF; subst hF
      exact mj_iret C hr hlk dX2_told_61
    rw [if_neg hw2_1] at hF
    by_cases hw2_2 : p2 = 2
    · rw [if_pos hw2_2] at hF
      refine mj_tsIn (off := 50) C dX2_told_12 (by rw [hw2_2]; decide) (by rw [hw2_2]; decide) (by rw [hw2_2]; rfl) rfl ?_
      refine mj_aload_n C dX2_told_62 rfl ?_
      refine mg_X2_18 C dX2_told_63 ?_
      refine mj_iload_n C dX2_told_66 rfl ?_
      obtain ⟨hg5, hF⟩ := mj_og hF
      refine mj_iaload C dX2_told_67 rfl hg5 ?_
      have hF := mj_oi hF; subst hF
      exact mj_iret C hr hlk dX2_told_68
    rw [if_neg hw2_2] at hF
    by_cases hw2_3 : p2 = 3
    · rw [if_pos hw2_3] at hF
      refine mj_tsIn (off := 57) C dX2_told_12 (by rw [hw2_3]; decide) (by rw [hw2_3]; decide) (by rw [hw2_3]; rfl) rfl ?_
      refine mj_aload_n C dX2_told_69 rfl ?_
      refine mg_X2_21 C dX2_told_70 ?_
      refine mj_iload_n C dX2_told_73 rfl ?_
      obtain ⟨hg6, hF⟩ := mj_og hF
      refine mj_iaload C dX2_told_74 rfl hg6 ?_
      have hF := mj_oi hF; subst hF
      exact mj_iret C hr hlk dX2_told_75
    rw [if_neg hw2_3] at hF
    by_cases hw2_4 : p2 = 4
    · rw [if_pos hw2_4] at hF
      refine mj_tsIn (off := 64) C dX2_told_12 (by rw [hw2_4]; decide) (by rw [hw2_4]; decide) (by rw [hw2_4]; rfl) rfl ?_
      refine mj_aload_n C dX2_told_76 rfl ?_
      refine mg_X2_24 C dX2_told_77 ?_
      refine mj_iload_n C dX2_told_80 rfl ?_
      obtain ⟨hg7, hF⟩ := mj_og hF
      refine mj_iaload C dX2_told_81 rfl hg7 ?_
      have hF := mj_oi hF; subst hF
      exact mj_iret C hr hlk dX2_told_82
    rw [if_neg hw2_4] at hF
    refine mj_tsOut C dX2_told_12 (mj_sw_0_5 hw2_0 hw2_1 hw2_2 hw2_3 hw2_4) rfl ?_
    refine mj_ldc C dX2_told_83 kc_X2_71 ?_
    have hF := mj_oi hF; subst hF
    exact mj_iret C hr hlk dX2_told_85
  · refine mj_ldc C dX2_told_8 kc_X2_71 ?_
    have hF := mj_oi hF; subst hF
    exact mj_iret C hr hlk dX2_told_10
set_option maxRecDepth 100000 in
set_option maxHeartbeats 4000000 in
theorem c_X2_size {G : mj_G} {l : Launch} (σ : mj_S) : mj_C G l yX2_size cX2_size 1 (some .int) 1 [.ref (G.2.1 9)] σ (some (.int (f_X2_size σ))) σ := by
  generalize hF : f_X2_size σ = R
  unfold f_X2_size at hF
  refine mj_of (ls := [(0, .ref (G.2.1 9))]) (by decide) (Nat.le_of_ble_eq_true rfl) rfl (fun p e s m args below meth c C hr hlk => ?_)
  refine mj_aload_n C dX2_size_0 rfl ?_
  refine mg_X2_27 C dX2_size_1 ?_
  subst hF
  exact mj_iret C hr hlk dX2_size_4
set_option maxRecDepth 100000 in
set_option maxHeartbeats 4000000 in
theorem c_X2_add {G : mj_G} {l : Launch} (σ : mj_S) (p1 : Int32) (p2 : Int32) (p3 : Int32) (p4 : Int32) (p5 : Int32) (R : (Int32 × mj_S)) (hF : f_X2_add σ p1 p2 p3 p4 p5 = some R) : mj_C G l yX2_add cX2_add 6 (some .int) 1 [.ref (G.2.1 9), .int p1, .int p2, .int p3, .int p4, .int p5] σ (some (.int R.1)) R.2 := by
  unfold f_X2_add at hF
  refine mj_of (ls := [(0, .ref (G.2.1 9)), (1, .int p1), (2, .int p2), (3, .int p3), (4, .int p4), (5, .int p5)]) (by decide) (Nat.le_of_ble_eq_true rfl) rfl (fun p e s m args below meth c C hr hlk => ?_)
  refine mj_aload_n C dX2_add_0 rfl ?_
  refine mg_X2_27 C dX2_add_1 ?_
  refine mj_bipushV (v := 6) C dX2_add_4 mc_b_6 ?_
  refine mj_ic_lt C dX2_add_6 rfl hF (fun hc1 hF => ?_) (fun hc1 hF => ?_)
  · refine mj_aload_n C dX2_add_12 rfl ?_
    refine mg_X2_9 C dX2_add_13 ?_
    refine mj_aload_n C dX2_add_16 rfl ?_
    refine mg_X2_27 C dX2_add_17 ?_
    refine mj_iload_n C dX2_add_20 rfl ?_
    obtain ⟨hg2, hF⟩ := mj_og hF
    refine mj_iastore C dX2_add_21 rfl hg2 ?_
    refine mj_aload_n C dX2_add_22 rfl ?_
    refine mg_X2_15 C dX2_add_23 ?_
    refine mj_aload_n C dX2_add_26 rfl ?_
    refine mg_X2_27 C dX2_add_27 ?_
    refine mj_iload_n C dX2_add_30 rfl ?_
    obtain ⟨hg3, hF⟩ := mj_og hF
    refine mj_iastore C dX2_add_31 rfl hg3 ?_
    refine mj_aload_n C dX2_add_32 rfl ?_
    refine mg_X2_18 C dX2_add_33 ?_
    refine mj_aload_n C dX2_add_36 rfl ?_
    refine mg_X2_27 C dX2_add_37 ?_
    refine mj_iload_n C dX2_add_40 rfl ?_
    obtain ⟨hg4, hF⟩ := mj_og hF
    refine mj_iastore C dX2_add_41 rfl hg4 ?_
    refine mj_aload_n C dX2_add_42 rfl ?_
    refine mg_X2_21 C dX2_add_43 ?_
    refine mj_aload_n C dX2_add_46 rfl ?_
    refine mg_X2_27 C dX2_add_47 ?_
    refine mj_iload C dX2_add_50 rfl ?_
    obtain ⟨hg5, hF⟩ := mj_og hF
    refine mj_iastore C dX2_add_52 rfl hg5 ?_
    refine mj_aload_n C dX2_add_53 rfl ?_
    refine mg_X2_24 C dX2_add_54 ?_
    refine mj_aload_n C dX2_add_57 rfl ?_
    refine mg_X2_27 C dX2_add_58 ?_
    refine mj_iload C dX2_add_61 rfl ?_
    obtain ⟨hg6, hF⟩ := mj_og hF
    refine mj_iastore C dX2_add_63 rfl hg6 ?_
    refine mj_aload_n C dX2_add_64 rfl ?_
    refine mg_X2_54 C dX2_add_65 ?_
    refine mj_aload_n C dX2_add_68 rfl ?_
    refine mg_X2_27 C dX2_add_69 ?_
    refine mj_iconstV (v := 1) C dX2_add_72 mc_i_1 ?_
    obtain ⟨hg7, hF⟩ := mj_og hF
    refine mj_zastore C dX2_add_73 rfl rfl hg7 ?_
    refine mj_aload_n C dX2_add_74 rfl ?_
    refine mj_dup C dX2_add_75 rfl ?_
    refine mg_X2_27 C dX2_add_76 ?_
    refine mj_iconstV (v := 1) C dX2_add_79 mc_i_1 ?_
    refine mj_iadd C dX2_add_80 ?_
    refine mp_X2_27 C dX2_add_81 ?_
    refine mj_aload_n C dX2_add_84 rfl ?_
    refine mg_X2_27 C dX2_add_85 ?_
    refine mj_iconstV (v := 1) C dX2_add_88 mc_i_1 ?_
    refine mj_isub C dX2_add_89 ?_
    have hF := mj_oi hF; subst hF
    exact mj_iret C hr hlk dX2_add_90
  · refine mj_bipushV (v := (-3)) C dX2_add_9 mc_b_m3 ?_
    have hF := mj_oi hF; subst hF
    exact mj_iret C hr hlk dX2_add_11
set_option maxRecDepth 100000 in
set_option maxHeartbeats 4000000 in
theorem c_X2_bornIn {G : mj_G} {l : Launch} (σ : mj_S) (p1 : Int32) (R : Int32) (hF : f_X2_bornIn σ p1 = some R) : mj_C G l yX2_bornIn cX2_bornIn 2 (some .int) 2 [.ref (G.2.1 9), .int p1] σ (some (.int R)) σ := by
  unfold f_X2_bornIn at hF
  refine mj_of (ls := [(0, .ref (G.2.1 9)), (1, .int p1)]) (by decide) (Nat.le_of_ble_eq_true rfl) rfl (fun p e s m args below meth c C hr hlk => ?_)
  refine mj_aload_n C dX2_bornIn_0 rfl ?_
  refine mj_iload_n C dX2_bornIn_1 rfl ?_
  refine mj_callVi C (c_X2_has σ p1) yv_X2_has kl_X2_67 (mo_9 G _) rfl rfl rfl rfl (Nat.le_of_ble_eq_true rfl) (mj_roomC (by decide) (by decide)) ⟨Nat.zero_le _, Nat.zero_le _⟩ dX2_bornIn_2 ?_
  refine mj_if_eq C dX2_bornIn_5 rfl hF (fun hc1 hF => ?_) (fun hc1 hF => ?_)
  · refine mj_sipushV (v := 600) C dX2_bornIn_17 mc_s_600 ?_
    have hF := mj_oi hF; subst hF
    exact mj_iret C hr hlk dX2_bornIn_20
  · refine mj_aload_n C dX2_bornIn_8 rfl ?_
    refine mg_X2_9 C dX2_bornIn_9 ?_
    refine mj_iload_n C dX2_bornIn_12 rfl ?_
    obtain ⟨hg2, hF⟩ := mj_og hF
    refine mj_iaload C dX2_bornIn_13 rfl hg2 ?_
    refine mj_goto C dX2_bornIn_14 rfl ?_
    have hF := mj_oi hF; subst hF
    exact mj_iret C hr hlk dX2_bornIn_20
set_option maxRecDepth 100000 in
set_option maxHeartbeats 4000000 in
theorem c_X2_isBorn {G : mj_G} {l : Launch} (σ : mj_S) (p1 : Int32) (p2 : Int32) (R : Int32) (hF : f_X2_isBorn σ p1 p2 = some R) : mj_C G l yX2_isBorn cX2_isBorn 3 (some .boolean) 2 [.ref (G.2.1 9), .int p1, .int p2] σ (some (.int R)) σ := by
  unfold f_X2_isBorn at hF
  refine mj_of (ls := [(0, .ref (G.2.1 9)), (1, .int p1), (2, .int p2)]) (by decide) (Nat.le_of_ble_eq_true rfl) rfl (fun p e s m args below meth c C hr hlk => ?_)
  refine mj_aload_n C dX2_isBorn_0 rfl ?_
  refine mj_iload_n C dX2_isBorn_1 rfl ?_
  refine mj_callVi C (c_X2_has σ p1) yv_X2_has kl_X2_67 (mo_9 G _) rfl rfl rfl rfl (Nat.le_of_ble_eq_true rfl) (mj_roomC (by decide) (by decide)) ⟨Nat.zero_le _, Nat.zero_le _⟩ dX2_isBorn_2 ?_
  refine mj_if_eq C dX2_isBorn_5 rfl hF (fun hc1 hF => ?_) (fun hc1 hF => ?_)
  · refine mj_iconstV (v := 0) C dX2_isBorn_22 mc_i_0 ?_
    have hF := mj_oi hF; subst hF
    exact mj_zret (v := 0) rfl C hr hlk dX2_isBorn_23
  · refine mj_iload_n C dX2_isBorn_8 rfl ?_
    refine mj_aload_n C dX2_isBorn_9 rfl ?_
    refine mg_X2_9 C dX2_isBorn_10 ?_
    refine mj_iload_n C dX2_isBorn_13 rfl ?_
    obtain ⟨hg2, hF⟩ := mj_og hF
    refine mj_iaload C dX2_isBorn_14 rfl hg2 ?_
    refine mj_ic_lt C dX2_isBorn_15 rfl hF (fun hc3 hF => ?_) (fun hc3 hF => ?_)
    · refine mj_iconstV (v := 0) C dX2_isBorn_22 mc_i_0 ?_
      have hF := mj_oi hF; subst hF
      exact mj_zret (v := 0) rfl C hr hlk dX2_isBorn_23
    · refine mj_iconstV (v := 1) C dX2_isBorn_18 mc_i_1 ?_
      refine mj_goto C dX2_isBorn_19 rfl ?_
      have hF := mj_oi hF; subst hF
      exact mj_zret (v := 1) rfl C hr hlk dX2_isBorn_23
set_option maxRecDepth 100000 in
set_option maxHeartbeats 4000000 in
theorem c_X2_wantsTold {G : mj_G} {l : Launch} (σ : mj_S) : mj_C G l yX2_wantsTold cX2_wantsTold 1 (some .int) 1 [.ref (G.2.1 9)] σ (some (.int (f_X2_wantsTold σ))) σ := by
  generalize hF : f_X2_wantsTold σ = R
  unfold f_X2_wantsTold at hF
  refine mj_of (ls := [(0, .ref (G.2.1 9))]) (by decide) (Nat.le_of_ble_eq_true rfl) rfl (fun p e s m args below meth c C hr hlk => ?_)
  refine mj_aload_n C dX2_wantsTold_0 rfl ?_
  refine mg_X2_40 C dX2_wantsTold_1 ?_
  subst hF
  exact mj_iret C hr hlk dX2_wantsTold_4
set_option maxRecDepth 100000 in
set_option maxHeartbeats 4000000 in
theorem w_X2_forgetHeights_2 {p : Program} {l : Launch} {e : Env} {s : State} {m : MethodId} {args : Array Value} {below : List Frame} {meth : Method} {c : Code} {G : mj_G} (C : mj_X p s m args meth c G cX2_forgetHeights 2 RX2) (hr : meth.sig.returnType = none) (hlk : meth.locks = false) : ∀ (n : Nat) (v1 : Int32) (σ : mj_S) (R : mj_S), b_X2_forgetHeights_2 n v1 σ = some R → mj_W p l e (mj_rm 1) s m args below meth c G 0 0 2 (MQ below (mj_Q G none R) args s 0 0 G.2.2.2) 2 [(0, .ref (G.2.1 9)), (1, .int v1)] [] σ := by
  intro n
  induction n with
  | zero =>
    intro v1 σ R hF
    cases hF
  | succ n ih =>
    intro v1 σ R hF
    rw [b_X2_forgetHeights_2] at hF
    refine mj_iload_n C dX2_forgetHeights_2 rfl ?_
    refine mj_aload_n C dX2_forgetHeights_3 rfl ?_
    refine mg_X2_27 C dX2_forgetHeights_4 ?_
    refine mj_ic_ge C dX2_forgetHeights_7 rfl hF (fun hc1 hF => ?_) (fun hc1 hF => ?_)
    · have hF := mj_oi hF; subst hF
      exact mj_vret C hr hlk dX2_forgetHeights_29
    · refine mj_iload_n C dX2_forgetHeights_10 rfl ?_
      refine mj_bipushV (v := 6) C dX2_forgetHeights_11 mc_b_6 ?_
      refine mj_ic_ge C dX2_forgetHeights_13 rfl hF (fun hc2 hF => ?_) (fun hc2 hF => ?_)
      · have hF := mj_oi hF; subst hF
        exact mj_vret C hr hlk dX2_forgetHeights_29
      · refine mj_aload_n C dX2_forgetHeights_16 rfl ?_
        refine mg_X2_54 C dX2_forgetHeights_17 ?_
        refine mj_iload_n C dX2_forgetHeights_20 rfl ?_
        refine mj_iconstV (v := 1) C dX2_forgetHeights_21 mc_i_1 ?_
        obtain ⟨hg3, hF⟩ := mj_og hF
        refine mj_zastore C dX2_forgetHeights_22 rfl rfl hg3 ?_
        refine mj_iinc (v := v1 + 1) C dX2_forgetHeights_23 rfl rfl (by decide) ?_
        refine mj_goto C dX2_forgetHeights_26 rfl ?_
        refine mj_to ?_ (ih (v1 + 1) (mj_sI σ 33 v1.toNatClampNeg 1) R hF)
        exact ⟨rfl, rfl, trivial⟩
set_option maxRecDepth 100000 in
set_option maxHeartbeats 4000000 in
theorem c_X2_forgetHeights {G : mj_G} {l : Launch} (σ : mj_S) (R : mj_S) (hF : f_X2_forgetHeights σ = some R) : mj_C G l yX2_forgetHeights cX2_forgetHeights 2 (none) 1 [.ref (G.2.1 9)] σ none R := by
  unfold f_X2_forgetHeights at hF
  refine mj_of (ls := [(0, .ref (G.2.1 9))]) (by decide) (Nat.le_of_ble_eq_true rfl) rfl (fun p e s m args below meth c C hr hlk => ?_)
  refine mj_iconstV (v := 0) C dX2_forgetHeights_0 mc_i_0 ?_
  refine mj_istore_n C dX2_forgetHeights_1 (by decide) ?_
  refine mj_to ?_ (w_X2_forgetHeights_2 C hr hlk mj_fu 0 σ R hF)
  exact ⟨rfl, rfl, trivial⟩
set_option maxRecDepth 100000 in
set_option maxHeartbeats 4000000 in
theorem w_X2_raise_7 {p : Program} {l : Launch} {e : Env} {s : State} {m : MethodId} {args : Array Value} {below : List Frame} {meth : Method} {c : Code} {G : mj_G} (C : mj_X p s m args meth c G cX2_raise 5 RX2) (hr : meth.sig.returnType = none) (hlk : meth.locks = false) : ∀ (n : Nat) (a0 na0 : Nat) (ha0 : mj_il a0 = some na0) (v2 : Int32) (v3 : Int32) (v4 : Int32) (σ : mj_S) (R : mj_S), b_X2_raise_7 n a0 na0 v2 v3 v4 σ = some R → mj_W p l e (mj_rm 1) s m args below meth c G 0 0 5 (MQ below (mj_Q G none R) args s 0 0 G.2.2.2) 7 [(0, .ref (G.2.1 a0)), (2, .int v2), (3, .int v3), (4, .int v4)] [] σ := by
  intro n
  induction n with
  | zero =>
    intro a0 na0 ha0 v2 v3 v4 σ R hF
    cases hF
  | succ n ih =>
    intro a0 na0 ha0 v2 v3 v4 σ R hF
    rw [b_X2_raise_7] at hF
    refine mj_iload C dX2_raise_7 rfl ?_
    refine mj_iload_n C dX2_raise_9 rfl ?_
    refine mj_ic_gt C dX2_raise_10 rfl hF (fun hc1 hF => ?_) (fun hc1 hF => ?_)
    · have hF := mj_oi hF; subst hF
      exact mj_vret C hr hlk dX2_raise_38
    · refine mj_iload C dX2_raise_13 rfl ?_
      refine mj_aload_n C dX2_raise_15 rfl ?_
      refine mj_alen (v := Int32.ofNat na0) C dX2_raise_16 ha0 rfl ?_
      refine mj_ic_ge C dX2_raise_17 rfl hF (fun hc2 hF => ?_) (fun hc2 hF => ?_)
      · have hF := mj_oi hF; subst hF
        exact mj_vret C hr hlk dX2_raise_38
      · refine mj_aload_n C dX2_raise_20 rfl ?_
        refine mj_iload C dX2_raise_21 rfl ?_
        refine mj_aload_n C dX2_raise_23 rfl ?_
        refine mj_iload C dX2_raise_24 rfl ?_
        obtain ⟨hg3, hF⟩ := mj_og hF
        refine mj_iaload C dX2_raise_26 ha0 hg3 ?_
        refine mj_iload_n C dX2_raise_27 rfl ?_
        refine mj_mmax C kl_X2_82 (mj_room13 (by decide) (Nat.le_of_ble_eq_true rfl)) ⟨Nat.zero_le _, Nat.zero_le _⟩ dX2_raise_28 ?_
        obtain ⟨hg4, hF⟩ := mj_og hF
        refine mj_iastore C dX2_raise_31 ha0 hg4 ?_
        refine mj_iinc (v := v4 + 1) C dX2_raise_32 rfl rfl (by decide) ?_
        refine mj_goto C dX2_raise_35 rfl ?_
        refine mj_to ?_ (ih a0 na0 ha0 v2 v3 (v4 + 1) (mj_sI σ a0 v4.toNatClampNeg (mj_max (σ.1 a0 v4.toNatClampNeg) v3)) R hF)
        exact ⟨rfl, rfl, rfl, rfl, trivial⟩
set_option maxRecDepth 100000 in
set_option maxHeartbeats 4000000 in
theorem c_X2_raise {G : mj_G} {l : Launch} (σ : mj_S) (a0 n0 : Nat) (h0 : mj_il a0 = some n0) (p1 : Int32) (p2 : Int32) (p3 : Int32) (R : mj_S) (hF : f_X2_raise σ a0 n0 p1 p2 p3 = some R) : mj_C G l yX2_raise cX2_raise 5 (none) 1 [.ref (G.2.1 a0), .int p1, .int p2, .int p3] σ none R := by
  unfold f_X2_raise at hF
  refine mj_of (ls := [(0, .ref (G.2.1 a0)), (1, .int p1), (2, .int p2), (3, .int p3)]) (by decide) (Nat.le_of_ble_eq_true rfl) rfl (fun p e s m args below meth c C hr hlk => ?_)
  refine mj_iconstV (v := 0) C dX2_raise_0 mc_i_0 ?_
  refine mj_iload_n C dX2_raise_1 rfl ?_
  refine mj_mmax C kl_X2_82 (mj_room13 (by decide) (Nat.le_of_ble_eq_true rfl)) ⟨Nat.zero_le _, Nat.zero_le _⟩ dX2_raise_2 ?_
  refine mj_istore C dX2_raise_5 (by decide) ?_
  refine mj_to ?_ (w_X2_raise_7 C hr hlk mj_fu a0 n0 h0 p2 p3 (mj_max 0 p1) σ R hF)
  exact ⟨rfl, rfl, rfl, rfl, trivial⟩
set_option maxRecDepth 100000 in
set_option maxHeartbeats 4000000 in
theorem c_X2_addWant {G : mj_G} {l : Launch} (σ : mj_S) (p1 : Int32) (p2 : Int32) (p3 : Int32) (R : (Int32 × mj_S)) (hF : f_X2_addWant σ p1 p2 p3 = some R) : mj_C G l yX2_addWant cX2_addWant 4 (some .int) 2 [.ref (G.2.1 9), .int p1, .int p2, .int p3] σ (some (.int R.1)) R.2 := by
  unfold f_X2_addWant at hF
  refine mj_of (ls := [(0, .ref (G.2.1 9)), (1, .int p1), (2, .int p2), (3, .int p3)]) (by decide) (Nat.le_of_ble_eq_true rfl) rfl (fun p e s m args below meth c C hr hlk => ?_)
  refine mj_aload_n C dX2_addWant_0 rfl ?_
  refine mg_X2_31 C dX2_addWant_1 ?_
  refine mj_iload_n C dX2_addWant_4 rfl ?_
  refine mj_iload_n C dX2_addWant_5 rfl ?_
  refine mj_iload_n C dX2_addWant_6 rfl ?_
  obtain ⟨r1, hq1, hF⟩ := mj_ob hF
  refine mj_callSv C (c_X2_raise σ 15 600 rfl p1 p2 p3 r1 hq1) ys_X2_raise kl_X2_75 rfl rfl (Nat.le_of_ble_eq_true rfl) (mj_roomC (by decide) (by decide)) ⟨Nat.zero_le _, Nat.zero_le _⟩ dX2_addWant_7 ?_
  refine mj_aload_n C dX2_addWant_10 rfl ?_
  obtain ⟨r2, hq2, hF⟩ := mj_ob hF
  refine mj_callVv C (c_X2_forgetHeights r1 r2 hq2) yv_X2_forgetHeights kl_X2_79 (mo_9 G _) rfl rfl rfl rfl (Nat.le_of_ble_eq_true rfl) (mj_roomC (by decide) (by decide)) ⟨Nat.zero_le _, Nat.zero_le _⟩ dX2_addWant_11 ?_
  refine mj_aload_n C dX2_addWant_14 rfl ?_
  refine mj_dup C dX2_addWant_15 rfl ?_
  refine mg_X2_40 C dX2_addWant_16 ?_
  refine mj_iconstV (v := 1) C dX2_addWant_19 mc_i_1 ?_
  refine mj_iadd C dX2_addWant_20 ?_
  refine mp_X2_40 C dX2_addWant_21 ?_
  refine mj_aload_n C dX2_addWant_24 rfl ?_
  refine mg_X2_40 C dX2_addWant_25 ?_
  refine mj_iconstV (v := 1) C dX2_addWant_28 mc_i_1 ?_
  refine mj_isub C dX2_addWant_29 ?_
  have hF := mj_oi hF; subst hF
  exact mj_iret C hr hlk dX2_addWant_30
set_option maxRecDepth 100000 in
set_option maxHeartbeats 4000000 in
theorem c_X2_name {G : mj_G} {l : Launch} (σ : mj_S) (p1 : Int32) (p2 : Int32) (p3 : Int32) (R : mj_S) (hF : f_X2_name σ p1 p2 p3 = some R) : mj_C G l yX2_name cX2_name 4 (none) 1 [.ref (G.2.1 9), .int p1, .int p2, .int p3] σ none R := by
  unfold f_X2_name at hF
  refine mj_of (ls := [(0, .ref (G.2.1 9)), (1, .int p1), (2, .int p2), (3, .int p3)]) (by decide) (Nat.le_of_ble_eq_true rfl) rfl (fun p e s m args below meth c C hr hlk => ?_)
  refine mj_aload_n C dX2_name_0 rfl ?_
  refine mg_X2_60 C dX2_name_1 ?_
  refine mj_iconstV (v := 1) C dX2_name_4 mc_i_1 ?_
  refine mj_iload_n C dX2_name_5 rfl ?_
  refine mj_iastore C dX2_name_6 rfl (by decide) ?_
  refine mj_aload_n C dX2_name_7 rfl ?_
  refine mg_X2_60 C dX2_name_8 ?_
  refine mj_iconstV (v := 4) C dX2_name_11 mc_i_4 ?_
  refine mj_iload_n C dX2_name_12 rfl ?_
  refine mj_bipushV (v := 64) C dX2_name_13 mc_b_64 ?_
  refine mj_idiv C dX2_name_15 (by decide) ?_
  refine mj_iastore C dX2_name_16 rfl (by decide) ?_
  refine mj_aload_n C dX2_name_17 rfl ?_
  refine mg_X2_60 C dX2_name_18 ?_
  refine mj_bipushV (v := 6) C dX2_name_21 mc_b_6 ?_
  refine mj_iload_n C dX2_name_23 rfl ?_
  refine mj_iastore C dX2_name_24 rfl (by decide) ?_
  have hF := mj_oi hF; subst hF
  exact mj_vret C hr hlk dX2_name_25
set_option maxRecDepth 100000 in
set_option maxHeartbeats 4000000 in
theorem c_X2_heightAt {G : mj_G} {l : Launch} (σ : mj_S) (p1 : Int32) (p2 : Int32) (R : Int32) (hF : f_X2_heightAt σ p1 p2 = some R) : mj_C G l yX2_heightAt cX2_heightAt 3 (some .int) 2 [.ref (G.2.1 9), .int p1, .int p2] σ (some (.int R)) σ := by
  unfold f_X2_heightAt at hF
  refine mj_of (ls := [(0, .ref (G.2.1 9)), (1, .int p1), (2, .int p2)]) (by decide) (Nat.le_of_ble_eq_true rfl) rfl (fun p e s m args below meth c C hr hlk => ?_)
  refine mj_aload_n C dX2_heightAt_0 rfl ?_
  refine mj_iload_n C dX2_heightAt_1 rfl ?_
  refine mj_callVi C (c_X2_has σ p1) yv_X2_has kl_X2_67 (mo_9 G _) rfl rfl rfl rfl (Nat.le_of_ble_eq_true rfl) (mj_roomC (by decide) (by decide)) ⟨Nat.zero_le _, Nat.zero_le _⟩ dX2_heightAt_2 ?_
  refine mj_if_eq C dX2_heightAt_5 rfl hF (fun hc1 hF => ?_) (fun hc1 hF => ?_)
  · refine mj_iconstV (v := 0) C dX2_heightAt_31 mc_i_0 ?_
    have hF := mj_oi hF; subst hF
    exact mj_iret C hr hlk dX2_heightAt_32
  · refine mj_iconstV (v := 0) C dX2_heightAt_8 mc_i_0 ?_
    refine mj_iload_n C dX2_heightAt_9 rfl ?_
    refine mj_ic_gt C dX2_heightAt_10 rfl hF (fun hc2 hF => ?_) (fun hc2 hF => ?_)
    · refine mj_iconstV (v := 0) C dX2_heightAt_31 mc_i_0 ?_
      have hF := mj_oi hF; subst hF
      exact mj_iret C hr hlk dX2_heightAt_32
    · refine mj_iload_n C dX2_heightAt_13 rfl ?_
      refine mj_sipushV (v := 600) C dX2_heightAt_14 mc_s_600 ?_
      refine mj_ic_ge C dX2_heightAt_17 rfl hF (fun hc3 hF => ?_) (fun hc3 hF => ?_)
      · refine mj_iconstV (v := 0) C dX2_heightAt_31 mc_i_0 ?_
        have hF := mj_oi hF; subst hF
        exact mj_iret C hr hlk dX2_heightAt_32
      · refine mj_aload_n C dX2_heightAt_20 rfl ?_
        refine mg_X2_45 C dX2_heightAt_21 ?_
        refine mj_iload_n C dX2_heightAt_24 rfl ?_
        obtain ⟨hg4, hF⟩ := mj_og hF
        have hA5 := mj_row_18 hg4
        refine mj_aaI C rfl (Nat.le_of_ble_eq_true rfl) hg4 dX2_heightAt_25 ?_
        refine mj_iload_n C dX2_heightAt_26 rfl ?_
        obtain ⟨hg6, hF⟩ := mj_og hF
        refine mj_iaload C dX2_heightAt_27 hA5 hg6 ?_
        refine mj_goto C dX2_heightAt_28 rfl ?_
        have hF := mj_oi hF; subst hF
        exact mj_iret C hr hlk dX2_heightAt_32
set_option maxRecDepth 100000 in
set_option maxHeartbeats 4000000 in
theorem c_X2_modelHeightAt {G : mj_G} {l : Launch} (σ : mj_S) (p1 : Int32) (p2 : Int32) (R : Int32) (hF : f_X2_modelHeightAt σ p1 p2 = some R) : mj_C G l yX2_modelHeightAt cX2_modelHeightAt 3 (some .int) 2 [.ref (G.2.1 9), .int p1, .int p2] σ (some (.int R)) σ := by
  unfold f_X2_modelHeightAt at hF
  refine mj_of (ls := [(0, .ref (G.2.1 9)), (1, .int p1), (2, .int p2)]) (by decide) (Nat.le_of_ble_eq_true rfl) rfl (fun p e s m args below meth c C hr hlk => ?_)
  refine mj_aload_n C dX2_modelHeightAt_0 rfl ?_
  refine mj_iload_n C dX2_modelHeightAt_1 rfl ?_
  refine mj_callVi C (c_X2_has σ p1) yv_X2_has kl_X2_67 (mo_9 G _) rfl rfl rfl rfl (Nat.le_of_ble_eq_true rfl) (mj_roomC (by decide) (by decide)) ⟨Nat.zero_le _, Nat.zero_le _⟩ dX2_modelHeightAt_2 ?_
  refine mj_if_eq C dX2_modelHeightAt_5 rfl hF (fun hc1 hF => ?_) (fun hc1 hF => ?_)
  · refine mj_iconstV (v := 0) C dX2_modelHeightAt_31 mc_i_0 ?_
    have hF := mj_oi hF; subst hF
    exact mj_iret C hr hlk dX2_modelHeightAt_32
  · refine mj_iconstV (v := 0) C dX2_modelHeightAt_8 mc_i_0 ?_
    refine mj_iload_n C dX2_modelHeightAt_9 rfl ?_
    refine mj_ic_gt C dX2_modelHeightAt_10 rfl hF (fun hc2 hF => ?_) (fun hc2 hF => ?_)
    · refine mj_iconstV (v := 0) C dX2_modelHeightAt_31 mc_i_0 ?_
      have hF := mj_oi hF; subst hF
      exact mj_iret C hr hlk dX2_modelHeightAt_32
    · refine mj_iload_n C dX2_modelHeightAt_13 rfl ?_
      refine mj_sipushV (v := 600) C dX2_modelHeightAt_14 mc_s_600 ?_
      refine mj_ic_ge C dX2_modelHeightAt_17 rfl hF (fun hc3 hF => ?_) (fun hc3 hF => ?_)
      · refine mj_iconstV (v := 0) C dX2_modelHeightAt_31 mc_i_0 ?_
        have hF := mj_oi hF; subst hF
        exact mj_iret C hr hlk dX2_modelHeightAt_32
      · refine mj_aload_n C dX2_modelHeightAt_20 rfl ?_
        refine mg_X2_48 C dX2_modelHeightAt_21 ?_
        refine mj_iload_n C dX2_modelHeightAt_24 rfl ?_
        obtain ⟨hg4, hF⟩ := mj_og hF
        have hA5 := mj_row_25 hg4
        refine mj_aaI C rfl (Nat.le_of_ble_eq_true rfl) hg4 dX2_modelHeightAt_25 ?_
        refine mj_iload_n C dX2_modelHeightAt_26 rfl ?_
        obtain ⟨hg6, hF⟩ := mj_og hF
        refine mj_iaload C dX2_modelHeightAt_27 hA5 hg6 ?_
        refine mj_goto C dX2_modelHeightAt_28 rfl ?_
        have hF := mj_oi hF; subst hF
        exact mj_iret C hr hlk dX2_modelHeightAt_32
set_option maxRecDepth 100000 in
set_option maxHeartbeats 4000000 in
theorem c_X2_thoughtHeightAt {G : mj_G} {l : Launch} (σ : mj_S) (p1 : Int32) (R : Int32) (hF : f_X2_thoughtHeightAt σ p1 = some R) : mj_C G l yX2_thoughtHeightAt cX2_thoughtHeightAt 2 (some .int) 1 [.ref (G.2.1 9), .int p1] σ (some (.int R)) σ := by
  unfold f_X2_thoughtHeightAt at hF
  refine mj_of (ls := [(0, .ref (G.2.1 9)), (1, .int p1)]) (by decide) (Nat.le_of_ble_eq_true rfl) rfl (fun p e s m args below meth c C hr hlk => ?_)
  refine mj_iconstV (v := 0) C dX2_thoughtHeightAt_0 mc_i_0 ?_
  refine mj_iload_n C dX2_thoughtHeightAt_1 rfl ?_
  refine mj_ic_gt C dX2_thoughtHeightAt_2 rfl hF (fun hc1 hF => ?_) (fun hc1 hF => ?_)
  · refine mj_iconstV (v := 0) C dX2_thoughtHeightAt_21 mc_i_0 ?_
    have hF := mj_oi hF; subst hF
    exact mj_iret C hr hlk dX2_thoughtHeightAt_22
  · refine mj_iload_n C dX2_thoughtHeightAt_5 rfl ?_
    refine mj_sipushV (v := 600) C dX2_thoughtHeightAt_6 mc_s_600 ?_
    refine mj_ic_ge C dX2_thoughtHeightAt_9 rfl hF (fun hc2 hF => ?_) (fun hc2 hF => ?_)
    · refine mj_iconstV (v := 0) C dX2_thoughtHeightAt_21 mc_i_0 ?_
      have hF := mj_oi hF; subst hF
      exact mj_iret C hr hlk dX2_thoughtHeightAt_22
    · refine mj_aload_n C dX2_thoughtHeightAt_12 rfl ?_
      refine mg_X2_51 C dX2_thoughtHeightAt_13 ?_
      refine mj_iload_n C dX2_thoughtHeightAt_16 rfl ?_
      obtain ⟨hg3, hF⟩ := mj_og hF
      refine mj_iaload C dX2_thoughtHeightAt_17 rfl hg3 ?_
      refine mj_goto C dX2_thoughtHeightAt_18 rfl ?_
      have hF := mj_oi hF; subst hF
      exact mj_iret C hr hlk dX2_thoughtHeightAt_22
