set_option maxRecDepth 100000 in
set_option maxHeartbeats 4000000 in
theorem c_X2_has {G : mj_G} {l : Launch} (σ : mj_S) (p1 : Int32) : mj_C G l yX2_has cX2_has 2 (some .boolean) 1 [.ref (G.2.1 9), .int p1] σ (some (.int (f_X2_has σ p1))) σ := by
  generalize hF : f_X2_has σ p1 = R
  unfold f_X2_has at hF
  refine mj_of (ls := [(0, .ref (G.2.1 9)), (1, .int p1)]) (by decide) (Nat.le_of_ble_eq_true rfl) rfl (fun p e s m args below meth c C hr hlk => ?_)
  refine mj_iconstV (v := 0) C dX2_has_0 mc_i_0 ?_
  refine mj_iload_n C dX2_has_1 rfl ?_
  refine mj_ic_gt C dX2_has_2 rfl hF (fun hc1 hF => ?_) (fun hc1 hF => ?_)
  · refine mj_iconstV (v := 0) C dX2_has_17 mc_i_0 ?_
    subst hF
    exact mj_zret (v := 0) rfl C hr hlk dX2_has_18
  · refine mj_iload_n C dX2_has_5 rfl ?_
    refine mj_aload_n C dX2_has_6 rfl ?_
    refine mg_X2_27 C dX2_has_7 ?_
    refine mj_ic_ge C dX2_has_10 rfl hF (fun hc2 hF => ?_) (fun hc2 hF => ?_)
    · refine mj_iconstV (v := 0) C dX2_has_17 mc_i_0 ?_
      subst hF
      exact mj_zret (v := 0) rfl C hr hlk dX2_has_18
    · refine mj_iconstV (v := 1) C dX2_has_13 mc_i_1 ?_
      refine mj_goto C dX2_has_14 rfl ?_
      subst hF
      exact mj_zret (v := 1) rfl C hr hlk dX2_has_18
set_option maxRecDepth 100000 in
set_option maxHeartbeats 4000000 in
theorem c_X2_becomeLate {G : mj_G} {l : Launch} (σ : mj_S) (p1 : Int32) (p2 : Int32) (R : mj_S) (hF : f_X2_becomeLate σ p1 p2 = some R) : mj_C G l yX2_becomeLate cX2_becomeLate 3 (none) 2 [.ref (G.2.1 9), .int p1, .int p2] σ none R := by
  unfold f_X2_becomeLate at hF
  refine mj_of (ls := [(0, .ref (G.2.1 9)), (1, .int p1), (2, .int p2)]) (by decide) (Nat.le_of_ble_eq_true rfl) rfl (fun p e s m args below meth c C hr hlk => ?_)
  refine mj_aload_n C dX2_becomeLate_0 rfl ?_
  refine mj_iload_n C dX2_becomeLate_1 rfl ?_
  refine mj_callVi C (c_X2_has σ p1) yv_X2_has kl_X2_67 (mo_9 G _) rfl rfl rfl rfl (Nat.le_of_ble_eq_true rfl) (mj_roomC (by decide) (by decide)) ⟨Nat.zero_le _, Nat.zero_le _⟩ dX2_becomeLate_2 ?_
  refine mj_if_eq C dX2_becomeLate_5 rfl hF (fun hc1 hF => ?_) (fun hc1 hF => ?_)
  · have hF := mj_oi hF; subst hF
    exact mj_vret C hr hlk dX2_becomeLate_22
  · refine mj_aload_n C dX2_becomeLate_8 rfl ?_
    refine mg_X2_21 C dX2_becomeLate_9 ?_
    refine mj_iload_n C dX2_becomeLate_12 rfl ?_
    refine mj_iload_n C dX2_becomeLate_13 rfl ?_
    obtain ⟨hg2, hF⟩ := mj_og hF
    refine mj_iastore C dX2_becomeLate_14 rfl hg2 ?_
    refine mj_aload_n C dX2_becomeLate_15 rfl ?_
    refine mg_X2_54 C dX2_becomeLate_16 ?_
    refine mj_iload_n C dX2_becomeLate_19 rfl ?_
    refine mj_iconstV (v := 1) C dX2_becomeLate_20 mc_i_1 ?_
    obtain ⟨hg3, hF⟩ := mj_og hF
    refine mj_zastore C dX2_becomeLate_21 rfl rfl hg3 ?_
    have hF := mj_oi hF; subst hF
    exact mj_vret C hr hlk dX2_becomeLate_22
set_option maxRecDepth 100000 in
set_option maxHeartbeats 4000000 in
theorem c_X2_becomeParents {G : mj_G} {l : Launch} (σ : mj_S) (p1 : Int32) (p2 : Int32) (R : mj_S) (hF : f_X2_becomeParents σ p1 p2 = some R) : mj_C G l yX2_becomeParents cX2_becomeParents 3 (none) 2 [.ref (G.2.1 9), .int p1, .int p2] σ none R := by
  unfold f_X2_becomeParents at hF
  refine mj_of (ls := [(0, .ref (G.2.1 9)), (1, .int p1), (2, .int p2)]) (by decide) (Nat.le_of_ble_eq_true rfl) rfl (fun p e s m args below meth c C hr hlk => ?_)
  refine mj_aload_n C dX2_becomeParents_0 rfl ?_
  refine mj_iload_n C dX2_becomeParents_1 rfl ?_
  refine mj_callVi C (c_X2_has σ p1) yv_X2_has kl_X2_67 (mo_9 G _) rfl rfl rfl rfl (Nat.le_of_ble_eq_true rfl) (mj_roomC (by decide) (by decide)) ⟨Nat.zero_le _, Nat.zero_le _⟩ dX2_becomeParents_2 ?_
  refine mj_if_eq C dX2_becomeParents_5 rfl hF (fun hc1 hF => ?_) (fun hc1 hF => ?_)
  · have hF := mj_oi hF; subst hF
    exact mj_vret C hr hlk dX2_becomeParents_22
  · refine mj_aload_n C dX2_becomeParents_8 rfl ?_
    refine mg_X2_24 C dX2_becomeParents_9 ?_
    refine mj_iload_n C dX2_becomeParents_12 rfl ?_
    refine mj_iload_n C dX2_becomeParents_13 rfl ?_
    obtain ⟨hg2, hF⟩ := mj_og hF
    refine mj_iastore C dX2_becomeParents_14 rfl hg2 ?_
    refine mj_aload_n C dX2_becomeParents_15 rfl ?_
    refine mg_X2_54 C dX2_becomeParents_16 ?_
    refine mj_iload_n C dX2_becomeParents_19 rfl ?_
    refine mj_iconstV (v := 1) C dX2_becomeParents_20 mc_i_1 ?_
    obtain ⟨hg3, hF⟩ := mj_og hF
    refine mj_zastore C dX2_becomeParents_21 rfl rfl hg3 ?_
    have hF := mj_oi hF; subst hF
    exact mj_vret C hr hlk dX2_becomeParents_22
set_option maxRecDepth 100000 in
set_option maxHeartbeats 4000000 in
theorem c_X2_told {G : mj_G} {l : Launch} (σ : mj_S) (p1 : Int32) (p2 : Int32) (R : Int32) (hF : f_X2_told σ p1 p2 = some R) : mj_C G l yX2_told cX2_told 3 (some .int) 2 [.ref (G.2.1 9), .int p1, .int p2] σ (some (.int R)) σ := by
  unfold f_X2_told at hF
  refine mj_of (ls := [(0, .ref (G.2.1 9)), (1, .int p1), (2, .int p2)]) (by decide) (Nat.le_of_ble_eq_true rfl) rfl (fun p e s m args below meth c C hr hlk => ?_)
  refine mj_aload_n C dX2_told_0 rfl ?_
  refine mj_iload_n C dX2_told_1 rfl ?_
  refine mj_callVi C (c_X2_has σ p1) yv_X2_has kl_X2_67 (mo_9 G _) rfl rfl rfl rfl (Nat.le_of_ble_eq_true rfl) (mj_roomC (by decide) (by decide)) ⟨Nat.zero_le _, Nat.zero_le _⟩ dX2_told_2 ?_
  refine mj_if_ne C dX2_told_5 rfl hF (fun hc1 hF => ?_) (fun hc1 hF => ?_)
  · refine mj_iload_n C dX2_told_11 rfl ?_
    by_cases hw2_0 : p2 = 0
    · rw [if_pos hw2_0] at hF
      refine mj_tsIn (off := 36) C dX2_told_12 (by rw [hw2_0]; decide) (by rw [hw2_0]; decide) (by rw [hw2_0]; rfl) rfl ?_
      refine mj_aload_n C dX2_told_48 rfl ?_
      refine mg_X2_9 C dX2_told_49 ?_
      refine mj_iload_n C dX2_told_52 rfl ?_
      obtain ⟨hg3, hF⟩ := mj_og hF
      refine mj_iaload C dX2_told_53 rfl hg3 ?_
      have hF := mj_oi hF; subst hF
      exact mj_iret C hr hlk dX2_told_54
    rw [if_neg hw2_0] at hF
    by_cases hw2_1 : p2 = 1
    · rw [if_pos hw2_1] at hF
      refine mj_tsIn (off := 43) C dX2_told_12 (by rw [hw2_1]; decide) (by rw [hw2_1]; decide) (by rw [hw2_1]; rfl) rfl ?_
      refine mj_aload_n C dX2_told_55 rfl ?_
      refine mg_X2_15 C dX2_told_56 ?_
      refine mj_iload_n C dX2_told_59 rfl ?_
      obtain ⟨hg4, hF⟩ := mj_og hF
      refine mj_iaload C dX2_told_60 rfl hg4 ?_
      have hF := mj_oi hF; subst hF
      exact mj_iret C hr hlk dX2_told_61
    rw [if_neg hw2_1] at hF
    by_cases hw2_2 : p2 = 2
    · rw [if_pos hw2_2] at hF
      refine mj_tsIn (off := 50) C dX2_told_12 (by rw [hw2_2]; decide) (by rw [hw2_2]; decide) (by rw [hw2_2]; rfl) rfl ?_
      refine mj_aload_n C dX2_told_62 rfl ?_
      refine mg_X2_18 C dX2_told_63 ?_
      refine mj_iload_n C dX2_told_66 rfl ?_
      obtain ⟨hg5, hF⟩ := mj_og hF
      refine mj_iaload C dX2_told_67 rfl hg5 ?_
      have hF := mj_oi hF; subst hF
      exact mj_iret C hr hlk dX2_told_68
    rw [if_neg hw2_2] at hF
    by_cases hw2_3 : p2 = 3
    · rw [if_pos hw2_3] at hF
      refine mj_tsIn (off := 57) C dX2_told_12 (by rw [hw2_3]; decide) (by rw [hw2_3]; decide) (by rw [hw2_3]; rfl) rfl ?_
      refine mj_aload_n C dX2_told_69 rfl ?_
      refine mg_X2_21 C dX2_told_70 ?_
      refine mj_iload_n C dX2_told_73 rfl ?_
      obtain ⟨hg6, hF⟩ := mj_og hF
      refine mj_iaload C dX2_told_74 rfl hg6 ?_
      have hF := mj_oi hF; subst hF
      exact mj_iret C hr hlk dX2_told_75
    rw [if_neg hw2_3] at hF
    by_cases hw2_4 : p2 = 4
    · rw [if_pos hw2_4] at hF
      refine mj_tsIn (off := 64) C dX2_told_12 (by rw [hw2_4]; decide) (by rw [hw2_4]; decide) (by rw [hw2_4]; rfl) rfl ?_
      refine mj_aload_n C dX2_told_76 rfl ?_
      refine mg_X2_24 C dX2_told_77 ?_
      refine mj_iload_n C dX2_told_80 rfl ?_
      obtain ⟨hg7, hF⟩ := mj_og hF
      refine mj_iaload C dX2_told_81 rfl hg7 ?_
      have hF := mj_oi hF; subst hF
      exact mj_iret C hr hlk dX2_told_82
    rw [if_neg hw2_4] at hF
    refine mj_tsOut C dX2_told_12 (mj_sw_0_5 hw2_0 hw2_1 hw2_2 hw2_3 hw2_4) rfl ?_
    refine mj_ldc C dX2_told_83 kc_X2_71 ?_
    have hF := mj_oi hF; subst hF
    exact mj_iret C hr hlk dX2_told_85
  · refine mj_ldc C dX2_told_8 kc_X2_71 ?_
    have hF := mj_oi hF; subst hF
    exact mj_iret C hr hlk dX2_told_10
set_option maxRecDepth 100000 in
set_option maxHeartbeats 4000000 in
theorem c_X2_size {G : mj_G} {l : Launch} (σ : mj_S) : mj_C G l yX2_size cX2_size 1 (some .int) 1 [.ref (G.2.1 9)] σ (some (.int (f_X2_size σ))) σ := by
  generalize hF : f_X2_size σ = R
  unfold f_X2_size at hF
  refine mj_of (ls := [(0, .ref (G.2.1 9))]) (by decide) (Nat.le_of_ble_eq_true rfl) rfl (fun p e s m args below meth c C hr hlk => ?_)
  refine mj_aload_n C dX2_size_0 rfl ?_
  refine mg_X2_27 C dX2_size_1 ?_
  subst hF
  exact mj_iret C hr hlk dX2_size_4
set_option maxRecDepth 100000 in
set_option maxHeartbeats 4000000 in
theorem c_X2_add {G : mj_G} {l : Launch} (σ : mj_S) (p1 : Int32) (p2 : Int32) (p3 : Int32) (p4 : Int32) (p5 : Int32) (R : (Int32 × mj_S)) (hF : f_X2_add σ p1 p2 p3 p4 p5 = some R) : mj_C G l yX2_add cX2_add 6 (some .int) 1 [.ref (G.2.1 9), .int p1, .int p2, .int p3, .int p4, .int p5] σ (some (.int R.1)) R.2 := by
  unfold f_X2_add at hF
  refine mj_of (ls := [(0, .ref (G.2.1 9)), (1, .int p1), (2, .int p2), (3, .int p3), (4, .int p4), (5, .int p5)]) (by decide) (Nat.le_of_ble_eq_true rfl) rfl (fun p e s m args below meth c C hr hlk => ?_)
  refine mj_aload_n C dX2_add_0 rfl ?_
  refine mg_X2_27 C dX2_add_1 ?_
  refine mj_bipushV (v := 6) C dX2_add_4 mc_b_6 ?_
  refine mj_ic_lt C dX2_add_6 rfl hF (fun hc1 hF => ?_) (fun hc1 hF => ?_)
  · refine mj_aload_n C dX2_add_12 rfl ?_
    refine mg_X2_9 C dX2_add_13 ?_
    refine mj_aload_n C dX2_add_16 rfl ?_
    refine mg_X2_27 C dX2_add_17 ?_
    refine mj_iload_n C dX2_add_20 rfl ?_
    obtain ⟨hg2, hF⟩ := mj_og hF
    refine mj_iastore C dX2_add_21 rfl hg2 ?_
    refine mj_aload_n C dX2_add_22 rfl ?_
    refine mg_X2_15 C dX2_add_23 ?_
    refine mj_aload_n C dX2_add_26 rfl ?_
    refine mg_X2_27 C dX2_add_27 ?_
    refine mj_iload_n C dX2_add_30 rfl ?_
    obtain ⟨hg3, hF⟩ := mj_og hF
    refine mj_iastore C dX2_add_31 rfl hg3 ?_
    refine mj_aload_n C dX2_add_32 rfl ?_
    refine mg_X2_18 C dX2_add_33 ?_
    refine mj_aload_n C dX2_add_36 rfl ?_
    refine mg_X2_27 C dX2_add_37 ?_
    refine mj_iload_n C dX2_add_40 rfl ?_
    obtain ⟨hg4, hF⟩ := mj_og hF
    refine mj_iastore C dX2_add_41 rfl hg4 ?_
    refine mj_aload_n C dX2_add_42 rfl ?_
    refine mg_X2_21 C dX2_add_43 ?_
    refine mj_aload_n C dX2_add_46 rfl ?_
    refine mg_X2_27 C dX2_add_47 ?_
    refine mj_iload C dX2_add_50 rfl ?_
    obtain ⟨hg5, hF⟩ := mj_og hF
    refine mj_iastore C dX2_add_52 rfl hg5 ?_
    refine mj_aload_n C dX2_add_53 rfl ?_
    refine mg_X2_24 C dX2_add_54 ?_
    refine mj_aload_n C dX2_add_57 rfl ?_
    refine mg_X2_27 C dX2_add_58 ?_
    refine mj_iload C dX2_add_61 rfl ?_
    obtain ⟨hg6, hF⟩ := mj_og hF
    refine mj_iastore C dX2_add_63 rfl hg6 ?_
    refine mj_aload_n C dX2_add_64 rfl ?_
    refine mg_X2_54 C dX2_add_65 ?_
    refine mj_aload_n C dX2_add_68 rfl ?_
    refine mg_X2_27 C dX2_add_69 ?_
    refine mj_iconstV (v := 1) C dX2_add_72 mc_i_1 ?_
    obtain ⟨hg7, hF⟩ := mj_og hF
    refine mj_zastore C dX2_add_73 rfl rfl hg7 ?_
    refine mj_aload_n C dX2_add_74 rfl ?_
    refine mj_dup C dX2_add_75 rfl ?_
    refine mg_X2_27 C dX2_add_76 ?_
    refine mj_iconstV (v := 1) C dX2_add_79 mc_i_1 ?_
    refine mj_iadd C dX2_add_80 ?_
    refine mp_X2_27 C dX2_add_81 ?_
    refine mj_aload_n C dX2_add_84 rfl ?_
    refine mg_X2_27 C dX2_add_85 ?_
    refine mj_iconstV (v := 1) C dX2_add_88 mc_i_1 ?_
    refine mj_isub C dX2_add_89 ?_
    have hF := mj_oi hF; subst hF
    exact mj_iret C hr hlk dX2_add_90
  · refine mj_bipushV (v := (-3)) C dX2_add_9 mc_b_m3 ?_
    have hF := mj_oi hF; subst hF
    exact mj_iret C hr hlk dX2_add_11
set_option maxRecDepth 100000 in
set_option maxHeartbeats 4000000 in
theorem c_X2_bornIn {G : mj_G} {l : Launch} (σ : mj_S) (p1 : Int32) (R : Int32) (hF : f_X2_bornIn σ p1 = some R) : mj_C G l yX2_bornIn cX2_bornIn 2 (some .int) 2 [.ref (G.2.1 9), .int p1] σ (some (.int R)) σ := by
  unfold f_X2_bornIn at hF
  refine mj_of (ls := [(0, .ref (G.2.1 9)), (1, .int p1)]) (by decide) (Nat.le_of_ble_eq_true rfl) rfl (fun p e s m args below meth c C hr hlk => ?_)
  refine mj_aload_n C dX2_bornIn_0 rfl ?_
  refine mj_iload_n C dX2_bornIn_1 rfl ?_
  refine mj_callVi C (c_X2_has σ p1) yv_X2_has kl_X2_67 (mo_9 G _) rfl rfl rfl rfl (Nat.le_of_ble_eq_true rfl) (mj_roomC (by decide) (by decide)) ⟨Nat.zero_le _, Nat.zero_le _⟩ dX2_bornIn_2 ?_
  refine mj_if_eq C dX2_bornIn_5 rfl hF (fun hc1 hF => ?_) (fun hc1 hF => ?_)
  · refine mj_sipushV (v := 600) C dX2_bornIn_17 mc_s_600 ?_
    have hF := mj_oi hF; subst hF
    exact mj_iret C hr hlk dX2_bornIn_20
  · refine mj_aload_n C dX2_bornIn_8 rfl ?_
    refine mg_X2_9 C dX2_bornIn_9 ?_
    refine mj_iload_n C dX2_bornIn_12 rfl ?_
    obtain ⟨hg2, hF⟩ := mj_og hF
    refine mj_iaload C dX2_bornIn_13 rfl hg2 ?_
    refine mj_goto C dX2_bornIn_14 rfl ?_
    have hF := mj_oi hF; subst hF
    exact mj_iret C hr hlk dX2_bornIn_20
set_option maxRecDepth 100000 in
set_option maxHeartbeats 4000000 in
theorem c_X2_isBorn {G : mj_G} {l : Launch} (σ : mj_S) (p1 : Int32) (p2 : Int32) (R : Int32) (hF : f_X2_isBorn σ p1 p2 = some R) : mj_C G l yX2_isBorn cX2_isBorn 3 (some .boolean) 2 [.ref (G.2.1 9), .int p1, .int p2] σ (some (.int R)) σ := by
  unfold f_X2_isBorn at hF
  refine mj_of (ls := [(0, .ref (G.2.1 9)), (1, .int p1), (2, .int p2)]) (by decide) (Nat.le_of_ble_eq_true rfl) rfl (fun p e s m args below meth c C hr hlk => ?_)
  refine mj_aload_n C dX2_isBorn_0 rfl ?_
  refine mj_iload_n C dX2_isBorn_1 rfl ?_
  refine mj_callVi C (c_X2_has σ p1) yv_X2_has kl_X2_67 (mo_9 G _) rfl rfl rfl rfl (Nat.le_of_ble_eq_true rfl) (mj_roomC (by decide) (by decide)) ⟨Nat.zero_le _, Nat.zero_le _⟩ dX2_isBorn_2 ?_
  refine mj_if_eq C dX2_isBorn_5 rfl hF (fun hc1 hF => ?_) (fun hc1 hF => ?_)
  · refine mj_iconstV (v := 0) C dX2_isBorn_22 mc_i_0 ?_
    have hF := mj_oi hF; subst hF
    exact mj_zret (v := 0) rfl C hr hlk dX2_isBorn_23
  · refine mj_iload_n C dX2_isBorn_8 rfl ?_
    refine mj_aload_n C dX2_isBorn_9 rfl ?_
    refine mg_X2_9 C dX2_isBorn_10 ?_
    refine mj_iload_n C dX2_isBorn_13 rfl ?_
    obtain ⟨hg2, hF⟩ := mj_og hF
    refine mj_iaload C dX2_isBorn_14 rfl hg2 ?_
    refine mj_ic_lt C dX2_isBorn_15 rfl hF (fun hc3 hF => ?_) (fun hc3 hF => ?_)
    · refine mj_iconstV (v := 0) C dX2_isBorn_22 mc_i_0 ?_
      have hF := mj_oi hF; subst hF
      exact mj_zret (v := 0) rfl C hr hlk dX2_isBorn_23
    · refine mj_iconstV (v := 1) C dX2_isBorn_18 mc_i_1 ?_
      refine mj_goto C dX2_isBorn_19 rfl ?_
      have hF := mj_oi hF; subst hF
      exact mj_zret (v := 1) rfl C hr hlk dX2_isBorn_23
set_option maxRecDepth 100000 in
set_option maxHeartbeats 4000000 in
theorem c_X2_wantsTold {G : mj_G} {l : Launch} (σ : mj_S) : mj_C G l yX2_wantsTold cX2_wantsTold 1 (some .int) 1 [.ref (G.2.1 9)] σ (some (.int (f_X2_wantsTold σ))) σ := by
  generalize hF : f_X2_wantsTold σ = R
  unfold f_X2_wantsTold at hF
  refine mj_of (ls := [(0, .ref (G.2.1 9))]) (by decide) (Nat.le_of_ble_eq_true rfl) rfl (fun p e s m args below meth c C hr hlk => ?_)
  refine mj_aload_n C dX2_wantsTold_0 rfl ?_
  refine mg_X2_40 C dX2_wantsTold_1 ?_
  subst hF
  exact mj_iret C hr hlk dX2_wantsTold_4
set_option maxRecDepth 100000 in
set_option maxHeartbeats 4000000 in
theorem w_X2_forgetHeights_2 {p : Program} {l : Launch} {e : Env} {s : State} {m : MethodId} {args : Array Value} {below : List Frame} {meth : Method} {c : Code} {G : mj_G} (C : mj_X p s m args meth c G cX2_forgetHeights 2 RX2) (hr : meth.sig.returnType = none) (hlk : meth.locks = false) : ∀ (n : Nat) (v1 : Int32) (σ : mj_S) (R : mj_S), b_X2_forgetHeights_2 n v1 σ = some R → mj_W p l e (mj_rm 1) s m args below meth c G 0 0 2 (MQ below (mj_Q G none R) args s 0 0 G.2.2.2) 2 [(0, .ref (G.2.1 9)), (1, .int v1)] [] σ := by
  intro n
  induction n with
  | zero =>
    intro v1 σ R hF
    cases hF
  | succ n ih =>
    intro v1 σ R hF
    rw [b_X2_forgetHeights_2] at hF
    refine mj_iload_n C dX2_forgetHeights_2 rfl ?_
    refine mj_aload_n C dX2_forgetHeights_3 rfl ?_
    refine mg_X2_27 C dX2_forgetHeights_4 ?_
    refine mj_ic_ge C dX2_forgetHeights_7 rfl hF (fun hc1 hF => ?_) (fun hc1 hF => ?_)
    · have hF := mj_oi hF; subst hF
      exact mj_vret C hr hlk dX2_forgetHeights_29
    · refine mj_iload_n C dX2_forgetHeights_10 rfl ?_
      refine mj_bipushV (v := 6) C dX2_forgetHeights_11 mc_b_6 ?_
      refine mj_ic_ge C dX2_forgetHeights_13 rfl hF (fun hc2 hF => ?_) (fun hc2 hF => ?_)
      · have hF := mj_oi hF; subst hF
        exact mj_vret C hr hlk dX2_forgetHeights_29
      · refine mj_aload_n C dX2_forgetHeights_16 rfl ?_
        refine mg_X2_54 C dX2_forgetHeights_17 ?_
        refine mj_iload_n C dX2_forgetHeights_20 rfl ?_
        refine mj_iconstV (v := 1) C dX2_forgetHeights_21 mc_i_1 ?_
        obtain ⟨hg3, hF⟩ := mj_og hF
        refine mj_zastore C dX2_forgetHeights_22 rfl rfl hg3 ?_
        refine mj_iinc (v := v1 + 1) C dX2_forgetHeights_23 rfl rfl (by decide) ?_
        refine mj_goto C dX2_forgetHeights_26 rfl ?_
        refine mj_to ?_ (ih (v1 + 1) (mj_sI σ 33 v1.toNatClampNeg 1) R hF)
        exact ⟨rfl, rfl, trivial⟩
set_option maxRecDepth 100000 in
set_option maxHeartbeats 4000000 in
theorem c_X2_forgetHeights {G : mj_G} {l : Launch} (σ : mj_S) (R : mj_S) (hF : f_X2_forgetHeights σ = some R) : mj_C G l yX2_forgetHeights cX2_forgetHeights 2 (none) 1 [.ref (G.2.1 9)] σ none R := by
  unfold f_X2_forgetHeights at hF
  refine mj_of (ls := [(0, .ref (G.2.1 9))]) (by decide) (Nat.le_of_ble_eq_true rfl) rfl (fun p e s m args below meth c C hr hlk => ?_)
  refine mj_iconstV (v := 0) C dX2_forgetHeights_0 mc_i_0 ?_
  refine mj_istore_n C dX2_forgetHeights_1 (by decide) ?_
  refine mj_to ?_ (w_X2_forgetHeights_2 C hr hlk mj_fu 0 σ R hF)
  exact ⟨rfl, rfl, trivial⟩
set_option maxRecDepth 100000 in
set_option maxHeartbeats 4000000 in
theorem w_X2_raise_7 {p : Program} {l : Launch} {e : Env} {s : State} {m : MethodId} {args : Array Value} {below : List Frame} {meth : Method} {c : Code} {G : mj_G} (C : mj_X p s m args meth c G cX2_raise 5 RX2) (hr : meth.sig.returnType = none) (hlk : meth.locks = false) : ∀ (n : Nat) (a0 na0 : Nat) (ha0 : mj_il a0 = some na0) (v2 : Int32) (v3 : Int32) (v4 : Int32) (σ : mj_S) (R : mj_S), b_X2_raise_7 n a0 na0 v2 v3 v4 σ = some R → mj_W p l e (mj_rm 1) s m args below meth c G 0 0 5 (MQ below (mj_Q G none R) args s 0 0 G.2.2.2) 7 [(0, .ref (G.2.1 a0)), (2, .int v2), (3, .int v3), (4, .int v4)] [] σ := by
  intro n
  induction n with
  | zero =>
    intro a0 na0 ha0 v2 v3 v4 σ R hF
    cases hF
  | succ n ih =>
    intro a0 na0 ha0 v2 v3 v4 σ R hF
    rw [b_X2_raise_7] at hF
    refine mj_iload C dX2_raise_7 rfl ?_
    refine mj_iload_n C dX2_raise_9 rfl ?_
    refine mj_ic_gt C dX2_raise_10 rfl hF (fun hc1 hF => ?_) (fun hc1 hF => ?_)
    · have hF := mj_oi hF; subst hF
      exact mj_vret C hr hlk dX2_raise_38
    · refine mj_iload C dX2_raise_13 rfl ?_
      refine mj_aload_n C dX2_raise_15 rfl ?_
      refine mj_alen (v := Int32.ofNat na0) C dX2_raise_16 ha0 rfl ?_
      refine mj_ic_ge C dX2_raise_17 rfl hF (fun hc2 hF => ?_) (fun hc2 hF => ?_)
      · have hF := mj_oi hF; subst hF
        exact mj_vret C hr hlk dX2_raise_38
      · refine mj_aload_n C dX2_raise_20 rfl ?_
        refine mj_iload C dX2_raise_21 rfl ?_
        refine mj_aload_n C dX2_raise_23 rfl ?_
        refine mj_iload C dX2_raise_24 rfl ?_
        obtain ⟨hg3, hF⟩ := mj_og hF
        refine mj_iaload C dX2_raise_26 ha0 hg3 ?_
        refine mj_iload_n C dX2_raise_27 rfl ?_
        refine mj_mmax C kl_X2_82 (mj_room13 (by decide) (Nat.le_of_ble_eq_true rfl)) ⟨Nat.zero_le _, Nat.zero_le _⟩ dX2_raise_28 ?_
        obtain ⟨hg4, hF⟩ := mj_og hF
        refine mj_iastore C dX2_raise_31 ha0 hg4 ?_
        refine mj_iinc (v := v4 + 1) C dX2_raise_32 rfl rfl (by decide) ?_
        refine mj_goto C dX2_raise_35 rfl ?_
        refine mj_to ?_ (ih a0 na0 ha0 v2 v3 (v4 + 1) (mj_sI σ a0 v4.toNatClampNeg (mj_max (σ.1 a0 v4.toNatClampNeg) v3)) R hF)
        exact ⟨rfl, rfl, rfl, rfl, trivial⟩
set_option maxRecDepth 100000 in
set_option maxHeartbeats 4000000 in
theorem c_X2_raise {G : mj_G} {l : Launch} (σ : mj_S) (a0 n0 : Nat) (h0 : mj_il a0 = some n0) (p1 : Int32) (p2 : Int32) (p3 : Int32) (R : mj_S) (hF : f_X2_raise σ a0 n0 p1 p2 p3 = some R) : mj_C G l yX2_raise cX2_raise 5 (none) 1 [.ref (G.2.1 a0), .int p1, .int p2, .int p3] σ none R := by
  unfold f_X2_raise at hF
  refine mj_of (ls := [(0, .ref (G.2.1 a0)), (1, .int p1), (2, .int p2), (3, .int p3)]) (by decide) (Nat.le_of_ble_eq_true rfl) rfl (fun p e s m args below meth c C hr hlk => ?_)
  refine mj_iconstV (v := 0) C dX2_raise_0 mc_i_0 ?_
  refine mj_iload_n C dX2_raise_1 rfl ?_
  refine mj_mmax C kl_X2_82 (mj_room13 (by decide) (Nat.le_of_ble_eq_true rfl)) ⟨Nat.zero_le _, Nat.zero_le _⟩ dX2_raise_2 ?_
  refine mj_istore C dX2_raise_5 (by decide) ?_
  refine mj_to ?_ (w_X2_raise_7 C hr hlk mj_fu a0 n0 h0 p2 p3 (mj_max 0 p1) σ R hF)
  exact ⟨rfl, rfl, rfl, rfl, trivial⟩
set_option maxRecDepth 100000 in
set_option maxHeartbeats 4000000 in
theorem c_X2_addWant {G : mj_G} {l : Launch} (σ : mj_S) (p1 : Int32) (p2 : Int32) (p3 : Int32) (R : (Int32 × mj_S)) (hF : f_X2_addWant σ p1 p2 p3 = some R) : mj_C G l yX2_addWant cX2_addWant 4 (some .int) 2 [.ref (G.2.1 9), .int p1, .int p2, .int p3] σ (some (.int R.1)) R.2 := by
  unfold f_X2_addWant at hF
  refine mj_of (ls := [(0, .ref (G.2.1 9)), (1, .int p1), (2, .int p2), (3, .int p3)]) (by decide) (Nat.le_of_ble_eq_true rfl) rfl (fun p e s m args below meth c C hr hlk => ?_)
  refine mj_aload_n C dX2_addWant_0 rfl ?_
  refine mg_X2_31 C dX2_addWant_1 ?_
  refine mj_iload_n C dX2_addWant_4 rfl ?_
  refine mj_iload_n C dX2_addWant_5 rfl ?_
  refine mj_iload_n C dX2_addWant_6 rfl ?_
  obtain ⟨r1, hq1, hF⟩ := mj_ob hF
  refine mj_callSv C (c_X2_raise σ 15 600 rfl p1 p2 p3 r1 hq1) ys_X2_raise kl_X2_75 rfl rfl (Nat.le_of_ble_eq_true rfl) (mj_roomC (by decide) (by decide)) ⟨Nat.zero_le _, Nat.zero_le _⟩ dX2_addWant_7 ?_
  refine mj_aload_n C dX2_addWant_10 rfl ?_
  obtain ⟨r2, hq2, hF⟩ := mj_ob hF
  refine mj_callVv C (c_X2_forgetHeights r1 r2 hq2) yv_X2_forgetHeights kl_X2_79 (mo_9 G _) rfl rfl rfl rfl (Nat.le_of_ble_eq_true rfl) (mj_roomC (by decide) (by decide)) ⟨Nat.zero_le _, Nat.zero_le _⟩ dX2_addWant_11 ?_
  refine mj_aload_n C dX2_addWant_14 rfl ?_
  refine mj_dup C dX2_addWant_15 rfl ?_
  refine mg_X2_40 C dX2_addWant_16 ?_
  refine mj_iconstV (v := 1) C dX2_addWant_19 mc_i_1 ?_
  refine mj_iadd C dX2_addWant_20 ?_
  refine mp_X2_40 C dX2_addWant_21 ?_
  refine mj_aload_n C dX2_addWant_24 rfl ?_
  refine mg_X2_40 C dX2_addWant_25 ?_
  refine mj_iconstV (v := 1) C dX2_addWant_28 mc_i_1 ?_
  refine mj_isub C dX2_addWant_29 ?_
  have hF := mj_oi hF; subst hF
  exact mj_iret C hr hlk dX2_addWant_30
set_option maxRecDepth 100000 in
set_option maxHeartbeats 4000000 in
theorem c_X2_name {G : mj_G} {l : Launch} (σ : mj_S) (p1 : Int32) (p2 : Int32) (p3 : Int32) (R : mj_S) (hF : f_X2_name σ p1 p2 p3 = some R) : mj_C G l yX2_name cX2_name 4 (none) 1 [.ref (G.2.1 9), .int p1, .int p2, .int p3] σ none R := by
  unfold f_X2_name at hF
  refine mj_of (ls := [(0, .ref (G.2.1 9)), (1, .int p1), (2, .int p2), (3, .int p3)]) (by decide) (Nat.le_of_ble_eq_true rfl) rfl (fun p e s m args below meth c C hr hlk => ?_)
  refine mj_aload_n C dX2_name_0 rfl ?_
  refine mg_X2_60 C dX2_name_1 ?_
  refine mj_iconstV (v := 1) C dX2_name_4 mc_i_1 ?_
  refine mj_iload_n C dX2_name_5 rfl ?_
  refine mj_iastore C dX2_name_6 rfl (by decide) ?_
  refine mj_aload_n C dX2_name_7 rfl ?_
  refine mg_X2_60 C dX2_name_8 ?_
  refine mj_iconstV (v := 4) C dX2_name_11 mc_i_4 ?_
  refine mj_iload_n C dX2_name_12 rfl ?_
  refine mj_bipushV (v := 64) C dX2_name_13 mc_b_64 ?_
  refine mj_idiv C dX2_name_15 (by decide) ?_
  refine mj_iastore C dX2_name_16 rfl (by decide) ?_
  refine mj_aload_n C dX2_name_17 rfl ?_
  refine mg_X2_60 C dX2_name_18 ?_
  refine mj_bipushV (v := 6) C dX2_name_21 mc_b_6 ?_
  refine mj_iload_n C dX2_name_23 rfl ?_
  refine mj_iastore C dX2_name_24 rfl (by decide) ?_
  have hF := mj_oi hF; subst hF
  exact mj_vret C hr hlk dX2_name_25
set_option maxRecDepth 100000 in
set_option maxHeartbeats 4000000 in
theorem c_X2_heightAt {G : mj_G} {l : Launch} (σ : mj_S) (p1 : Int32) (p2 : Int32) (R : Int32) (hF : f_X2_heightAt σ p1 p2 = some R) : mj_C G l yX2_heightAt cX2_heightAt 3 (some .int) 2 [.ref (G.2.1 9), .int p1, .int p2] σ (some (.int R)) σ := by
  unfold f_X2_heightAt at hF
  refine mj_of (ls := [(0, .ref (G.2.1 9)), (1, .int p1), (2, .int p2)]) (by decide) (Nat.le_of_ble_eq_true rfl) rfl (fun p e s m args below meth c C hr hlk => ?_)
  refine mj_aload_n C dX2_heightAt_0 rfl ?_
  refine mj_iload_n C dX2_heightAt_1 rfl ?_
  refine mj_callVi C (c_X2_has σ p1) yv_X2_has kl_X2_67 (mo_9 G _) rfl rfl rfl rfl (Nat.le_of_ble_eq_true rfl) (mj_roomC (by decide) (by decide)) ⟨Nat.zero_le _, Nat.zero_le _⟩ dX2_heightAt_2 ?_
  refine mj_if_eq C dX2_heightAt_5 rfl hF (fun hc1 hF => ?_) (fun hc1 hF => ?_)
  · refine mj_iconstV (v := 0) C dX2_heightAt_31 mc_i_0 ?_
    have hF := mj_oi hF; subst hF
    exact mj_iret C hr hlk dX2_heightAt_32
  · refine mj_iconstV (v := 0) C dX2_heightAt_8 mc_i_0 ?_
    refine mj_iload_n C dX2_heightAt_9 rfl ?_
    refine mj_ic_gt C dX2_heightAt_10 rfl hF (fun hc2 hF => ?_) (fun hc2 hF => ?_)
    · refine mj_iconstV (v := 0) C dX2_heightAt_31 mc_i_0 ?_
      have hF := mj_oi hF; subst hF
      exact mj_iret C hr hlk dX2_heightAt_32
    · refine mj_iload_n C dX2_heightAt_13 rfl ?_
      refine mj_sipushV (v := 600) C dX2_heightAt_14 mc_s_600 ?_
      refine mj_ic_ge C dX2_heightAt_17 rfl hF (fun hc3 hF => ?_) (fun hc3 hF => ?_)
      · refine mj_iconstV (v := 0) C dX2_heightAt_31 mc_i_0 ?_
        have hF := mj_oi hF; subst hF
        exact mj_iret C hr hlk dX2_heightAt_32
      · refine mj_aload_n C dX2_heightAt_20 rfl ?_
        refine mg_X2_45 C dX2_heightAt_21 ?_
        refine mj_iload_n C dX2_heightAt_24 rfl ?_
        obtain ⟨hg4, hF⟩ := mj_og hF
        have hA5 := mj_row_18 hg4
        refine mj_aaI C rfl (Nat.le_of_ble_eq_true rfl) hg4 dX2_heightAt_25 ?_
        refine mj_iload_n C dX2_heightAt_26 rfl ?_
        obtain ⟨hg6, hF⟩ := mj_og hF
        refine mj_iaload C dX2_heightAt_27 hA5 hg6 ?_
        refine mj_goto C dX2_heightAt_28 rfl ?_
        have hF := mj_oi hF; subst hF
        exact mj_iret C hr hlk dX2_heightAt_32
set_option maxRecDepth 100000 in
set_option maxHeartbeats 4000000 in
theorem c_X2_modelHeightAt {G : mj_G} {l : Launch} (σ : mj_S) (p1 : Int32) (p2 : Int32) (R : Int32) (hF : f_X2_modelHeightAt σ p1 p2 = some R) : mj_C G l yX2_modelHeightAt cX2_modelHeightAt 3 (some .int) 2 [.ref (G.2.1 9), .int p1, .int p2] σ (some (.int R)) σ := by
  unfold f_X2_modelHeightAt at hF
  refine mj_of (ls := [(0, .ref (G.2.1 9)), (1, .int p1), (2, .int p2)]) (by decide) (Nat.le_of_ble_eq_true rfl) rfl (fun p e s m args below meth c C hr hlk => ?_)
  refine mj_aload_n C dX2_modelHeightAt_0 rfl ?_
  refine mj_iload_n C dX2_modelHeightAt_1 rfl ?_
  refine mj_callVi C (c_X2_has σ p1) yv_X2_has kl_X2_67 (mo_9 G _) rfl rfl rfl rfl (Nat.le_of_ble_eq_true rfl) (mj_roomC (by decide) (by decide)) ⟨Nat.zero_le _, Nat.zero_le _⟩ dX2_modelHeightAt_2 ?_
  refine mj_if_eq C dX2_modelHeightAt_5 rfl hF (fun hc1 hF => ?_) (fun hc1 hF => ?_)
  · refine mj_iconstV (v := 0) C dX2_modelHeightAt_31 mc_i_0 ?_
    have hF := mj_oi hF; subst hF
    exact mj_iret C hr hlk dX2_modelHeightAt_32
  · refine mj_iconstV (v := 0) C dX2_modelHeightAt_8 mc_i_0 ?_
    refine mj_iload_n C dX2_modelHeightAt_9 rfl ?_
    refine mj_ic_gt C dX2_modelHeightAt_10 rfl hF (fun hc2 hF => ?_) (fun hc2 hF => ?_)
    · refine mj_iconstV (v := 0) C dX2_modelHeightAt_31 mc_i_0 ?_
      have hF := mj_oi hF; subst hF
      exact mj_iret C hr hlk dX2_modelHeightAt_32
    · refine mj_iload_n C dX2_modelHeightAt_13 rfl ?_
      refine mj_sipushV (v := 600) C dX2_modelHeightAt_14 mc_s_600 ?_
      refine mj_ic_ge C dX2_modelHeightAt_17 rfl hF (fun hc3 hF => ?_) (fun hc3 hF => ?_)
      · refine mj_iconstV (v := 0) C dX2_modelHeightAt_31 mc_i_0 ?_
        have hF := mj_oi hF; subst hF
        exact mj_iret C hr hlk dX2_modelHeightAt_32
      · refine mj_aload_n C dX2_modelHeightAt_20 rfl ?_
        refine mg_X2_48 C dX2_modelHeightAt_21 ?_
        refine mj_iload_n C dX2_modelHeightAt_24 rfl ?_
        obtain ⟨hg4, hF⟩ := mj_og hF
        have hA5 := mj_row_25 hg4
        refine mj_aaI C rfl (Nat.le_of_ble_eq_true rfl) hg4 dX2_modelHeightAt_25 ?_
        refine mj_iload_n C dX2_modelHeightAt_26 rfl ?_
        obtain ⟨hg6, hF⟩ := mj_og hF
        refine mj_iaload C dX2_modelHeightAt_27 hA5 hg6 ?_
        refine mj_goto C dX2_modelHeightAt_28 rfl ?_
        have hF := mj_oi hF; subst hF
        exact mj_iret C hr hlk dX2_modelHeightAt_32
set_option maxRecDepth 100000 in
set_option maxHeartbeats 4000000 in
theorem c_X2_thoughtHeightAt {G : mj_G} {l : Launch} (σ : mj_S) (p1 : Int32) (R : Int32) (hF : f_X2_thoughtHeightAt σ p1 = some R) : mj_C G l yX2_thoughtHeightAt cX2_thoughtHeightAt 2 (some .int) 1 [.ref (G.2.1 9), .int p1] σ (some (.int R)) σ := by
  unfold f_X2_thoughtHeightAt at hF
  refine mj_of (ls := [(0, .ref (G.2.1 9)), (1, .int p1)]) (by decide) (Nat.le_of_ble_eq_true rfl) rfl (fun p e s m args below meth c C hr hlk => ?_)
  refine mj_iconstV (v := 0) C dX2_thoughtHeightAt_0 mc_i_0 ?_
  refine mj_iload_n C dX2_thoughtHeightAt_1 rfl ?_
  refine mj_ic_gt C dX2_thoughtHeightAt_2 rfl hF (fun hc1 hF => ?_) (fun hc1 hF => ?_)
  · refine mj_iconstV (v := 0) C dX2_thoughtHeightAt_21 mc_i_0 ?_
    have hF := mj_oi hF; subst hF
    exact mj_iret C hr hlk dX2_thoughtHeightAt_22
  · refine mj_iload_n C dX2_thoughtHeightAt_5 rfl ?_
    refine mj_sipushV (v := 600) C dX2_thoughtHeightAt_6 mc_s_600 ?_
    refine mj_ic_ge C dX2_thoughtHeightAt_9 rfl hF (fun hc2 hF => ?_) (fun hc2 hF => ?_)
    · refine mj_iconstV (v := 0) C dX2_thoughtHeightAt_21 mc_i_0 ?_
      have hF := mj_oi hF; subst hF
      exact mj_iret C hr hlk dX2_thoughtHeightAt_22
    · refine mj_aload_n C dX2_thoughtHeightAt_12 rfl ?_
      refine mg_X2_51 C dX2_thoughtHeightAt_13 ?_
      refine mj_iload_n C dX2_thoughtHeightAt_16 rfl ?_
      obtain ⟨hg3, hF⟩ := mj_og hF
      refine mj_iaload C dX2_thoughtHeightAt_17 rfl hg3 ?_
      refine mj_goto C dX2_thoughtHeightAt_18 rfl ?_
      have hF := mj_oi hF; subst hF
      exact mj_iret C hr hlk dX2_thoughtHeightAt_22
set_option maxRecDepth 100000 in
set_option maxHeartbeats 4000000 in
theorem c_X0_size {G : mj_G} {l : Launch} (σ : mj_S) : mj_C G l yX0_size cX0_size 1 (some .int) 1 [.ref (G.2.1 50)] σ (some (.int (f_X0_size σ))) σ := by
  generalize hF : f_X0_size σ = R
  unfold f_X0_size at hF
  refine mj_of (ls := [(0, .ref (G.2.1 50))]) (by decide) (Nat.le_of_ble_eq_true rfl) rfl (fun p e s m args below meth c C hr hlk => ?_)
  refine mj_aload_n C dX0_size_0 rfl ?_
  refine mg_X0_15 C dX0_size_1 ?_
  subst hF
  exact mj_iret C hr hlk dX0_size_4
set_option maxRecDepth 100000 in
set_option maxHeartbeats 4000000 in
theorem c_X0_has {G : mj_G} {l : Launch} (σ : mj_S) (p1 : Int32) : mj_C G l yX0_has cX0_has 2 (some .boolean) 1 [.ref (G.2.1 50), .int p1] σ (some (.int (f_X0_has σ p1))) σ := by
  generalize hF : f_X0_has σ p1 = R
  unfold f_X0_has at hF
  refine mj_of (ls := [(0, .ref (G.2.1 50)), (1, .int p1)]) (by decide) (Nat.le_of_ble_eq_true rfl) rfl (fun p e s m args below meth c C hr hlk => ?_)
  refine mj_iconstV (v := 0) C dX0_has_0 mc_i_0 ?_
  refine mj_iload_n C dX0_has_1 rfl ?_
  refine mj_ic_gt C dX0_has_2 rfl hF (fun hc1 hF => ?_) (fun hc1 hF => ?_)
  · refine mj_iconstV (v := 0) C dX0_has_17 mc_i_0 ?_
    subst hF
    exact mj_zret (v := 0) rfl C hr hlk dX0_has_18
  · refine mj_iload_n C dX0_has_5 rfl ?_
    refine mj_aload_n C dX0_has_6 rfl ?_
    refine mg_X0_15 C dX0_has_7 ?_
    refine mj_ic_ge C dX0_has_10 rfl hF (fun hc2 hF => ?_) (fun hc2 hF => ?_)
    · refine mj_iconstV (v := 0) C dX0_has_17 mc_i_0 ?_
      subst hF
      exact mj_zret (v := 0) rfl C hr hlk dX0_has_18
    · refine mj_iconstV (v := 1) C dX0_has_13 mc_i_1 ?_
      refine mj_goto C dX0_has_14 rfl ?_
      subst hF
      exact mj_zret (v := 1) rfl C hr hlk dX0_has_18
set_option maxRecDepth 100000 in
set_option maxHeartbeats 4000000 in
theorem c_X0_add {G : mj_G} {l : Launch} (σ : mj_S) (p1 : Int32) (R : (Int32 × mj_S)) (hF : f_X0_add σ p1 = some R) : mj_C G l yX0_add cX0_add 2 (some .int) 1 [.ref (G.2.1 50), .int p1] σ (some (.int R.1)) R.2 := by
  unfold f_X0_add at hF
  refine mj_of (ls := [(0, .ref (G.2.1 50)), (1, .int p1)]) (by decide) (Nat.le_of_ble_eq_true rfl) rfl (fun p e s m args below meth c C hr hlk => ?_)
  refine mj_aload_n C dX0_add_0 rfl ?_
  refine mg_X0_15 C dX0_add_1 ?_
  refine mj_bipushV (v := 50) C dX0_add_4 mc_b_50 ?_
  refine mj_ic_lt C dX0_add_6 rfl hF (fun hc1 hF => ?_) (fun hc1 hF => ?_)
  · refine mj_aload_n C dX0_add_12 rfl ?_
    refine mg_X0_11 C dX0_add_13 ?_
    refine mj_aload_n C dX0_add_16 rfl ?_
    refine mg_X0_15 C dX0_add_17 ?_
    refine mj_iload_n C dX0_add_20 rfl ?_
    obtain ⟨hg2, hF⟩ := mj_og hF
    refine mj_iastore C dX0_add_21 rfl hg2 ?_
    refine mj_aload_n C dX0_add_22 rfl ?_
    refine mj_dup C dX0_add_23 rfl ?_
    refine mg_X0_15 C dX0_add_24 ?_
    refine mj_iconstV (v := 1) C dX0_add_27 mc_i_1 ?_
    refine mj_iadd C dX0_add_28 ?_
    refine mp_X0_15 C dX0_add_29 ?_
    refine mj_aload_n C dX0_add_32 rfl ?_
    refine mg_X0_15 C dX0_add_33 ?_
    refine mj_iconstV (v := 1) C dX0_add_36 mc_i_1 ?_
    refine mj_isub C dX0_add_37 ?_
    have hF := mj_oi hF; subst hF
    exact mj_iret C hr hlk dX0_add_38
  · refine mj_bipushV (v := (-3)) C dX0_add_9 mc_b_m3 ?_
    have hF := mj_oi hF; subst hF
    exact mj_iret C hr hlk dX0_add_11
set_option maxRecDepth 100000 in
set_option maxHeartbeats 4000000 in
theorem c_X0_kindOf {G : mj_G} {l : Launch} (σ : mj_S) (p1 : Int32) (R : Int32) (hF : f_X0_kindOf σ p1 = some R) : mj_C G l yX0_kindOf cX0_kindOf 2 (some .int) 2 [.ref (G.2.1 50), .int p1] σ (some (.int R)) σ := by
  unfold f_X0_kindOf at hF
  refine mj_of (ls := [(0, .ref (G.2.1 50)), (1, .int p1)]) (by decide) (Nat.le_of_ble_eq_true rfl) rfl (fun p e s m args below meth c C hr hlk => ?_)
  refine mj_aload_n C dX0_kindOf_0 rfl ?_
  refine mj_iload_n C dX0_kindOf_1 rfl ?_
  refine mj_callVi C (c_X0_has σ p1) yv_X0_has kl_X0_42 (mo_50 G _) rfl rfl rfl rfl (Nat.le_of_ble_eq_true rfl) (mj_roomC (by decide) (by decide)) ⟨Nat.zero_le _, Nat.zero_le _⟩ dX0_kindOf_2 ?_
  refine mj_if_eq C dX0_kindOf_5 rfl hF (fun hc1 hF => ?_) (fun hc1 hF => ?_)
  · refine mj_iconstV (v := (-1)) C dX0_kindOf_17 mc_i_m1 ?_
    have hF := mj_oi hF; subst hF
    exact mj_iret C hr hlk dX0_kindOf_18
  · refine mj_aload_n C dX0_kindOf_8 rfl ?_
    refine mg_X0_11 C dX0_kindOf_9 ?_
    refine mj_iload_n C dX0_kindOf_12 rfl ?_
    obtain ⟨hg2, hF⟩ := mj_og hF
    refine mj_iaload C dX0_kindOf_13 rfl hg2 ?_
    refine mj_goto C dX0_kindOf_14 rfl ?_
    have hF := mj_oi hF; subst hF
    exact mj_iret C hr hlk dX0_kindOf_18
set_option maxRecDepth 100000 in
set_option maxHeartbeats 4000000 in
theorem c_X0_ranInAll {G : mj_G} {l : Launch} (σ : mj_S) : mj_C G l yX0_ranInAll cX0_ranInAll 1 (some .int) 1 [.ref (G.2.1 50)] σ (some (.int (f_X0_ranInAll σ))) σ := by
  generalize hF : f_X0_ranInAll σ = R
  unfold f_X0_ranInAll at hF
  refine mj_of (ls := [(0, .ref (G.2.1 50))]) (by decide) (Nat.le_of_ble_eq_true rfl) rfl (fun p e s m args below meth c C hr hlk => ?_)
  refine mj_aload_n C dX0_ranInAll_0 rfl ?_
  refine mg_X0_22 C dX0_ranInAll_1 ?_
  subst hF
  exact mj_iret C hr hlk dX0_ranInAll_4
set_option maxRecDepth 100000 in
set_option maxHeartbeats 4000000 in
theorem c_X0_ranAt {G : mj_G} {l : Launch} (σ : mj_S) (p1 : Int32) (R : Int32) (hF : f_X0_ranAt σ p1 = some R) : mj_C G l yX0_ranAt cX0_ranAt 2 (some .int) 1 [.ref (G.2.1 50), .int p1] σ (some (.int R)) σ := by
  unfold f_X0_ranAt at hF
  refine mj_of (ls := [(0, .ref (G.2.1 50)), (1, .int p1)]) (by decide) (Nat.le_of_ble_eq_true rfl) rfl (fun p e s m args below meth c C hr hlk => ?_)
  refine mj_iconstV (v := 0) C dX0_ranAt_0 mc_i_0 ?_
  refine mj_iload_n C dX0_ranAt_1 rfl ?_
  refine mj_ic_gt C dX0_ranAt_2 rfl hF (fun hc1 hF => ?_) (fun hc1 hF => ?_)
  · refine mj_iconstV (v := (-1)) C dX0_ranAt_28 mc_i_m1 ?_
    have hF := mj_oi hF; subst hF
    exact mj_iret C hr hlk dX0_ranAt_29
  · refine mj_iload_n C dX0_ranAt_5 rfl ?_
    refine mj_aload_n C dX0_ranAt_6 rfl ?_
    refine mg_X0_22 C dX0_ranAt_7 ?_
    refine mj_ic_ge C dX0_ranAt_10 rfl hF (fun hc2 hF => ?_) (fun hc2 hF => ?_)
    · refine mj_iconstV (v := (-1)) C dX0_ranAt_28 mc_i_m1 ?_
      have hF := mj_oi hF; subst hF
      exact mj_iret C hr hlk dX0_ranAt_29
    · refine mj_iload_n C dX0_ranAt_13 rfl ?_
      refine mj_bipushV (v := 24) C dX0_ranAt_14 mc_b_24 ?_
      refine mj_ic_ge C dX0_ranAt_16 rfl hF (fun hc3 hF => ?_) (fun hc3 hF => ?_)
      · refine mj_iconstV (v := (-1)) C dX0_ranAt_28 mc_i_m1 ?_
        have hF := mj_oi hF; subst hF
        exact mj_iret C hr hlk dX0_ranAt_29
      · refine mj_aload_n C dX0_ranAt_19 rfl ?_
        refine mg_X0_19 C dX0_ranAt_20 ?_
        refine mj_iload_n C dX0_ranAt_23 rfl ?_
        obtain ⟨hg4, hF⟩ := mj_og hF
        refine mj_iaload C dX0_ranAt_24 rfl hg4 ?_
        refine mj_goto C dX0_ranAt_25 rfl ?_
        have hF := mj_oi hF; subst hF
        exact mj_iret C hr hlk dX0_ranAt_29
set_option maxRecDepth 100000 in
set_option maxHeartbeats 4000000 in
theorem w_X0_note_19 {p : Program} {l : Launch} {e : Env} {s : State} {m : MethodId} {args : Array Value} {below : List Frame} {meth : Method} {c : Code} {G : mj_G} (C : mj_X p s m args meth c G cX0_note 2 RX0) (hr : meth.sig.returnType = none) (hlk : meth.locks = false) : ∀ (σ : mj_S) (R : mj_S), b_X0_note_19 σ = some R → mj_W p l e (mj_rm 1) s m args below meth c G 0 0 2 (MQ below (mj_Q G none R) args s 0 0 G.2.2.2) 19 [(0, .ref (G.2.1 50))] [] σ := by
  intro σ R hF
  unfold b_X0_note_19 at hF
  refine mj_aload_n C dX0_note_19 rfl ?_
  refine mj_dup C dX0_note_20 rfl ?_
  refine mg_X0_22 C dX0_note_21 ?_
  refine mj_iconstV (v := 1) C dX0_note_24 mc_i_1 ?_
  refine mj_iadd C dX0_note_25 ?_
  refine mp_X0_22 C dX0_note_26 ?_
  have hF := mj_oi hF; subst hF
  exact mj_vret C hr hlk dX0_note_29
set_option maxRecDepth 100000 in
set_option maxHeartbeats 4000000 in
theorem c_X0_note {G : mj_G} {l : Launch} (σ : mj_S) (p1 : Int32) (R : mj_S) (hF : f_X0_note σ p1 = some R) : mj_C G l yX0_note cX0_note 2 (none) 1 [.ref (G.2.1 50), .int p1] σ none R := by
  unfold f_X0_note at hF
  refine mj_of (ls := [(0, .ref (G.2.1 50)), (1, .int p1)]) (by decide) (Nat.le_of_ble_eq_true rfl) rfl (fun p e s m args below meth c C hr hlk => ?_)
  refine mj_aload_n C dX0_note_0 rfl ?_
  refine mg_X0_22 C dX0_note_1 ?_
  refine mj_bipushV (v := 24) C dX0_note_4 mc_b_24 ?_
  refine mj_ic_ge C dX0_note_6 rfl hF (fun hc1 hF => ?_) (fun hc1 hF => ?_)
  · refine mj_to ?_ (w_X0_note_19 C hr hlk σ R hF)
    exact ⟨rfl, trivial⟩
  · refine mj_aload_n C dX0_note_9 rfl ?_
    refine mg_X0_19 C dX0_note_10 ?_
    refine mj_aload_n C dX0_note_13 rfl ?_
    refine mg_X0_22 C dX0_note_14 ?_
    refine mj_iload_n C dX0_note_17 rfl ?_
    obtain ⟨hg2, hF⟩ := mj_og hF
    refine mj_iastore C dX0_note_18 rfl hg2 ?_
    refine mj_to ?_ (w_X0_note_19 C hr hlk (mj_sI σ 52 (σ.1 50 3).toNatClampNeg p1) R hF)
    exact ⟨rfl, trivial⟩
set_option maxRecDepth 100000 in
set_option maxHeartbeats 4000000 in
theorem c_X0_ownBody {G : mj_G} {l : Launch} (σ : mj_S) (p0 : Int32) (p1 : Int32) (R : Int32) (hF : f_X0_ownBody σ p0 p1 = some R) : mj_C G l yX0_ownBody cX0_ownBody 3 (some .int) 1 [.int p0, .int p1] σ (some (.int R)) σ := by
  unfold f_X0_ownBody at hF
  refine mj_of (ls := [(0, .int p0), (1, .int p1)]) (by decide) (Nat.le_of_ble_eq_true rfl) rfl (fun p e s m args below meth c C hr hlk => ?_)
  refine mj_iload_n C dX0_ownBody_0 rfl ?_
  refine mj_iconstV (v := 4) C dX0_ownBody_1 mc_i_4 ?_
  refine mj_imul C dX0_ownBody_2 ?_
  refine mj_iload_n C dX0_ownBody_3 rfl ?_
  refine mj_iadd C dX0_ownBody_4 ?_
  refine mj_istore_n C dX0_ownBody_5 (by decide) ?_
  refine mj_iconstV (v := 0) C dX0_ownBody_6 mc_i_0 ?_
  refine mj_iload_n C dX0_ownBody_7 rfl ?_
  refine mj_ic_gt C dX0_ownBody_8 rfl hF (fun hc1 hF => ?_) (fun hc1 hF => ?_)
  · refine mj_iconstV (v := 0) C dX0_ownBody_27 mc_i_0 ?_
    have hF := mj_oi hF; subst hF
    exact mj_iret C hr hlk dX0_ownBody_28
  · refine mj_iload_n C dX0_ownBody_11 rfl ?_
    refine mj_st_OWN_BODIES C dX0_ownBody_12 ?_
    refine mj_sl_OWN_BODIES (v := 32) C rfl dX0_ownBody_15 ?_
    refine mj_ic_ge C dX0_ownBody_16 rfl hF (fun hc2 hF => ?_) (fun hc2 hF => ?_)
    · refine mj_iconstV (v := 0) C dX0_ownBody_27 mc_i_0 ?_
      have hF := mj_oi hF; subst hF
      exact mj_iret C hr hlk dX0_ownBody_28
    · refine mj_st_OWN_BODIES C dX0_ownBody_19 ?_
      refine mj_iload_n C dX0_ownBody_22 rfl ?_
      obtain ⟨hg3, hF⟩ := mj_og hF
      refine mj_sa_OWN_BODIES C hg3 dX0_ownBody_23 ?_
      refine mj_goto C dX0_ownBody_24 rfl ?_
      have hF := mj_oi hF; subst hF
      exact mj_iret C hr hlk dX0_ownBody_28
set_option maxRecDepth 100000 in
set_option maxHeartbeats 4000000 in
theorem c_X3_foundChild {G : mj_G} {l : Launch} (σ : mj_S) : mj_C G l yX3_foundChild cX3_foundChild 1 (some .int) 1 [.ref (G.2.1 40)] σ (some (.int (f_X3_foundChild σ))) σ := by
  generalize hF : f_X3_foundChild σ = R
  unfold f_X3_foundChild at hF
  refine mj_of (ls := [(0, .ref (G.2.1 40))]) (by decide) (Nat.le_of_ble_eq_true rfl) rfl (fun p e s m args below meth c C hr hlk => ?_)
  refine mj_aload_n C dX3_foundChild_0 rfl ?_
  refine mg_X3_9 C dX3_foundChild_1 ?_
  subst hF
  exact mj_iret C hr hlk dX3_foundChild_4
set_option maxRecDepth 100000 in
set_option maxHeartbeats 4000000 in
theorem c_X3_foundMonth {G : mj_G} {l : Launch} (σ : mj_S) : mj_C G l yX3_foundMonth cX3_foundMonth 1 (some .int) 1 [.ref (G.2.1 40)] σ (some (.int (f_X3_foundMonth σ))) σ := by
  generalize hF : f_X3_foundMonth σ = R
  unfold f_X3_foundMonth at hF
  refine mj_of (ls := [(0, .ref (G.2.1 40))]) (by decide) (Nat.le_of_ble_eq_true rfl) rfl (fun p e s m args below meth c C hr hlk => ?_)
  refine mj_aload_n C dX3_foundMonth_0 rfl ?_
  refine mg_X3_15 C dX3_foundMonth_1 ?_
  subst hF
  exact mj_iret C hr hlk dX3_foundMonth_4
set_option maxRecDepth 100000 in
set_option maxHeartbeats 4000000 in
theorem c_X3_foundDistance {G : mj_G} {l : Launch} (σ : mj_S) : mj_C G l yX3_foundDistance cX3_foundDistance 1 (some .int) 1 [.ref (G.2.1 40)] σ (some (.int (f_X3_foundDistance σ))) σ := by
  generalize hF : f_X3_foundDistance σ = R
  unfold f_X3_foundDistance at hF
  refine mj_of (ls := [(0, .ref (G.2.1 40))]) (by decide) (Nat.le_of_ble_eq_true rfl) rfl (fun p e s m args below meth c C hr hlk => ?_)
  refine mj_aload_n C dX3_foundDistance_0 rfl ?_
  refine mg_X3_18 C dX3_foundDistance_1 ?_
  subst hF
  exact mj_iret C hr hlk dX3_foundDistance_4
set_option maxRecDepth 100000 in
set_option maxHeartbeats 4000000 in
theorem c_X3_made {G : mj_G} {l : Launch} (σ : mj_S) (p0 : Int32) (p1 : Int32) : mj_C G l yX3_made cX3_made 2 (some .int) 1 [.int p0, .int p1] σ (some (.int (f_X3_made σ p0 p1))) σ := by
  generalize hF : f_X3_made σ p0 p1 = R
  unfold f_X3_made at hF
  refine mj_of (ls := [(0, .int p0), (1, .int p1)]) (by decide) (Nat.le_of_ble_eq_true rfl) rfl (fun p e s m args below meth c C hr hlk => ?_)
  refine mj_iload_n C dX3_made_0 rfl ?_
  by_cases hw1_0 : p1 = 1
  · rw [if_pos hw1_0] at hF
    refine mj_tsIn (off := 31) C dX3_made_1 (by rw [hw1_0]; decide) (by rw [hw1_0]; decide) (by rw [hw1_0]; rfl) rfl ?_
    refine mj_iload_n C dX3_made_32 rfl ?_
    refine mj_bipushV (v := 48) C dX3_made_33 mc_b_48 ?_
    refine mj_iadd C dX3_made_35 ?_
    subst hF
    exact mj_iret C hr hlk dX3_made_36
  rw [if_neg hw1_0] at hF
  by_cases hw1_1 : p1 = 2
  · rw [if_pos hw1_1] at hF
    refine mj_tsIn (off := 36) C dX3_made_1 (by rw [hw1_1]; decide) (by rw [hw1_1]; decide) (by rw [hw1_1]; rfl) rfl ?_
    refine mj_iload_n C dX3_made_37 rfl ?_
    refine mj_sipushV (v := 128) C dX3_made_38 mc_s_128 ?_
    refine mj_iadd C dX3_made_41 ?_
    subst hF
    exact mj_iret C hr hlk dX3_made_42
  rw [if_neg hw1_1] at hF
  by_cases hw1_2 : p1 = 3
  · rw [if_pos hw1_2] at hF
    refine mj_tsIn (off := 42) C dX3_made_1 (by rw [hw1_2]; decide) (by rw [hw1_2]; decide) (by rw [hw1_2]; rfl) rfl ?_
    refine mj_iconstV (v := 0) C dX3_made_43 mc_i_0 ?_
    refine mj_iload_n C dX3_made_44 rfl ?_
    refine mj_bipushV (v := 24) C dX3_made_45 mc_b_24 ?_
    refine mj_isub C dX3_made_47 ?_
    refine mj_mmax C kl_X3_64 (mj_room13 (by decide) (Nat.le_of_ble_eq_true rfl)) ⟨Nat.zero_le _, Nat.zero_le _⟩ dX3_made_48 ?_
    subst hF
    exact mj_iret C hr hlk dX3_made_51
  rw [if_neg hw1_2] at hF
  by_cases hw1_3 : p1 = 4
  · rw [if_pos hw1_3] at hF
    refine mj_tsIn (off := 51) C dX3_made_1 (by rw [hw1_3]; decide) (by rw [hw1_3]; decide) (by rw [hw1_3]; rfl) rfl ?_
    refine mj_iload_n C dX3_made_52 rfl ?_
    refine mj_bipushV (v := 32) C dX3_made_53 mc_b_32 ?_
    refine mj_iadd C dX3_made_55 ?_
    refine mj_bipushV (v := 64) C dX3_made_56 mc_b_64 ?_
    refine mj_idiv C dX3_made_58 (by decide) ?_
    refine mj_bipushV (v := 64) C dX3_made_59 mc_b_64 ?_
    refine mj_imul C dX3_made_61 ?_
    subst hF
    exact mj_iret C hr hlk dX3_made_62
  rw [if_neg hw1_3] at hF
  refine mj_tsOut C dX3_made_1 (mj_sw_1_4 hw1_0 hw1_1 hw1_2 hw1_3) rfl ?_
  refine mj_iload_n C dX3_made_63 rfl ?_
  subst hF
  exact mj_iret C hr hlk dX3_made_64
set_option maxRecDepth 100000 in
set_option maxHeartbeats 4000000 in
theorem c_X3_distance {G : mj_G} {l : Launch} (σ : mj_S) (p1 : Int32) (p2 : Int32) (p3 : Int32) (p4 : Int32) (R : Int32) (hF : f_X3_distance σ p1 p2 p3 p4 = some R) : mj_C G l yX3_distance cX3_distance 5 (some .int) 3 [.ref (G.2.1 40), .int p1, .int p2, .int p3, .int p4] σ (some (.int R)) σ := by
  unfold f_X3_distance at hF
  refine mj_of (ls := [(0, .ref (G.2.1 40)), (1, .int p1), (2, .int p2), (3, .int p3), (4, .int p4)]) (by decide) (Nat.le_of_ble_eq_true rfl) rfl (fun p e s m args below meth c C hr hlk => ?_)
  refine mj_aload_n C dX3_distance_0 rfl ?_
  refine mg_X3_37 C dX3_distance_1 ?_
  refine mj_iload_n C dX3_distance_4 rfl ?_
  refine mj_iload_n C dX3_distance_5 rfl ?_
  obtain ⟨r1, hq1, hF⟩ := mj_ob hF
  refine mj_callVi C (c_X2_isBorn σ p2 p3 r1 hq1) yv_X2_isBorn kl_X3_45 (mo_9 G _) rfl rfl rfl rfl (Nat.le_of_ble_eq_true rfl) (mj_roomC (by decide) (by decide)) ⟨Nat.zero_le _, Nat.zero_le _⟩ dX3_distance_6 ?_
  refine mj_if_ne C dX3_distance_9 rfl hF (fun hc2 hF => ?_) (fun hc2 hF => ?_)
  · refine mj_iload_n C dX3_distance_15 rfl ?_
    refine mj_aload_n C dX3_distance_16 rfl ?_
    refine mg_X3_37 C dX3_distance_17 ?_
    refine mj_iload_n C dX3_distance_20 rfl ?_
    refine mj_iload_n C dX3_distance_21 rfl ?_
    obtain ⟨r3, hq3, hF⟩ := mj_ob hF
    refine mj_callVi C (c_X2_heightAt σ p2 p3 r3 hq3) yv_X2_heightAt kl_X3_51 (mo_9 G _) rfl rfl rfl rfl (Nat.le_of_ble_eq_true rfl) (mj_roomC (by decide) (by decide)) ⟨Nat.zero_le _, Nat.zero_le _⟩ dX3_distance_22 ?_
    refine mj_iload C dX3_distance_25 rfl ?_
    refine mj_callSi C (c_X3_made σ r3 p4) ys_X3_made kl_X3_55 rfl rfl (Nat.le_of_ble_eq_true rfl) (mj_roomC (by decide) (by decide)) ⟨Nat.zero_le _, Nat.zero_le _⟩ dX3_distance_27 ?_
    refine mj_isub C dX3_distance_30 ?_
    refine mj_mabs C kl_X3_58 (mj_room13 (by decide) (Nat.le_of_ble_eq_true rfl)) ⟨Nat.zero_le _, Nat.zero_le _⟩ dX3_distance_31 ?_
    have hF := mj_oi hF; subst hF
    exact mj_iret C hr hlk dX3_distance_34
  · refine mj_bipushV (v := (-2)) C dX3_distance_12 mc_b_m2 ?_
    have hF := mj_oi hF; subst hF
    exact mj_iret C hr hlk dX3_distance_14
set_option maxRecDepth 100000 in
set_option maxHeartbeats 4000000 in
theorem w_X3_isTriedBehind_8 {p : Program} {l : Launch} {e : Env} {s : State} {m : MethodId} {args : Array Value} {below : List Frame} {meth : Method} {c : Code} {G : mj_G} {σ : mj_S} (C : mj_X p s m args meth c G cX3_isTriedBehind 4 RX3) (hr : meth.sig.returnType = some .boolean) (hlk : meth.locks = false) : ∀ (n : Nat) (v2 : Int32) (v3 : Int32) (R : Int32), b_X3_isTriedBehind_8 σ n v2 v3 = some R → mj_W p l e (mj_rm 1) s m args below meth c G 0 0 4 (MQ below (mj_Q G (some (.int R)) σ) args s 0 0 G.2.2.2) 8 [(0, .ref (G.2.1 40)), (2, .int v2), (3, .int v3)] [] σ := by
  intro n
  induction n with
  | zero =>
    intro v2 v3 R hF
    cases hF
  | succ n ih =>
    intro v2 v3 R hF
    rw [b_X3_isTriedBehind_8] at hF
    refine mj_iload_n C dX3_isTriedBehind_8 rfl ?_
    refine mj_aload_n C dX3_isTriedBehind_9 rfl ?_
    refine mg_X3_25 C dX3_isTriedBehind_10 ?_
    refine mj_ic_ge C dX3_isTriedBehind_13 rfl hF (fun hc1 hF => ?_) (fun hc1 hF => ?_)
    · refine mj_iconstV (v := 0) C dX3_isTriedBehind_39 mc_i_0 ?_
      have hF := mj_oi hF; subst hF
      exact mj_zret (v := 0) rfl C hr hlk dX3_isTriedBehind_40
    · refine mj_iload_n C dX3_isTriedBehind_16 rfl ?_
      refine mj_iconstV (v := 4) C dX3_isTriedBehind_17 mc_i_4 ?_
      refine mj_ic_ge C dX3_isTriedBehind_18 rfl hF (fun hc2 hF => ?_) (fun hc2 hF => ?_)
      · refine mj_iconstV (v := 0) C dX3_isTriedBehind_39 mc_i_0 ?_
        have hF := mj_oi hF; subst hF
        exact mj_zret (v := 0) rfl C hr hlk dX3_isTriedBehind_40
      · refine mj_aload_n C dX3_isTriedBehind_21 rfl ?_
        refine mg_X3_28 C dX3_isTriedBehind_22 ?_
        refine mj_iload_n C dX3_isTriedBehind_25 rfl ?_
        obtain ⟨hg3, hF⟩ := mj_og hF
        refine mj_iaload C dX3_isTriedBehind_26 rfl hg3 ?_
        refine mj_iload_n C dX3_isTriedBehind_27 rfl ?_
        refine mj_ic_ne C dX3_isTriedBehind_28 rfl hF (fun hc4 hF => ?_) (fun hc4 hF => ?_)
        · refine mj_iinc (v := v3 + 1) C dX3_isTriedBehind_33 rfl rfl (by decide) ?_
          refine mj_goto C dX3_isTriedBehind_36 rfl ?_
          refine mj_to ?_ (ih v2 (v3 + 1) R hF)
          exact ⟨rfl, rfl, rfl, trivial⟩
        · refine mj_iconstV (v := 1) C dX3_isTriedBehind_31 mc_i_1 ?_
          have hF := mj_oi hF; subst hF
          exact mj_zret (v := 1) rfl C hr hlk dX3_isTriedBehind_32
set_option maxRecDepth 100000 in
set_option maxHeartbeats 4000000 in
theorem c_X3_isTriedBehind {G : mj_G} {l : Launch} (σ : mj_S) (p1 : Int32) (p2 : Int32) (R : Int32) (hF : f_X3_isTriedBehind σ p1 p2 = some R) : mj_C G l yX3_isTriedBehind cX3_isTriedBehind 4 (some .boolean) 1 [.ref (G.2.1 40), .int p1, .int p2] σ (some (.int R)) σ := by
  unfold f_X3_isTriedBehind at hF
  refine mj_of (ls := [(0, .ref (G.2.1 40)), (1, .int p1), (2, .int p2)]) (by decide) (Nat.le_of_ble_eq_true rfl) rfl (fun p e s m args below meth c C hr hlk => ?_)
  refine mj_iconstV (v := (-1)) C dX3_isTriedBehind_0 mc_i_m1 ?_
  refine mj_iload_n C dX3_isTriedBehind_1 rfl ?_
  refine mj_mmax C kl_X3_64 (mj_room13 (by decide) (Nat.le_of_ble_eq_true rfl)) ⟨Nat.zero_le _, Nat.zero_le _⟩ dX3_isTriedBehind_2 ?_
  refine mj_iconstV (v := 1) C dX3_isTriedBehind_5 mc_i_1 ?_
  refine mj_iadd C dX3_isTriedBehind_6 ?_
  refine mj_istore_n C dX3_isTriedBehind_7 (by decide) ?_
  refine mj_to ?_ (w_X3_isTriedBehind_8 C hr hlk mj_fu p2 ((mj_max (-1) p1) + 1) R hF)
  exact ⟨rfl, rfl, rfl, trivial⟩
set_option maxRecDepth 100000 in
set_option maxHeartbeats 4000000 in
theorem c_X3_sharedSum {G : mj_G} {l : Launch} (σ : mj_S) : mj_C G l yX3_sharedSum cX3_sharedSum 1 (some .int) 1 [.ref (G.2.1 40)] σ (some (.int (f_X3_sharedSum σ))) σ := by
  generalize hF : f_X3_sharedSum σ = R
  unfold f_X3_sharedSum at hF
  refine mj_of (ls := [(0, .ref (G.2.1 40))]) (by decide) (Nat.le_of_ble_eq_true rfl) rfl (fun p e s m args below meth c C hr hlk => ?_)
  refine mj_aload_n C dX3_sharedSum_0 rfl ?_
  refine mg_X3_34 C dX3_sharedSum_1 ?_
  subst hF
  exact mj_iret C hr hlk dX3_sharedSum_4
set_option maxRecDepth 100000 in
set_option maxHeartbeats 4000000 in
theorem c_X3_sharedChild {G : mj_G} {l : Launch} (σ : mj_S) (p1 : Int32) (R : Int32) (hF : f_X3_sharedChild σ p1 = some R) : mj_C G l yX3_sharedChild cX3_sharedChild 2 (some .int) 1 [.ref (G.2.1 40), .int p1] σ (some (.int R)) σ := by
  unfold f_X3_sharedChild at hF
  refine mj_of (ls := [(0, .ref (G.2.1 40)), (1, .int p1)]) (by decide) (Nat.le_of_ble_eq_true rfl) rfl (fun p e s m args below meth c C hr hlk => ?_)
  refine mj_iconstV (v := 0) C dX3_sharedChild_0 mc_i_0 ?_
  refine mj_iload_n C dX3_sharedChild_1 rfl ?_
  refine mj_ic_gt C dX3_sharedChild_2 rfl hF (fun hc1 hF => ?_) (fun hc1 hF => ?_)
  · refine mj_iconstV (v := (-1)) C dX3_sharedChild_27 mc_i_m1 ?_
    have hF := mj_oi hF; subst hF
    exact mj_iret C hr hlk dX3_sharedChild_28
  · refine mj_iload_n C dX3_sharedChild_5 rfl ?_
    refine mj_aload_n C dX3_sharedChild_6 rfl ?_
    refine mg_X3_25 C dX3_sharedChild_7 ?_
    refine mj_ic_ge C dX3_sharedChild_10 rfl hF (fun hc2 hF => ?_) (fun hc2 hF => ?_)
    · refine mj_iconstV (v := (-1)) C dX3_sharedChild_27 mc_i_m1 ?_
      have hF := mj_oi hF; subst hF
      exact mj_iret C hr hlk dX3_sharedChild_28
    · refine mj_iload_n C dX3_sharedChild_13 rfl ?_
      refine mj_iconstV (v := 4) C dX3_sharedChild_14 mc_i_4 ?_
      refine mj_ic_ge C dX3_sharedChild_15 rfl hF (fun hc3 hF => ?_) (fun hc3 hF => ?_)
      · refine mj_iconstV (v := (-1)) C dX3_sharedChild_27 mc_i_m1 ?_
        have hF := mj_oi hF; subst hF
        exact mj_iret C hr hlk dX3_sharedChild_28
      · refine mj_aload_n C dX3_sharedChild_18 rfl ?_
        refine mg_X3_31 C dX3_sharedChild_19 ?_
        refine mj_iload_n C dX3_sharedChild_22 rfl ?_
        obtain ⟨hg4, hF⟩ := mj_og hF
        refine mj_iaload C dX3_sharedChild_23 rfl hg4 ?_
        refine mj_goto C dX3_sharedChild_24 rfl ?_
        have hF := mj_oi hF; subst hF
        exact mj_iret C hr hlk dX3_sharedChild_28
set_option maxRecDepth 100000 in
set_option maxHeartbeats 4000000 in
theorem c_X7_tapeLength {G : mj_G} {l : Launch} (σ : mj_S) : mj_C G l yX7_tapeLength cX7_tapeLength 1 (some .int) 1 [.ref (G.2.1 5)] σ (some (.int (f_X7_tapeLength σ))) σ := by
  generalize hF : f_X7_tapeLength σ = R
  unfold f_X7_tapeLength at hF
  refine mj_of (ls := [(0, .ref (G.2.1 5))]) (by decide) (Nat.le_of_ble_eq_true rfl) rfl (fun p e s m args below meth c C hr hlk => ?_)
  refine mj_aload_n C dX7_tapeLength_0 rfl ?_
  refine mg_X7_21 C dX7_tapeLength_1 ?_
  subst hF
  exact mj_iret C hr hlk dX7_tapeLength_4
set_option maxRecDepth 100000 in
set_option maxHeartbeats 4000000 in
theorem c_X7_take {G : mj_G} {l : Launch} (σ : mj_S) (p1 : Int32) (R : (Int32 × mj_S)) (hF : f_X7_take σ p1 = some R) : mj_C G l yX7_take cX7_take 2 (some .int) 1 [.ref (G.2.1 5), .int p1] σ (some (.int R.1)) R.2 := by
  unfold f_X7_take at hF
  refine mj_of (ls := [(0, .ref (G.2.1 5)), (1, .int p1)]) (by decide) (Nat.le_of_ble_eq_true rfl) rfl (fun p e s m args below meth c C hr hlk => ?_)
  refine mj_aload_n C dX7_take_0 rfl ?_
  refine mg_X7_21 C dX7_take_1 ?_
  refine mj_bipushV (v := 120) C dX7_take_4 mc_b_120 ?_
  refine mj_ic_ge C dX7_take_6 rfl hF (fun hc1 hF => ?_) (fun hc1 hF => ?_)
  · refine mj_aload_n C dX7_take_29 rfl ?_
    refine mg_X7_21 C dX7_take_30 ?_
    have hF := mj_oi hF; subst hF
    exact mj_iret C hr hlk dX7_take_33
  · refine mj_aload_n C dX7_take_9 rfl ?_
    refine mg_X7_9 C dX7_take_10 ?_
    refine mj_aload_n C dX7_take_13 rfl ?_
    refine mg_X7_21 C dX7_take_14 ?_
    refine mj_iload_n C dX7_take_17 rfl ?_
    obtain ⟨hg2, hF⟩ := mj_og hF
    refine mj_iastore C dX7_take_18 rfl hg2 ?_
    refine mj_aload_n C dX7_take_19 rfl ?_
    refine mj_dup C dX7_take_20 rfl ?_
    refine mg_X7_21 C dX7_take_21 ?_
    refine mj_iconstV (v := 1) C dX7_take_24 mc_i_1 ?_
    refine mj_iadd C dX7_take_25 ?_
    refine mp_X7_21 C dX7_take_26 ?_
    refine mj_aload_n C dX7_take_29 rfl ?_
    refine mg_X7_21 C dX7_take_30 ?_
    have hF := mj_oi hF; subst hF
    exact mj_iret C hr hlk dX7_take_33
set_option maxRecDepth 100000 in
set_option maxHeartbeats 4000000 in
theorem c_X7_emptyTape {G : mj_G} {l : Launch} (σ : mj_S) : mj_C G l yX7_emptyTape cX7_emptyTape 1 (none) 1 [.ref (G.2.1 5)] σ none (f_X7_emptyTape σ) := by
  generalize hF : f_X7_emptyTape σ = R
  unfold f_X7_emptyTape at hF
  refine mj_of (ls := [(0, .ref (G.2.1 5))]) (by decide) (Nat.le_of_ble_eq_true rfl) rfl (fun p e s m args below meth c C hr hlk => ?_)
  refine mj_aload_n C dX7_emptyTape_0 rfl ?_
  refine mj_iconstV (v := 0) C dX7_emptyTape_1 mc_i_0 ?_
  refine mp_X7_21 C dX7_emptyTape_2 ?_
  subst hF
  exact mj_vret C hr hlk dX7_emptyTape_5
set_option maxRecDepth 100000 in
set_option maxHeartbeats 4000000 in
theorem c_X7_isOperator {G : mj_G} {l : Launch} (σ : mj_S) (p0 : Int32) (p1 : Int32) : mj_C G l yX7_isOperator cX7_isOperator 2 (some .boolean) 1 [.int p0, .int p1] σ (some (.int (f_X7_isOperator σ p0 p1))) σ := by
  generalize hF : f_X7_isOperator σ p0 p1 = R
  unfold f_X7_isOperator at hF
  refine mj_of (ls := [(0, .int p0), (1, .int p1)]) (by decide) (Nat.le_of_ble_eq_true rfl) rfl (fun p e s m args below meth c C hr hlk => ?_)
  refine mj_iload_n C dX7_isOperator_0 rfl ?_
  by_cases hw1_0 : p0 = 0
  · rw [if_pos hw1_0] at hF
    refine mj_tsIn (off := 35) C dX7_isOperator_1 (by rw [hw1_0]; decide) (by rw [hw1_0]; decide) (by rw [hw1_0]; rfl) rfl ?_
    refine mj_iload_n C dX7_isOperator_36 rfl ?_
    refine mj_bipushV (v := 124) C dX7_isOperator_37 mc_b_124 ?_
    refine mj_ic_ne C dX7_isOperator_39 rfl hF (fun hc2 hF => ?_) (fun hc2 hF => ?_)
    · refine mj_iconstV (v := 0) C dX7_isOperator_46 mc_i_0 ?_
      subst hF
      exact mj_zret (v := 0) rfl C hr hlk dX7_isOperator_47
    · refine mj_iconstV (v := 1) C dX7_isOperator_42 mc_i_1 ?_
      refine mj_goto C dX7_isOperator_43 rfl ?_
      subst hF
      exact mj_zret (v := 1) rfl C hr hlk dX7_isOperator_47
  rw [if_neg hw1_0] at hF
  by_cases hw1_1 : p0 = 1
  · rw [if_pos hw1_1] at hF
    refine mj_tsIn (off := 47) C dX7_isOperator_1 (by rw [hw1_1]; decide) (by rw [hw1_1]; decide) (by rw [hw1_1]; rfl) rfl ?_
    refine mj_iload_n C dX7_isOperator_48 rfl ?_
    refine mj_bipushV (v := 38) C dX7_isOperator_49 mc_b_38 ?_
    refine mj_ic_ne C dX7_isOperator_51 rfl hF (fun hc3 hF => ?_) (fun hc3 hF => ?_)
    · refine mj_iconstV (v := 0) C dX7_isOperator_58 mc_i_0 ?_
      subst hF
      exact mj_zret (v := 0) rfl C hr hlk dX7_isOperator_59
    · refine mj_iconstV (v := 1) C dX7_isOperator_54 mc_i_1 ?_
      refine mj_goto C dX7_isOperator_55 rfl ?_
      subst hF
      exact mj_zret (v := 1) rfl C hr hlk dX7_isOperator_59
  rw [if_neg hw1_1] at hF
  by_cases hw1_2 : p0 = 2
  · rw [if_pos hw1_2] at hF
    refine mj_tsIn (off := 59) C dX7_isOperator_1 (by rw [hw1_2]; decide) (by rw [hw1_2]; decide) (by rw [hw1_2]; rfl) rfl ?_
    refine mj_iload_n C dX7_isOperator_60 rfl ?_
    refine mj_bipushV (v := 60) C dX7_isOperator_61 mc_b_60 ?_
    refine mj_ic_eq C dX7_isOperator_63 rfl hF (fun hc4 hF => ?_) (fun hc4 hF => ?_)
    · refine mj_iconstV (v := 1) C dX7_isOperator_78 mc_i_1 ?_
      refine mj_goto C dX7_isOperator_79 rfl ?_
      subst hF
      exact mj_zret (v := 1) rfl C hr hlk dX7_isOperator_83
    · refine mj_iload_n C dX7_isOperator_66 rfl ?_
      refine mj_bipushV (v := 61) C dX7_isOperator_67 mc_b_61 ?_
      refine mj_ic_eq C dX7_isOperator_69 rfl hF (fun hc5 hF => ?_) (fun hc5 hF => ?_)
      · refine mj_iconstV (v := 1) C dX7_isOperator_78 mc_i_1 ?_
        refine mj_goto C dX7_isOperator_79 rfl ?_
        subst hF
        exact mj_zret (v := 1) rfl C hr hlk dX7_isOperator_83
      · refine mj_iload_n C dX7_isOperator_72 rfl ?_
        refine mj_bipushV (v := 62) C dX7_isOperator_73 mc_b_62 ?_
        refine mj_ic_ne C dX7_isOperator_75 rfl hF (fun hc6 hF => ?_) (fun hc6 hF => ?_)
        · refine mj_iconstV (v := 0) C dX7_isOperator_82 mc_i_0 ?_
          subst hF
          exact mj_zret (v := 0) rfl C hr hlk dX7_isOperator_83
        · refine mj_iconstV (v := 1) C dX7_isOperator_78 mc_i_1 ?_
          refine mj_goto C dX7_isOperator_79 rfl ?_
          subst hF
          exact mj_zret (v := 1) rfl C hr hlk dX7_isOperator_83
  rw [if_neg hw1_2] at hF
  by_cases hw1_3 : p0 = 3
  · rw [if_pos hw1_3] at hF
    refine mj_tsIn (off := 83) C dX7_isOperator_1 (by rw [hw1_3]; decide) (by rw [hw1_3]; decide) (by rw [hw1_3]; rfl) rfl ?_
    refine mj_iload_n C dX7_isOperator_84 rfl ?_
    refine mj_bipushV (v := 43) C dX7_isOperator_85 mc_b_43 ?_
    refine mj_ic_eq C dX7_isOperator_87 rfl hF (fun hc7 hF => ?_) (fun hc7 hF => ?_)
    · refine mj_iconstV (v := 1) C dX7_isOperator_96 mc_i_1 ?_
      refine mj_goto C dX7_isOperator_97 rfl ?_
      subst hF
      exact mj_zret (v := 1) rfl C hr hlk dX7_isOperator_101
    · refine mj_iload_n C dX7_isOperator_90 rfl ?_
      refine mj_bipushV (v := 45) C dX7_isOperator_91 mc_b_45 ?_
      refine mj_ic_ne C dX7_isOperator_93 rfl hF (fun hc8 hF => ?_) (fun hc8 hF => ?_)
      · refine mj_iconstV (v := 0) C dX7_isOperator_100 mc_i_0 ?_
        subst hF
        exact mj_zret (v := 0) rfl C hr hlk dX7_isOperator_101
      · refine mj_iconstV (v := 1) C dX7_isOperator_96 mc_i_1 ?_
        refine mj_goto C dX7_isOperator_97 rfl ?_
        subst hF
        exact mj_zret (v := 1) rfl C hr hlk dX7_isOperator_101
  rw [if_neg hw1_3] at hF
  by_cases hw1_4 : p0 = 4
  · rw [if_pos hw1_4] at hF
    refine mj_tsIn (off := 101) C dX7_isOperator_1 (by rw [hw1_4]; decide) (by rw [hw1_4]; decide) (by rw [hw1_4]; rfl) rfl ?_
    refine mj_iload_n C dX7_isOperator_102 rfl ?_
    refine mj_bipushV (v := 42) C dX7_isOperator_103 mc_b_42 ?_
    refine mj_ic_eq C dX7_isOperator_105 rfl hF (fun hc9 hF => ?_) (fun hc9 hF => ?_)
    · refine mj_iconstV (v := 1) C dX7_isOperator_120 mc_i_1 ?_
      refine mj_goto C dX7_isOperator_121 rfl ?_
      subst hF
      exact mj_zret (v := 1) rfl C hr hlk dX7_isOperator_125
    · refine mj_iload_n C dX7_isOperator_108 rfl ?_
      refine mj_bipushV (v := 47) C dX7_isOperator_109 mc_b_47 ?_
      refine mj_ic_eq C dX7_isOperator_111 rfl hF (fun hc10 hF => ?_) (fun hc10 hF => ?_)
      · refine mj_iconstV (v := 1) C dX7_isOperator_120 mc_i_1 ?_
        refine mj_goto C dX7_isOperator_121 rfl ?_
        subst hF
        exact mj_zret (v := 1) rfl C hr hlk dX7_isOperator_125
      · refine mj_iload_n C dX7_isOperator_114 rfl ?_
        refine mj_bipushV (v := 37) C dX7_isOperator_115 mc_b_37 ?_
        refine mj_ic_ne C dX7_isOperator_117 rfl hF (fun hc11 hF => ?_) (fun hc11 hF => ?_)
        · refine mj_iconstV (v := 0) C dX7_isOperator_124 mc_i_0 ?_
          subst hF
          exact mj_zret (v := 0) rfl C hr hlk dX7_isOperator_125
        · refine mj_iconstV (v := 1) C dX7_isOperator_120 mc_i_1 ?_
          refine mj_goto C dX7_isOperator_121 rfl ?_
          subst hF
          exact mj_zret (v := 1) rfl C hr hlk dX7_isOperator_125
  rw [if_neg hw1_4] at hF
  refine mj_tsOut C dX7_isOperator_1 (mj_sw_0_5 hw1_0 hw1_1 hw1_2 hw1_3 hw1_4) rfl ?_
  refine mj_iconstV (v := 0) C dX7_isOperator_126 mc_i_0 ?_
  subst hF
  exact mj_zret (v := 0) rfl C hr hlk dX7_isOperator_127
set_option maxRecDepth 100000 in
set_option maxHeartbeats 4000000 in
theorem c_X7_isDigit {G : mj_G} {l : Launch} (σ : mj_S) (p0 : Int32) : mj_C G l yX7_isDigit cX7_isDigit 1 (some .boolean) 1 [.int p0] σ (some (.int (f_X7_isDigit σ p0))) σ := by
  generalize hF : f_X7_isDigit σ p0 = R
  unfold f_X7_isDigit at hF
  refine mj_of (ls := [(0, .int p0)]) (by decide) (Nat.le_of_ble_eq_true rfl) rfl (fun p e s m args below meth c C hr hlk => ?_)
  refine mj_bipushV (v := 48) C dX7_isDigit_0 mc_b_48 ?_
  refine mj_iload_n C dX7_isDigit_2 rfl ?_
  refine mj_ic_gt C dX7_isDigit_3 rfl hF (fun hc1 hF => ?_) (fun hc1 hF => ?_)
  · refine mj_iconstV (v := 0) C dX7_isDigit_16 mc_i_0 ?_
    subst hF
    exact mj_zret (v := 0) rfl C hr hlk dX7_isDigit_17
  · refine mj_iload_n C dX7_isDigit_6 rfl ?_
    refine mj_bipushV (v := 57) C dX7_isDigit_7 mc_b_57 ?_
    refine mj_ic_gt C dX7_isDigit_9 rfl hF (fun hc2 hF => ?_) (fun hc2 hF => ?_)
    · refine mj_iconstV (v := 0) C dX7_isDigit_16 mc_i_0 ?_
      subst hF
      exact mj_zret (v := 0) rfl C hr hlk dX7_isDigit_17
    · refine mj_iconstV (v := 1) C dX7_isDigit_12 mc_i_1 ?_
      refine mj_goto C dX7_isDigit_13 rfl ?_
      subst hF
      exact mj_zret (v := 1) rfl C hr hlk dX7_isDigit_17
set_option maxRecDepth 100000 in
set_option maxHeartbeats 4000000 in
theorem c_X7_seen {G : mj_G} {l : Launch} (σ : mj_S) (R : Int32) (hF : f_X7_seen σ = some R) : mj_C G l yX7_seen cX7_seen 1 (some .int) 1 [.ref (G.2.1 5)] σ (some (.int R)) σ := by
  unfold f_X7_seen at hF
  refine mj_of (ls := [(0, .ref (G.2.1 5))]) (by decide) (Nat.le_of_ble_eq_true rfl) rfl (fun p e s m args below meth c C hr hlk => ?_)
  refine mj_iconstV (v := 0) C dX7_seen_0 mc_i_0 ?_
  refine mj_aload_n C dX7_seen_1 rfl ?_
  refine mg_X7_25 C dX7_seen_2 ?_
  refine mj_ic_gt C dX7_seen_5 rfl hF (fun hc1 hF => ?_) (fun hc1 hF => ?_)
  · refine mj_iconstV (v := (-1)) C dX7_seen_40 mc_i_m1 ?_
    have hF := mj_oi hF; subst hF
    exact mj_iret C hr hlk dX7_seen_41
  · refine mj_aload_n C dX7_seen_8 rfl ?_
    refine mg_X7_25 C dX7_seen_9 ?_
    refine mj_aload_n C dX7_seen_12 rfl ?_
    refine mg_X7_21 C dX7_seen_13 ?_
    refine mj_ic_ge C dX7_seen_16 rfl hF (fun hc2 hF => ?_) (fun hc2 hF => ?_)
    · refine mj_iconstV (v := (-1)) C dX7_seen_40 mc_i_m1 ?_
      have hF := mj_oi hF; subst hF
      exact mj_iret C hr hlk dX7_seen_41
    · refine mj_aload_n C dX7_seen_19 rfl ?_
      refine mg_X7_25 C dX7_seen_20 ?_
      refine mj_bipushV (v := 120) C dX7_seen_23 mc_b_120 ?_
      refine mj_ic_ge C dX7_seen_25 rfl hF (fun hc3 hF => ?_) (fun hc3 hF => ?_)
      · refine mj_iconstV (v := (-1)) C dX7_seen_40 mc_i_m1 ?_
        have hF := mj_oi hF; subst hF
        exact mj_iret C hr hlk dX7_seen_41
      · refine mj_aload_n C dX7_seen_28 rfl ?_
        refine mg_X7_9 C dX7_seen_29 ?_
        refine mj_aload_n C dX7_seen_32 rfl ?_
        refine mg_X7_25 C dX7_seen_33 ?_
        obtain ⟨hg4, hF⟩ := mj_og hF
        refine mj_iaload C dX7_seen_36 rfl hg4 ?_
        refine mj_goto C dX7_seen_37 rfl ?_
        have hF := mj_oi hF; subst hF
        exact mj_iret C hr hlk dX7_seen_41
set_option maxRecDepth 100000 in
set_option maxHeartbeats 4000000 in
theorem c_X7_write {G : mj_G} {l : Launch} (σ : mj_S) (p1 : Int32) (p2 : Int32) (R : mj_S) (hF : f_X7_write σ p1 p2 = some R) : mj_C G l yX7_write cX7_write 3 (none) 1 [.ref (G.2.1 5), .int p1, .int p2] σ none R := by
  unfold f_X7_write at hF
  refine mj_of (ls := [(0, .ref (G.2.1 5)), (1, .int p1), (2, .int p2)]) (by decide) (Nat.le_of_ble_eq_true rfl) rfl (fun p e s m args below meth c C hr hlk => ?_)
  refine mj_aload_n C dX7_write_0 rfl ?_
  refine mg_X7_28 C dX7_write_1 ?_
  refine mj_aload_n C dX7_write_4 rfl ?_
  refine mg_X7_15 C dX7_write_5 ?_
  refine mj_alen (v := 121) C dX7_write_8 rfl rfl ?_
  refine mj_ic_ge C dX7_write_9 rfl hF (fun hc1 hF => ?_) (fun hc1 hF => ?_)
  · have hF := mj_oi hF; subst hF
    exact mj_vret C hr hlk dX7_write_54
  · refine mj_aload_n C dX7_write_12 rfl ?_
    refine mg_X7_28 C dX7_write_13 ?_
    refine mj_aload_n C dX7_write_16 rfl ?_
    refine mg_X7_18 C dX7_write_17 ?_
    refine mj_alen (v := 121) C dX7_write_20 rfl rfl ?_
    refine mj_ic_ge C dX7_write_21 rfl hF (fun hc2 hF => ?_) (fun hc2 hF => ?_)
    · have hF := mj_oi hF; subst hF
      exact mj_vret C hr hlk dX7_write_54
    · refine mj_aload_n C dX7_write_24 rfl ?_
      refine mg_X7_15 C dX7_write_25 ?_
      refine mj_aload_n C dX7_write_28 rfl ?_
      refine mg_X7_28 C dX7_write_29 ?_
      refine mj_iload_n C dX7_write_32 rfl ?_
      obtain ⟨hg3, hF⟩ := mj_og hF
      refine mj_iastore C dX7_write_33 rfl hg3 ?_
      refine mj_aload_n C dX7_write_34 rfl ?_
      refine mg_X7_18 C dX7_write_35 ?_
      refine mj_aload_n C dX7_write_38 rfl ?_
      refine mg_X7_28 C dX7_write_39 ?_
      refine mj_iload_n C dX7_write_42 rfl ?_
      obtain ⟨hg4, hF⟩ := mj_og hF
      refine mj_iastore C dX7_write_43 rfl hg4 ?_
      refine mj_aload_n C dX7_write_44 rfl ?_
      refine mj_dup C dX7_write_45 rfl ?_
      refine mg_X7_28 C dX7_write_46 ?_
      refine mj_iconstV (v := 1) C dX7_write_49 mc_i_1 ?_
      refine mj_iadd C dX7_write_50 ?_
      refine mp_X7_28 C dX7_write_51 ?_
      have hF := mj_oi hF; subst hF
      exact mj_vret C hr hlk dX7_write_54
set_option maxRecDepth 100000 in
set_option maxHeartbeats 4000000 in
theorem w_X7_readNumber_48 {p : Program} {l : Launch} {e : Env} {s : State} {m : MethodId} {args : Array Value} {below : List Frame} {meth : Method} {c : Code} {G : mj_G} (C : mj_X p s m args meth c G cX7_readNumber 3 RX7) (hr : meth.sig.returnType = none) (hlk : meth.locks = false) : ∀ (v1 : Int32) (σ : mj_S) (R : mj_S), b_X7_readNumber_48 v1 σ = some R → mj_W p l e (mj_rm 2) s m args below meth c G 0 0 3 (MQ below (mj_Q G none R) args s 0 0 G.2.2.2) 48 [(0, .ref (G.2.1 5)), (1, .int v1)] [] σ := by
  intro v1 σ R hF
  unfold b_X7_readNumber_48 at hF
  refine mj_aload_n C dX7_readNumber_48 rfl ?_
  refine mj_bipushV (v := 48) C dX7_readNumber_49 mc_b_48 ?_
  refine mj_iload_n C dX7_readNumber_51 rfl ?_
  obtain ⟨r2, hq2, hF⟩ := mj_ob hF
  refine mj_callVv C (c_X7_write σ 48 v1 r2 hq2) yv_X7_write kl_X7_47 (mo_5 G _) rfl rfl rfl rfl (Nat.le_of_ble_eq_true rfl) (mj_roomC (by decide) (by decide)) ⟨Nat.zero_le _, Nat.zero_le _⟩ dX7_readNumber_52 ?_
  have hF := mj_oi hF; subst hF
  exact mj_vret C hr hlk dX7_readNumber_55
set_option maxRecDepth 100000 in
set_option maxHeartbeats 4000000 in
theorem w_X7_readNumber_4 {p : Program} {l : Launch} {e : Env} {s : State} {m : MethodId} {args : Array Value} {below : List Frame} {meth : Method} {c : Code} {G : mj_G} (C : mj_X p s m args meth c G cX7_readNumber 3 RX7) (hr : meth.sig.returnType = none) (hlk : meth.locks = false) : ∀ (n : Nat) (v1 : Int32) (v2 : Int32) (σ : mj_S) (R : mj_S), b_X7_readNumber_4 n v1 v2 σ = some R → mj_W p l e (mj_rm 2) s m args below meth c G 0 0 3 (MQ below (mj_Q G none R) args s 0 0 G.2.2.2) 4 [(0, .ref (G.2.1 5)), (1, .int v1), (2, .int v2)] [] σ := by
  intro n
  induction n with
  | zero =>
    intro v1 v2 σ R hF
    cases hF
  | succ n ih =>
    intro v1 v2 σ R hF
    rw [b_X7_readNumber_4] at hF
    refine mj_iload_n C dX7_readNumber_4 rfl ?_
    refine mj_iconstV (v := 4) C dX7_readNumber_5 mc_i_4 ?_
    refine mj_ic_ge C dX7_readNumber_6 rfl hF (fun hc1 hF => ?_) (fun hc1 hF => ?_)
    · refine mj_to ?_ (w_X7_readNumber_48 C hr hlk v1 σ R hF)
      exact ⟨rfl, rfl, trivial⟩
    · refine mj_aload_n C dX7_readNumber_9 rfl ?_
      obtain ⟨r3, hq3, hF⟩ := mj_ob hF
      refine mj_callVi C (c_X7_seen σ r3 hq3) yv_X7_seen kl_X7_54 (mo_5 G _) rfl rfl rfl rfl (Nat.le_of_ble_eq_true rfl) (mj_roomC (by decide) (by decide)) ⟨Nat.zero_le _, Nat.zero_le _⟩ dX7_readNumber_10 ?_
      refine mj_callSi C (c_X7_isDigit σ r3) ys_X7_isDigit kl_X7_67 rfl rfl (Nat.le_of_ble_eq_true rfl) (mj_roomC (by decide) (by decide)) ⟨Nat.zero_le _, Nat.zero_le _⟩ dX7_readNumber_13 ?_
      refine mj_if_eq C dX7_readNumber_16 rfl hF (fun hc4 hF => ?_) (fun hc4 hF => ?_)
      · refine mj_to ?_ (w_X7_readNumber_48 C hr hlk v1 σ R hF)
        exact ⟨rfl, rfl, trivial⟩
      · refine mj_iload_n C dX7_readNumber_19 rfl ?_
        refine mj_bipushV (v := 10) C dX7_readNumber_20 mc_b_10 ?_
        refine mj_imul C dX7_readNumber_22 ?_
        refine mj_aload_n C dX7_readNumber_23 rfl ?_
        obtain ⟨r5, hq5, hF⟩ := mj_ob hF
        refine mj_callVi C (c_X7_seen σ r5 hq5) yv_X7_seen kl_X7_54 (mo_5 G _) rfl rfl rfl rfl (Nat.le_of_ble_eq_true rfl) (mj_roomC (by decide) (by decide)) ⟨Nat.zero_le _, Nat.zero_le _⟩ dX7_readNumber_24 ?_
        refine mj_iadd C dX7_readNumber_27 ?_
        refine mj_bipushV (v := 48) C dX7_readNumber_28 mc_b_48 ?_
        refine mj_isub C dX7_readNumber_30 ?_
        refine mj_istore_n C dX7_readNumber_31 (by decide) ?_
        refine mj_aload_n C dX7_readNumber_32 rfl ?_
        refine mj_dup C dX7_readNumber_33 rfl ?_
        refine mg_X7_25 C dX7_readNumber_34 ?_
        refine mj_iconstV (v := 1) C dX7_readNumber_37 mc_i_1 ?_
        refine mj_iadd C dX7_readNumber_38 ?_
        refine mp_X7_25 C dX7_readNumber_39 ?_
        refine mj_iinc (v := v2 + 1) C dX7_readNumber_42 rfl rfl (by decide) ?_
        refine mj_goto C dX7_readNumber_45 rfl ?_
        refine mj_to ?_ (ih (((v1 * 10) + r5) - 48) (v2 + 1) (mj_sI σ 5 4 ((σ.1 5 4) + 1)) R hF)
        exact ⟨rfl, rfl, rfl, trivial⟩
set_option maxRecDepth 100000 in
set_option maxHeartbeats 4000000 in
theorem c_X7_readNumber {G : mj_G} {l : Launch} (σ : mj_S) (R : mj_S) (hF : f_X7_readNumber σ = some R) : mj_C G l yX7_readNumber cX7_readNumber 3 (none) 2 [.ref (G.2.1 5)] σ none R := by
  unfold f_X7_readNumber at hF
  refine mj_of (ls := [(0, .ref (G.2.1 5))]) (by decide) (Nat.le_of_ble_eq_true rfl) rfl (fun p e s m args below meth c C hr hlk => ?_)
  refine mj_iconstV (v := 0) C dX7_readNumber_0 mc_i_0 ?_
  refine mj_istore_n C dX7_readNumber_1 (by decide) ?_
  refine mj_iconstV (v := 0) C dX7_readNumber_2 mc_i_0 ?_
  refine mj_istore_n C dX7_readNumber_3 (by decide) ?_
  refine mj_to ?_ (w_X7_readNumber_4 C hr hlk mj_fu 0 0 σ R hF)
  exact ⟨rfl, rfl, rfl, trivial⟩
set_option maxRecDepth 100000 in
set_option maxHeartbeats 4000000 in
theorem c_X7_skip {G : mj_G} {l : Launch} (σ : mj_S) (p1 : Int32) (R : (Int32 × mj_S)) (hF : f_X7_skip σ p1 = some R) : mj_C G l yX7_skip cX7_skip 2 (some .boolean) 2 [.ref (G.2.1 5), .int p1] σ (some (.int R.1)) R.2 := by
  unfold f_X7_skip at hF
  refine mj_of (ls := [(0, .ref (G.2.1 5)), (1, .int p1)]) (by decide) (Nat.le_of_ble_eq_true rfl) rfl (fun p e s m args below meth c C hr hlk => ?_)
  refine mj_aload_n C dX7_skip_0 rfl ?_
  obtain ⟨r1, hq1, hF⟩ := mj_ob hF
  refine mj_callVi C (c_X7_seen σ r1 hq1) yv_X7_seen kl_X7_54 (mo_5 G _) rfl rfl rfl rfl (Nat.le_of_ble_eq_true rfl) (mj_roomC (by decide) (by decide)) ⟨Nat.zero_le _, Nat.zero_le _⟩ dX7_skip_1 ?_
  refine mj_iload_n C dX7_skip_4 rfl ?_
  refine mj_ic_eq C dX7_skip_5 rfl hF (fun hc2 hF => ?_) (fun hc2 hF => ?_)
  · refine mj_aload_n C dX7_skip_10 rfl ?_
    refine mj_dup C dX7_skip_11 rfl ?_
    refine mg_X7_25 C dX7_skip_12 ?_
    refine mj_iconstV (v := 1) C dX7_skip_15 mc_i_1 ?_
    refine mj_iadd C dX7_skip_16 ?_
    refine mp_X7_25 C dX7_skip_17 ?_
    refine mj_iconstV (v := 1) C dX7_skip_20 mc_i_1 ?_
    have hF := mj_oi hF; subst hF
    exact mj_zret (v := 1) rfl C hr hlk dX7_skip_21
  · refine mj_iconstV (v := 0) C dX7_skip_8 mc_i_0 ?_
    have hF := mj_oi hF; subst hF
    exact mj_zret (v := 0) rfl C hr hlk dX7_skip_9
set_option maxRecDepth 100000 in
set_option maxHeartbeats 4000000 in
theorem c_X6_endMonth {G : mj_G} {l : Launch} (σ : mj_S) (p1 : Int32) (R : Int32) (hF : f_X6_endMonth σ p1 = some R) : mj_C G l yX6_endMonth cX6_endMonth 2 (some .int) 3 [.ref (G.2.1 44), .int p1] σ (some (.int R)) σ := by
  unfold f_X6_endMonth at hF
  refine mj_of (ls := [(0, .ref (G.2.1 44)), (1, .int p1)]) (by decide) (Nat.le_of_ble_eq_true rfl) rfl (fun p e s m args below meth c C hr hlk => ?_)
  refine mj_aload_n C dX6_endMonth_0 rfl ?_
  refine mg_X6_9 C dX6_endMonth_1 ?_
  refine mj_iload_n C dX6_endMonth_4 rfl ?_
  obtain ⟨r1, hq1, hF⟩ := mj_ob hF
  refine mj_callVi C (c_X2_bornIn σ p1 r1 hq1) yv_X2_bornIn kl_X6_15 (mo_9 G _) rfl rfl rfl rfl (Nat.le_of_ble_eq_true rfl) (mj_roomC (by decide) (by decide)) ⟨Nat.zero_le _, Nat.zero_le _⟩ dX6_endMonth_5 ?_
  refine mj_sipushV (v := 240) C dX6_endMonth_8 mc_s_240 ?_
  refine mj_iadd C dX6_endMonth_11 ?_
  refine mj_sipushV (v := 599) C dX6_endMonth_12 mc_s_599 ?_
  refine mj_mmin C kl_X6_21 (mj_room13 (by decide) (Nat.le_of_ble_eq_true rfl)) ⟨Nat.zero_le _, Nat.zero_le _⟩ dX6_endMonth_15 ?_
  have hF := mj_oi hF; subst hF
  exact mj_iret C hr hlk dX6_endMonth_18
set_option maxRecDepth 100000 in
set_option maxHeartbeats 4000000 in
theorem c_X6_endOf {G : mj_G} {l : Launch} (σ : mj_S) (p1 : Int32) (R : Int32) (hF : f_X6_endOf σ p1 = some R) : mj_C G l yX6_endOf cX6_endOf 2 (some .int) 4 [.ref (G.2.1 44), .int p1] σ (some (.int R)) σ := by
  unfold f_X6_endOf at hF
  refine mj_of (ls := [(0, .ref (G.2.1 44)), (1, .int p1)]) (by decide) (Nat.le_of_ble_eq_true rfl) rfl (fun p e s m args below meth c C hr hlk => ?_)
  refine mj_aload_n C dX6_endOf_0 rfl ?_
  refine mg_X6_9 C dX6_endOf_1 ?_
  refine mj_iload_n C dX6_endOf_4 rfl ?_
  refine mj_aload_n C dX6_endOf_5 rfl ?_
  refine mj_iload_n C dX6_endOf_6 rfl ?_
  obtain ⟨r1, hq1, hF⟩ := mj_ob hF
  refine mj_callVi C (c_X6_endMonth σ p1 r1 hq1) yv_X6_endMonth kl_X6_27 (mo_44 G _) rfl rfl rfl rfl (Nat.le_of_ble_eq_true rfl) (mj_roomC (by decide) (by decide)) ⟨Nat.zero_le _, Nat.zero_le _⟩ dX6_endOf_7 ?_
  obtain ⟨r2, hq2, hF⟩ := mj_ob hF
  refine mj_callVi C (c_X2_heightAt σ p1 r1 r2 hq2) yv_X2_heightAt kl_X6_30 (mo_9 G _) rfl rfl rfl rfl (Nat.le_of_ble_eq_true rfl) (mj_roomC (by decide) (by decide)) ⟨Nat.zero_le _, Nat.zero_le _⟩ dX6_endOf_10 ?_
  have hF := mj_oi hF; subst hF
  exact mj_iret C hr hlk dX6_endOf_13
set_option maxRecDepth 100000 in
set_option maxHeartbeats 4000000 in
theorem c_X6_byParents {G : mj_G} {l : Launch} (σ : mj_S) (p1 : Int32) (R : Int32) (hF : f_X6_byParents σ p1 = some R) : mj_C G l yX6_byParents cX6_byParents 3 (some .int) 3 [.ref (G.2.1 44), .int p1] σ (some (.int R)) σ := by
  unfold f_X6_byParents at hF
  refine mj_of (ls := [(0, .ref (G.2.1 44)), (1, .int p1)]) (by decide) (Nat.le_of_ble_eq_true rfl) rfl (fun p e s m args below meth c C hr hlk => ?_)
  refine mj_aload_n C dX6_byParents_0 rfl ?_
  refine mg_X6_9 C dX6_byParents_1 ?_
  refine mj_iload_n C dX6_byParents_4 rfl ?_
  refine mj_iconstV (v := 4) C dX6_byParents_5 mc_i_4 ?_
  obtain ⟨r1, hq1, hF⟩ := mj_ob hF
  refine mj_callVi C (c_X2_told σ p1 4 r1 hq1) yv_X2_told kl_X6_37 (mo_9 G _) rfl rfl rfl rfl (Nat.le_of_ble_eq_true rfl) (mj_roomC (by decide) (by decide)) ⟨Nat.zero_le _, Nat.zero_le _⟩ dX6_byParents_6 ?_
  refine mj_istore_n C dX6_byParents_9 (by decide) ?_
  refine mj_aload_n C dX6_byParents_10 rfl ?_
  refine mg_X6_9 C dX6_byParents_11 ?_
  refine mj_iload_n C dX6_byParents_14 rfl ?_
  refine mj_iconstV (v := 1) C dX6_byParents_15 mc_i_1 ?_
  obtain ⟨r2, hq2, hF⟩ := mj_ob hF
  refine mj_callVi C (c_X2_told σ p1 1 r2 hq2) yv_X2_told kl_X6_37 (mo_9 G _) rfl rfl rfl rfl (Nat.le_of_ble_eq_true rfl) (mj_roomC (by decide) (by decide)) ⟨Nat.zero_le _, Nat.zero_le _⟩ dX6_byParents_16 ?_
  refine mj_iconstV (v := 1) C dX6_byParents_19 mc_i_1 ?_
  refine mj_ic_ne C dX6_byParents_20 rfl hF (fun hc3 hF => ?_) (fun hc3 hF => ?_)
  · refine mj_iload_n C dX6_byParents_31 rfl ?_
    refine mj_sipushV (v := 160) C dX6_byParents_32 mc_s_160 ?_
    refine mj_isub C dX6_byParents_35 ?_
    have hF := mj_oi hF; subst hF
    exact mj_iret C hr hlk dX6_byParents_36
  · refine mj_iload_n C dX6_byParents_23 rfl ?_
    refine mj_sipushV (v := 160) C dX6_byParents_24 mc_s_160 ?_
    refine mj_iadd C dX6_byParents_27 ?_
    refine mj_goto C dX6_byParents_28 rfl ?_
    have hF := mj_oi hF; subst hF
    exact mj_iret C hr hlk dX6_byParents_36
set_option maxRecDepth 100000 in
set_option maxHeartbeats 4000000 in
theorem c_X6_growthInYear {G : mj_G} {l : Launch} (σ : mj_S) (p1 : Int32) (p2 : Int32) (R : Int32) (hF : f_X6_growthInYear σ p1 p2 = some R) : mj_C G l yX6_growthInYear cX6_growthInYear 4 (some .int) 3 [.ref (G.2.1 44), .int p1, .int p2] σ (some (.int R)) σ := by
  unfold f_X6_growthInYear at hF
  refine mj_of (ls := [(0, .ref (G.2.1 44)), (1, .int p1), (2, .int p2)]) (by decide) (Nat.le_of_ble_eq_true rfl) rfl (fun p e s m args below meth c C hr hlk => ?_)
  refine mj_aload_n C dX6_growthInYear_0 rfl ?_
  refine mg_X6_9 C dX6_growthInYear_1 ?_
  refine mj_iload_n C dX6_growthInYear_4 rfl ?_
  obtain ⟨r1, hq1, hF⟩ := mj_ob hF
  refine mj_callVi C (c_X2_bornIn σ p1 r1 hq1) yv_X2_bornIn kl_X6_15 (mo_9 G _) rfl rfl rfl rfl (Nat.le_of_ble_eq_true rfl) (mj_roomC (by decide) (by decide)) ⟨Nat.zero_le _, Nat.zero_le _⟩ dX6_growthInYear_5 ?_
  refine mj_bipushV (v := 12) C dX6_growthInYear_8 mc_b_12 ?_
  refine mj_iload_n C dX6_growthInYear_10 rfl ?_
  refine mj_imul C dX6_growthInYear_11 ?_
  refine mj_iadd C dX6_growthInYear_12 ?_
  refine mj_istore_n C dX6_growthInYear_13 (by decide) ?_
  refine mj_aload_n C dX6_growthInYear_14 rfl ?_
  refine mg_X6_9 C dX6_growthInYear_15 ?_
  refine mj_iload_n C dX6_growthInYear_18 rfl ?_
  refine mj_iload_n C dX6_growthInYear_19 rfl ?_
  refine mj_bipushV (v := 12) C dX6_growthInYear_20 mc_b_12 ?_
  refine mj_iadd C dX6_growthInYear_22 ?_
  obtain ⟨r2, hq2, hF⟩ := mj_ob hF
  refine mj_callVi C (c_X2_heightAt σ p1 ((r1 + (12 * p2)) + 12) r2 hq2) yv_X2_heightAt kl_X6_30 (mo_9 G _) rfl rfl rfl rfl (Nat.le_of_ble_eq_true rfl) (mj_roomC (by decide) (by decide)) ⟨Nat.zero_le _, Nat.zero_le _⟩ dX6_growthInYear_23 ?_
  refine mj_aload_n C dX6_growthInYear_26 rfl ?_
  refine mg_X6_9 C dX6_growthInYear_27 ?_
  refine mj_iload_n C dX6_growthInYear_30 rfl ?_
  refine mj_iload_n C dX6_growthInYear_31 rfl ?_
  obtain ⟨r3, hq3, hF⟩ := mj_ob hF
  refine mj_callVi C (c_X2_heightAt σ p1 (r1 + (12 * p2)) r3 hq3) yv_X2_heightAt kl_X6_30 (mo_9 G _) rfl rfl rfl rfl (Nat.le_of_ble_eq_true rfl) (mj_roomC (by decide) (by decide)) ⟨Nat.zero_le _, Nat.zero_le _⟩ dX6_growthInYear_32 ?_
  refine mj_isub C dX6_growthInYear_35 ?_
  have hF := mj_oi hF; subst hF
  exact mj_iret C hr hlk dX6_growthInYear_36
set_option maxRecDepth 100000 in
set_option maxHeartbeats 4000000 in
theorem c_X6_isBetter {G : mj_G} {l : Launch} (σ : mj_S) (p0 : Int32) (p1 : Int32) (p2 : Int32) : mj_C G l yX6_isBetter cX6_isBetter 3 (some .boolean) 1 [.int p0, .int p1, .int p2] σ (some (.int (f_X6_isBetter σ p0 p1 p2))) σ := by
  generalize hF : f_X6_isBetter σ p0 p1 p2 = R
  unfold f_X6_isBetter at hF
  refine mj_of (ls := [(0, .int p0), (1, .int p1), (2, .int p2)]) (by decide) (Nat.le_of_ble_eq_true rfl) rfl (fun p e s m args below meth c C hr hlk => ?_)
  refine mj_iload_n C dX6_isBetter_0 rfl ?_
  refine mj_if_eq C dX6_isBetter_1 rfl hF (fun hc1 hF => ?_) (fun hc1 hF => ?_)
  · refine mj_iload_n C dX6_isBetter_17 rfl ?_
    refine mj_iload_n C dX6_isBetter_18 rfl ?_
    refine mj_ic_ge C dX6_isBetter_19 rfl hF (fun hc2 hF => ?_) (fun hc2 hF => ?_)
    · refine mj_iconstV (v := 0) C dX6_isBetter_26 mc_i_0 ?_
      subst hF
      exact mj_zret (v := 0) rfl C hr hlk dX6_isBetter_27
    · refine mj_iconstV (v := 1) C dX6_isBetter_22 mc_i_1 ?_
      refine mj_goto C dX6_isBetter_23 rfl ?_
      subst hF
      exact mj_zret (v := 1) rfl C hr hlk dX6_isBetter_27
  · refine mj_iload_n C dX6_isBetter_4 rfl ?_
    refine mj_iload_n C dX6_isBetter_5 rfl ?_
    refine mj_ic_le C dX6_isBetter_6 rfl hF (fun hc3 hF => ?_) (fun hc3 hF => ?_)
    · refine mj_iconstV (v := 0) C dX6_isBetter_13 mc_i_0 ?_
      refine mj_goto C dX6_isBetter_14 rfl ?_
      subst hF
      exact mj_zret (v := 0) rfl C hr hlk dX6_isBetter_27
    · refine mj_iconstV (v := 1) C dX6_isBetter_9 mc_i_1 ?_
      refine mj_goto C dX6_isBetter_10 rfl ?_
      subst hF
      exact mj_zret (v := 1) rfl C hr hlk dX6_isBetter_27
set_option maxRecDepth 100000 in
set_option maxHeartbeats 4000000 in
theorem c_X6_lineAt {G : mj_G} {l : Launch} (σ : mj_S) (p1 : Int32) (p2 : Int32) (R : Int32) (hF : f_X6_lineAt σ p1 p2 = some R) : mj_C G l yX6_lineAt cX6_lineAt 4 (some .int) 3 [.ref (G.2.1 44), .int p1, .int p2] σ (some (.int R)) σ := by
  unfold f_X6_lineAt at hF
  refine mj_of (ls := [(0, .ref (G.2.1 44)), (1, .int p1), (2, .int p2)]) (by decide) (Nat.le_of_ble_eq_true rfl) rfl (fun p e s m args below meth c C hr hlk => ?_)
  refine mj_aload_n C dX6_lineAt_0 rfl ?_
  refine mg_X6_9 C dX6_lineAt_1 ?_
  refine mj_iload_n C dX6_lineAt_4 rfl ?_
  refine mj_iload_n C dX6_lineAt_5 rfl ?_
  obtain ⟨r1, hq1, hF⟩ := mj_ob hF
  refine mj_callVi C (c_X2_modelHeightAt σ p1 p2 r1 hq1) yv_X2_modelHeightAt kl_X6_51 (mo_9 G _) rfl rfl rfl rfl (Nat.le_of_ble_eq_true rfl) (mj_roomC (by decide) (by decide)) ⟨Nat.zero_le _, Nat.zero_le _⟩ dX6_lineAt_6 ?_
  refine mj_istore_n C dX6_lineAt_9 (by decide) ?_
  refine mj_iload_n C dX6_lineAt_10 rfl ?_
  refine mj_if_ne C dX6_lineAt_11 rfl hF (fun hc2 hF => ?_) (fun hc2 hF => ?_)
  · refine mj_bipushV (v := 100) C dX6_lineAt_18 mc_b_100 ?_
    refine mj_aload_n C dX6_lineAt_20 rfl ?_
    refine mg_X6_9 C dX6_lineAt_21 ?_
    refine mj_iload_n C dX6_lineAt_24 rfl ?_
    refine mj_iload_n C dX6_lineAt_25 rfl ?_
    obtain ⟨r3, hq3, hF⟩ := mj_ob hF
    refine mj_callVi C (c_X2_heightAt σ p1 p2 r3 hq3) yv_X2_heightAt kl_X6_30 (mo_9 G _) rfl rfl rfl rfl (Nat.le_of_ble_eq_true rfl) (mj_roomC (by decide) (by decide)) ⟨Nat.zero_le _, Nat.zero_le _⟩ dX6_lineAt_26 ?_
    refine mj_imul C dX6_lineAt_29 ?_
    refine mj_iload_n C dX6_lineAt_30 rfl ?_
    obtain ⟨hz4, hF⟩ := mj_oz hF
    refine mj_idiv C dX6_lineAt_31 hz4 ?_
    refine mj_bipushV (v := 100) C dX6_lineAt_32 mc_b_100 ?_
    refine mj_isub C dX6_lineAt_34 ?_
    refine mj_iconstV (v := 4) C dX6_lineAt_35 mc_i_4 ?_
    refine mj_idiv C dX6_lineAt_36 (by decide) ?_
    have hF := mj_oi hF; subst hF
    exact mj_iret C hr hlk dX6_lineAt_37
  · refine mj_iconstV (v := 0) C dX6_lineAt_14 mc_i_0 ?_
    refine mj_goto C dX6_lineAt_15 rfl ?_
    have hF := mj_oi hF; subst hF
    exact mj_iret C hr hlk dX6_lineAt_37
set_option maxRecDepth 100000 in
set_option maxHeartbeats 4000000 in
theorem w_X6_firstFall_21 {p : Program} {l : Launch} {e : Env} {s : State} {m : MethodId} {args : Array Value} {below : List Frame} {meth : Method} {c : Code} {G : mj_G} {σ : mj_S} (C : mj_X p s m args meth c G cX6_firstFall 6 RX6) (hr : meth.sig.returnType = some .int) (hlk : meth.locks = false) : ∀ (n : Nat) (v1 : Int32) (v3 : Int32) (v4 : Int32) (R : Int32), b_X6_firstFall_21 σ n v1 v3 v4 = some R → mj_W p l e (mj_rm 4) s m args below meth c G 0 0 6 (MQ below (mj_Q G (some (.int R)) σ) args s 0 0 G.2.2.2) 21 [(0, .ref (G.2.1 44)), (1, .int v1), (3, .int v3), (4, .int v4)] [] σ := by
  intro n
  induction n with
  | zero =>
    intro v1 v3 v4 R hF
    cases hF
  | succ n ih =>
    intro v1 v3 v4 R hF
    rw [b_X6_firstFall_21] at hF
    refine mj_iload C dX6_firstFall_21 rfl ?_
    refine mj_sipushV (v := 600) C dX6_firstFall_23 mc_s_600 ?_
    refine mj_ic_ge C dX6_firstFall_26 rfl hF (fun hc3 hF => ?_) (fun hc3 hF => ?_)
    · refine mj_bipushV (v := (-2)) C dX6_firstFall_62 mc_b_m2 ?_
      have hF := mj_oi hF; subst hF
      exact mj_iret C hr hlk dX6_firstFall_64
    · refine mj_aload_n C dX6_firstFall_29 rfl ?_
      refine mj_iload_n C dX6_firstFall_30 rfl ?_
      refine mj_iload C dX6_firstFall_31 rfl ?_
      obtain ⟨r4, hq4, hF⟩ := mj_ob hF
      refine mj_callVi C (c_X6_lineAt σ v1 v4 r4 hq4) yv_X6_lineAt kl_X6_54 (mo_44 G _) rfl rfl rfl rfl (Nat.le_of_ble_eq_true rfl) (mj_roomC (by decide) (by decide)) ⟨Nat.zero_le _, Nat.zero_le _⟩ dX6_firstFall_33 ?_
      refine mj_istore C dX6_firstFall_36 (by decide) ?_
      refine mj_iload_n C dX6_firstFall_38 rfl ?_
      refine mj_iload C dX6_firstFall_39 rfl ?_
      refine mj_isub C dX6_firstFall_41 ?_
      refine mj_iconstV (v := 2) C dX6_firstFall_42 mc_i_2 ?_
      refine mj_ic_lt C dX6_firstFall_43 rfl hF (fun hc5 hF => ?_) (fun hc5 hF => ?_)
      · refine mj_iload_n C dX6_firstFall_49 rfl ?_
        refine mj_iload C dX6_firstFall_50 rfl ?_
        refine mj_mmax C kl_X6_57 (mj_room13 (by decide) (Nat.le_of_ble_eq_true rfl)) ⟨Nat.zero_le _, Nat.zero_le _⟩ dX6_firstFall_52 ?_
        refine mj_istore_n C dX6_firstFall_55 (by decide) ?_
        refine mj_iinc (v := v4 + 1) C dX6_firstFall_56 rfl rfl (by decide) ?_
        refine mj_goto C dX6_firstFall_59 rfl ?_
        refine mj_to ?_ (ih v1 (mj_max v3 r4) (v4 + 1) R hF)
        exact ⟨rfl, rfl, rfl, rfl, trivial⟩
      · refine mj_iload C dX6_firstFall_46 rfl ?_
        have hF := mj_oi hF; subst hF
        exact mj_iret C hr hlk dX6_firstFall_48
set_option maxRecDepth 100000 in
set_option maxHeartbeats 4000000 in
theorem c_X6_firstFall {G : mj_G} {l : Launch} (σ : mj_S) (p1 : Int32) (R : Int32) (hF : f_X6_firstFall σ p1 = some R) : mj_C G l yX6_firstFall cX6_firstFall 6 (some .int) 4 [.ref (G.2.1 44), .int p1] σ (some (.int R)) σ := by
  unfold f_X6_firstFall at hF
  refine mj_of (ls := [(0, .ref (G.2.1 44)), (1, .int p1)]) (by decide) (Nat.le_of_ble_eq_true rfl) rfl (fun p e s m args below meth c C hr hlk => ?_)
  refine mj_aload_n C dX6_firstFall_0 rfl ?_
  refine mg_X6_9 C dX6_firstFall_1 ?_
  refine mj_iload_n C dX6_firstFall_4 rfl ?_
  obtain ⟨r1, hq1, hF⟩ := mj_ob hF
  refine mj_callVi C (c_X2_bornIn σ p1 r1 hq1) yv_X2_bornIn kl_X6_15 (mo_9 G _) rfl rfl rfl rfl (Nat.le_of_ble_eq_true rfl) (mj_roomC (by decide) (by decide)) ⟨Nat.zero_le _, Nat.zero_le _⟩ dX6_firstFall_5 ?_
  refine mj_istore_n C dX6_firstFall_8 (by decide) ?_
  refine mj_aload_n C dX6_firstFall_9 rfl ?_
  refine mj_iload_n C dX6_firstFall_10 rfl ?_
  refine mj_iload_n C dX6_firstFall_11 rfl ?_
  obtain ⟨r2, hq2, hF⟩ := mj_ob hF
  refine mj_callVi C (c_X6_lineAt σ p1 r1 r2 hq2) yv_X6_lineAt kl_X6_54 (mo_44 G _) rfl rfl rfl rfl (Nat.le_of_ble_eq_true rfl) (mj_roomC (by decide) (by decide)) ⟨Nat.zero_le _, Nat.zero_le _⟩ dX6_firstFall_12 ?_
  refine mj_istore_n C dX6_firstFall_15 (by decide) ?_
  refine mj_iload_n C dX6_firstFall_16 rfl ?_
  refine mj_iconstV (v := 1) C dX6_firstFall_17 mc_i_1 ?_
  refine mj_iadd C dX6_firstFall_18 ?_
  refine mj_istore C dX6_firstFall_19 (by decide) ?_
  refine mj_to ?_ (w_X6_firstFall_21 C hr hlk mj_fu p1 r2 (r1 + 1) R hF)
  exact ⟨rfl, rfl, rfl, rfl, trivial⟩
set_option maxRecDepth 100000 in
set_option maxHeartbeats 4000000 in
theorem c_X6_isHigher {G : mj_G} {l : Launch} (σ : mj_S) (p1 : Int32) (p2 : Int32) (p3 : Int32) (R : Int32) (hF : f_X6_isHigher σ p1 p2 p3 = some R) : mj_C G l yX6_isHigher cX6_isHigher 4 (some .boolean) 3 [.ref (G.2.1 44), .int p1, .int p2, .int p3] σ (some (.int R)) σ := by
  unfold f_X6_isHigher at hF
  refine mj_of (ls := [(0, .ref (G.2.1 44)), (1, .int p1), (2, .int p2), (3, .int p3)]) (by decide) (Nat.le_of_ble_eq_true rfl) rfl (fun p e s m args below meth c C hr hlk => ?_)
  refine mj_aload_n C dX6_isHigher_0 rfl ?_
  refine mg_X6_9 C dX6_isHigher_1 ?_
  refine mj_iload_n C dX6_isHigher_4 rfl ?_
  refine mj_iload_n C dX6_isHigher_5 rfl ?_
  obtain ⟨r1, hq1, hF⟩ := mj_ob hF
  refine mj_callVi C (c_X2_heightAt σ p1 p3 r1 hq1) yv_X2_heightAt kl_X6_30 (mo_9 G _) rfl rfl rfl rfl (Nat.le_of_ble_eq_true rfl) (mj_roomC (by decide) (by decide)) ⟨Nat.zero_le _, Nat.zero_le _⟩ dX6_isHigher_6 ?_
  refine mj_aload_n C dX6_isHigher_9 rfl ?_
  refine mg_X6_9 C dX6_isHigher_10 ?_
  refine mj_iload_n C dX6_isHigher_13 rfl ?_
  refine mj_iload_n C dX6_isHigher_14 rfl ?_
  obtain ⟨r2, hq2, hF⟩ := mj_ob hF
  refine mj_callVi C (c_X2_heightAt σ p2 p3 r2 hq2) yv_X2_heightAt kl_X6_30 (mo_9 G _) rfl rfl rfl rfl (Nat.le_of_ble_eq_true rfl) (mj_roomC (by decide) (by decide)) ⟨Nat.zero_le _, Nat.zero_le _⟩ dX6_isHigher_15 ?_
  refine mj_ic_le C dX6_isHigher_18 rfl hF (fun hc3 hF => ?_) (fun hc3 hF => ?_)
  · refine mj_iconstV (v := 0) C dX6_isHigher_25 mc_i_0 ?_
    have hF := mj_oi hF; subst hF
    exact mj_zret (v := 0) rfl C hr hlk dX6_isHigher_26
  · refine mj_iconstV (v := 1) C dX6_isHigher_21 mc_i_1 ?_
    refine mj_goto C dX6_isHigher_22 rfl ?_
    have hF := mj_oi hF; subst hF
    exact mj_zret (v := 1) rfl C hr hlk dX6_isHigher_26
set_option maxRecDepth 100000 in
set_option maxHeartbeats 4000000 in
theorem w_X6_firstOvertaking_25 {p : Program} {l : Launch} {e : Env} {s : State} {m : MethodId} {args : Array Value} {below : List Frame} {meth : Method} {c : Code} {G : mj_G} {σ : mj_S} (C : mj_X p s m args meth c G cX6_firstOvertaking 5 RX6) (hr : meth.sig.returnType = some .int) (hlk : meth.locks = false) : ∀ (n : Nat) (v1 : Int32) (v2 : Int32) (v4 : Int32) (R : Int32), b_X6_firstOvertaking_25 σ n v1 v2 v4 = some R → mj_W p l e (mj_rm 4) s m args below meth c G 0 0 5 (MQ below (mj_Q G (some (.int R)) σ) args s 0 0 G.2.2.2) 25 [(0, .ref (G.2.1 44)), (1, .int v1), (2, .int v2), (4, .int v4)] [] σ := by
  intro n
  induction n with
  | zero =>
    intro v1 v2 v4 R hF
    cases hF
  | succ n ih =>
    intro v1 v2 v4 R hF
    rw [b_X6_firstOvertaking_25] at hF
    refine mj_iload C dX6_firstOvertaking_25 rfl ?_
    refine mj_sipushV (v := 600) C dX6_firstOvertaking_27 mc_s_600 ?_
    refine mj_ic_ge C dX6_firstOvertaking_30 rfl hF (fun hc3 hF => ?_) (fun hc3 hF => ?_)
    · refine mj_bipushV (v := (-2)) C dX6_firstOvertaking_66 mc_b_m2 ?_
      have hF := mj_oi hF; subst hF
      exact mj_iret C hr hlk dX6_firstOvertaking_68
    · refine mj_aload_n C dX6_firstOvertaking_33 rfl ?_
      refine mj_iload_n C dX6_firstOvertaking_34 rfl ?_
      refine mj_iload_n C dX6_firstOvertaking_35 rfl ?_
      refine mj_iload C dX6_firstOvertaking_36 rfl ?_
      obtain ⟨r4, hq4, hF⟩ := mj_ob hF
      refine mj_callVi C (c_X6_isHigher σ v1 v2 v4 r4 hq4) yv_X6_isHigher kl_X6_60 (mo_44 G _) rfl rfl rfl rfl (Nat.le_of_ble_eq_true rfl) (mj_roomC (by decide) (by decide)) ⟨Nat.zero_le _, Nat.zero_le _⟩ dX6_firstOvertaking_38 ?_
      refine mj_if_eq C dX6_firstOvertaking_41 rfl hF (fun hc5 hF => ?_) (fun hc5 hF => ?_)
      · refine mj_iinc (v := v4 + 1) C dX6_firstOvertaking_60 rfl rfl (by decide) ?_
        refine mj_goto C dX6_firstOvertaking_63 rfl ?_
        refine mj_to ?_ (ih v1 v2 (v4 + 1) R hF)
        exact ⟨rfl, rfl, rfl, rfl, trivial⟩
      · refine mj_aload_n C dX6_firstOvertaking_44 rfl ?_
        refine mj_iload_n C dX6_firstOvertaking_45 rfl ?_
        refine mj_iload_n C dX6_firstOvertaking_46 rfl ?_
        refine mj_iload C dX6_firstOvertaking_47 rfl ?_
        refine mj_iconstV (v := 1) C dX6_firstOvertaking_49 mc_i_1 ?_
        refine mj_isub C dX6_firstOvertaking_50 ?_
        obtain ⟨r6, hq6, hF⟩ := mj_ob hF
        refine mj_callVi C (c_X6_isHigher σ v1 v2 (v4 - 1) r6 hq6) yv_X6_isHigher kl_X6_60 (mo_44 G _) rfl rfl rfl rfl (Nat.le_of_ble_eq_true rfl) (mj_roomC (by decide) (by decide)) ⟨Nat.zero_le _, Nat.zero_le _⟩ dX6_firstOvertaking_51 ?_
        refine mj_if_ne C dX6_firstOvertaking_54 rfl hF (fun hc7 hF => ?_) (fun hc7 hF => ?_)
        · refine mj_iinc (v := v4 + 1) C dX6_firstOvertaking_60 rfl rfl (by decide) ?_
          refine mj_goto C dX6_firstOvertaking_63 rfl ?_
          refine mj_to ?_ (ih v1 v2 (v4 + 1) R hF)
          exact ⟨rfl, rfl, rfl, rfl, trivial⟩
        · refine mj_iload C dX6_firstOvertaking_57 rfl ?_
          have hF := mj_oi hF; subst hF
          exact mj_iret C hr hlk dX6_firstOvertaking_59
set_option maxRecDepth 100000 in
set_option maxHeartbeats 4000000 in
theorem c_X6_firstOvertaking {G : mj_G} {l : Launch} (σ : mj_S) (p1 : Int32) (p2 : Int32) (R : Int32) (hF : f_X6_firstOvertaking σ p1 p2 = some R) : mj_C G l yX6_firstOvertaking cX6_firstOvertaking 5 (some .int) 4 [.ref (G.2.1 44), .int p1, .int p2] σ (some (.int R)) σ := by
  unfold f_X6_firstOvertaking at hF
  refine mj_of (ls := [(0, .ref (G.2.1 44)), (1, .int p1), (2, .int p2)]) (by decide) (Nat.le_of_ble_eq_true rfl) rfl (fun p e s m args below meth c C hr hlk => ?_)
  refine mj_aload_n C dX6_firstOvertaking_0 rfl ?_
  refine mg_X6_9 C dX6_firstOvertaking_1 ?_
  refine mj_iload_n C dX6_firstOvertaking_4 rfl ?_
  obtain ⟨r1, hq1, hF⟩ := mj_ob hF
  refine mj_callVi C (c_X2_bornIn σ p1 r1 hq1) yv_X2_bornIn kl_X6_15 (mo_9 G _) rfl rfl rfl rfl (Nat.le_of_ble_eq_true rfl) (mj_roomC (by decide) (by decide)) ⟨Nat.zero_le _, Nat.zero_le _⟩ dX6_firstOvertaking_5 ?_
  refine mj_aload_n C dX6_firstOvertaking_8 rfl ?_
  refine mg_X6_9 C dX6_firstOvertaking_9 ?_
  refine mj_iload_n C dX6_firstOvertaking_12 rfl ?_
  obtain ⟨r2, hq2, hF⟩ := mj_ob hF
  refine mj_callVi C (c_X2_bornIn σ p2 r2 hq2) yv_X2_bornIn kl_X6_15 (mo_9 G _) rfl rfl rfl rfl (Nat.le_of_ble_eq_true rfl) (mj_roomC (by decide) (by decide)) ⟨Nat.zero_le _, Nat.zero_le _⟩ dX6_firstOvertaking_13 ?_
  refine mj_mmax C kl_X6_57 (mj_room13 (by decide) (Nat.le_of_ble_eq_true rfl)) ⟨Nat.zero_le _, Nat.zero_le _⟩ dX6_firstOvertaking_16 ?_
  refine mj_istore_n C dX6_firstOvertaking_19 (by decide) ?_
  refine mj_iload_n C dX6_firstOvertaking_20 rfl ?_
  refine mj_iconstV (v := 1) C dX6_firstOvertaking_21 mc_i_1 ?_
  refine mj_iadd C dX6_firstOvertaking_22 ?_
  refine mj_istore C dX6_firstOvertaking_23 (by decide) ?_
  refine mj_to ?_ (w_X6_firstOvertaking_25 C hr hlk mj_fu p1 p2 ((mj_max r1 r2) + 1) R hF)
  exact ⟨rfl, rfl, rfl, rfl, trivial⟩
set_option maxRecDepth 100000 in
set_option maxHeartbeats 4000000 in
theorem c_X4_withoutText {G : mj_G} {l : Launch} (σ : mj_S) (p0 : Int32) : mj_C G l yX4_withoutText cX4_withoutText 1 (some .int) 1 [.int p0] σ (some (.int (f_X4_withoutText σ p0))) σ := by
  generalize hF : f_X4_withoutText σ p0 = R
  unfold f_X4_withoutText at hF
  refine mj_of (ls := [(0, .int p0)]) (by decide) (Nat.le_of_ble_eq_true rfl) rfl (fun p e s m args below meth c C hr hlk => ?_)
  refine mj_iload_n C dX4_withoutText_0 rfl ?_
  refine mj_bipushV (v := 12) C dX4_withoutText_1 mc_b_12 ?_
  refine mj_ic_ge C dX4_withoutText_3 rfl hF (fun hc1 hF => ?_) (fun hc1 hF => ?_)
  · refine mj_iload_n C dX4_withoutText_9 rfl ?_
    refine mj_sipushV (v := 132) C dX4_withoutText_10 mc_s_132 ?_
    refine mj_ic_ge C dX4_withoutText_13 rfl hF (fun hc2 hF => ?_) (fun hc2 hF => ?_)
    · refine mj_iload_n C dX4_withoutText_19 rfl ?_
      refine mj_sipushV (v := 168) C dX4_withoutText_20 mc_s_168 ?_
      refine mj_ic_ge C dX4_withoutText_23 rfl hF (fun hc3 hF => ?_) (fun hc3 hF => ?_)
      · refine mj_iload_n C dX4_withoutText_29 rfl ?_
        refine mj_sipushV (v := 204) C dX4_withoutText_30 mc_s_204 ?_
        refine mj_ic_ge C dX4_withoutText_33 rfl hF (fun hc4 hF => ?_) (fun hc4 hF => ?_)
        · refine mj_iconstV (v := 0) C dX4_withoutText_40 mc_i_0 ?_
          subst hF
          exact mj_iret C hr hlk dX4_withoutText_41
        · refine mj_iconstV (v := 4) C dX4_withoutText_36 mc_i_4 ?_
          refine mj_goto C dX4_withoutText_37 rfl ?_
          subst hF
          exact mj_iret C hr hlk dX4_withoutText_41
      · refine mj_bipushV (v := 20) C dX4_withoutText_26 mc_b_20 ?_
        subst hF
        exact mj_iret C hr hlk dX4_withoutText_28
    · refine mj_bipushV (v := 16) C dX4_withoutText_16 mc_b_16 ?_
      subst hF
      exact mj_iret C hr hlk dX4_withoutText_18
  · refine mj_bipushV (v := 40) C dX4_withoutText_6 mc_b_40 ?_
    subst hF
    exact mj_iret C hr hlk dX4_withoutText_8
set_option maxRecDepth 100000 in
set_option maxHeartbeats 4000000 in
theorem c_X4_pop {G : mj_G} {l : Launch} (σ : mj_S) (R : (Int32 × mj_S)) (hF : f_X4_pop σ = some R) : mj_C G l yX4_pop cX4_pop 1 (some .int) 1 [.ref (G.2.1 1)] σ (some (.int R.1)) R.2 := by
  unfold f_X4_pop at hF
  refine mj_of (ls := [(0, .ref (G.2.1 1))]) (by decide) (Nat.le_of_ble_eq_true rfl) rfl (fun p e s m args below meth c C hr hlk => ?_)
  refine mj_aload_n C dX4_pop_0 rfl ?_
  refine mg_X4_25 C dX4_pop_1 ?_
  refine mj_if_gt C dX4_pop_4 rfl hF (fun hc1 hF => ?_) (fun hc1 hF => ?_)
  · refine mj_aload_n C dX4_pop_9 rfl ?_
    refine mj_dup C dX4_pop_10 rfl ?_
    refine mg_X4_25 C dX4_pop_11 ?_
    refine mj_iconstV (v := 1) C dX4_pop_14 mc_i_1 ?_
    refine mj_isub C dX4_pop_15 ?_
    refine mp_X4_25 C dX4_pop_16 ?_
    refine mj_aload_n C dX4_pop_19 rfl ?_
    refine mg_X4_18 C dX4_pop_20 ?_
    refine mj_aload_n C dX4_pop_23 rfl ?_
    refine mg_X4_25 C dX4_pop_24 ?_
    obtain ⟨hg2, hF⟩ := mj_og hF
    refine mj_iaload C dX4_pop_27 rfl hg2 ?_
    have hF := mj_oi hF; subst hF
    exact mj_iret C hr hlk dX4_pop_28
  · refine mj_iconstV (v := 0) C dX4_pop_7 mc_i_0 ?_
    have hF := mj_oi hF; subst hF
    exact mj_iret C hr hlk dX4_pop_8
set_option maxRecDepth 100000 in
set_option maxHeartbeats 4000000 in
theorem c_X4_joined {G : mj_G} {l : Launch} (σ : mj_S) (p0 : Int32) (p1 : Int32) (p2 : Int32) (R : Int32) (hF : f_X4_joined σ p0 p1 p2 = some R) : mj_C G l yX4_joined cX4_joined 3 (some .int) 1 [.int p0, .int p1, .int p2] σ (some (.int R)) σ := by
  unfold f_X4_joined at hF
  refine mj_of (ls := [(0, .int p0), (1, .int p1), (2, .int p2)]) (by decide) (Nat.le_of_ble_eq_true rfl) rfl (fun p e s m args below meth c C hr hlk => ?_)
  refine mj_iload_n C dX4_joined_0 rfl ?_
  by_cases hw1_0 : p0 = 37
  · rw [if_pos hw1_0] at hF
    refine mj_lsw (off := 176) C dX4_joined_1 rfl (by rw [hw1_0]; rfl) rfl ?_
    refine mj_iload_n C dX4_joined_177 rfl ?_
    refine mj_if_ne C dX4_joined_178 rfl hF (fun hc2 hF => ?_) (fun hc2 hF => ?_)
    · refine mj_iload_n C dX4_joined_185 rfl ?_
      refine mj_iload_n C dX4_joined_186 rfl ?_
      obtain ⟨hz3, hF⟩ := mj_oz hF
      refine mj_irem C dX4_joined_187 hz3 ?_
      have hF := mj_oi hF; subst hF
      exact mj_iret C hr hlk dX4_joined_188
    · refine mj_iconstV (v := 0) C dX4_joined_181 mc_i_0 ?_
      refine mj_goto C dX4_joined_182 rfl ?_
      have hF := mj_oi hF; subst hF
      exact mj_iret C hr hlk dX4_joined_188
  rw [if_neg hw1_0] at hF
  by_cases hw1_1 : p0 = 38
  · rw [if_pos hw1_1] at hF
    refine mj_lsw (off := 105) C dX4_joined_1 rfl (by rw [hw1_1]; rfl) rfl ?_
    refine mj_iload_n C dX4_joined_106 rfl ?_
    refine mj_if_eq C dX4_joined_107 rfl hF (fun hc4 hF => ?_) (fun hc4 hF => ?_)
    · refine mj_iconstV (v := 0) C dX4_joined_118 mc_i_0 ?_
      have hF := mj_oi hF; subst hF
      exact mj_iret C hr hlk dX4_joined_119
    · refine mj_iload_n C dX4_joined_110 rfl ?_
      refine mj_if_eq C dX4_joined_111 rfl hF (fun hc5 hF => ?_) (fun hc5 hF => ?_)
      · refine mj_iconstV (v := 0) C dX4_joined_118 mc_i_0 ?_
        have hF := mj_oi hF; subst hF
        exact mj_iret C hr hlk dX4_joined_119
      · refine mj_iconstV (v := 1) C dX4_joined_114 mc_i_1 ?_
        refine mj_goto C dX4_joined_115 rfl ?_
        have hF := mj_oi hF; subst hF
        exact mj_iret C hr hlk dX4_joined_119
  rw [if_neg hw1_1] at hF
  by_cases hw1_2 : p0 = 42
  · rw [if_pos hw1_2] at hF
    refine mj_lsw (off := 160) C dX4_joined_1 rfl (by rw [hw1_2]; rfl) rfl ?_
    refine mj_iload_n C dX4_joined_161 rfl ?_
    refine mj_iload_n C dX4_joined_162 rfl ?_
    refine mj_imul C dX4_joined_163 ?_
    have hF := mj_oi hF; subst hF
    exact mj_iret C hr hlk dX4_joined_164
  rw [if_neg hw1_2] at hF
  by_cases hw1_3 : p0 = 43
  · rw [if_pos hw1_3] at hF
    refine mj_lsw (off := 152) C dX4_joined_1 rfl (by rw [hw1_3]; rfl) rfl ?_
    refine mj_iload_n C dX4_joined_153 rfl ?_
    refine mj_iload_n C dX4_joined_154 rfl ?_
    refine mj_iadd C dX4_joined_155 ?_
    have hF := mj_oi hF; subst hF
    exact mj_iret C hr hlk dX4_joined_156
  rw [if_neg hw1_3] at hF
  by_cases hw1_4 : p0 = 45
  · rw [if_pos hw1_4] at hF
    refine mj_lsw (off := 156) C dX4_joined_1 rfl (by rw [hw1_4]; rfl) rfl ?_
    refine mj_iload_n C dX4_joined_157 rfl ?_
    refine mj_iload_n C dX4_joined_158 rfl ?_
    refine mj_isub C dX4_joined_159 ?_
    have hF := mj_oi hF; subst hF
    exact mj_iret C hr hlk dX4_joined_160
  rw [if_neg hw1_4] at hF
  by_cases hw1_5 : p0 = 47
  · rw [if_pos hw1_5] at hF
    refine mj_lsw (off := 164) C dX4_joined_1 rfl (by rw [hw1_5]; rfl) rfl ?_
    refine mj_iload_n C dX4_joined_165 rfl ?_
    refine mj_if_ne C dX4_joined_166 rfl hF (fun hc6 hF => ?_) (fun hc6 hF => ?_)
    · refine mj_iload_n C dX4_joined_173 rfl ?_
      refine mj_iload_n C dX4_joined_174 rfl ?_
      obtain ⟨hz7, hF⟩ := mj_oz hF
      refine mj_idiv C dX4_joined_175 hz7 ?_
      have hF := mj_oi hF; subst hF
      exact mj_iret C hr hlk dX4_joined_176
    · refine mj_iconstV (v := 0) C dX4_joined_169 mc_i_0 ?_
      refine mj_goto C dX4_joined_170 rfl ?_
      have hF := mj_oi hF; subst hF
      exact mj_iret C hr hlk dX4_joined_176
  rw [if_neg hw1_5] at hF
  by_cases hw1_6 : p0 = 60
  · rw [if_pos hw1_6] at hF
    refine mj_lsw (off := 119) C dX4_joined_1 rfl (by rw [hw1_6]; rfl) rfl ?_
    refine mj_iload_n C dX4_joined_120 rfl ?_
    refine mj_iload_n C dX4_joined_121 rfl ?_
    refine mj_ic_ge C dX4_joined_122 rfl hF (fun hc8 hF => ?_) (fun hc8 hF => ?_)
    · refine mj_iconstV (v := 0) C dX4_joined_129 mc_i_0 ?_
      have hF := mj_oi hF; subst hF
      exact mj_iret C hr hlk dX4_joined_130
    · refine mj_iconstV (v := 1) C dX4_joined_125 mc_i_1 ?_
      refine mj_goto C dX4_joined_126 rfl ?_
      have hF := mj_oi hF; subst hF
      exact mj_iret C hr hlk dX4_joined_130
  rw [if_neg hw1_6] at hF
  by_cases hw1_7 : p0 = 61
  · rw [if_pos hw1_7] at hF
    refine mj_lsw (off := 130) C dX4_joined_1 rfl (by rw [hw1_7]; rfl) rfl ?_
    refine mj_iload_n C dX4_joined_131 rfl ?_
    refine mj_iload_n C dX4_joined_132 rfl ?_
    refine mj_ic_ne C dX4_joined_133 rfl hF (fun hc9 hF => ?_) (fun hc9 hF => ?_)
    · refine mj_iconstV (v := 0) C dX4_joined_140 mc_i_0 ?_
      have hF := mj_oi hF; subst hF
      exact mj_iret C hr hlk dX4_joined_141
    · refine mj_iconstV (v := 1) C dX4_joined_136 mc_i_1 ?_
      refine mj_goto C dX4_joined_137 rfl ?_
      have hF := mj_oi hF; subst hF
      exact mj_iret C hr hlk dX4_joined_141
  rw [if_neg hw1_7] at hF
  by_cases hw1_8 : p0 = 62
  · rw [if_pos hw1_8] at hF
    refine mj_lsw (off := 141) C dX4_joined_1 rfl (by rw [hw1_8]; rfl) rfl ?_
    refine mj_iload_n C dX4_joined_142 rfl ?_
    refine mj_iload_n C dX4_joined_143 rfl ?_
    refine mj_ic_le C dX4_joined_144 rfl hF (fun hc10 hF => ?_) (fun hc10 hF => ?_)
    · refine mj_iconstV (v := 0) C dX4_joined_151 mc_i_0 ?_
      have hF := mj_oi hF; subst hF
      exact mj_iret C hr hlk dX4_joined_152
    · refine mj_iconstV (v := 1) C dX4_joined_147 mc_i_1 ?_
      refine mj_goto C dX4_joined_148 rfl ?_
      have hF := mj_oi hF; subst hF
      exact mj_iret C hr hlk dX4_joined_152
  rw [if_neg hw1_8] at hF
  by_cases hw1_9 : p0 = 124
  · rw [if_pos hw1_9] at hF
    refine mj_lsw (off := 91) C dX4_joined_1 rfl (by rw [hw1_9]; rfl) rfl ?_
    refine mj_iload_n C dX4_joined_92 rfl ?_
    refine mj_if_ne C dX4_joined_93 rfl hF (fun hc11 hF => ?_) (fun hc11 hF => ?_)
    · refine mj_iconstV (v := 1) C dX4_joined_100 mc_i_1 ?_
      refine mj_goto C dX4_joined_101 rfl ?_
      have hF := mj_oi hF; subst hF
      exact mj_iret C hr hlk dX4_joined_105
    · refine mj_iload_n C dX4_joined_96 rfl ?_
      refine mj_if_eq C dX4_joined_97 rfl hF (fun hc12 hF => ?_) (fun hc12 hF => ?_)
      · refine mj_iconstV (v := 0) C dX4_joined_104 mc_i_0 ?_
        have hF := mj_oi hF; subst hF
        exact mj_iret C hr hlk dX4_joined_105
      · refine mj_iconstV (v := 1) C dX4_joined_100 mc_i_1 ?_
        refine mj_goto C dX4_joined_101 rfl ?_
        have hF := mj_oi hF; subst hF
        exact mj_iret C hr hlk dX4_joined_105
  rw [if_neg hw1_9] at hF
  refine mj_lsw (off := 188) C dX4_joined_1 rfl (by refine (lv_osw hw1_0 rfl).trans ?_; refine (lv_osw hw1_1 rfl).trans ?_; refine (lv_osw hw1_2 rfl).trans ?_; refine (lv_osw hw1_3 rfl).trans ?_; refine (lv_osw hw1_4 rfl).trans ?_; refine (lv_osw hw1_5 rfl).trans ?_; refine (lv_osw hw1_6 rfl).trans ?_; refine (lv_osw hw1_7 rfl).trans ?_; refine (lv_osw hw1_8 rfl).trans ?_; refine (lv_osw hw1_9 rfl).trans ?_; rfl) rfl ?_
  refine mj_iconstV (v := 0) C dX4_joined_189 mc_i_0 ?_
  have hF := mj_oi hF; subst hF
  exact mj_iret C hr hlk dX4_joined_190
set_option maxRecDepth 100000 in
set_option maxHeartbeats 4000000 in
theorem c_X4_push {G : mj_G} {l : Launch} (σ : mj_S) (p1 : Int32) (R : mj_S) (hF : f_X4_push σ p1 = some R) : mj_C G l yX4_push cX4_push 2 (none) 1 [.ref (G.2.1 1), .int p1] σ none R := by
  unfold f_X4_push at hF
  refine mj_of (ls := [(0, .ref (G.2.1 1)), (1, .int p1)]) (by decide) (Nat.le_of_ble_eq_true rfl) rfl (fun p e s m args below meth c C hr hlk => ?_)
  refine mj_aload_n C dX4_push_0 rfl ?_
  refine mg_X4_25 C dX4_push_1 ?_
  refine mj_bipushV (v := 121) C dX4_push_4 mc_b_121 ?_
  refine mj_ic_ge C dX4_push_6 rfl hF (fun hc1 hF => ?_) (fun hc1 hF => ?_)
  · have hF := mj_oi hF; subst hF
    exact mj_vret C hr hlk dX4_push_29
  · refine mj_aload_n C dX4_push_9 rfl ?_
    refine mg_X4_18 C dX4_push_10 ?_
    refine mj_aload_n C dX4_push_13 rfl ?_
    refine mg_X4_25 C dX4_push_14 ?_
    refine mj_iload_n C dX4_push_17 rfl ?_
    obtain ⟨hg2, hF⟩ := mj_og hF
    refine mj_iastore C dX4_push_18 rfl hg2 ?_
    refine mj_aload_n C dX4_push_19 rfl ?_
    refine mj_dup C dX4_push_20 rfl ?_
    refine mg_X4_25 C dX4_push_21 ?_
    refine mj_iconstV (v := 1) C dX4_push_24 mc_i_1 ?_
    refine mj_iadd C dX4_push_25 ?_
    refine mp_X4_25 C dX4_push_26 ?_
    have hF := mj_oi hF; subst hF
    exact mj_vret C hr hlk dX4_push_29
set_option maxRecDepth 100000 in
set_option maxHeartbeats 4000000 in
theorem w_X4_takeStep_102 {p : Program} {l : Launch} {e : Env} {s : State} {m : MethodId} {args : Array Value} {below : List Frame} {meth : Method} {c : Code} {G : mj_G} (C : mj_X p s m args meth c G cX4_takeStep 5 RX4) (hr : meth.sig.returnType = none) (hlk : meth.locks = false) : ∀ (t1 : Int32) (σ : mj_S) (R : mj_S), b_X4_takeStep_102 t1 σ = some R → mj_W p l e (mj_rm 2) s m args below meth c G 0 0 5 (MQ below (mj_Q G none R) args s 0 0 G.2.2.2) 102 [] [.int t1, .ref (G.2.1 1)] σ := by
  intro t1 σ R hF
  unfold b_X4_takeStep_102 at hF
  obtain ⟨r4, hq4, hF⟩ := mj_ob hF
  refine mj_callVv C (c_X4_push σ t1 r4 hq4) yv_X4_push kl_X4_57 (mo_1 G _) rfl rfl rfl rfl (Nat.le_of_ble_eq_true rfl) (mj_roomC (by decide) (by decide)) ⟨Nat.zero_le _, Nat.zero_le _⟩ dX4_takeStep_102 ?_
  refine mj_goto C dX4_takeStep_105 rfl ?_
  have hF := mj_oi hF; subst hF
  exact mj_vret C hr hlk dX4_takeStep_128
set_option maxRecDepth 100000 in
set_option maxHeartbeats 4000000 in
theorem w_X4_takeStep_71 {p : Program} {l : Launch} {e : Env} {s : State} {m : MethodId} {args : Array Value} {below : List Frame} {meth : Method} {c : Code} {G : mj_G} (C : mj_X p s m args meth c G cX4_takeStep 5 RX4) (hr : meth.sig.returnType = none) (hlk : meth.locks = false) : ∀ (t1 : Int32) (σ : mj_S) (R : mj_S), b_X4_takeStep_71 t1 σ = some R → mj_W p l e (mj_rm 2) s m args below meth c G 0 0 5 (MQ below (mj_Q G none R) args s 0 0 G.2.2.2) 71 [] [.int t1, .ref (G.2.1 1)] σ := by
  intro t1 σ R hF
  unfold b_X4_takeStep_71 at hF
  obtain ⟨r7, hq7, hF⟩ := mj_ob hF
  refine mj_callVv C (c_X4_push σ t1 r7 hq7) yv_X4_push kl_X4_57 (mo_1 G _) rfl rfl rfl rfl (Nat.le_of_ble_eq_true rfl) (mj_roomC (by decide) (by decide)) ⟨Nat.zero_le _, Nat.zero_le _⟩ dX4_takeStep_71 ?_
  refine mj_goto C dX4_takeStep_74 rfl ?_
  have hF := mj_oi hF; subst hF
  exact mj_vret C hr hlk dX4_takeStep_128
set_option maxRecDepth 100000 in
set_option maxHeartbeats 4000000 in
theorem w_X4_takeStep_70 {p : Program} {l : Launch} {e : Env} {s : State} {m : MethodId} {args : Array Value} {below : List Frame} {meth : Method} {c : Code} {G : mj_G} (C : mj_X p s m args meth c G cX4_takeStep 5 RX4) (hr : meth.sig.returnType = none) (hlk : meth.locks = false) : ∀ (σ : mj_S) (R : mj_S), b_X4_takeStep_70 σ = some R → mj_W p l e (mj_rm 2) s m args below meth c G 0 0 5 (MQ below (mj_Q G none R) args s 0 0 G.2.2.2) 70 [] [.ref (G.2.1 1)] σ := by
  intro σ R hF
  unfold b_X4_takeStep_70 at hF
  refine mj_iconstV (v := 0) C dX4_takeStep_70 mc_i_0 ?_
  refine mj_to ?_ (w_X4_takeStep_71 C hr hlk 0 σ R hF)
  exact trivial
set_option maxRecDepth 100000 in
set_option maxHeartbeats 4000000 in
theorem c_X4_takeStep {G : mj_G} {l : Launch} (σ : mj_S) (p1 : Int32) (p2 : Int32) (a3 n3 : Nat) (h3 : mj_il a3 = some n3) (R : mj_S) (hF : f_X4_takeStep σ p1 p2 a3 n3 = some R) : mj_C G l yX4_takeStep cX4_takeStep 5 (none) 2 [.ref (G.2.1 1), .int p1, .int p2, .ref (G.2.1 a3)] σ none R := by
  unfold f_X4_takeStep at hF
  refine mj_of (ls := [(0, .ref (G.2.1 1)), (1, .int p1), (2, .int p2), (3, .ref (G.2.1 a3))]) (by decide) (Nat.le_of_ble_eq_true rfl) rfl (fun p e s m args below meth c C hr hlk => ?_)
  refine mj_iload_n C dX4_takeStep_0 rfl ?_
  by_cases hw1_0 : p1 = 33
  · rw [if_pos hw1_0] at hF
    refine mj_lsw (off := 88) C dX4_takeStep_1 rfl (by rw [hw1_0]; rfl) rfl ?_
    refine mj_aload_n C dX4_takeStep_89 rfl ?_
    refine mj_aload_n C dX4_takeStep_90 rfl ?_
    obtain ⟨r2, hq2, hF⟩ := mj_ob hF
    refine mj_callVi C (c_X4_pop σ r2 hq2) yv_X4_pop kl_X4_49 (mo_1 G _) rfl rfl rfl rfl (Nat.le_of_ble_eq_true rfl) (mj_roomC (by decide) (by decide)) ⟨Nat.zero_le _, Nat.zero_le _⟩ dX4_takeStep_91 ?_
    refine mj_if_ne C dX4_takeStep_94 rfl hF (fun hc3 hF => ?_) (fun hc3 hF => ?_)
    · refine mj_iconstV (v := 0) C dX4_takeStep_101 mc_i_0 ?_
      refine mj_to ?_ (w_X4_takeStep_102 C hr hlk 0 r2.2 R hF)
      exact trivial
    · refine mj_iconstV (v := 1) C dX4_takeStep_97 mc_i_1 ?_
      refine mj_goto C dX4_takeStep_98 rfl ?_
      refine mj_to ?_ (w_X4_takeStep_102 C hr hlk 1 r2.2 R hF)
      exact trivial
  rw [if_neg hw1_0] at hF
  by_cases hw1_1 : p1 = 48
  · rw [if_pos hw1_1] at hF
    refine mj_lsw (off := 43) C dX4_takeStep_1 rfl (by rw [hw1_1]; rfl) rfl ?_
    refine mj_aload_n C dX4_takeStep_44 rfl ?_
    refine mj_iload_n C dX4_takeStep_45 rfl ?_
    obtain ⟨r5, hq5, hF⟩ := mj_ob hF
    refine mj_callVv C (c_X4_push σ p2 r5 hq5) yv_X4_push kl_X4_57 (mo_1 G _) rfl rfl rfl rfl (Nat.le_of_ble_eq_true rfl) (mj_roomC (by decide) (by decide)) ⟨Nat.zero_le _, Nat.zero_le _⟩ dX4_takeStep_46 ?_
    refine mj_goto C dX4_takeStep_49 rfl ?_
    have hF := mj_oi hF; subst hF
    exact mj_vret C hr hlk dX4_takeStep_128
  rw [if_neg hw1_1] at hF
  by_cases hw1_2 : p1 = 97
  · rw [if_pos hw1_2] at hF
    refine mj_lsw (off := 51) C dX4_takeStep_1 rfl (by rw [hw1_2]; rfl) rfl ?_
    refine mj_aload_n C dX4_takeStep_52 rfl ?_
    refine mj_iconstV (v := 0) C dX4_takeStep_53 mc_i_0 ?_
    refine mj_iload_n C dX4_takeStep_54 rfl ?_
    refine mj_ic_gt C dX4_takeStep_55 rfl hF (fun hc6 hF => ?_) (fun hc6 hF => ?_)
    · refine mj_to ?_ (w_X4_takeStep_70 C hr hlk σ R hF)
      exact trivial
    · refine mj_iload_n C dX4_takeStep_58 rfl ?_
      refine mj_aload_n C dX4_takeStep_59 rfl ?_
      refine mj_alen (v := Int32.ofNat n3) C dX4_takeStep_60 h3 rfl ?_
      refine mj_ic_ge C dX4_takeStep_61 rfl hF (fun hc8 hF => ?_) (fun hc8 hF => ?_)
      · refine mj_to ?_ (w_X4_takeStep_70 C hr hlk σ R hF)
        exact trivial
      · refine mj_aload_n C dX4_takeStep_64 rfl ?_
        refine mj_iload_n C dX4_takeStep_65 rfl ?_
        obtain ⟨hg9, hF⟩ := mj_og hF
        refine mj_iaload C dX4_takeStep_66 h3 hg9 ?_
        refine mj_goto C dX4_takeStep_67 rfl ?_
        refine mj_to ?_ (w_X4_takeStep_71 C hr hlk (σ.1 a3 p2.toNatClampNeg) σ R hF)
        exact trivial
  rw [if_neg hw1_2] at hF
  by_cases hw1_3 : p1 = 110
  · rw [if_pos hw1_3] at hF
    refine mj_lsw (off := 76) C dX4_takeStep_1 rfl (by rw [hw1_3]; rfl) rfl ?_
    refine mj_aload_n C dX4_takeStep_77 rfl ?_
    refine mj_aload_n C dX4_takeStep_78 rfl ?_
    obtain ⟨r10, hq10, hF⟩ := mj_ob hF
    refine mj_callVi C (c_X4_pop σ r10 hq10) yv_X4_pop kl_X4_49 (mo_1 G _) rfl rfl rfl rfl (Nat.le_of_ble_eq_true rfl) (mj_roomC (by decide) (by decide)) ⟨Nat.zero_le _, Nat.zero_le _⟩ dX4_takeStep_79 ?_
    refine mj_ineg C dX4_takeStep_82 ?_
    obtain ⟨r11, hq11, hF⟩ := mj_ob hF
    refine mj_callVv C (c_X4_push r10.2 (-r10.1) r11 hq11) yv_X4_push kl_X4_57 (mo_1 G _) rfl rfl rfl rfl (Nat.le_of_ble_eq_true rfl) (mj_roomC (by decide) (by decide)) ⟨Nat.zero_le _, Nat.zero_le _⟩ dX4_takeStep_83 ?_
    refine mj_goto C dX4_takeStep_86 rfl ?_
    have hF := mj_oi hF; subst hF
    exact mj_vret C hr hlk dX4_takeStep_128
  rw [if_neg hw1_3] at hF
  refine mj_lsw (off := 107) C dX4_takeStep_1 rfl (by refine (lv_osw hw1_0 rfl).trans ?_; refine (lv_osw hw1_1 rfl).trans ?_; refine (lv_osw hw1_2 rfl).trans ?_; refine (lv_osw hw1_3 rfl).trans ?_; rfl) rfl ?_
  refine mj_aload_n C dX4_takeStep_108 rfl ?_
  obtain ⟨r12, hq12, hF⟩ := mj_ob hF
  refine mj_callVi C (c_X4_pop σ r12 hq12) yv_X4_pop kl_X4_49 (mo_1 G _) rfl rfl rfl rfl (Nat.le_of_ble_eq_true rfl) (mj_roomC (by decide) (by decide)) ⟨Nat.zero_le _, Nat.zero_le _⟩ dX4_takeStep_109 ?_
  refine mj_istore C dX4_takeStep_112 (by decide) ?_
  refine mj_aload_n C dX4_takeStep_114 rfl ?_
  refine mj_iload_n C dX4_takeStep_115 rfl ?_
  refine mj_aload_n C dX4_takeStep_116 rfl ?_
  obtain ⟨r13, hq13, hF⟩ := mj_ob hF
  refine mj_callVi C (c_X4_pop r12.2 r13 hq13) yv_X4_pop kl_X4_49 (mo_1 G _) rfl rfl rfl rfl (Nat.le_of_ble_eq_true rfl) (mj_roomC (by decide) (by decide)) ⟨Nat.zero_le _, Nat.zero_le _⟩ dX4_takeStep_117 ?_
  refine mj_iload C dX4_takeStep_120 rfl ?_
  obtain ⟨r14, hq14, hF⟩ := mj_ob hF
  refine mj_callSi C (c_X4_joined r13.2 p1 r13.1 r12.1 r14 hq14) ys_X4_joined kl_X4_61 rfl rfl (Nat.le_of_ble_eq_true rfl) (mj_roomC (by decide) (by decide)) ⟨Nat.zero_le _, Nat.zero_le _⟩ dX4_takeStep_122 ?_
  obtain ⟨r15, hq15, hF⟩ := mj_ob hF
  refine mj_callVv C (c_X4_push r13.2 r14 r15 hq15) yv_X4_push kl_X4_57 (mo_1 G _) rfl rfl rfl rfl (Nat.le_of_ble_eq_true rfl) (mj_roomC (by decide) (by decide)) ⟨Nat.zero_le _, Nat.zero_le _⟩ dX4_takeStep_125 ?_
  have hF := mj_oi hF; subst hF
  exact mj_vret C hr hlk dX4_takeStep_128
set_option maxRecDepth 100000 in
set_option maxHeartbeats 4000000 in
theorem w_X4_workOut_9 {p : Program} {l : Launch} {e : Env} {s : State} {m : MethodId} {args : Array Value} {below : List Frame} {meth : Method} {c : Code} {G : mj_G} (C : mj_X p s m args meth c G cX4_workOut 5 RX4) (hr : meth.sig.returnType = some .int) (hlk : meth.locks = false) : ∀ (n : Nat) (a1 na1 : Nat) (ha1 : mj_il a1 = some na1) (v2 : Int32) (v3 : Int32) (σ : mj_S) (R : (Int32 × mj_S)), b_X4_workOut_9 n a1 na1 v2 v3 σ = some R → mj_W p l e (mj_rm 3) s m args below meth c G 0 0 5 (MQ below (mj_Q G (some (.int R.1)) R.2) args s 0 0 G.2.2.2) 9 [(0, .ref (G.2.1 1)), (1, .ref (G.2.1 a1)), (2, .int v2), (3, .int v3)] [] σ := by
  intro n
  induction n with
  | zero =>
    intro a1 na1 ha1 v2 v3 σ R hF
    cases hF
  | succ n ih =>
    intro a1 na1 ha1 v2 v3 σ R hF
    rw [b_X4_workOut_9] at hF
    refine mj_iload_n C dX4_workOut_9 rfl ?_
    refine mj_aload_n C dX4_workOut_10 rfl ?_
    refine mg_X4_21 C dX4_workOut_11 ?_
    refine mj_ic_ge C dX4_workOut_14 rfl hF (fun hc1 hF => ?_) (fun hc1 hF => ?_)
    · refine mj_iconstV (v := 0) C dX4_workOut_92 mc_i_0 ?_
      have hF := mj_oi hF; subst hF
      exact mj_iret C hr hlk dX4_workOut_93
    · refine mj_aload_n C dX4_workOut_17 rfl ?_
      refine mg_X4_11 C dX4_workOut_18 ?_
      refine mj_iload_n C dX4_workOut_21 rfl ?_
      obtain ⟨hg2, hF⟩ := mj_og hF
      refine mj_iaload C dX4_workOut_22 rfl hg2 ?_
      refine mj_istore C dX4_workOut_23 (by decide) ?_
      refine mj_iload_n C dX4_workOut_25 rfl ?_
      refine mj_iload_n C dX4_workOut_26 rfl ?_
      refine mj_ic_ge C dX4_workOut_27 rfl hF (fun hc3 hF => ?_) (fun hc3 hF => ?_)
      · refine mj_iload C dX4_workOut_33 rfl ?_
        refine mj_bipushV (v := 59) C dX4_workOut_35 mc_b_59 ?_
        refine mj_ic_ne C dX4_workOut_37 rfl hF (fun hc4 hF => ?_) (fun hc4 hF => ?_)
        · refine mj_iload C dX4_workOut_45 rfl ?_
          refine mj_bipushV (v := 63) C dX4_workOut_47 mc_b_63 ?_
          refine mj_ic_ne C dX4_workOut_49 rfl hF (fun hc5 hF => ?_) (fun hc5 hF => ?_)
          · refine mj_aload_n C dX4_workOut_73 rfl ?_
            refine mj_iload C dX4_workOut_74 rfl ?_
            refine mj_aload_n C dX4_workOut_76 rfl ?_
            refine mg_X4_15 C dX4_workOut_77 ?_
            refine mj_iload_n C dX4_workOut_80 rfl ?_
            obtain ⟨hg6, hF⟩ := mj_og hF
            refine mj_iaload C dX4_workOut_81 rfl hg6 ?_
            refine mj_aload_n C dX4_workOut_82 rfl ?_
            obtain ⟨r7, hq7, hF⟩ := mj_ob hF
            refine mj_callVv C (c_X4_takeStep σ (σ.1 2 v3.toNatClampNeg) (σ.1 3 v3.toNatClampNeg) a1 na1 ha1 r7 hq7) yv_X4_takeStep kl_X4_53 (mo_1 G _) rfl rfl rfl rfl (Nat.le_of_ble_eq_true rfl) (mj_roomC (by decide) (by decide)) ⟨Nat.zero_le _, Nat.zero_le _⟩ dX4_workOut_83 ?_
            refine mj_iinc (v := v3 + 1) C dX4_workOut_86 rfl rfl (by decide) ?_
            refine mj_goto C dX4_workOut_89 rfl ?_
            refine mj_to ?_ (ih a1 na1 ha1 v2 (v3 + 1) r7 R hF)
            exact ⟨rfl, rfl, rfl, rfl, trivial⟩
          · refine mj_aload_n C dX4_workOut_52 rfl ?_
            obtain ⟨r8, hq8, hF⟩ := mj_ob hF
            refine mj_callVi C (c_X4_pop σ r8 hq8) yv_X4_pop kl_X4_49 (mo_1 G _) rfl rfl rfl rfl (Nat.le_of_ble_eq_true rfl) (mj_roomC (by decide) (by decide)) ⟨Nat.zero_le _, Nat.zero_le _⟩ dX4_workOut_53 ?_
            refine mj_if_ne C dX4_workOut_56 rfl hF (fun hc9 hF => ?_) (fun hc9 hF => ?_)
            · refine mj_iload_n C dX4_workOut_68 rfl ?_
              refine mj_istore_n C dX4_workOut_69 (by decide) ?_
              refine mj_goto C dX4_workOut_70 rfl ?_
              refine mj_iinc (v := v3 + 1) C dX4_workOut_86 rfl rfl (by decide) ?_
              refine mj_goto C dX4_workOut_89 rfl ?_
              refine mj_to ?_ (ih a1 na1 ha1 v3 (v3 + 1) r8.2 R hF)
              exact ⟨rfl, rfl, rfl, rfl, trivial⟩
            · refine mj_aload_n C dX4_workOut_59 rfl ?_
              refine mg_X4_15 C dX4_workOut_60 ?_
              refine mj_iload_n C dX4_workOut_63 rfl ?_
              obtain ⟨hg10, hF⟩ := mj_og hF
              refine mj_iaload C dX4_workOut_64 rfl hg10 ?_
              refine mj_goto C dX4_workOut_65 rfl ?_
              refine mj_istore_n C dX4_workOut_69 (by decide) ?_
              refine mj_goto C dX4_workOut_70 rfl ?_
              refine mj_iinc (v := v3 + 1) C dX4_workOut_86 rfl rfl (by decide) ?_
              refine mj_goto C dX4_workOut_89 rfl ?_
              refine mj_to ?_ (ih a1 na1 ha1 (r8.2.1 3 v3.toNatClampNeg) (v3 + 1) r8.2 R hF)
              exact ⟨rfl, rfl, rfl, rfl, trivial⟩
        · refine mj_aload_n C dX4_workOut_40 rfl ?_
          obtain ⟨r11, hq11, hF⟩ := mj_ob hF
          refine mj_callVi C (c_X4_pop σ r11 hq11) yv_X4_pop kl_X4_49 (mo_1 G _) rfl rfl rfl rfl (Nat.le_of_ble_eq_true rfl) (mj_roomC (by decide) (by decide)) ⟨Nat.zero_le _, Nat.zero_le _⟩ dX4_workOut_41 ?_
          have hF := mj_oi hF; subst hF
          exact mj_iret C hr hlk dX4_workOut_44
      · refine mj_goto C dX4_workOut_30 rfl ?_
        refine mj_iinc (v := v3 + 1) C dX4_workOut_86 rfl rfl (by decide) ?_
        refine mj_goto C dX4_workOut_89 rfl ?_
        refine mj_to ?_ (ih a1 na1 ha1 v2 (v3 + 1) σ R hF)
        exact ⟨rfl, rfl, rfl, rfl, trivial⟩
set_option maxRecDepth 100000 in
set_option maxHeartbeats 4000000 in
theorem c_X4_workOut {G : mj_G} {l : Launch} (σ : mj_S) (a1 n1 : Nat) (h1 : mj_il a1 = some n1) (R : (Int32 × mj_S)) (hF : f_X4_workOut σ a1 n1 = some R) : mj_C G l yX4_workOut cX4_workOut 5 (some .int) 3 [.ref (G.2.1 1), .ref (G.2.1 a1)] σ (some (.int R.1)) R.2 := by
  unfold f_X4_workOut at hF
  refine mj_of (ls := [(0, .ref (G.2.1 1)), (1, .ref (G.2.1 a1))]) (by decide) (Nat.le_of_ble_eq_true rfl) rfl (fun p e s m args below meth c C hr hlk => ?_)
  refine mj_aload_n C dX4_workOut_0 rfl ?_
  refine mj_iconstV (v := 0) C dX4_workOut_1 mc_i_0 ?_
  refine mp_X4_25 C dX4_workOut_2 ?_
  refine mj_iconstV (v := 0) C dX4_workOut_5 mc_i_0 ?_
  refine mj_istore_n C dX4_workOut_6 (by decide) ?_
  refine mj_iconstV (v := 0) C dX4_workOut_7 mc_i_0 ?_
  refine mj_istore_n C dX4_workOut_8 (by decide) ?_
  refine mj_to ?_ (w_X4_workOut_9 C hr hlk mj_fu a1 n1 h1 0 0 (mj_sI σ 1 4 0) R hF)
  exact ⟨rfl, rfl, rfl, rfl, trivial⟩
set_option maxRecDepth 100000 in
set_option maxHeartbeats 4000000 in
theorem w_X4_growth_30 {p : Program} {l : Launch} {e : Env} {s : State} {m : MethodId} {args : Array Value} {below : List Frame} {meth : Method} {c : Code} {G : mj_G} (C : mj_X p s m args meth c G cX4_growth 3 RX4) (hr : meth.sig.returnType = some .int) (hlk : meth.locks = false) : ∀ (t0 : Int32) (σ : mj_S) (R : (Int32 × mj_S)), b_X4_growth_30 t0 σ = some R → mj_W p l e (mj_rm 4) s m args below meth c G 0 0 3 (MQ below (mj_Q G (some (.int R.1)) R.2) args s 0 0 G.2.2.2) 30 [] [.int t0] σ := by
  intro t0 σ R hF
  unfold b_X4_growth_30 at hF
  refine mj_istore_n C dX4_growth_30 (by decide) ?_
  refine mj_iconstV (v := 0) C dX4_growth_31 mc_i_0 ?_
  refine mj_bipushV (v := 99) C dX4_growth_32 mc_b_99 ?_
  refine mj_iload_n C dX4_growth_34 rfl ?_
  refine mj_mmin C kl_X4_32 (mj_room13 (by decide) (Nat.le_of_ble_eq_true rfl)) ⟨Nat.zero_le _, Nat.zero_le _⟩ dX4_growth_35 ?_
  refine mj_mmax C kl_X4_46 (mj_room13 (by decide) (Nat.le_of_ble_eq_true rfl)) ⟨Nat.zero_le _, Nat.zero_le _⟩ dX4_growth_38 ?_
  have hF := mj_oi hF; subst hF
  exact mj_iret C hr hlk dX4_growth_41
set_option maxRecDepth 100000 in
set_option maxHeartbeats 4000000 in
theorem c_X4_growth {G : mj_G} {l : Launch} (σ : mj_S) (a1 n1 : Nat) (h1 : mj_il a1 = some n1) (R : (Int32 × mj_S)) (hF : f_X4_growth σ a1 n1 = some R) : mj_C G l yX4_growth cX4_growth 3 (some .int) 4 [.ref (G.2.1 1), .ref (G.2.1 a1)] σ (some (.int R.1)) R.2 := by
  unfold f_X4_growth at hF
  refine mj_of (ls := [(0, .ref (G.2.1 1)), (1, .ref (G.2.1 a1))]) (by decide) (Nat.le_of_ble_eq_true rfl) rfl (fun p e s m args below meth c C hr hlk => ?_)
  refine mj_aload_n C dX4_growth_0 rfl ?_
  refine mj_alen (v := Int32.ofNat n1) C dX4_growth_1 h1 rfl ?_
  refine mj_bipushV (v := 7) C dX4_growth_2 mc_b_7 ?_
  refine mj_ic_ge C dX4_growth_4 rfl hF (fun hc1 hF => ?_) (fun hc1 hF => ?_)
  · refine mj_aload_n C dX4_growth_9 rfl ?_
    refine mg_X4_28 C dX4_growth_10 ?_
    refine mj_if_eq C dX4_growth_13 rfl hF (fun hc2 hF => ?_) (fun hc2 hF => ?_)
    · refine mj_aload_n C dX4_growth_24 rfl ?_
      refine mj_iconstV (v := 0) C dX4_growth_25 mc_i_0 ?_
      obtain ⟨hg3, hF⟩ := mj_og hF
      refine mj_iaload C dX4_growth_26 h1 hg3 ?_
      refine mj_callSi C (c_X4_withoutText σ (σ.1 a1 0)) ys_X4_withoutText kl_X4_42 rfl rfl (Nat.le_of_ble_eq_true rfl) (mj_roomC (by decide) (by decide)) ⟨Nat.zero_le _, Nat.zero_le _⟩ dX4_growth_27 ?_
      refine mj_to ?_ (w_X4_growth_30 C hr hlk (f_X4_withoutText σ (σ.1 a1 0)) σ R hF)
      exact trivial
    · refine mj_aload_n C dX4_growth_16 rfl ?_
      refine mj_aload_n C dX4_growth_17 rfl ?_
      obtain ⟨r4, hq4, hF⟩ := mj_ob hF
      refine mj_callVi C (c_X4_workOut σ a1 n1 h1 r4 hq4) yv_X4_workOut kl_X4_38 (mo_1 G _) rfl rfl rfl rfl (Nat.le_of_ble_eq_true rfl) (mj_roomC (by decide) (by decide)) ⟨Nat.zero_le _, Nat.zero_le _⟩ dX4_growth_18 ?_
      refine mj_goto C dX4_growth_21 rfl ?_
      refine mj_to ?_ (w_X4_growth_30 C hr hlk r4.1 r4.2 R hF)
      exact trivial
  · refine mj_iconstV (v := 0) C dX4_growth_7 mc_i_0 ?_
    have hF := mj_oi hF; subst hF
    exact mj_iret C hr hlk dX4_growth_8
set_option maxRecDepth 100000 in
set_option maxHeartbeats 4000000 in
theorem w_X4_become_23 {p : Program} {l : Launch} {e : Env} {s : State} {m : MethodId} {args : Array Value} {below : List Frame} {meth : Method} {c : Code} {G : mj_G} (C : mj_X p s m args meth c G cX4_become 5 RX4) (hr : meth.sig.returnType = none) (hlk : meth.locks = false) : ∀ (n : Nat) (a1 na1 : Nat) (ha1 : mj_il a1 = some na1) (a2 na2 : Nat) (ha2 : mj_il a2 = some na2) (v4 : Int32) (σ : mj_S) (R : mj_S), b_X4_become_23 n a1 na1 a2 na2 v4 σ = some R → mj_W p l e (mj_rm 1) s m args below meth c G 0 0 5 (MQ below (mj_Q G none R) args s 0 0 G.2.2.2) 23 [(0, .ref (G.2.1 1)), (1, .ref (G.2.1 a1)), (2, .ref (G.2.1 a2)), (4, .int v4)] [] σ := by
  intro n
  induction n with
  | zero =>
    intro a1 na1 ha1 a2 na2 ha2 v4 σ R hF
    cases hF
  | succ n ih =>
    intro a1 na1 ha1 a2 na2 ha2 v4 σ R hF
    rw [b_X4_become_23] at hF
    refine mj_iload C dX4_become_23 rfl ?_
    refine mj_aload_n C dX4_become_25 rfl ?_
    refine mg_X4_21 C dX4_become_26 ?_
    refine mj_ic_ge C dX4_become_29 rfl hF (fun hc1 hF => ?_) (fun hc1 hF => ?_)
    · refine mj_aload_n C dX4_become_60 rfl ?_
      refine mj_iconstV (v := 1) C dX4_become_61 mc_i_1 ?_
      refine mp_X4_28 C rfl rfl dX4_become_62 ?_
      have hF := mj_oi hF; subst hF
      exact mj_vret C hr hlk dX4_become_65
    · refine mj_aload_n C dX4_become_32 rfl ?_
      refine mg_X4_11 C dX4_become_33 ?_
      refine mj_iload C dX4_become_36 rfl ?_
      refine mj_aload_n C dX4_become_38 rfl ?_
      refine mj_iload C dX4_become_39 rfl ?_
      obtain ⟨hg2, hF⟩ := mj_og hF
      refine mj_iaload C dX4_become_41 ha1 hg2 ?_
      obtain ⟨hg3, hF⟩ := mj_og hF
      refine mj_iastore C dX4_become_42 rfl hg3 ?_
      refine mj_aload_n C dX4_become_43 rfl ?_
      refine mg_X4_15 C dX4_become_44 ?_
      refine mj_iload C dX4_become_47 rfl ?_
      refine mj_aload_n C dX4_become_49 rfl ?_
      refine mj_iload C dX4_become_50 rfl ?_
      obtain ⟨hg4, hF⟩ := mj_og hF
      refine mj_iaload C dX4_become_52 ha2 hg4 ?_
      obtain ⟨hg5, hF⟩ := mj_og hF
      refine mj_iastore C dX4_become_53 rfl hg5 ?_
      refine mj_iinc (v := v4 + 1) C dX4_become_54 rfl rfl (by decide) ?_
      refine mj_goto C dX4_become_57 rfl ?_
      refine mj_to ?_ (ih a1 na1 ha1 a2 na2 ha2 (v4 + 1) (mj_sI (mj_sI σ 2 v4.toNatClampNeg (σ.1 a1 v4.toNatClampNeg)) 3 v4.toNatClampNeg ((mj_sI σ 2 v4.toNatClampNeg (σ.1 a1 v4.toNatClampNeg)).1 a2 v4.toNatClampNeg)) R hF)
      exact ⟨rfl, rfl, rfl, rfl, trivial⟩
set_option maxRecDepth 100000 in
set_option maxHeartbeats 4000000 in
theorem c_X4_become {G : mj_G} {l : Launch} (σ : mj_S) (a1 n1 : Nat) (h1 : mj_il a1 = some n1) (a2 n2 : Nat) (h2 : mj_il a2 = some n2) (p3 : Int32) (R : mj_S) (hF : f_X4_become σ a1 n1 a2 n2 p3 = some R) : mj_C G l yX4_become cX4_become 5 (none) 1 [.ref (G.2.1 1), .ref (G.2.1 a1), .ref (G.2.1 a2), .int p3] σ none R := by
  unfold f_X4_become at hF
  refine mj_of (ls := [(0, .ref (G.2.1 1)), (1, .ref (G.2.1 a1)), (2, .ref (G.2.1 a2)), (3, .int p3)]) (by decide) (Nat.le_of_ble_eq_true rfl) rfl (fun p e s m args below meth c C hr hlk => ?_)
  refine mj_aload_n C dX4_become_0 rfl ?_
  refine mj_iload_n C dX4_become_1 rfl ?_
  refine mj_bipushV (v := 121) C dX4_become_2 mc_b_121 ?_
  refine mj_aload_n C dX4_become_4 rfl ?_
  refine mj_alen (v := Int32.ofNat n1) C dX4_become_5 h1 rfl ?_
  refine mj_aload_n C dX4_become_6 rfl ?_
  refine mj_alen (v := Int32.ofNat n2) C dX4_become_7 h2 rfl ?_
  refine mj_mmin C kl_X4_32 (mj_room13 (by decide) (Nat.le_of_ble_eq_true rfl)) ⟨Nat.zero_le _, Nat.zero_le _⟩ dX4_become_8 ?_
  refine mj_mmin C kl_X4_32 (mj_room13 (by decide) (Nat.le_of_ble_eq_true rfl)) ⟨Nat.zero_le _, Nat.zero_le _⟩ dX4_become_11 ?_
  refine mj_mmin C kl_X4_32 (mj_room13 (by decide) (Nat.le_of_ble_eq_true rfl)) ⟨Nat.zero_le _, Nat.zero_le _⟩ dX4_become_14 ?_
  refine mp_X4_21 C dX4_become_17 ?_
  refine mj_iconstV (v := 0) C dX4_become_20 mc_i_0 ?_
  refine mj_istore C dX4_become_21 (by decide) ?_
  refine mj_to ?_ (w_X4_become_23 C hr hlk mj_fu a1 n1 h1 a2 n2 h2 0 (mj_sI σ 1 3 (mj_min p3 (mj_min 121 (mj_min (Int32.ofNat n1) (Int32.ofNat n2))))) R hF)
  exact ⟨rfl, rfl, rfl, rfl, trivial⟩
set_option maxRecDepth 100000 in
set_option maxHeartbeats 4000000 in
theorem c_X9_within {G : mj_G} {l : Launch} (σ : mj_S) (p0 : Int32) (p1 : Int32) (p2 : Int32) : mj_C G l yX9_within cX9_within 3 (some .boolean) 1 [.int p0, .int p1, .int p2] σ (some (.int (f_X9_within σ p0 p1 p2))) σ := by
  generalize hF : f_X9_within σ p0 p1 p2 = R
  unfold f_X9_within at hF
  refine mj_of (ls := [(0, .int p0), (1, .int p1), (2, .int p2)]) (by decide) (Nat.le_of_ble_eq_true rfl) rfl (fun p e s m args below meth c C hr hlk => ?_)
  refine mj_iload_n C dX9_within_0 rfl ?_
  refine mj_iload_n C dX9_within_1 rfl ?_
  refine mj_ic_gt C dX9_within_2 rfl hF (fun hc1 hF => ?_) (fun hc1 hF => ?_)
  · refine mj_iconstV (v := 0) C dX9_within_14 mc_i_0 ?_
    subst hF
    exact mj_zret (v := 0) rfl C hr hlk dX9_within_15
  · refine mj_iload_n C dX9_within_5 rfl ?_
    refine mj_iload_n C dX9_within_6 rfl ?_
    refine mj_ic_gt C dX9_within_7 rfl hF (fun hc2 hF => ?_) (fun hc2 hF => ?_)
    · refine mj_iconstV (v := 0) C dX9_within_14 mc_i_0 ?_
      subst hF
      exact mj_zret (v := 0) rfl C hr hlk dX9_within_15
    · refine mj_iconstV (v := 1) C dX9_within_10 mc_i_1 ?_
      refine mj_goto C dX9_within_11 rfl ?_
      subst hF
      exact mj_zret (v := 1) rfl C hr hlk dX9_within_15
set_option maxRecDepth 100000 in
set_option maxHeartbeats 4000000 in
theorem c_X9_isMonth {G : mj_G} {l : Launch} (σ : mj_S) (p0 : Int32) : mj_C G l yX9_isMonth cX9_isMonth 1 (some .boolean) 2 [.int p0] σ (some (.int (f_X9_isMonth σ p0))) σ := by
  generalize hF : f_X9_isMonth σ p0 = R
  unfold f_X9_isMonth at hF
  refine mj_of (ls := [(0, .int p0)]) (by decide) (Nat.le_of_ble_eq_true rfl) rfl (fun p e s m args below meth c C hr hlk => ?_)
  refine mj_iload_n C dX9_isMonth_0 rfl ?_
  refine mj_iconstV (v := 0) C dX9_isMonth_1 mc_i_0 ?_
  refine mj_sipushV (v := 599) C dX9_isMonth_2 mc_s_599 ?_
  refine mj_callSi C (c_X9_within σ p0 0 599) ys_X9_within kl_X9_82 rfl rfl (Nat.le_of_ble_eq_true rfl) (mj_roomC (by decide) (by decide)) ⟨Nat.zero_le _, Nat.zero_le _⟩ dX9_isMonth_5 ?_
  subst hF
  exact mj_zbret C hr hlk dX9_isMonth_8
set_option maxRecDepth 100000 in
set_option maxHeartbeats 4000000 in
theorem c_X9_isLate {G : mj_G} {l : Launch} (σ : mj_S) (p0 : Int32) : mj_C G l yX9_isLate cX9_isLate 1 (some .boolean) 2 [.int p0] σ (some (.int (f_X9_isLate σ p0))) σ := by
  generalize hF : f_X9_isLate σ p0 = R
  unfold f_X9_isLate at hF
  refine mj_of (ls := [(0, .int p0)]) (by decide) (Nat.le_of_ble_eq_true rfl) rfl (fun p e s m args below meth c C hr hlk => ?_)
  refine mj_iload_n C dX9_isLate_0 rfl ?_
  refine mj_bipushV (v := (-24)) C dX9_isLate_1 mc_b_m24 ?_
  refine mj_bipushV (v := 24) C dX9_isLate_3 mc_b_24 ?_
  refine mj_callSi C (c_X9_within σ p0 (-24) 24) ys_X9_within kl_X9_82 rfl rfl (Nat.le_of_ble_eq_true rfl) (mj_roomC (by decide) (by decide)) ⟨Nat.zero_le _, Nat.zero_le _⟩ dX9_isLate_5 ?_
  subst hF
  exact mj_zbret C hr hlk dX9_isLate_8
set_option maxRecDepth 100000 in
set_option maxHeartbeats 4000000 in
theorem c_X9_isParents {G : mj_G} {l : Launch} (σ : mj_S) (p0 : Int32) : mj_C G l yX9_isParents cX9_isParents 1 (some .boolean) 2 [.int p0] σ (some (.int (f_X9_isParents σ p0))) σ := by
  generalize hF : f_X9_isParents σ p0 = R
  unfold f_X9_isParents at hF
  refine mj_of (ls := [(0, .int p0)]) (by decide) (Nat.le_of_ble_eq_true rfl) rfl (fun p e s m args below meth c C hr hlk => ?_)
  refine mj_iload_n C dX9_isParents_0 rfl ?_
  refine mj_sipushV (v := 3000) C dX9_isParents_1 mc_s_3000 ?_
  refine mj_sipushV (v := 6000) C dX9_isParents_4 mc_s_6000 ?_
  refine mj_callSi C (c_X9_within σ p0 3000 6000) ys_X9_within kl_X9_82 rfl rfl (Nat.le_of_ble_eq_true rfl) (mj_roomC (by decide) (by decide)) ⟨Nat.zero_le _, Nat.zero_le _⟩ dX9_isParents_7 ?_
  subst hF
  exact mj_zbret C hr hlk dX9_isParents_10
set_option maxRecDepth 100000 in
set_option maxHeartbeats 4000000 in
theorem c_X9_isSpan {G : mj_G} {l : Launch} (σ : mj_S) (p0 : Int32) : mj_C G l yX9_isSpan cX9_isSpan 1 (some .boolean) 3 [.int p0] σ (some (.int (f_X9_isSpan σ p0))) σ := by
  generalize hF : f_X9_isSpan σ p0 = R
  unfold f_X9_isSpan at hF
  refine mj_of (ls := [(0, .int p0)]) (by decide) (Nat.le_of_ble_eq_true rfl) rfl (fun p e s m args below meth c C hr hlk => ?_)
  refine mj_iload_n C dX9_isSpan_0 rfl ?_
  refine mj_if_lt C dX9_isSpan_1 rfl hF (fun hc1 hF => ?_) (fun hc1 hF => ?_)
  · refine mj_iconstV (v := 0) C dX9_isSpan_43 mc_i_0 ?_
    subst hF
    exact mj_zret (v := 0) rfl C hr hlk dX9_isSpan_44
  · refine mj_iload_n C dX9_isSpan_4 rfl ?_
    refine mj_sipushV (v := 1000) C dX9_isSpan_5 mc_s_1000 ?_
    refine mj_idiv C dX9_isSpan_8 (by decide) ?_
    refine mj_callSi C (c_X9_isMonth σ (p0 / 1000)) ys_X9_isMonth kl_X9_78 rfl rfl (Nat.le_of_ble_eq_true rfl) (mj_roomC (by decide) (by decide)) ⟨Nat.zero_le _, Nat.zero_le _⟩ dX9_isSpan_9 ?_
    refine mj_if_eq C dX9_isSpan_12 rfl hF (fun hc2 hF => ?_) (fun hc2 hF => ?_)
    · refine mj_iconstV (v := 0) C dX9_isSpan_43 mc_i_0 ?_
      subst hF
      exact mj_zret (v := 0) rfl C hr hlk dX9_isSpan_44
    · refine mj_iload_n C dX9_isSpan_15 rfl ?_
      refine mj_sipushV (v := 1000) C dX9_isSpan_16 mc_s_1000 ?_
      refine mj_irem C dX9_isSpan_19 (by decide) ?_
      refine mj_callSi C (c_X9_isMonth σ (mj_rem p0 1000)) ys_X9_isMonth kl_X9_78 rfl rfl (Nat.le_of_ble_eq_true rfl) (mj_roomC (by decide) (by decide)) ⟨Nat.zero_le _, Nat.zero_le _⟩ dX9_isSpan_20 ?_
      refine mj_if_eq C dX9_isSpan_23 rfl hF (fun hc3 hF => ?_) (fun hc3 hF => ?_)
      · refine mj_iconstV (v := 0) C dX9_isSpan_43 mc_i_0 ?_
        subst hF
        exact mj_zret (v := 0) rfl C hr hlk dX9_isSpan_44
      · refine mj_iload_n C dX9_isSpan_26 rfl ?_
        refine mj_sipushV (v := 1000) C dX9_isSpan_27 mc_s_1000 ?_
        refine mj_idiv C dX9_isSpan_30 (by decide) ?_
        refine mj_iload_n C dX9_isSpan_31 rfl ?_
        refine mj_sipushV (v := 1000) C dX9_isSpan_32 mc_s_1000 ?_
        refine mj_irem C dX9_isSpan_35 (by decide) ?_
        refine mj_ic_gt C dX9_isSpan_36 rfl hF (fun hc4 hF => ?_) (fun hc4 hF => ?_)
        · refine mj_iconstV (v := 0) C dX9_isSpan_43 mc_i_0 ?_
          subst hF
          exact mj_zret (v := 0) rfl C hr hlk dX9_isSpan_44
        · refine mj_iconstV (v := 1) C dX9_isSpan_39 mc_i_1 ?_
          refine mj_goto C dX9_isSpan_40 rfl ?_
          subst hF
          exact mj_zret (v := 1) rfl C hr hlk dX9_isSpan_44
set_option maxRecDepth 100000 in
set_option maxHeartbeats 4000000 in
theorem c_X9_feed {G : mj_G} {l : Launch} (σ : mj_S) (p1 : Int32) (R : (Int32 × mj_S)) (hF : f_X9_feed σ p1 = some R) : mj_C G l yX9_feed cX9_feed 2 (some .int) 2 [.ref (G.2.1 0), .int p1] σ (some (.int R.1)) R.2 := by
  unfold f_X9_feed at hF
  refine mj_of (ls := [(0, .ref (G.2.1 0)), (1, .int p1)]) (by decide) (Nat.le_of_ble_eq_true rfl) rfl (fun p e s m args below meth c C hr hlk => ?_)
  refine mj_iload_n C dX9_feed_0 rfl ?_
  refine mj_iconstV (v := 0) C dX9_feed_1 mc_i_0 ?_
  refine mj_sipushV (v := 255) C dX9_feed_2 mc_s_255 ?_
  refine mj_callSi C (c_X9_within σ p1 0 255) ys_X9_within kl_X9_82 rfl rfl (Nat.le_of_ble_eq_true rfl) (mj_roomC (by decide) (by decide)) ⟨Nat.zero_le _, Nat.zero_le _⟩ dX9_feed_5 ?_
  refine mj_if_ne C dX9_feed_8 rfl hF (fun hc1 hF => ?_) (fun hc1 hF => ?_)
  · refine mj_aload_n C dX9_feed_13 rfl ?_
    refine mg_X9_19 C dX9_feed_14 ?_
    refine mj_callVi C (c_X7_tapeLength σ) yv_X7_tapeLength kl_X9_113 (mo_5 G _) rfl rfl rfl rfl (Nat.le_of_ble_eq_true rfl) (mj_roomC (by decide) (by decide)) ⟨Nat.zero_le _, Nat.zero_le _⟩ dX9_feed_17 ?_
    refine mj_bipushV (v := 120) C dX9_feed_20 mc_b_120 ?_
    refine mj_ic_lt C dX9_feed_22 rfl hF (fun hc2 hF => ?_) (fun hc2 hF => ?_)
    · refine mj_aload_n C dX9_feed_28 rfl ?_
      refine mg_X9_19 C dX9_feed_29 ?_
      refine mj_iload_n C dX9_feed_32 rfl ?_
      obtain ⟨r3, hq3, hF⟩ := mj_ob hF
      refine mj_callVi C (c_X7_take σ p1 r3 hq3) yv_X7_take kl_X9_116 (mo_5 G _) rfl rfl rfl rfl (Nat.le_of_ble_eq_true rfl) (mj_roomC (by decide) (by decide)) ⟨Nat.zero_le _, Nat.zero_le _⟩ dX9_feed_33 ?_
      have hF := mj_oi hF; subst hF
      exact mj_iret C hr hlk dX9_feed_36
    · refine mj_bipushV (v := (-3)) C dX9_feed_25 mc_b_m3 ?_
      have hF := mj_oi hF; subst hF
      exact mj_iret C hr hlk dX9_feed_27
  · refine mj_iconstV (v := (-1)) C dX9_feed_11 mc_i_m1 ?_
    have hF := mj_oi hF; subst hF
    exact mj_iret C hr hlk dX9_feed_12
set_option maxRecDepth 100000 in
set_option maxHeartbeats 4000000 in
theorem c_X9_height {G : mj_G} {l : Launch} (σ : mj_S) (p1 : Int32) (p2 : Int32) (R : Int32) (hF : f_X9_height σ p1 p2 = some R) : mj_C G l yX9_height cX9_height 3 (some .int) 3 [.ref (G.2.1 0), .int p1, .int p2] σ (some (.int R)) σ := by
  unfold f_X9_height at hF
  refine mj_of (ls := [(0, .ref (G.2.1 0)), (1, .int p1), (2, .int p2)]) (by decide) (Nat.le_of_ble_eq_true rfl) rfl (fun p e s m args below meth c C hr hlk => ?_)
  refine mj_aload_n C dX9_height_0 rfl ?_
  refine mg_X9_28 C dX9_height_1 ?_
  refine mj_iload_n C dX9_height_4 rfl ?_
  refine mj_callVi C (c_X2_has σ p1) yv_X2_has kl_X9_132 (mo_9 G _) rfl rfl rfl rfl (Nat.le_of_ble_eq_true rfl) (mj_roomC (by decide) (by decide)) ⟨Nat.zero_le _, Nat.zero_le _⟩ dX9_height_5 ?_
  refine mj_if_eq C dX9_height_8 rfl hF (fun hc1 hF => ?_) (fun hc1 hF => ?_)
  · refine mj_iconstV (v := (-1)) C dX9_height_18 mc_i_m1 ?_
    have hF := mj_oi hF; subst hF
    exact mj_iret C hr hlk dX9_height_19
  · refine mj_iload_n C dX9_height_11 rfl ?_
    refine mj_callSi C (c_X9_isMonth σ p2) ys_X9_isMonth kl_X9_78 rfl rfl (Nat.le_of_ble_eq_true rfl) (mj_roomC (by decide) (by decide)) ⟨Nat.zero_le _, Nat.zero_le _⟩ dX9_height_12 ?_
    refine mj_if_ne C dX9_height_15 rfl hF (fun hc2 hF => ?_) (fun hc2 hF => ?_)
    · refine mj_aload_n C dX9_height_20 rfl ?_
      refine mg_X9_28 C dX9_height_21 ?_
      refine mj_iload_n C dX9_height_24 rfl ?_
      refine mj_iload_n C dX9_height_25 rfl ?_
      obtain ⟨r3, hq3, hF⟩ := mj_ob hF
      refine mj_callVi C (c_X2_heightAt σ p1 p2 r3 hq3) yv_X2_heightAt kl_X9_135 (mo_9 G _) rfl rfl rfl rfl (Nat.le_of_ble_eq_true rfl) (mj_roomC (by decide) (by decide)) ⟨Nat.zero_le _, Nat.zero_le _⟩ dX9_height_26 ?_
      have hF := mj_oi hF; subst hF
      exact mj_iret C hr hlk dX9_height_29
    · refine mj_iconstV (v := (-1)) C dX9_height_18 mc_i_m1 ?_
      have hF := mj_oi hF; subst hF
      exact mj_iret C hr hlk dX9_height_19
set_option maxRecDepth 100000 in
set_option maxHeartbeats 4000000 in
theorem c_X9_isMark {G : mj_G} {l : Launch} (σ : mj_S) (p0 : Int32) (p1 : Int32) (p2 : Int32) (p3 : Int32) : mj_C G l yX9_isMark cX9_isMark 4 (some .boolean) 2 [.int p0, .int p1, .int p2, .int p3] σ (some (.int (f_X9_isMark σ p0 p1 p2 p3))) σ := by
  generalize hF : f_X9_isMark σ p0 p1 p2 p3 = R
  unfold f_X9_isMark at hF
  refine mj_of (ls := [(0, .int p0), (1, .int p1), (2, .int p2), (3, .int p3)]) (by decide) (Nat.le_of_ble_eq_true rfl) rfl (fun p e s m args below meth c C hr hlk => ?_)
  refine mj_iload_n C dX9_isMark_0 rfl ?_
  refine mj_iconstV (v := 0) C dX9_isMark_1 mc_i_0 ?_
  refine mj_sipushV (v := 9999) C dX9_isMark_2 mc_s_9999 ?_
  refine mj_callSi C (c_X9_within σ p0 0 9999) ys_X9_within kl_X9_82 rfl rfl (Nat.le_of_ble_eq_true rfl) (mj_roomC (by decide) (by decide)) ⟨Nat.zero_le _, Nat.zero_le _⟩ dX9_isMark_5 ?_
  refine mj_if_eq C dX9_isMark_8 rfl hF (fun hc1 hF => ?_) (fun hc1 hF => ?_)
  · refine mj_iconstV (v := 0) C dX9_isMark_45 mc_i_0 ?_
    subst hF
    exact mj_zret (v := 0) rfl C hr hlk dX9_isMark_46
  · refine mj_iload_n C dX9_isMark_11 rfl ?_
    refine mj_iconstV (v := 0) C dX9_isMark_12 mc_i_0 ?_
    refine mj_bipushV (v := 6) C dX9_isMark_13 mc_b_6 ?_
    refine mj_callSi C (c_X9_within σ p1 0 6) ys_X9_within kl_X9_82 rfl rfl (Nat.le_of_ble_eq_true rfl) (mj_roomC (by decide) (by decide)) ⟨Nat.zero_le _, Nat.zero_le _⟩ dX9_isMark_15 ?_
    refine mj_if_eq C dX9_isMark_18 rfl hF (fun hc2 hF => ?_) (fun hc2 hF => ?_)
    · refine mj_iconstV (v := 0) C dX9_isMark_45 mc_i_0 ?_
      subst hF
      exact mj_zret (v := 0) rfl C hr hlk dX9_isMark_46
    · refine mj_iload_n C dX9_isMark_21 rfl ?_
      refine mj_iconstV (v := 0) C dX9_isMark_22 mc_i_0 ?_
      refine mj_sipushV (v := 600) C dX9_isMark_23 mc_s_600 ?_
      refine mj_callSi C (c_X9_within σ p2 0 600) ys_X9_within kl_X9_82 rfl rfl (Nat.le_of_ble_eq_true rfl) (mj_roomC (by decide) (by decide)) ⟨Nat.zero_le _, Nat.zero_le _⟩ dX9_isMark_26 ?_
      refine mj_if_eq C dX9_isMark_29 rfl hF (fun hc3 hF => ?_) (fun hc3 hF => ?_)
      · refine mj_iconstV (v := 0) C dX9_isMark_45 mc_i_0 ?_
        subst hF
        exact mj_zret (v := 0) rfl C hr hlk dX9_isMark_46
      · refine mj_iload_n C dX9_isMark_32 rfl ?_
        refine mj_iconstV (v := 0) C dX9_isMark_33 mc_i_0 ?_
        refine mj_iconstV (v := 4) C dX9_isMark_34 mc_i_4 ?_
        refine mj_callSi C (c_X9_within σ p3 0 4) ys_X9_within kl_X9_82 rfl rfl (Nat.le_of_ble_eq_true rfl) (mj_roomC (by decide) (by decide)) ⟨Nat.zero_le _, Nat.zero_le _⟩ dX9_isMark_35 ?_
        refine mj_if_eq C dX9_isMark_38 rfl hF (fun hc4 hF => ?_) (fun hc4 hF => ?_)
        · refine mj_iconstV (v := 0) C dX9_isMark_45 mc_i_0 ?_
          subst hF
          exact mj_zret (v := 0) rfl C hr hlk dX9_isMark_46
        · refine mj_iconstV (v := 1) C dX9_isMark_41 mc_i_1 ?_
          refine mj_goto C dX9_isMark_42 rfl ?_
          subst hF
          exact mj_zret (v := 1) rfl C hr hlk dX9_isMark_46
set_option maxRecDepth 100000 in
set_option maxHeartbeats 4000000 in
theorem c_X9_line {G : mj_G} {l : Launch} (σ : mj_S) (p1 : Int32) (p2 : Int32) (R : Int32) (hF : f_X9_line σ p1 p2 = some R) : mj_C G l yX9_line cX9_line 3 (some .int) 4 [.ref (G.2.1 0), .int p1, .int p2] σ (some (.int R)) σ := by
  unfold f_X9_line at hF
  refine mj_of (ls := [(0, .ref (G.2.1 0)), (1, .int p1), (2, .int p2)]) (by decide) (Nat.le_of_ble_eq_true rfl) rfl (fun p e s m args below meth c C hr hlk => ?_)
  refine mj_aload_n C dX9_line_0 rfl ?_
  refine mg_X9_28 C dX9_line_1 ?_
  refine mj_iload_n C dX9_line_4 rfl ?_
  refine mj_callVi C (c_X2_has σ p1) yv_X2_has kl_X9_132 (mo_9 G _) rfl rfl rfl rfl (Nat.le_of_ble_eq_true rfl) (mj_roomC (by decide) (by decide)) ⟨Nat.zero_le _, Nat.zero_le _⟩ dX9_line_5 ?_
  refine mj_if_eq C dX9_line_8 rfl hF (fun hc1 hF => ?_) (fun hc1 hF => ?_)
  · refine mj_ldc C dX9_line_18 kc_X9_173 ?_
    have hF := mj_oi hF; subst hF
    exact mj_iret C hr hlk dX9_line_20
  · refine mj_iload_n C dX9_line_11 rfl ?_
    refine mj_callSi C (c_X9_isMonth σ p2) ys_X9_isMonth kl_X9_78 rfl rfl (Nat.le_of_ble_eq_true rfl) (mj_roomC (by decide) (by decide)) ⟨Nat.zero_le _, Nat.zero_le _⟩ dX9_line_12 ?_
    refine mj_if_ne C dX9_line_15 rfl hF (fun hc2 hF => ?_) (fun hc2 hF => ?_)
    · refine mj_aload_n C dX9_line_21 rfl ?_
      refine mg_X9_28 C dX9_line_22 ?_
      refine mj_iload_n C dX9_line_25 rfl ?_
      refine mj_iload_n C dX9_line_26 rfl ?_
      obtain ⟨r3, hq3, hF⟩ := mj_ob hF
      refine mj_callVi C (c_X2_isBorn σ p1 p2 r3 hq3) yv_X2_isBorn kl_X9_247 (mo_9 G _) rfl rfl rfl rfl (Nat.le_of_ble_eq_true rfl) (mj_roomC (by decide) (by decide)) ⟨Nat.zero_le _, Nat.zero_le _⟩ dX9_line_27 ?_
      refine mj_if_eq C dX9_line_30 rfl hF (fun hc4 hF => ?_) (fun hc4 hF => ?_)
      · refine mj_sipushV (v := (-1000)) C dX9_line_45 mc_s_m1000 ?_
        have hF := mj_oi hF; subst hF
        exact mj_iret C hr hlk dX9_line_48
      · refine mj_aload_n C dX9_line_33 rfl ?_
        refine mg_X9_53 C dX9_line_34 ?_
        refine mj_iload_n C dX9_line_37 rfl ?_
        refine mj_iload_n C dX9_line_38 rfl ?_
        obtain ⟨r5, hq5, hF⟩ := mj_ob hF
        refine mj_callVi C (c_X6_lineAt σ p1 p2 r5 hq5) yv_X6_lineAt kl_X9_250 (mo_44 G _) rfl rfl rfl rfl (Nat.le_of_ble_eq_true rfl) (mj_roomC (by decide) (by decide)) ⟨Nat.zero_le _, Nat.zero_le _⟩ dX9_line_39 ?_
        refine mj_goto C dX9_line_42 rfl ?_
        have hF := mj_oi hF; subst hF
        exact mj_iret C hr hlk dX9_line_48
    · refine mj_ldc C dX9_line_18 kc_X9_173 ?_
      have hF := mj_oi hF; subst hF
      exact mj_iret C hr hlk dX9_line_20
set_option maxRecDepth 100000 in
set_option maxHeartbeats 4000000 in
theorem c_X9_falls {G : mj_G} {l : Launch} (σ : mj_S) (p1 : Int32) (R : Int32) (hF : f_X9_falls σ p1 = some R) : mj_C G l yX9_falls cX9_falls 2 (some .int) 5 [.ref (G.2.1 0), .int p1] σ (some (.int R)) σ := by
  unfold f_X9_falls at hF
  refine mj_of (ls := [(0, .ref (G.2.1 0)), (1, .int p1)]) (by decide) (Nat.le_of_ble_eq_true rfl) rfl (fun p e s m args below meth c C hr hlk => ?_)
  refine mj_aload_n C dX9_falls_0 rfl ?_
  refine mg_X9_28 C dX9_falls_1 ?_
  refine mj_iload_n C dX9_falls_4 rfl ?_
  refine mj_callVi C (c_X2_has σ p1) yv_X2_has kl_X9_132 (mo_9 G _) rfl rfl rfl rfl (Nat.le_of_ble_eq_true rfl) (mj_roomC (by decide) (by decide)) ⟨Nat.zero_le _, Nat.zero_le _⟩ dX9_falls_5 ?_
  refine mj_if_eq C dX9_falls_8 rfl hF (fun hc1 hF => ?_) (fun hc1 hF => ?_)
  · refine mj_iconstV (v := (-1)) C dX9_falls_22 mc_i_m1 ?_
    have hF := mj_oi hF; subst hF
    exact mj_iret C hr hlk dX9_falls_23
  · refine mj_aload_n C dX9_falls_11 rfl ?_
    refine mg_X9_53 C dX9_falls_12 ?_
    refine mj_iload_n C dX9_falls_15 rfl ?_
    obtain ⟨r2, hq2, hF⟩ := mj_ob hF
    refine mj_callVi C (c_X6_firstFall σ p1 r2 hq2) yv_X6_firstFall kl_X9_253 (mo_44 G _) rfl rfl rfl rfl (Nat.le_of_ble_eq_true rfl) (mj_roomC (by decide) (by decide)) ⟨Nat.zero_le _, Nat.zero_le _⟩ dX9_falls_16 ?_
    refine mj_goto C dX9_falls_19 rfl ?_
    have hF := mj_oi hF; subst hF
    exact mj_iret C hr hlk dX9_falls_23
set_option maxRecDepth 100000 in
set_option maxHeartbeats 4000000 in
theorem c_X9_overtakes {G : mj_G} {l : Launch} (σ : mj_S) (p1 : Int32) (R : Int32) (hF : f_X9_overtakes σ p1 = some R) : mj_C G l yX9_overtakes cX9_overtakes 2 (some .int) 5 [.ref (G.2.1 0), .int p1] σ (some (.int R)) σ := by
  unfold f_X9_overtakes at hF
  refine mj_of (ls := [(0, .ref (G.2.1 0)), (1, .int p1)]) (by decide) (Nat.le_of_ble_eq_true rfl) rfl (fun p e s m args below meth c C hr hlk => ?_)
  refine mj_iload_n C dX9_overtakes_0 rfl ?_
  refine mj_if_lt C dX9_overtakes_1 rfl hF (fun hc1 hF => ?_) (fun hc1 hF => ?_)
  · refine mj_iconstV (v := (-1)) C dX9_overtakes_43 mc_i_m1 ?_
    have hF := mj_oi hF; subst hF
    exact mj_iret C hr hlk dX9_overtakes_44
  · refine mj_aload_n C dX9_overtakes_4 rfl ?_
    refine mg_X9_28 C dX9_overtakes_5 ?_
    refine mj_iload_n C dX9_overtakes_8 rfl ?_
    refine mj_bipushV (v := 10) C dX9_overtakes_9 mc_b_10 ?_
    refine mj_idiv C dX9_overtakes_11 (by decide) ?_
    refine mj_callVi C (c_X2_has σ (p1 / 10)) yv_X2_has kl_X9_132 (mo_9 G _) rfl rfl rfl rfl (Nat.le_of_ble_eq_true rfl) (mj_roomC (by decide) (by decide)) ⟨Nat.zero_le _, Nat.zero_le _⟩ dX9_overtakes_12 ?_
    refine mj_if_eq C dX9_overtakes_15 rfl hF (fun hc2 hF => ?_) (fun hc2 hF => ?_)
    · refine mj_iconstV (v := (-1)) C dX9_overtakes_43 mc_i_m1 ?_
      have hF := mj_oi hF; subst hF
      exact mj_iret C hr hlk dX9_overtakes_44
    · refine mj_aload_n C dX9_overtakes_18 rfl ?_
      refine mg_X9_28 C dX9_overtakes_19 ?_
      refine mj_iload_n C dX9_overtakes_22 rfl ?_
      refine mj_bipushV (v := 10) C dX9_overtakes_23 mc_b_10 ?_
      refine mj_irem C dX9_overtakes_25 (by decide) ?_
      refine mj_callVi C (c_X2_has σ (mj_rem p1 10)) yv_X2_has kl_X9_132 (mo_9 G _) rfl rfl rfl rfl (Nat.le_of_ble_eq_true rfl) (mj_roomC (by decide) (by decide)) ⟨Nat.zero_le _, Nat.zero_le _⟩ dX9_overtakes_26 ?_
      refine mj_if_eq C dX9_overtakes_29 rfl hF (fun hc3 hF => ?_) (fun hc3 hF => ?_)
      · refine mj_iconstV (v := (-1)) C dX9_overtakes_43 mc_i_m1 ?_
        have hF := mj_oi hF; subst hF
        exact mj_iret C hr hlk dX9_overtakes_44
      · refine mj_iload_n C dX9_overtakes_32 rfl ?_
        refine mj_bipushV (v := 10) C dX9_overtakes_33 mc_b_10 ?_
        refine mj_idiv C dX9_overtakes_35 (by decide) ?_
        refine mj_iload_n C dX9_overtakes_36 rfl ?_
        refine mj_bipushV (v := 10) C dX9_overtakes_37 mc_b_10 ?_
        refine mj_irem C dX9_overtakes_39 (by decide) ?_
        refine mj_ic_ne C dX9_overtakes_40 rfl hF (fun hc4 hF => ?_) (fun hc4 hF => ?_)
        · refine mj_aload_n C dX9_overtakes_45 rfl ?_
          refine mg_X9_53 C dX9_overtakes_46 ?_
          refine mj_iload_n C dX9_overtakes_49 rfl ?_
          refine mj_bipushV (v := 10) C dX9_overtakes_50 mc_b_10 ?_
          refine mj_idiv C dX9_overtakes_52 (by decide) ?_
          refine mj_iload_n C dX9_overtakes_53 rfl ?_
          refine mj_bipushV (v := 10) C dX9_overtakes_54 mc_b_10 ?_
          refine mj_irem C dX9_overtakes_56 (by decide) ?_
          obtain ⟨r5, hq5, hF⟩ := mj_ob hF
          refine mj_callVi C (c_X6_firstOvertaking σ (p1 / 10) (mj_rem p1 10) r5 hq5) yv_X6_firstOvertaking kl_X9_256 (mo_44 G _) rfl rfl rfl rfl (Nat.le_of_ble_eq_true rfl) (mj_roomC (by decide) (by decide)) ⟨Nat.zero_le _, Nat.zero_le _⟩ dX9_overtakes_57 ?_
          have hF := mj_oi hF; subst hF
          exact mj_iret C hr hlk dX9_overtakes_60
        · refine mj_iconstV (v := (-1)) C dX9_overtakes_43 mc_i_m1 ?_
          have hF := mj_oi hF; subst hF
          exact mj_iret C hr hlk dX9_overtakes_44
set_option maxRecDepth 100000 in
set_option maxHeartbeats 4000000 in
theorem c_X9_trace {G : mj_G} {l : Launch} (σ : mj_S) (p1 : Int32) (R : Int32) (hF : f_X9_trace σ p1 = some R) : mj_C G l yX9_trace cX9_trace 2 (some .int) 2 [.ref (G.2.1 0), .int p1] σ (some (.int R)) σ := by
  unfold f_X9_trace at hF
  refine mj_of (ls := [(0, .ref (G.2.1 0)), (1, .int p1)]) (by decide) (Nat.le_of_ble_eq_true rfl) rfl (fun p e s m args below meth c C hr hlk => ?_)
  refine mj_aload_n C dX9_trace_0 rfl ?_
  refine mg_X9_67 C dX9_trace_1 ?_
  refine mj_iload_n C dX9_trace_4 rfl ?_
  obtain ⟨r1, hq1, hF⟩ := mj_ob hF
  refine mj_callVi C (c_X0_ranAt σ p1 r1 hq1) yv_X0_ranAt kl_X9_293 (mo_50 G _) rfl rfl rfl rfl (Nat.le_of_ble_eq_true rfl) (mj_roomC (by decide) (by decide)) ⟨Nat.zero_le _, Nat.zero_le _⟩ dX9_trace_5 ?_
  have hF := mj_oi hF; subst hF
  exact mj_iret C hr hlk dX9_trace_8
set_option maxRecDepth 100000 in
set_option maxHeartbeats 4000000 in
theorem c_X5_has {G : mj_G} {l : Launch} (σ : mj_S) (p1 : Int32) : mj_C G l yX5_has cX5_has 2 (some .boolean) 1 [.ref (G.2.1 35), .int p1] σ (some (.int (f_X5_has σ p1))) σ := by
  generalize hF : f_X5_has σ p1 = R
  unfold f_X5_has at hF
  refine mj_of (ls := [(0, .ref (G.2.1 35)), (1, .int p1)]) (by decide) (Nat.le_of_ble_eq_true rfl) rfl (fun p e s m args below meth c C hr hlk => ?_)
  refine mj_iconstV (v := 0) C dX5_has_0 mc_i_0 ?_
  refine mj_iload_n C dX5_has_1 rfl ?_
  refine mj_ic_gt C dX5_has_2 rfl hF (fun hc1 hF => ?_) (fun hc1 hF => ?_)
  · refine mj_iconstV (v := 0) C dX5_has_17 mc_i_0 ?_
    subst hF
    exact mj_zret (v := 0) rfl C hr hlk dX5_has_18
  · refine mj_iload_n C dX5_has_5 rfl ?_
    refine mj_aload_n C dX5_has_6 rfl ?_
    refine mg_X5_24 C dX5_has_7 ?_
    refine mj_ic_ge C dX5_has_10 rfl hF (fun hc2 hF => ?_) (fun hc2 hF => ?_)
    · refine mj_iconstV (v := 0) C dX5_has_17 mc_i_0 ?_
      subst hF
      exact mj_zret (v := 0) rfl C hr hlk dX5_has_18
    · refine mj_iconstV (v := 1) C dX5_has_13 mc_i_1 ?_
      refine mj_goto C dX5_has_14 rfl ?_
      subst hF
      exact mj_zret (v := 1) rfl C hr hlk dX5_has_18
set_option maxRecDepth 100000 in
set_option maxHeartbeats 4000000 in
theorem c_X5_becomeHeight {G : mj_G} {l : Launch} (σ : mj_S) (p1 : Int32) (p2 : Int32) (R : mj_S) (hF : f_X5_becomeHeight σ p1 p2 = some R) : mj_C G l yX5_becomeHeight cX5_becomeHeight 3 (none) 2 [.ref (G.2.1 35), .int p1, .int p2] σ none R := by
  unfold f_X5_becomeHeight at hF
  refine mj_of (ls := [(0, .ref (G.2.1 35)), (1, .int p1), (2, .int p2)]) (by decide) (Nat.le_of_ble_eq_true rfl) rfl (fun p e s m args below meth c C hr hlk => ?_)
  refine mj_aload_n C dX5_becomeHeight_0 rfl ?_
  refine mj_iload_n C dX5_becomeHeight_1 rfl ?_
  refine mj_callVi C (c_X5_has σ p1) yv_X5_has kl_X5_52 (mo_35 G _) rfl rfl rfl rfl (Nat.le_of_ble_eq_true rfl) (mj_roomC (by decide) (by decide)) ⟨Nat.zero_le _, Nat.zero_le _⟩ dX5_becomeHeight_2 ?_
  refine mj_if_eq C dX5_becomeHeight_5 rfl hF (fun hc1 hF => ?_) (fun hc1 hF => ?_)
  · have hF := mj_oi hF; subst hF
    exact mj_vret C hr hlk dX5_becomeHeight_15
  · refine mj_aload_n C dX5_becomeHeight_8 rfl ?_
    refine mg_X5_9 C dX5_becomeHeight_9 ?_
    refine mj_iload_n C dX5_becomeHeight_12 rfl ?_
    refine mj_iload_n C dX5_becomeHeight_13 rfl ?_
    obtain ⟨hg2, hF⟩ := mj_og hF
    refine mj_iastore C dX5_becomeHeight_14 rfl hg2 ?_
    have hF := mj_oi hF; subst hF
    exact mj_vret C hr hlk dX5_becomeHeight_15
set_option maxRecDepth 100000 in
set_option maxHeartbeats 4000000 in
theorem c_X5_becomeWay {G : mj_G} {l : Launch} (σ : mj_S) (p1 : Int32) (p2 : Int32) (R : mj_S) (hF : f_X5_becomeWay σ p1 p2 = some R) : mj_C G l yX5_becomeWay cX5_becomeWay 3 (none) 2 [.ref (G.2.1 35), .int p1, .int p2] σ none R := by
  unfold f_X5_becomeWay at hF
  refine mj_of (ls := [(0, .ref (G.2.1 35)), (1, .int p1), (2, .int p2)]) (by decide) (Nat.le_of_ble_eq_true rfl) rfl (fun p e s m args below meth c C hr hlk => ?_)
  refine mj_aload_n C dX5_becomeWay_0 rfl ?_
  refine mj_iload_n C dX5_becomeWay_1 rfl ?_
  refine mj_callVi C (c_X5_has σ p1) yv_X5_has kl_X5_52 (mo_35 G _) rfl rfl rfl rfl (Nat.le_of_ble_eq_true rfl) (mj_roomC (by decide) (by decide)) ⟨Nat.zero_le _, Nat.zero_le _⟩ dX5_becomeWay_2 ?_
  refine mj_if_eq C dX5_becomeWay_5 rfl hF (fun hc1 hF => ?_) (fun hc1 hF => ?_)
  · have hF := mj_oi hF; subst hF
    exact mj_vret C hr hlk dX5_becomeWay_15
  · refine mj_aload_n C dX5_becomeWay_8 rfl ?_
    refine mg_X5_21 C dX5_becomeWay_9 ?_
    refine mj_iload_n C dX5_becomeWay_12 rfl ?_
    refine mj_iload_n C dX5_becomeWay_13 rfl ?_
    obtain ⟨hg2, hF⟩ := mj_og hF
    refine mj_iastore C dX5_becomeWay_14 rfl hg2 ?_
    have hF := mj_oi hF; subst hF
    exact mj_vret C hr hlk dX5_becomeWay_15
set_option maxRecDepth 100000 in
set_option maxHeartbeats 4000000 in
theorem c_X5_heightOf {G : mj_G} {l : Launch} (σ : mj_S) (p1 : Int32) (R : Int32) (hF : f_X5_heightOf σ p1 = some R) : mj_C G l yX5_heightOf cX5_heightOf 2 (some .int) 2 [.ref (G.2.1 35), .int p1] σ (some (.int R)) σ := by
  unfold f_X5_heightOf at hF
  refine mj_of (ls := [(0, .ref (G.2.1 35)), (1, .int p1)]) (by decide) (Nat.le_of_ble_eq_true rfl) rfl (fun p e s m args below meth c C hr hlk => ?_)
  refine mj_aload_n C dX5_heightOf_0 rfl ?_
  refine mj_iload_n C dX5_heightOf_1 rfl ?_
  refine mj_callVi C (c_X5_has σ p1) yv_X5_has kl_X5_52 (mo_35 G _) rfl rfl rfl rfl (Nat.le_of_ble_eq_true rfl) (mj_roomC (by decide) (by decide)) ⟨Nat.zero_le _, Nat.zero_le _⟩ dX5_heightOf_2 ?_
  refine mj_if_eq C dX5_heightOf_5 rfl hF (fun hc1 hF => ?_) (fun hc1 hF => ?_)
  · refine mj_iconstV (v := 0) C dX5_heightOf_17 mc_i_0 ?_
    have hF := mj_oi hF; subst hF
    exact mj_iret C hr hlk dX5_heightOf_18
  · refine mj_aload_n C dX5_heightOf_8 rfl ?_
    refine mg_X5_9 C dX5_heightOf_9 ?_
    refine mj_iload_n C dX5_heightOf_12 rfl ?_
    obtain ⟨hg2, hF⟩ := mj_og hF
    refine mj_iaload C dX5_heightOf_13 rfl hg2 ?_
    refine mj_goto C dX5_heightOf_14 rfl ?_
    have hF := mj_oi hF; subst hF
    exact mj_iret C hr hlk dX5_heightOf_18
set_option maxRecDepth 100000 in
set_option maxHeartbeats 4000000 in
theorem c_X5_wayOf {G : mj_G} {l : Launch} (σ : mj_S) (p1 : Int32) (R : Int32) (hF : f_X5_wayOf σ p1 = some R) : mj_C G l yX5_wayOf cX5_wayOf 2 (some .int) 2 [.ref (G.2.1 35), .int p1] σ (some (.int R)) σ := by
  unfold f_X5_wayOf at hF
  refine mj_of (ls := [(0, .ref (G.2.1 35)), (1, .int p1)]) (by decide) (Nat.le_of_ble_eq_true rfl) rfl (fun p e s m args below meth c C hr hlk => ?_)
  refine mj_aload_n C dX5_wayOf_0 rfl ?_
  refine mj_iload_n C dX5_wayOf_1 rfl ?_
  refine mj_callVi C (c_X5_has σ p1) yv_X5_has kl_X5_52 (mo_35 G _) rfl rfl rfl rfl (Nat.le_of_ble_eq_true rfl) (mj_roomC (by decide) (by decide)) ⟨Nat.zero_le _, Nat.zero_le _⟩ dX5_wayOf_2 ?_
  refine mj_if_eq C dX5_wayOf_5 rfl hF (fun hc1 hF => ?_) (fun hc1 hF => ?_)
  · refine mj_iconstV (v := 0) C dX5_wayOf_17 mc_i_0 ?_
    have hF := mj_oi hF; subst hF
    exact mj_iret C hr hlk dX5_wayOf_18
  · refine mj_aload_n C dX5_wayOf_8 rfl ?_
    refine mg_X5_21 C dX5_wayOf_9 ?_
    refine mj_iload_n C dX5_wayOf_12 rfl ?_
    obtain ⟨hg2, hF⟩ := mj_og hF
    refine mj_iaload C dX5_wayOf_13 rfl hg2 ?_
    refine mj_goto C dX5_wayOf_14 rfl ?_
    have hF := mj_oi hF; subst hF
    exact mj_iret C hr hlk dX5_wayOf_18
set_option maxRecDepth 100000 in
set_option maxHeartbeats 4000000 in
theorem c_X5_monthOf {G : mj_G} {l : Launch} (σ : mj_S) (p1 : Int32) (R : Int32) (hF : f_X5_monthOf σ p1 = some R) : mj_C G l yX5_monthOf cX5_monthOf 2 (some .int) 2 [.ref (G.2.1 35), .int p1] σ (some (.int R)) σ := by
  unfold f_X5_monthOf at hF
  refine mj_of (ls := [(0, .ref (G.2.1 35)), (1, .int p1)]) (by decide) (Nat.le_of_ble_eq_true rfl) rfl (fun p e s m args below meth c C hr hlk => ?_)
  refine mj_aload_n C dX5_monthOf_0 rfl ?_
  refine mj_iload_n C dX5_monthOf_1 rfl ?_
  refine mj_callVi C (c_X5_has σ p1) yv_X5_has kl_X5_52 (mo_35 G _) rfl rfl rfl rfl (Nat.le_of_ble_eq_true rfl) (mj_roomC (by decide) (by decide)) ⟨Nat.zero_le _, Nat.zero_le _⟩ dX5_monthOf_2 ?_
  refine mj_if_eq C dX5_monthOf_5 rfl hF (fun hc1 hF => ?_) (fun hc1 hF => ?_)
  · refine mj_sipushV (v := 600) C dX5_monthOf_17 mc_s_600 ?_
    have hF := mj_oi hF; subst hF
    exact mj_iret C hr hlk dX5_monthOf_20
  · refine mj_aload_n C dX5_monthOf_8 rfl ?_
    refine mg_X5_18 C dX5_monthOf_9 ?_
    refine mj_iload_n C dX5_monthOf_12 rfl ?_
    obtain ⟨hg2, hF⟩ := mj_og hF
    refine mj_iaload C dX5_monthOf_13 rfl hg2 ?_
    refine mj_goto C dX5_monthOf_14 rfl ?_
    have hF := mj_oi hF; subst hF
    exact mj_iret C hr hlk dX5_monthOf_20
set_option maxRecDepth 100000 in
set_option maxHeartbeats 4000000 in
theorem c_X5_nameOf {G : mj_G} {l : Launch} (σ : mj_S) (p1 : Int32) (R : Int32) (hF : f_X5_nameOf σ p1 = some R) : mj_C G l yX5_nameOf cX5_nameOf 2 (some .int) 2 [.ref (G.2.1 35), .int p1] σ (some (.int R)) σ := by
  unfold f_X5_nameOf at hF
  refine mj_of (ls := [(0, .ref (G.2.1 35)), (1, .int p1)]) (by decide) (Nat.le_of_ble_eq_true rfl) rfl (fun p e s m args below meth c C hr hlk => ?_)
  refine mj_aload_n C dX5_nameOf_0 rfl ?_
  refine mj_iload_n C dX5_nameOf_1 rfl ?_
  refine mj_callVi C (c_X5_has σ p1) yv_X5_has kl_X5_52 (mo_35 G _) rfl rfl rfl rfl (Nat.le_of_ble_eq_true rfl) (mj_roomC (by decide) (by decide)) ⟨Nat.zero_le _, Nat.zero_le _⟩ dX5_nameOf_2 ?_
  refine mj_if_eq C dX5_nameOf_5 rfl hF (fun hc1 hF => ?_) (fun hc1 hF => ?_)
  · refine mj_bipushV (v := 6) C dX5_nameOf_17 mc_b_6 ?_
    have hF := mj_oi hF; subst hF
    exact mj_iret C hr hlk dX5_nameOf_19
  · refine mj_aload_n C dX5_nameOf_8 rfl ?_
    refine mg_X5_15 C dX5_nameOf_9 ?_
    refine mj_iload_n C dX5_nameOf_12 rfl ?_
    obtain ⟨hg2, hF⟩ := mj_og hF
    refine mj_iaload C dX5_nameOf_13 rfl hg2 ?_
    refine mj_goto C dX5_nameOf_14 rfl ?_
    have hF := mj_oi hF; subst hF
    exact mj_iret C hr hlk dX5_nameOf_19
set_option maxRecDepth 100000 in
set_option maxHeartbeats 4000000 in
theorem c_X5_size {G : mj_G} {l : Launch} (σ : mj_S) : mj_C G l yX5_size cX5_size 1 (some .int) 1 [.ref (G.2.1 35)] σ (some (.int (f_X5_size σ))) σ := by
  generalize hF : f_X5_size σ = R
  unfold f_X5_size at hF
  refine mj_of (ls := [(0, .ref (G.2.1 35))]) (by decide) (Nat.le_of_ble_eq_true rfl) rfl (fun p e s m args below meth c C hr hlk => ?_)
  refine mj_aload_n C dX5_size_0 rfl ?_
  refine mg_X5_24 C dX5_size_1 ?_
  subst hF
  exact mj_iret C hr hlk dX5_size_4
set_option maxRecDepth 100000 in
set_option maxHeartbeats 4000000 in
theorem c_X5_add {G : mj_G} {l : Launch} (σ : mj_S) (p1 : Int32) (p2 : Int32) (p3 : Int32) (p4 : Int32) (R : (Int32 × mj_S)) (hF : f_X5_add σ p1 p2 p3 p4 = some R) : mj_C G l yX5_add cX5_add 5 (some .int) 1 [.ref (G.2.1 35), .int p1, .int p2, .int p3, .int p4] σ (some (.int R.1)) R.2 := by
  unfold f_X5_add at hF
  refine mj_of (ls := [(0, .ref (G.2.1 35)), (1, .int p1), (2, .int p2), (3, .int p3), (4, .int p4)]) (by decide) (Nat.le_of_ble_eq_true rfl) rfl (fun p e s m args below meth c C hr hlk => ?_)
  refine mj_aload_n C dX5_add_0 rfl ?_
  refine mg_X5_24 C dX5_add_1 ?_
  refine mj_bipushV (v := 30) C dX5_add_4 mc_b_30 ?_
  refine mj_ic_lt C dX5_add_6 rfl hF (fun hc1 hF => ?_) (fun hc1 hF => ?_)
  · refine mj_aload_n C dX5_add_12 rfl ?_
    refine mg_X5_9 C dX5_add_13 ?_
    refine mj_aload_n C dX5_add_16 rfl ?_
    refine mg_X5_24 C dX5_add_17 ?_
    refine mj_iload_n C dX5_add_20 rfl ?_
    obtain ⟨hg2, hF⟩ := mj_og hF
    refine mj_iastore C dX5_add_21 rfl hg2 ?_
    refine mj_aload_n C dX5_add_22 rfl ?_
    refine mg_X5_15 C dX5_add_23 ?_
    refine mj_aload_n C dX5_add_26 rfl ?_
    refine mg_X5_24 C dX5_add_27 ?_
    refine mj_iload_n C dX5_add_30 rfl ?_
    obtain ⟨hg3, hF⟩ := mj_og hF
    refine mj_iastore C dX5_add_31 rfl hg3 ?_
    refine mj_aload_n C dX5_add_32 rfl ?_
    refine mg_X5_18 C dX5_add_33 ?_
    refine mj_aload_n C dX5_add_36 rfl ?_
    refine mg_X5_24 C dX5_add_37 ?_
    refine mj_iload_n C dX5_add_40 rfl ?_
    obtain ⟨hg4, hF⟩ := mj_og hF
    refine mj_iastore C dX5_add_41 rfl hg4 ?_
    refine mj_aload_n C dX5_add_42 rfl ?_
    refine mg_X5_21 C dX5_add_43 ?_
    refine mj_aload_n C dX5_add_46 rfl ?_
    refine mg_X5_24 C dX5_add_47 ?_
    refine mj_iload C dX5_add_50 rfl ?_
    obtain ⟨hg5, hF⟩ := mj_og hF
    refine mj_iastore C dX5_add_52 rfl hg5 ?_
    refine mj_aload_n C dX5_add_53 rfl ?_
    refine mj_dup C dX5_add_54 rfl ?_
    refine mg_X5_24 C dX5_add_55 ?_
    refine mj_iconstV (v := 1) C dX5_add_58 mc_i_1 ?_
    refine mj_iadd C dX5_add_59 ?_
    refine mp_X5_24 C dX5_add_60 ?_
    refine mj_aload_n C dX5_add_63 rfl ?_
    refine mg_X5_24 C dX5_add_64 ?_
    refine mj_iconstV (v := 1) C dX5_add_67 mc_i_1 ?_
    refine mj_isub C dX5_add_68 ?_
    have hF := mj_oi hF; subst hF
    exact mj_iret C hr hlk dX5_add_69
  · refine mj_bipushV (v := (-3)) C dX5_add_9 mc_b_m3 ?_
    have hF := mj_oi hF; subst hF
    exact mj_iret C hr hlk dX5_add_11
set_option maxRecDepth 100000 in
set_option maxHeartbeats 4000000 in
theorem c_X5_isCovered {G : mj_G} {l : Launch} (σ : mj_S) (p1 : Int32) (R : Int32) (hF : f_X5_isCovered σ p1 = some R) : mj_C G l yX5_isCovered cX5_isCovered 3 (some .boolean) 3 [.ref (G.2.1 35), .int p1] σ (some (.int R)) σ := by
  unfold f_X5_isCovered at hF
  refine mj_of (ls := [(0, .ref (G.2.1 35)), (1, .int p1)]) (by decide) (Nat.le_of_ble_eq_true rfl) rfl (fun p e s m args below meth c C hr hlk => ?_)
  refine mj_aload_n C dX5_isCovered_0 rfl ?_
  refine mj_iload_n C dX5_isCovered_1 rfl ?_
  obtain ⟨r1, hq1, hF⟩ := mj_ob hF
  refine mj_callVi C (c_X5_monthOf σ p1 r1 hq1) yv_X5_monthOf kl_X5_41 (mo_35 G _) rfl rfl rfl rfl (Nat.le_of_ble_eq_true rfl) (mj_roomC (by decide) (by decide)) ⟨Nat.zero_le _, Nat.zero_le _⟩ dX5_isCovered_2 ?_
  refine mj_istore_n C dX5_isCovered_5 (by decide) ?_
  refine mj_iload_n C dX5_isCovered_6 rfl ?_
  refine mj_sipushV (v := 600) C dX5_isCovered_7 mc_s_600 ?_
  refine mj_ic_ne C dX5_isCovered_10 rfl hF (fun hc2 hF => ?_) (fun hc2 hF => ?_)
  · refine mj_iload_n C dX5_isCovered_29 rfl ?_
    refine mj_aload_n C dX5_isCovered_30 rfl ?_
    refine mg_X5_28 C dX5_isCovered_31 ?_
    refine mj_ic_gt C dX5_isCovered_34 rfl hF (fun hc3 hF => ?_) (fun hc3 hF => ?_)
    · refine mj_iconstV (v := 0) C dX5_isCovered_41 mc_i_0 ?_
      have hF := mj_oi hF; subst hF
      exact mj_zret (v := 0) rfl C hr hlk dX5_isCovered_42
    · refine mj_iconstV (v := 1) C dX5_isCovered_37 mc_i_1 ?_
      refine mj_goto C dX5_isCovered_38 rfl ?_
      have hF := mj_oi hF; subst hF
      exact mj_zret (v := 1) rfl C hr hlk dX5_isCovered_42
  · refine mj_iload_n C dX5_isCovered_13 rfl ?_
    refine mj_aload_n C dX5_isCovered_14 rfl ?_
    refine mg_X5_31 C dX5_isCovered_15 ?_
    refine mj_ic_ge C dX5_isCovered_18 rfl hF (fun hc4 hF => ?_) (fun hc4 hF => ?_)
    · refine mj_iconstV (v := 0) C dX5_isCovered_25 mc_i_0 ?_
      refine mj_goto C dX5_isCovered_26 rfl ?_
      have hF := mj_oi hF; subst hF
      exact mj_zret (v := 0) rfl C hr hlk dX5_isCovered_42
    · refine mj_iconstV (v := 1) C dX5_isCovered_21 mc_i_1 ?_
      refine mj_goto C dX5_isCovered_22 rfl ?_
      have hF := mj_oi hF; subst hF
      exact mj_zret (v := 1) rfl C hr hlk dX5_isCovered_42
set_option maxRecDepth 100000 in
set_option maxHeartbeats 4000000 in
theorem c_X5_told {G : mj_G} {l : Launch} (σ : mj_S) (p1 : Int32) (p2 : Int32) (R : Int32) (hF : f_X5_told σ p1 p2 = some R) : mj_C G l yX5_told cX5_told 3 (some .int) 4 [.ref (G.2.1 35), .int p1, .int p2] σ (some (.int R)) σ := by
  unfold f_X5_told at hF
  refine mj_of (ls := [(0, .ref (G.2.1 35)), (1, .int p1), (2, .int p2)]) (by decide) (Nat.le_of_ble_eq_true rfl) rfl (fun p e s m args below meth c C hr hlk => ?_)
  refine mj_iload_n C dX5_told_0 rfl ?_
  by_cases hw1_0 : p2 = 0
  · rw [if_pos hw1_0] at hF
    refine mj_tsIn (off := 35) C dX5_told_1 (by rw [hw1_0]; decide) (by rw [hw1_0]; decide) (by rw [hw1_0]; rfl) rfl ?_
    refine mj_aload_n C dX5_told_36 rfl ?_
    refine mj_iload_n C dX5_told_37 rfl ?_
    obtain ⟨r2, hq2, hF⟩ := mj_ob hF
    refine mj_callVi C (c_X5_heightOf σ p1 r2 hq2) yv_X5_heightOf kl_X5_34 (mo_35 G _) rfl rfl rfl rfl (Nat.le_of_ble_eq_true rfl) (mj_roomC (by decide) (by decide)) ⟨Nat.zero_le _, Nat.zero_le _⟩ dX5_told_38 ?_
    have hF := mj_oi hF; subst hF
    exact mj_iret C hr hlk dX5_told_41
  rw [if_neg hw1_0] at hF
  by_cases hw1_1 : p2 = 1
  · rw [if_pos hw1_1] at hF
    refine mj_tsIn (off := 41) C dX5_told_1 (by rw [hw1_1]; decide) (by rw [hw1_1]; decide) (by rw [hw1_1]; rfl) rfl ?_
    refine mj_aload_n C dX5_told_42 rfl ?_
    refine mj_iload_n C dX5_told_43 rfl ?_
    obtain ⟨r3, hq3, hF⟩ := mj_ob hF
    refine mj_callVi C (c_X5_nameOf σ p1 r3 hq3) yv_X5_nameOf kl_X5_38 (mo_35 G _) rfl rfl rfl rfl (Nat.le_of_ble_eq_true rfl) (mj_roomC (by decide) (by decide)) ⟨Nat.zero_le _, Nat.zero_le _⟩ dX5_told_44 ?_
    have hF := mj_oi hF; subst hF
    exact mj_iret C hr hlk dX5_told_47
  rw [if_neg hw1_1] at hF
  by_cases hw1_2 : p2 = 2
  · rw [if_pos hw1_2] at hF
    refine mj_tsIn (off := 47) C dX5_told_1 (by rw [hw1_2]; decide) (by rw [hw1_2]; decide) (by rw [hw1_2]; rfl) rfl ?_
    refine mj_aload_n C dX5_told_48 rfl ?_
    refine mj_iload_n C dX5_told_49 rfl ?_
    obtain ⟨r4, hq4, hF⟩ := mj_ob hF
    refine mj_callVi C (c_X5_monthOf σ p1 r4 hq4) yv_X5_monthOf kl_X5_41 (mo_35 G _) rfl rfl rfl rfl (Nat.le_of_ble_eq_true rfl) (mj_roomC (by decide) (by decide)) ⟨Nat.zero_le _, Nat.zero_le _⟩ dX5_told_50 ?_
    have hF := mj_oi hF; subst hF
    exact mj_iret C hr hlk dX5_told_53
  rw [if_neg hw1_2] at hF
  by_cases hw1_3 : p2 = 3
  · rw [if_pos hw1_3] at hF
    refine mj_tsIn (off := 53) C dX5_told_1 (by rw [hw1_3]; decide) (by rw [hw1_3]; decide) (by rw [hw1_3]; rfl) rfl ?_
    refine mj_aload_n C dX5_told_54 rfl ?_
    refine mj_iload_n C dX5_told_55 rfl ?_
    obtain ⟨r5, hq5, hF⟩ := mj_ob hF
    refine mj_callVi C (c_X5_wayOf σ p1 r5 hq5) yv_X5_wayOf kl_X5_44 (mo_35 G _) rfl rfl rfl rfl (Nat.le_of_ble_eq_true rfl) (mj_roomC (by decide) (by decide)) ⟨Nat.zero_le _, Nat.zero_le _⟩ dX5_told_56 ?_
    have hF := mj_oi hF; subst hF
    exact mj_iret C hr hlk dX5_told_59
  rw [if_neg hw1_3] at hF
  by_cases hw1_4 : p2 = 4
  · rw [if_pos hw1_4] at hF
    refine mj_tsIn (off := 59) C dX5_told_1 (by rw [hw1_4]; decide) (by rw [hw1_4]; decide) (by rw [hw1_4]; rfl) rfl ?_
    refine mj_aload_n C dX5_told_60 rfl ?_
    refine mj_iload_n C dX5_told_61 rfl ?_
    obtain ⟨r6, hq6, hF⟩ := mj_ob hF
    refine mj_callVi C (c_X5_isCovered σ p1 r6 hq6) yv_X5_isCovered kl_X5_47 (mo_35 G _) rfl rfl rfl rfl (Nat.le_of_ble_eq_true rfl) (mj_roomC (by decide) (by decide)) ⟨Nat.zero_le _, Nat.zero_le _⟩ dX5_told_62 ?_
    refine mj_if_eq C dX5_told_65 rfl hF (fun hc7 hF => ?_) (fun hc7 hF => ?_)
    · refine mj_iconstV (v := 0) C dX5_told_72 mc_i_0 ?_
      have hF := mj_oi hF; subst hF
      exact mj_iret C hr hlk dX5_told_73
    · refine mj_iconstV (v := 1) C dX5_told_68 mc_i_1 ?_
      refine mj_goto C dX5_told_69 rfl ?_
      have hF := mj_oi hF; subst hF
      exact mj_iret C hr hlk dX5_told_73
  rw [if_neg hw1_4] at hF
  refine mj_tsOut C dX5_told_1 (mj_sw_0_5 hw1_0 hw1_1 hw1_2 hw1_3 hw1_4) rfl ?_
  refine mj_ldc C dX5_told_74 kc_X5_51 ?_
  have hF := mj_oi hF; subst hF
  exact mj_iret C hr hlk dX5_told_76
set_option maxRecDepth 100000 in
set_option maxHeartbeats 4000000 in
theorem c_X5_cover {G : mj_G} {l : Launch} (σ : mj_S) (p1 : Int32) : mj_C G l yX5_cover cX5_cover 2 (none) 1 [.ref (G.2.1 35), .int p1] σ none (f_X5_cover σ p1) := by
  generalize hF : f_X5_cover σ p1 = R
  unfold f_X5_cover at hF
  refine mj_of (ls := [(0, .ref (G.2.1 35)), (1, .int p1)]) (by decide) (Nat.le_of_ble_eq_true rfl) rfl (fun p e s m args below meth c C hr hlk => ?_)
  refine mj_aload_n C dX5_cover_0 rfl ?_
  refine mj_aload_n C dX5_cover_1 rfl ?_
  refine mg_X5_28 C dX5_cover_2 ?_
  refine mj_iload_n C dX5_cover_5 rfl ?_
  refine mj_mmax C kl_X5_55 (mj_room13 (by decide) (Nat.le_of_ble_eq_true rfl)) ⟨Nat.zero_le _, Nat.zero_le _⟩ dX5_cover_6 ?_
  refine mp_X5_28 C dX5_cover_9 ?_
  refine mj_aload_n C dX5_cover_12 rfl ?_
  refine mj_aload_n C dX5_cover_13 rfl ?_
  refine mg_X5_24 C dX5_cover_14 ?_
  refine mp_X5_31 C dX5_cover_17 ?_
  subst hF
  exact mj_vret C hr hlk dX5_cover_20
set_option maxRecDepth 100000 in
set_option maxHeartbeats 4000000 in
theorem w_X5_covered_4 {p : Program} {l : Launch} {e : Env} {s : State} {m : MethodId} {args : Array Value} {below : List Frame} {meth : Method} {c : Code} {G : mj_G} {σ : mj_S} (C : mj_X p s m args meth c G cX5_covered 3 RX5) (hr : meth.sig.returnType = some .int) (hlk : meth.locks = false) : ∀ (n : Nat) (v1 : Int32) (v2 : Int32) (R : Int32), b_X5_covered_4 σ n v1 v2 = some R → mj_W p l e (mj_rm 4) s m args below meth c G 0 0 3 (MQ below (mj_Q G (some (.int R)) σ) args s 0 0 G.2.2.2) 4 [(0, .ref (G.2.1 35)), (1, .int v1), (2, .int v2)] [] σ := by
  intro n
  induction n with
  | zero =>
    intro v1 v2 R hF
    cases hF
  | succ n ih =>
    intro v1 v2 R hF
    rw [b_X5_covered_4] at hF
    refine mj_iload_n C dX5_covered_4 rfl ?_
    refine mj_aload_n C dX5_covered_5 rfl ?_
    refine mg_X5_24 C dX5_covered_6 ?_
    refine mj_ic_ge C dX5_covered_9 rfl hF (fun hc1 hF => ?_) (fun hc1 hF => ?_)
    · refine mj_iload_n C dX5_covered_29 rfl ?_
      have hF := mj_oi hF; subst hF
      exact mj_iret C hr hlk dX5_covered_30
    · refine mj_aload_n C dX5_covered_12 rfl ?_
      refine mj_iload_n C dX5_covered_13 rfl ?_
      obtain ⟨r2, hq2, hF⟩ := mj_ob hF
      refine mj_callVi C (c_X5_isCovered σ v2 r2 hq2) yv_X5_isCovered kl_X5_47 (mo_35 G _) rfl rfl rfl rfl (Nat.le_of_ble_eq_true rfl) (mj_roomC (by decide) (by decide)) ⟨Nat.zero_le _, Nat.zero_le _⟩ dX5_covered_14 ?_
      refine mj_if_eq C dX5_covered_17 rfl hF (fun hc3 hF => ?_) (fun hc3 hF => ?_)
      · refine mj_iinc (v := v2 + 1) C dX5_covered_23 rfl rfl (by decide) ?_
        refine mj_goto C dX5_covered_26 rfl ?_
        refine mj_to ?_ (ih v1 (v2 + 1) R hF)
        exact ⟨rfl, rfl, rfl, trivial⟩
      · refine mj_iinc (v := v1 + 1) C dX5_covered_20 rfl rfl (by decide) ?_
        refine mj_iinc (v := v2 + 1) C dX5_covered_23 rfl rfl (by decide) ?_
        refine mj_goto C dX5_covered_26 rfl ?_
        refine mj_to ?_ (ih (v1 + 1) (v2 + 1) R hF)
        exact ⟨rfl, rfl, rfl, trivial⟩
set_option maxRecDepth 100000 in
set_option maxHeartbeats 4000000 in
theorem c_X5_covered {G : mj_G} {l : Launch} (σ : mj_S) (R : Int32) (hF : f_X5_covered σ = some R) : mj_C G l yX5_covered cX5_covered 3 (some .int) 4 [.ref (G.2.1 35)] σ (some (.int R)) σ := by
  unfold f_X5_covered at hF
  refine mj_of (ls := [(0, .ref (G.2.1 35))]) (by decide) (Nat.le_of_ble_eq_true rfl) rfl (fun p e s m args below meth c C hr hlk => ?_)
  refine mj_iconstV (v := 0) C dX5_covered_0 mc_i_0 ?_
  refine mj_istore_n C dX5_covered_1 (by decide) ?_
  refine mj_iconstV (v := 0) C dX5_covered_2 mc_i_0 ?_
  refine mj_istore_n C dX5_covered_3 (by decide) ?_
  refine mj_to ?_ (w_X5_covered_4 C hr hlk mj_fu 0 0 R hF)
  exact ⟨rfl, rfl, rfl, trivial⟩
set_option maxRecDepth 100000 in
set_option maxHeartbeats 4000000 in
theorem c_X5_isToldOf {G : mj_G} {l : Launch} (σ : mj_S) (p1 : Int32) (p2 : Int32) (R : Int32) (hF : f_X5_isToldOf σ p1 p2 = some R) : mj_C G l yX5_isToldOf cX5_isToldOf 3 (some .boolean) 3 [.ref (G.2.1 35), .int p1, .int p2] σ (some (.int R)) σ := by
  unfold f_X5_isToldOf at hF
  refine mj_of (ls := [(0, .ref (G.2.1 35)), (1, .int p1), (2, .int p2)]) (by decide) (Nat.le_of_ble_eq_true rfl) rfl (fun p e s m args below meth c C hr hlk => ?_)
  refine mj_aload_n C dX5_isToldOf_0 rfl ?_
  refine mj_iload_n C dX5_isToldOf_1 rfl ?_
  obtain ⟨r1, hq1, hF⟩ := mj_ob hF
  refine mj_callVi C (c_X5_nameOf σ p1 r1 hq1) yv_X5_nameOf kl_X5_38 (mo_35 G _) rfl rfl rfl rfl (Nat.le_of_ble_eq_true rfl) (mj_roomC (by decide) (by decide)) ⟨Nat.zero_le _, Nat.zero_le _⟩ dX5_isToldOf_2 ?_
  refine mj_iload_n C dX5_isToldOf_5 rfl ?_
  refine mj_ic_ne C dX5_isToldOf_6 rfl hF (fun hc2 hF => ?_) (fun hc2 hF => ?_)
  · refine mj_iconstV (v := 0) C dX5_isToldOf_24 mc_i_0 ?_
    have hF := mj_oi hF; subst hF
    exact mj_zret (v := 0) rfl C hr hlk dX5_isToldOf_25
  · refine mj_aload_n C dX5_isToldOf_9 rfl ?_
    refine mj_iload_n C dX5_isToldOf_10 rfl ?_
    obtain ⟨r3, hq3, hF⟩ := mj_ob hF
    refine mj_callVi C (c_X5_monthOf σ p1 r3 hq3) yv_X5_monthOf kl_X5_41 (mo_35 G _) rfl rfl rfl rfl (Nat.le_of_ble_eq_true rfl) (mj_roomC (by decide) (by decide)) ⟨Nat.zero_le _, Nat.zero_le _⟩ dX5_isToldOf_11 ?_
    refine mj_sipushV (v := 600) C dX5_isToldOf_14 mc_s_600 ?_
    refine mj_ic_eq C dX5_isToldOf_17 rfl hF (fun hc4 hF => ?_) (fun hc4 hF => ?_)
    · refine mj_iconstV (v := 0) C dX5_isToldOf_24 mc_i_0 ?_
      have hF := mj_oi hF; subst hF
      exact mj_zret (v := 0) rfl C hr hlk dX5_isToldOf_25
    · refine mj_iconstV (v := 1) C dX5_isToldOf_20 mc_i_1 ?_
      refine mj_goto C dX5_isToldOf_21 rfl ?_
      have hF := mj_oi hF; subst hF
      exact mj_zret (v := 1) rfl C hr hlk dX5_isToldOf_25
set_option maxRecDepth 100000 in
set_option maxHeartbeats 4000000 in
theorem w_X5_isTurned_13 {p : Program} {l : Launch} {e : Env} {s : State} {m : MethodId} {args : Array Value} {below : List Frame} {meth : Method} {c : Code} {G : mj_G} {σ : mj_S} (C : mj_X p s m args meth c G cX5_isTurned 4 RX5) (hr : meth.sig.returnType = some .boolean) (hlk : meth.locks = false) : ∀ (n : Nat) (v1 : Int32) (v2 : Int32) (v3 : Int32) (R : Int32), b_X5_isTurned_13 σ n v1 v2 v3 = some R → mj_W p l e (mj_rm 4) s m args below meth c G 0 0 4 (MQ below (mj_Q G (some (.int R)) σ) args s 0 0 G.2.2.2) 13 [(0, .ref (G.2.1 35)), (1, .int v1), (2, .int v2), (3, .int v3)] [] σ := by
  intro n
  induction n with
  | zero =>
    intro v1 v2 v3 R hF
    cases hF
  | succ n ih =>
    intro v1 v2 v3 R hF
    rw [b_X5_isTurned_13] at hF
    refine mj_iload_n C dX5_isTurned_13 rfl ?_
    refine mj_aload_n C dX5_isTurned_14 rfl ?_
    refine mg_X5_24 C dX5_isTurned_15 ?_
    refine mj_ic_ge C dX5_isTurned_18 rfl hF (fun hc3 hF => ?_) (fun hc3 hF => ?_)
    · refine mj_iconstV (v := 0) C dX5_isTurned_64 mc_i_0 ?_
      have hF := mj_oi hF; subst hF
      exact mj_zret (v := 0) rfl C hr hlk dX5_isTurned_65
    · refine mj_aload_n C dX5_isTurned_21 rfl ?_
      refine mj_iload_n C dX5_isTurned_22 rfl ?_
      refine mj_iload_n C dX5_isTurned_23 rfl ?_
      obtain ⟨r4, hq4, hF⟩ := mj_ob hF
      refine mj_callVi C (c_X5_isToldOf σ v3 v2 r4 hq4) yv_X5_isToldOf kl_X5_65 (mo_35 G _) rfl rfl rfl rfl (Nat.le_of_ble_eq_true rfl) (mj_roomC (by decide) (by decide)) ⟨Nat.zero_le _, Nat.zero_le _⟩ dX5_isTurned_24 ?_
      refine mj_if_eq C dX5_isTurned_27 rfl hF (fun hc5 hF => ?_) (fun hc5 hF => ?_)
      · refine mj_iinc (v := v3 + 1) C dX5_isTurned_58 rfl rfl (by decide) ?_
        refine mj_goto C dX5_isTurned_61 rfl ?_
        refine mj_to ?_ (ih v1 v2 (v3 + 1) R hF)
        exact ⟨rfl, rfl, rfl, rfl, trivial⟩
      · refine mj_aload_n C dX5_isTurned_30 rfl ?_
        refine mj_iload_n C dX5_isTurned_31 rfl ?_
        obtain ⟨r6, hq6, hF⟩ := mj_ob hF
        refine mj_callVi C (c_X5_monthOf σ v3 r6 hq6) yv_X5_monthOf kl_X5_41 (mo_35 G _) rfl rfl rfl rfl (Nat.le_of_ble_eq_true rfl) (mj_roomC (by decide) (by decide)) ⟨Nat.zero_le _, Nat.zero_le _⟩ dX5_isTurned_32 ?_
        refine mj_aload_n C dX5_isTurned_35 rfl ?_
        refine mj_iload_n C dX5_isTurned_36 rfl ?_
        obtain ⟨r7, hq7, hF⟩ := mj_ob hF
        refine mj_callVi C (c_X5_monthOf σ v1 r7 hq7) yv_X5_monthOf kl_X5_41 (mo_35 G _) rfl rfl rfl rfl (Nat.le_of_ble_eq_true rfl) (mj_roomC (by decide) (by decide)) ⟨Nat.zero_le _, Nat.zero_le _⟩ dX5_isTurned_37 ?_
        refine mj_ic_ge C dX5_isTurned_40 rfl hF (fun hc8 hF => ?_) (fun hc8 hF => ?_)
        · refine mj_iinc (v := v3 + 1) C dX5_isTurned_58 rfl rfl (by decide) ?_
          refine mj_goto C dX5_isTurned_61 rfl ?_
          refine mj_to ?_ (ih v1 v2 (v3 + 1) R hF)
          exact ⟨rfl, rfl, rfl, rfl, trivial⟩
        · refine mj_aload_n C dX5_isTurned_43 rfl ?_
          refine mj_iload_n C dX5_isTurned_44 rfl ?_
          obtain ⟨r9, hq9, hF⟩ := mj_ob hF
          refine mj_callVi C (c_X5_heightOf σ v1 r9 hq9) yv_X5_heightOf kl_X5_34 (mo_35 G _) rfl rfl rfl rfl (Nat.le_of_ble_eq_true rfl) (mj_roomC (by decide) (by decide)) ⟨Nat.zero_le _, Nat.zero_le _⟩ dX5_isTurned_45 ?_
          refine mj_aload_n C dX5_isTurned_48 rfl ?_
          refine mj_iload_n C dX5_isTurned_49 rfl ?_
          obtain ⟨r10, hq10, hF⟩ := mj_ob hF
          refine mj_callVi C (c_X5_heightOf σ v3 r10 hq10) yv_X5_heightOf kl_X5_34 (mo_35 G _) rfl rfl rfl rfl (Nat.le_of_ble_eq_true rfl) (mj_roomC (by decide) (by decide)) ⟨Nat.zero_le _, Nat.zero_le _⟩ dX5_isTurned_50 ?_
          refine mj_ic_gt C dX5_isTurned_53 rfl hF (fun hc11 hF => ?_) (fun hc11 hF => ?_)
          · refine mj_iinc (v := v3 + 1) C dX5_isTurned_58 rfl rfl (by decide) ?_
            refine mj_goto C dX5_isTurned_61 rfl ?_
            refine mj_to ?_ (ih v1 v2 (v3 + 1) R hF)
            exact ⟨rfl, rfl, rfl, rfl, trivial⟩
          · refine mj_iconstV (v := 1) C dX5_isTurned_56 mc_i_1 ?_
            have hF := mj_oi hF; subst hF
            exact mj_zret (v := 1) rfl C hr hlk dX5_isTurned_57
set_option maxRecDepth 100000 in
set_option maxHeartbeats 4000000 in
theorem c_X5_isTurned {G : mj_G} {l : Launch} (σ : mj_S) (p1 : Int32) (p2 : Int32) (R : Int32) (hF : f_X5_isTurned σ p1 p2 = some R) : mj_C G l yX5_isTurned cX5_isTurned 4 (some .boolean) 4 [.ref (G.2.1 35), .int p1, .int p2] σ (some (.int R)) σ := by
  unfold f_X5_isTurned at hF
  refine mj_of (ls := [(0, .ref (G.2.1 35)), (1, .int p1), (2, .int p2)]) (by decide) (Nat.le_of_ble_eq_true rfl) rfl (fun p e s m args below meth c C hr hlk => ?_)
  refine mj_aload_n C dX5_isTurned_0 rfl ?_
  refine mj_iload_n C dX5_isTurned_1 rfl ?_
  refine mj_iload_n C dX5_isTurned_2 rfl ?_
  obtain ⟨r1, hq1, hF⟩ := mj_ob hF
  refine mj_callVi C (c_X5_isToldOf σ p1 p2 r1 hq1) yv_X5_isToldOf kl_X5_65 (mo_35 G _) rfl rfl rfl rfl (Nat.le_of_ble_eq_true rfl) (mj_roomC (by decide) (by decide)) ⟨Nat.zero_le _, Nat.zero_le _⟩ dX5_isTurned_3 ?_
  refine mj_if_ne C dX5_isTurned_6 rfl hF (fun hc2 hF => ?_) (fun hc2 hF => ?_)
  · refine mj_iconstV (v := 0) C dX5_isTurned_11 mc_i_0 ?_
    refine mj_istore_n C dX5_isTurned_12 (by decide) ?_
    refine mj_to ?_ (w_X5_isTurned_13 C hr hlk mj_fu p1 p2 0 R hF)
    exact ⟨rfl, rfl, rfl, rfl, trivial⟩
  · refine mj_iconstV (v := 0) C dX5_isTurned_9 mc_i_0 ?_
    have hF := mj_oi hF; subst hF
    exact mj_zret (v := 0) rfl C hr hlk dX5_isTurned_10
set_option maxRecDepth 100000 in
set_option maxHeartbeats 4000000 in
theorem w_X5_turnedMarks_4 {p : Program} {l : Launch} {e : Env} {s : State} {m : MethodId} {args : Array Value} {below : List Frame} {meth : Method} {c : Code} {G : mj_G} {σ : mj_S} (C : mj_X p s m args meth c G cX5_turnedMarks 4 RX5) (hr : meth.sig.returnType = some .int) (hlk : meth.locks = false) : ∀ (n : Nat) (v1 : Int32) (v2 : Int32) (v3 : Int32) (R : Int32), b_X5_turnedMarks_4 σ n v1 v2 v3 = some R → mj_W p l e (mj_rm 5) s m args below meth c G 0 0 4 (MQ below (mj_Q G (some (.int R)) σ) args s 0 0 G.2.2.2) 4 [(0, .ref (G.2.1 35)), (1, .int v1), (2, .int v2), (3, .int v3)] [] σ := by
  intro n
  induction n with
  | zero =>
    intro v1 v2 v3 R hF
    cases hF
  | succ n ih =>
    intro v1 v2 v3 R hF
    rw [b_X5_turnedMarks_4] at hF
    refine mj_iload_n C dX5_turnedMarks_4 rfl ?_
    refine mj_aload_n C dX5_turnedMarks_5 rfl ?_
    refine mg_X5_24 C dX5_turnedMarks_6 ?_
    refine mj_ic_ge C dX5_turnedMarks_9 rfl hF (fun hc1 hF => ?_) (fun hc1 hF => ?_)
    · refine mj_iload_n C dX5_turnedMarks_30 rfl ?_
      have hF := mj_oi hF; subst hF
      exact mj_iret C hr hlk dX5_turnedMarks_31
    · refine mj_aload_n C dX5_turnedMarks_12 rfl ?_
      refine mj_iload_n C dX5_turnedMarks_13 rfl ?_
      refine mj_iload_n C dX5_turnedMarks_14 rfl ?_
      obtain ⟨r2, hq2, hF⟩ := mj_ob hF
      refine mj_callVi C (c_X5_isTurned σ v3 v1 r2 hq2) yv_X5_isTurned kl_X5_61 (mo_35 G _) rfl rfl rfl rfl (Nat.le_of_ble_eq_true rfl) (mj_roomC (by decide) (by decide)) ⟨Nat.zero_le _, Nat.zero_le _⟩ dX5_turnedMarks_15 ?_
      refine mj_if_eq C dX5_turnedMarks_18 rfl hF (fun hc3 hF => ?_) (fun hc3 hF => ?_)
      · refine mj_iinc (v := v3 + 1) C dX5_turnedMarks_24 rfl rfl (by decide) ?_
        refine mj_goto C dX5_turnedMarks_27 rfl ?_
        refine mj_to ?_ (ih v1 v2 (v3 + 1) R hF)
        exact ⟨rfl, rfl, rfl, rfl, trivial⟩
      · refine mj_iinc (v := v2 + 1) C dX5_turnedMarks_21 rfl rfl (by decide) ?_
        refine mj_iinc (v := v3 + 1) C dX5_turnedMarks_24 rfl rfl (by decide) ?_
        refine mj_goto C dX5_turnedMarks_27 rfl ?_
        refine mj_to ?_ (ih v1 (v2 + 1) (v3 + 1) R hF)
        exact ⟨rfl, rfl, rfl, rfl, trivial⟩
set_option maxRecDepth 100000 in
set_option maxHeartbeats 4000000 in
theorem c_X5_turnedMarks {G : mj_G} {l : Launch} (σ : mj_S) (p1 : Int32) (R : Int32) (hF : f_X5_turnedMarks σ p1 = some R) : mj_C G l yX5_turnedMarks cX5_turnedMarks 4 (some .int) 5 [.ref (G.2.1 35), .int p1] σ (some (.int R)) σ := by
  unfold f_X5_turnedMarks at hF
  refine mj_of (ls := [(0, .ref (G.2.1 35)), (1, .int p1)]) (by decide) (Nat.le_of_ble_eq_true rfl) rfl (fun p e s m args below meth c C hr hlk => ?_)
  refine mj_iconstV (v := 0) C dX5_turnedMarks_0 mc_i_0 ?_
  refine mj_istore_n C dX5_turnedMarks_1 (by decide) ?_
  refine mj_iconstV (v := 0) C dX5_turnedMarks_2 mc_i_0 ?_
  refine mj_istore_n C dX5_turnedMarks_3 (by decide) ?_
  refine mj_to ?_ (w_X5_turnedMarks_4 C hr hlk mj_fu p1 0 0 R hF)
  exact ⟨rfl, rfl, rfl, rfl, trivial⟩
set_option maxRecDepth 100000 in
set_option maxHeartbeats 4000000 in
theorem w_X5_firstTurned_2 {p : Program} {l : Launch} {e : Env} {s : State} {m : MethodId} {args : Array Value} {below : List Frame} {meth : Method} {c : Code} {G : mj_G} {σ : mj_S} (C : mj_X p s m args meth c G cX5_firstTurned 3 RX5) (hr : meth.sig.returnType = some .int) (hlk : meth.locks = false) : ∀ (n : Nat) (v1 : Int32) (v2 : Int32) (R : Int32), b_X5_firstTurned_2 σ n v1 v2 = some R → mj_W p l e (mj_rm 5) s m args below meth c G 0 0 3 (MQ below (mj_Q G (some (.int R)) σ) args s 0 0 G.2.2.2) 2 [(0, .ref (G.2.1 35)), (1, .int v1), (2, .int v2)] [] σ := by
  intro n
  induction n with
  | zero =>
    intro v1 v2 R hF
    cases hF
  | succ n ih =>
    intro v1 v2 R hF
    rw [b_X5_firstTurned_2] at hF
    refine mj_iload_n C dX5_firstTurned_2 rfl ?_
    refine mj_aload_n C dX5_firstTurned_3 rfl ?_
    refine mg_X5_24 C dX5_firstTurned_4 ?_
    refine mj_ic_ge C dX5_firstTurned_7 rfl hF (fun hc1 hF => ?_) (fun hc1 hF => ?_)
    · refine mj_bipushV (v := (-2)) C dX5_firstTurned_27 mc_b_m2 ?_
      have hF := mj_oi hF; subst hF
      exact mj_iret C hr hlk dX5_firstTurned_29
    · refine mj_aload_n C dX5_firstTurned_10 rfl ?_
      refine mj_iload_n C dX5_firstTurned_11 rfl ?_
      refine mj_iload_n C dX5_firstTurned_12 rfl ?_
      obtain ⟨r2, hq2, hF⟩ := mj_ob hF
      refine mj_callVi C (c_X5_isTurned σ v2 v1 r2 hq2) yv_X5_isTurned kl_X5_61 (mo_35 G _) rfl rfl rfl rfl (Nat.le_of_ble_eq_true rfl) (mj_roomC (by decide) (by decide)) ⟨Nat.zero_le _, Nat.zero_le _⟩ dX5_firstTurned_13 ?_
      refine mj_if_eq C dX5_firstTurned_16 rfl hF (fun hc3 hF => ?_) (fun hc3 hF => ?_)
      · refine mj_iinc (v := v2 + 1) C dX5_firstTurned_21 rfl rfl (by decide) ?_
        refine mj_goto C dX5_firstTurned_24 rfl ?_
        refine mj_to ?_ (ih v1 (v2 + 1) R hF)
        exact ⟨rfl, rfl, rfl, trivial⟩
      · refine mj_iload_n C dX5_firstTurned_19 rfl ?_
        have hF := mj_oi hF; subst hF
        exact mj_iret C hr hlk dX5_firstTurned_20
set_option maxRecDepth 100000 in
set_option maxHeartbeats 4000000 in
theorem c_X5_firstTurned {G : mj_G} {l : Launch} (σ : mj_S) (p1 : Int32) (R : Int32) (hF : f_X5_firstTurned σ p1 = some R) : mj_C G l yX5_firstTurned cX5_firstTurned 3 (some .int) 5 [.ref (G.2.1 35), .int p1] σ (some (.int R)) σ := by
  unfold f_X5_firstTurned at hF
  refine mj_of (ls := [(0, .ref (G.2.1 35)), (1, .int p1)]) (by decide) (Nat.le_of_ble_eq_true rfl) rfl (fun p e s m args below meth c C hr hlk => ?_)
  refine mj_iconstV (v := 0) C dX5_firstTurned_0 mc_i_0 ?_
  refine mj_istore_n C dX5_firstTurned_1 (by decide) ?_
  refine mj_to ?_ (w_X5_firstTurned_2 C hr hlk mj_fu p1 0 R hF)
  exact ⟨rfl, rfl, rfl, trivial⟩
set_option maxRecDepth 100000 in
set_option maxHeartbeats 4000000 in
theorem c_X9_mark {G : mj_G} {l : Launch} (σ : mj_S) (p1 : Int32) (p2 : Int32) (p3 : Int32) (R : (Int32 × mj_S)) (hF : f_X9_mark σ p1 p2 p3 = some R) : mj_C G l yX9_mark cX9_mark 4 (some .int) 3 [.ref (G.2.1 0), .int p1, .int p2, .int p3] σ (some (.int R.1)) R.2 := by
  unfold f_X9_mark at hF
  refine mj_of (ls := [(0, .ref (G.2.1 0)), (1, .int p1), (2, .int p2), (3, .int p3)]) (by decide) (Nat.le_of_ble_eq_true rfl) rfl (fun p e s m args below meth c C hr hlk => ?_)
  refine mj_iload_n C dX9_mark_0 rfl ?_
  refine mj_if_lt C dX9_mark_1 rfl hF (fun hc1 hF => ?_) (fun hc1 hF => ?_)
  · refine mj_iconstV (v := (-1)) C dX9_mark_20 mc_i_m1 ?_
    have hF := mj_oi hF; subst hF
    exact mj_iret C hr hlk dX9_mark_21
  · refine mj_iload_n C dX9_mark_4 rfl ?_
    refine mj_iload_n C dX9_mark_5 rfl ?_
    refine mj_bipushV (v := 10) C dX9_mark_6 mc_b_10 ?_
    refine mj_idiv C dX9_mark_8 (by decide) ?_
    refine mj_iload_n C dX9_mark_9 rfl ?_
    refine mj_iload_n C dX9_mark_10 rfl ?_
    refine mj_bipushV (v := 10) C dX9_mark_11 mc_b_10 ?_
    refine mj_irem C dX9_mark_13 (by decide) ?_
    refine mj_callSi C (c_X9_isMark σ p1 (p2 / 10) p3 (mj_rem p2 10)) ys_X9_isMark kl_X9_142 rfl rfl (Nat.le_of_ble_eq_true rfl) (mj_roomC (by decide) (by decide)) ⟨Nat.zero_le _, Nat.zero_le _⟩ dX9_mark_14 ?_
    refine mj_if_ne C dX9_mark_17 rfl hF (fun hc2 hF => ?_) (fun hc2 hF => ?_)
    · refine mj_aload_n C dX9_mark_22 rfl ?_
      refine mg_X9_35 C dX9_mark_23 ?_
      refine mj_callVi C (c_X5_size σ) yv_X5_size kl_X9_146 (mo_35 G _) rfl rfl rfl rfl (Nat.le_of_ble_eq_true rfl) (mj_roomC (by decide) (by decide)) ⟨Nat.zero_le _, Nat.zero_le _⟩ dX9_mark_26 ?_
      refine mj_bipushV (v := 30) C dX9_mark_29 mc_b_30 ?_
      refine mj_ic_lt C dX9_mark_31 rfl hF (fun hc3 hF => ?_) (fun hc3 hF => ?_)
      · refine mj_aload_n C dX9_mark_37 rfl ?_
        refine mg_X9_35 C dX9_mark_38 ?_
        refine mj_iload_n C dX9_mark_41 rfl ?_
        refine mj_iload_n C dX9_mark_42 rfl ?_
        refine mj_bipushV (v := 10) C dX9_mark_43 mc_b_10 ?_
        refine mj_idiv C dX9_mark_45 (by decide) ?_
        refine mj_iload_n C dX9_mark_46 rfl ?_
        refine mj_iload_n C dX9_mark_47 rfl ?_
        refine mj_bipushV (v := 10) C dX9_mark_48 mc_b_10 ?_
        refine mj_irem C dX9_mark_50 (by decide) ?_
        obtain ⟨r4, hq4, hF⟩ := mj_ob hF
        refine mj_callVi C (c_X5_add σ p1 (p2 / 10) p3 (mj_rem p2 10) r4 hq4) yv_X5_add kl_X9_147 (mo_35 G _) rfl rfl rfl rfl (Nat.le_of_ble_eq_true rfl) (mj_roomC (by decide) (by decide)) ⟨Nat.zero_le _, Nat.zero_le _⟩ dX9_mark_51 ?_
        have hF := mj_oi hF; subst hF
        exact mj_iret C hr hlk dX9_mark_54
      · refine mj_bipushV (v := (-3)) C dX9_mark_34 mc_b_m3 ?_
        have hF := mj_oi hF; subst hF
        exact mj_iret C hr hlk dX9_mark_36
    · refine mj_iconstV (v := (-1)) C dX9_mark_20 mc_i_m1 ?_
      have hF := mj_oi hF; subst hF
      exact mj_iret C hr hlk dX9_mark_21
set_option maxRecDepth 100000 in
set_option maxHeartbeats 4000000 in
theorem c_X9_paint {G : mj_G} {l : Launch} (σ : mj_S) (p1 : Int32) (R : (Int32 × mj_S)) (hF : f_X9_paint σ p1 = some R) : mj_C G l yX9_paint cX9_paint 2 (some .int) 5 [.ref (G.2.1 0), .int p1] σ (some (.int R.1)) R.2 := by
  unfold f_X9_paint at hF
  refine mj_of (ls := [(0, .ref (G.2.1 0)), (1, .int p1)]) (by decide) (Nat.le_of_ble_eq_true rfl) rfl (fun p e s m args below meth c C hr hlk => ?_)
  refine mj_iload_n C dX9_paint_0 rfl ?_
  refine mj_callSi C (c_X9_isMonth σ p1) ys_X9_isMonth kl_X9_78 rfl rfl (Nat.le_of_ble_eq_true rfl) (mj_roomC (by decide) (by decide)) ⟨Nat.zero_le _, Nat.zero_le _⟩ dX9_paint_1 ?_
  refine mj_if_ne C dX9_paint_4 rfl hF (fun hc1 hF => ?_) (fun hc1 hF => ?_)
  · refine mj_aload_n C dX9_paint_9 rfl ?_
    refine mg_X9_35 C dX9_paint_10 ?_
    refine mj_iload_n C dX9_paint_13 rfl ?_
    refine mj_callVv C (c_X5_cover σ p1) yv_X5_cover kl_X9_161 (mo_35 G _) rfl rfl rfl rfl (Nat.le_of_ble_eq_true rfl) (mj_roomC (by decide) (by decide)) ⟨Nat.zero_le _, Nat.zero_le _⟩ dX9_paint_14 ?_
    replace hF := mj_letE hF
    generalize f_X5_cover σ p1 = r2 at hF ⊢
    refine mj_aload_n C dX9_paint_17 rfl ?_
    refine mg_X9_35 C dX9_paint_18 ?_
    obtain ⟨r3, hq3, hF⟩ := mj_ob hF
    refine mj_callVi C (c_X5_covered r2 r3 hq3) yv_X5_covered kl_X9_165 (mo_35 G _) rfl rfl rfl rfl (Nat.le_of_ble_eq_true rfl) (mj_roomC (by decide) (by decide)) ⟨Nat.zero_le _, Nat.zero_le _⟩ dX9_paint_21 ?_
    have hF := mj_oi hF; subst hF
    exact mj_iret C hr hlk dX9_paint_24
  · refine mj_iconstV (v := (-1)) C dX9_paint_7 mc_i_m1 ?_
    have hF := mj_oi hF; subst hF
    exact mj_iret C hr hlk dX9_paint_8
set_option maxRecDepth 100000 in
set_option maxHeartbeats 4000000 in
theorem w_X9_of_30 {p : Program} {l : Launch} {e : Env} {s : State} {m : MethodId} {args : Array Value} {below : List Frame} {meth : Method} {c : Code} {G : mj_G} {σ : mj_S} (C : mj_X p s m args meth c G cX9_of 3 RX9) (hr : meth.sig.returnType = some .int) (hlk : meth.locks = false) : ∀ (v1 : Int32) (v2 : Int32) (R : Int32), b_X9_of_30 σ v1 v2 = some R → mj_W p l e (mj_rm 5) s m args below meth c G 0 0 3 (MQ below (mj_Q G (some (.int R)) σ) args s 0 0 G.2.2.2) 30 [(0, .ref (G.2.1 0)), (1, .int v1), (2, .int v2)] [] σ := by
  intro v1 v2 R hF
  unfold b_X9_of_30 at hF
  refine mj_iload_n C dX9_of_30 rfl ?_
  refine mj_bipushV (v := 10) C dX9_of_31 mc_b_10 ?_
  refine mj_bipushV (v := 14) C dX9_of_33 mc_b_14 ?_
  refine mj_callSi C (c_X9_within σ v2 10 14) ys_X9_within kl_X9_82 rfl rfl (Nat.le_of_ble_eq_true rfl) (mj_roomC (by decide) (by decide)) ⟨Nat.zero_le _, Nat.zero_le _⟩ dX9_of_35 ?_
  refine mj_if_eq C dX9_of_38 rfl hF (fun hc2 hF => ?_) (fun hc2 hF => ?_)
  · refine mj_ldc C dX9_of_65 kc_X9_173 ?_
    have hF := mj_oi hF; subst hF
    exact mj_iret C hr hlk dX9_of_67
  · refine mj_aload_n C dX9_of_41 rfl ?_
    refine mg_X9_28 C dX9_of_42 ?_
    refine mj_iload_n C dX9_of_45 rfl ?_
    refine mj_callVi C (c_X2_has σ v1) yv_X2_has kl_X9_132 (mo_9 G _) rfl rfl rfl rfl (Nat.le_of_ble_eq_true rfl) (mj_roomC (by decide) (by decide)) ⟨Nat.zero_le _, Nat.zero_le _⟩ dX9_of_46 ?_
    refine mj_if_eq C dX9_of_49 rfl hF (fun hc3 hF => ?_) (fun hc3 hF => ?_)
    · refine mj_ldc C dX9_of_65 kc_X9_173 ?_
      have hF := mj_oi hF; subst hF
      exact mj_iret C hr hlk dX9_of_67
    · refine mj_aload_n C dX9_of_52 rfl ?_
      refine mg_X9_28 C dX9_of_53 ?_
      refine mj_iload_n C dX9_of_56 rfl ?_
      refine mj_iload_n C dX9_of_57 rfl ?_
      refine mj_bipushV (v := 10) C dX9_of_58 mc_b_10 ?_
      refine mj_isub C dX9_of_60 ?_
      obtain ⟨r4, hq4, hF⟩ := mj_ob hF
      refine mj_callVi C (c_X2_told σ v1 (v2 - 10) r4 hq4) yv_X2_told kl_X9_172 (mo_9 G _) rfl rfl rfl rfl (Nat.le_of_ble_eq_true rfl) (mj_roomC (by decide) (by decide)) ⟨Nat.zero_le _, Nat.zero_le _⟩ dX9_of_61 ?_
      have hF := mj_oi hF; subst hF
      exact mj_iret C hr hlk dX9_of_64
set_option maxRecDepth 100000 in
set_option maxHeartbeats 4000000 in
theorem c_X9_of {G : mj_G} {l : Launch} (σ : mj_S) (p1 : Int32) (p2 : Int32) (R : Int32) (hF : f_X9_of σ p1 p2 = some R) : mj_C G l yX9_of cX9_of 3 (some .int) 5 [.ref (G.2.1 0), .int p1, .int p2] σ (some (.int R)) σ := by
  unfold f_X9_of at hF
  refine mj_of (ls := [(0, .ref (G.2.1 0)), (1, .int p1), (2, .int p2)]) (by decide) (Nat.le_of_ble_eq_true rfl) rfl (fun p e s m args below meth c C hr hlk => ?_)
  refine mj_iload_n C dX9_of_0 rfl ?_
  refine mj_iconstV (v := 0) C dX9_of_1 mc_i_0 ?_
  refine mj_iconstV (v := 4) C dX9_of_2 mc_i_4 ?_
  refine mj_callSi C (c_X9_within σ p2 0 4) ys_X9_within kl_X9_82 rfl rfl (Nat.le_of_ble_eq_true rfl) (mj_roomC (by decide) (by decide)) ⟨Nat.zero_le _, Nat.zero_le _⟩ dX9_of_3 ?_
  refine mj_if_eq C dX9_of_6 rfl hF (fun hc1 hF => ?_) (fun hc1 hF => ?_)
  · refine mj_to ?_ (w_X9_of_30 C hr hlk p1 p2 R hF)
    exact ⟨rfl, rfl, rfl, trivial⟩
  · refine mj_aload_n C dX9_of_9 rfl ?_
    refine mg_X9_35 C dX9_of_10 ?_
    refine mj_iload_n C dX9_of_13 rfl ?_
    refine mj_callVi C (c_X5_has σ p1) yv_X5_has kl_X9_168 (mo_35 G _) rfl rfl rfl rfl (Nat.le_of_ble_eq_true rfl) (mj_roomC (by decide) (by decide)) ⟨Nat.zero_le _, Nat.zero_le _⟩ dX9_of_14 ?_
    refine mj_if_eq C dX9_of_17 rfl hF (fun hc5 hF => ?_) (fun hc5 hF => ?_)
    · refine mj_to ?_ (w_X9_of_30 C hr hlk p1 p2 R hF)
      exact ⟨rfl, rfl, rfl, trivial⟩
    · refine mj_aload_n C dX9_of_20 rfl ?_
      refine mg_X9_35 C dX9_of_21 ?_
      refine mj_iload_n C dX9_of_24 rfl ?_
      refine mj_iload_n C dX9_of_25 rfl ?_
      obtain ⟨r6, hq6, hF⟩ := mj_ob hF
      refine mj_callVi C (c_X5_told σ p1 p2 r6 hq6) yv_X5_told kl_X9_169 (mo_35 G _) rfl rfl rfl rfl (Nat.le_of_ble_eq_true rfl) (mj_roomC (by decide) (by decide)) ⟨Nat.zero_le _, Nat.zero_le _⟩ dX9_of_26 ?_
      have hF := mj_oi hF; subst hF
      exact mj_iret C hr hlk dX9_of_29
set_option maxRecDepth 100000 in
set_option maxHeartbeats 4000000 in
theorem c_X9_isMendable {G : mj_G} {l : Launch} (σ : mj_S) (p1 : Int32) (p2 : Int32) (p3 : Int32) : mj_C G l yX9_isMendable cX9_isMendable 4 (some .boolean) 3 [.ref (G.2.1 0), .int p1, .int p2, .int p3] σ (some (.int (f_X9_isMendable σ p1 p2 p3))) σ := by
  generalize hF : f_X9_isMendable σ p1 p2 p3 = R
  unfold f_X9_isMendable at hF
  refine mj_of (ls := [(0, .ref (G.2.1 0)), (1, .int p1), (2, .int p2), (3, .int p3)]) (by decide) (Nat.le_of_ble_eq_true rfl) rfl (fun p e s m args below meth c C hr hlk => ?_)
  refine mj_iload_n C dX9_isMendable_0 rfl ?_
  by_cases hw1_0 : p2 = 0
  · rw [if_pos hw1_0] at hF
    refine mj_tsIn (off := 31) C dX9_isMendable_1 (by rw [hw1_0]; decide) (by rw [hw1_0]; decide) (by rw [hw1_0]; rfl) rfl ?_
    refine mj_aload_n C dX9_isMendable_32 rfl ?_
    refine mg_X9_35 C dX9_isMendable_33 ?_
    refine mj_iload_n C dX9_isMendable_36 rfl ?_
    refine mj_callVi C (c_X5_has σ p1) yv_X5_has kl_X9_168 (mo_35 G _) rfl rfl rfl rfl (Nat.le_of_ble_eq_true rfl) (mj_roomC (by decide) (by decide)) ⟨Nat.zero_le _, Nat.zero_le _⟩ dX9_isMendable_37 ?_
    refine mj_if_eq C dX9_isMendable_40 rfl hF (fun hc2 hF => ?_) (fun hc2 hF => ?_)
    · refine mj_iconstV (v := 0) C dX9_isMendable_58 mc_i_0 ?_
      subst hF
      exact mj_zret (v := 0) rfl C hr hlk dX9_isMendable_59
    · refine mj_iload_n C dX9_isMendable_43 rfl ?_
      refine mj_iconstV (v := 0) C dX9_isMendable_44 mc_i_0 ?_
      refine mj_sipushV (v := 9999) C dX9_isMendable_45 mc_s_9999 ?_
      refine mj_callSi C (c_X9_within σ p3 0 9999) ys_X9_within kl_X9_82 rfl rfl (Nat.le_of_ble_eq_true rfl) (mj_roomC (by decide) (by decide)) ⟨Nat.zero_le _, Nat.zero_le _⟩ dX9_isMendable_48 ?_
      refine mj_if_eq C dX9_isMendable_51 rfl hF (fun hc3 hF => ?_) (fun hc3 hF => ?_)
      · refine mj_iconstV (v := 0) C dX9_isMendable_58 mc_i_0 ?_
        subst hF
        exact mj_zret (v := 0) rfl C hr hlk dX9_isMendable_59
      · refine mj_iconstV (v := 1) C dX9_isMendable_54 mc_i_1 ?_
        refine mj_goto C dX9_isMendable_55 rfl ?_
        subst hF
        exact mj_zret (v := 1) rfl C hr hlk dX9_isMendable_59
  rw [if_neg hw1_0] at hF
  by_cases hw1_1 : p2 = 1
  · rw [if_pos hw1_1] at hF
    refine mj_tsIn (off := 59) C dX9_isMendable_1 (by rw [hw1_1]; decide) (by rw [hw1_1]; decide) (by rw [hw1_1]; rfl) rfl ?_
    refine mj_aload_n C dX9_isMendable_60 rfl ?_
    refine mg_X9_35 C dX9_isMendable_61 ?_
    refine mj_iload_n C dX9_isMendable_64 rfl ?_
    refine mj_callVi C (c_X5_has σ p1) yv_X5_has kl_X9_168 (mo_35 G _) rfl rfl rfl rfl (Nat.le_of_ble_eq_true rfl) (mj_roomC (by decide) (by decide)) ⟨Nat.zero_le _, Nat.zero_le _⟩ dX9_isMendable_65 ?_
    refine mj_if_eq C dX9_isMendable_68 rfl hF (fun hc4 hF => ?_) (fun hc4 hF => ?_)
    · refine mj_iconstV (v := 0) C dX9_isMendable_84 mc_i_0 ?_
      subst hF
      exact mj_zret (v := 0) rfl C hr hlk dX9_isMendable_85
    · refine mj_iload_n C dX9_isMendable_71 rfl ?_
      refine mj_iconstV (v := 0) C dX9_isMendable_72 mc_i_0 ?_
      refine mj_iconstV (v := 4) C dX9_isMendable_73 mc_i_4 ?_
      refine mj_callSi C (c_X9_within σ p3 0 4) ys_X9_within kl_X9_82 rfl rfl (Nat.le_of_ble_eq_true rfl) (mj_roomC (by decide) (by decide)) ⟨Nat.zero_le _, Nat.zero_le _⟩ dX9_isMendable_74 ?_
      refine mj_if_eq C dX9_isMendable_77 rfl hF (fun hc5 hF => ?_) (fun hc5 hF => ?_)
      · refine mj_iconstV (v := 0) C dX9_isMendable_84 mc_i_0 ?_
        subst hF
        exact mj_zret (v := 0) rfl C hr hlk dX9_isMendable_85
      · refine mj_iconstV (v := 1) C dX9_isMendable_80 mc_i_1 ?_
        refine mj_goto C dX9_isMendable_81 rfl ?_
        subst hF
        exact mj_zret (v := 1) rfl C hr hlk dX9_isMendable_85
  rw [if_neg hw1_1] at hF
  by_cases hw1_2 : p2 = 2
  · rw [if_pos hw1_2] at hF
    refine mj_tsIn (off := 85) C dX9_isMendable_1 (by rw [hw1_2]; decide) (by rw [hw1_2]; decide) (by rw [hw1_2]; rfl) rfl ?_
    refine mj_aload_n C dX9_isMendable_86 rfl ?_
    refine mg_X9_28 C dX9_isMendable_87 ?_
    refine mj_iload_n C dX9_isMendable_90 rfl ?_
    refine mj_callVi C (c_X2_has σ p1) yv_X2_has kl_X9_132 (mo_9 G _) rfl rfl rfl rfl (Nat.le_of_ble_eq_true rfl) (mj_roomC (by decide) (by decide)) ⟨Nat.zero_le _, Nat.zero_le _⟩ dX9_isMendable_91 ?_
    refine mj_if_eq C dX9_isMendable_94 rfl hF (fun hc6 hF => ?_) (fun hc6 hF => ?_)
    · refine mj_iconstV (v := 0) C dX9_isMendable_108 mc_i_0 ?_
      subst hF
      exact mj_zret (v := 0) rfl C hr hlk dX9_isMendable_109
    · refine mj_iload_n C dX9_isMendable_97 rfl ?_
      refine mj_callSi C (c_X9_isLate σ p3) ys_X9_isLate kl_X9_86 rfl rfl (Nat.le_of_ble_eq_true rfl) (mj_roomC (by decide) (by decide)) ⟨Nat.zero_le _, Nat.zero_le _⟩ dX9_isMendable_98 ?_
      refine mj_if_eq C dX9_isMendable_101 rfl hF (fun hc7 hF => ?_) (fun hc7 hF => ?_)
      · refine mj_iconstV (v := 0) C dX9_isMendable_108 mc_i_0 ?_
        subst hF
        exact mj_zret (v := 0) rfl C hr hlk dX9_isMendable_109
      · refine mj_iconstV (v := 1) C dX9_isMendable_104 mc_i_1 ?_
        refine mj_goto C dX9_isMendable_105 rfl ?_
        subst hF
        exact mj_zret (v := 1) rfl C hr hlk dX9_isMendable_109
  rw [if_neg hw1_2] at hF
  by_cases hw1_3 : p2 = 3
  · rw [if_pos hw1_3] at hF
    refine mj_tsIn (off := 109) C dX9_isMendable_1 (by rw [hw1_3]; decide) (by rw [hw1_3]; decide) (by rw [hw1_3]; rfl) rfl ?_
    refine mj_aload_n C dX9_isMendable_110 rfl ?_
    refine mg_X9_28 C dX9_isMendable_111 ?_
    refine mj_iload_n C dX9_isMendable_114 rfl ?_
    refine mj_callVi C (c_X2_has σ p1) yv_X2_has kl_X9_132 (mo_9 G _) rfl rfl rfl rfl (Nat.le_of_ble_eq_true rfl) (mj_roomC (by decide) (by decide)) ⟨Nat.zero_le _, Nat.zero_le _⟩ dX9_isMendable_115 ?_
    refine mj_if_eq C dX9_isMendable_118 rfl hF (fun hc8 hF => ?_) (fun hc8 hF => ?_)
    · refine mj_iconstV (v := 0) C dX9_isMendable_132 mc_i_0 ?_
      subst hF
      exact mj_zret (v := 0) rfl C hr hlk dX9_isMendable_133
    · refine mj_iload_n C dX9_isMendable_121 rfl ?_
      refine mj_callSi C (c_X9_isParents σ p3) ys_X9_isParents kl_X9_89 rfl rfl (Nat.le_of_ble_eq_true rfl) (mj_roomC (by decide) (by decide)) ⟨Nat.zero_le _, Nat.zero_le _⟩ dX9_isMendable_122 ?_
      refine mj_if_eq C dX9_isMendable_125 rfl hF (fun hc9 hF => ?_) (fun hc9 hF => ?_)
      · refine mj_iconstV (v := 0) C dX9_isMendable_132 mc_i_0 ?_
        subst hF
        exact mj_zret (v := 0) rfl C hr hlk dX9_isMendable_133
      · refine mj_iconstV (v := 1) C dX9_isMendable_128 mc_i_1 ?_
        refine mj_goto C dX9_isMendable_129 rfl ?_
        subst hF
        exact mj_zret (v := 1) rfl C hr hlk dX9_isMendable_133
  rw [if_neg hw1_3] at hF
  refine mj_tsOut C dX9_isMendable_1 (mj_sw_0_4 hw1_0 hw1_1 hw1_2 hw1_3) rfl ?_
  refine mj_iconstV (v := 0) C dX9_isMendable_134 mc_i_0 ?_
  subst hF
  exact mj_zret (v := 0) rfl C hr hlk dX9_isMendable_135
set_option maxRecDepth 100000 in
set_option maxHeartbeats 4000000 in
theorem c_X9_isMarkAndChild {G : mj_G} {l : Launch} (σ : mj_S) (p1 : Int32) : mj_C G l yX9_isMarkAndChild cX9_isMarkAndChild 2 (some .boolean) 2 [.ref (G.2.1 0), .int p1] σ (some (.int (f_X9_isMarkAndChild σ p1))) σ := by
  generalize hF : f_X9_isMarkAndChild σ p1 = R
  unfold f_X9_isMarkAndChild at hF
  refine mj_of (ls := [(0, .ref (G.2.1 0)), (1, .int p1)]) (by decide) (Nat.le_of_ble_eq_true rfl) rfl (fun p e s m args below meth c C hr hlk => ?_)
  refine mj_iload_n C dX9_isMarkAndChild_0 rfl ?_
  refine mj_if_lt C dX9_isMarkAndChild_1 rfl hF (fun hc1 hF => ?_) (fun hc1 hF => ?_)
  · refine mj_iconstV (v := 0) C dX9_isMarkAndChild_36 mc_i_0 ?_
    subst hF
    exact mj_zret (v := 0) rfl C hr hlk dX9_isMarkAndChild_37
  · refine mj_aload_n C dX9_isMarkAndChild_4 rfl ?_
    refine mg_X9_35 C dX9_isMarkAndChild_5 ?_
    refine mj_iload_n C dX9_isMarkAndChild_8 rfl ?_
    refine mj_bipushV (v := 10) C dX9_isMarkAndChild_9 mc_b_10 ?_
    refine mj_idiv C dX9_isMarkAndChild_11 (by decide) ?_
    refine mj_callVi C (c_X5_has σ (p1 / 10)) yv_X5_has kl_X9_168 (mo_35 G _) rfl rfl rfl rfl (Nat.le_of_ble_eq_true rfl) (mj_roomC (by decide) (by decide)) ⟨Nat.zero_le _, Nat.zero_le _⟩ dX9_isMarkAndChild_12 ?_
    refine mj_if_eq C dX9_isMarkAndChild_15 rfl hF (fun hc2 hF => ?_) (fun hc2 hF => ?_)
    · refine mj_iconstV (v := 0) C dX9_isMarkAndChild_36 mc_i_0 ?_
      subst hF
      exact mj_zret (v := 0) rfl C hr hlk dX9_isMarkAndChild_37
    · refine mj_aload_n C dX9_isMarkAndChild_18 rfl ?_
      refine mg_X9_28 C dX9_isMarkAndChild_19 ?_
      refine mj_iload_n C dX9_isMarkAndChild_22 rfl ?_
      refine mj_bipushV (v := 10) C dX9_isMarkAndChild_23 mc_b_10 ?_
      refine mj_irem C dX9_isMarkAndChild_25 (by decide) ?_
      refine mj_callVi C (c_X2_has σ (mj_rem p1 10)) yv_X2_has kl_X9_132 (mo_9 G _) rfl rfl rfl rfl (Nat.le_of_ble_eq_true rfl) (mj_roomC (by decide) (by decide)) ⟨Nat.zero_le _, Nat.zero_le _⟩ dX9_isMarkAndChild_26 ?_
      refine mj_if_eq C dX9_isMarkAndChild_29 rfl hF (fun hc3 hF => ?_) (fun hc3 hF => ?_)
      · refine mj_iconstV (v := 0) C dX9_isMarkAndChild_36 mc_i_0 ?_
        subst hF
        exact mj_zret (v := 0) rfl C hr hlk dX9_isMarkAndChild_37
      · refine mj_iconstV (v := 1) C dX9_isMarkAndChild_32 mc_i_1 ?_
        refine mj_goto C dX9_isMarkAndChild_33 rfl ?_
        subst hF
        exact mj_zret (v := 1) rfl C hr hlk dX9_isMarkAndChild_37
set_option maxRecDepth 100000 in
set_option maxHeartbeats 4000000 in
theorem c_X9_off {G : mj_G} {l : Launch} (σ : mj_S) (p1 : Int32) (p2 : Int32) (p3 : Int32) (R : Int32) (hF : f_X9_off σ p1 p2 p3 = some R) : mj_C G l yX9_off cX9_off 4 (some .int) 4 [.ref (G.2.1 0), .int p1, .int p2, .int p3] σ (some (.int R)) σ := by
  unfold f_X9_off at hF
  refine mj_of (ls := [(0, .ref (G.2.1 0)), (1, .int p1), (2, .int p2), (3, .int p3)]) (by decide) (Nat.le_of_ble_eq_true rfl) rfl (fun p e s m args below meth c C hr hlk => ?_)
  refine mj_aload_n C dX9_off_0 rfl ?_
  refine mj_iload_n C dX9_off_1 rfl ?_
  refine mj_callVi C (c_X9_isMarkAndChild σ p1) yv_X9_isMarkAndChild kl_X9_180 (mo_0 G _) rfl rfl rfl rfl (Nat.le_of_ble_eq_true rfl) (mj_roomC (by decide) (by decide)) ⟨Nat.zero_le _, Nat.zero_le _⟩ dX9_off_2 ?_
  refine mj_if_eq C dX9_off_5 rfl hF (fun hc1 hF => ?_) (fun hc1 hF => ?_)
  · refine mj_iconstV (v := (-1)) C dX9_off_24 mc_i_m1 ?_
    have hF := mj_oi hF; subst hF
    exact mj_iret C hr hlk dX9_off_25
  · refine mj_iload_n C dX9_off_8 rfl ?_
    refine mj_callSi C (c_X9_isMonth σ p2) ys_X9_isMonth kl_X9_78 rfl rfl (Nat.le_of_ble_eq_true rfl) (mj_roomC (by decide) (by decide)) ⟨Nat.zero_le _, Nat.zero_le _⟩ dX9_off_9 ?_
    refine mj_if_eq C dX9_off_12 rfl hF (fun hc2 hF => ?_) (fun hc2 hF => ?_)
    · refine mj_iconstV (v := (-1)) C dX9_off_24 mc_i_m1 ?_
      have hF := mj_oi hF; subst hF
      exact mj_iret C hr hlk dX9_off_25
    · refine mj_iload_n C dX9_off_15 rfl ?_
      refine mj_iconstV (v := 0) C dX9_off_16 mc_i_0 ?_
      refine mj_iconstV (v := 4) C dX9_off_17 mc_i_4 ?_
      refine mj_callSi C (c_X9_within σ p3 0 4) ys_X9_within kl_X9_82 rfl rfl (Nat.le_of_ble_eq_true rfl) (mj_roomC (by decide) (by decide)) ⟨Nat.zero_le _, Nat.zero_le _⟩ dX9_off_18 ?_
      refine mj_if_ne C dX9_off_21 rfl hF (fun hc3 hF => ?_) (fun hc3 hF => ?_)
      · refine mj_aload_n C dX9_off_26 rfl ?_
        refine mg_X9_44 C dX9_off_27 ?_
        refine mj_aload_n C dX9_off_30 rfl ?_
        refine mg_X9_35 C dX9_off_31 ?_
        refine mj_iload_n C dX9_off_34 rfl ?_
        refine mj_bipushV (v := 10) C dX9_off_35 mc_b_10 ?_
        refine mj_idiv C dX9_off_37 (by decide) ?_
        obtain ⟨r4, hq4, hF⟩ := mj_ob hF
        refine mj_callVi C (c_X5_heightOf σ (p1 / 10) r4 hq4) yv_X5_heightOf kl_X9_183 (mo_35 G _) rfl rfl rfl rfl (Nat.le_of_ble_eq_true rfl) (mj_roomC (by decide) (by decide)) ⟨Nat.zero_le _, Nat.zero_le _⟩ dX9_off_38 ?_
        refine mj_iload_n C dX9_off_41 rfl ?_
        refine mj_bipushV (v := 10) C dX9_off_42 mc_b_10 ?_
        refine mj_irem C dX9_off_44 (by decide) ?_
        refine mj_iload_n C dX9_off_45 rfl ?_
        refine mj_iload_n C dX9_off_46 rfl ?_
        obtain ⟨r5, hq5, hF⟩ := mj_ob hF
        refine mj_callVi C (c_X3_distance σ r4 (mj_rem p1 10) p2 p3 r5 hq5) yv_X3_distance kl_X9_186 (mo_40 G _) rfl rfl rfl rfl (Nat.le_of_ble_eq_true rfl) (mj_roomC (by decide) (by decide)) ⟨Nat.zero_le _, Nat.zero_le _⟩ dX9_off_47 ?_
        have hF := mj_oi hF; subst hF
        exact mj_iret C hr hlk dX9_off_50
      · refine mj_iconstV (v := (-1)) C dX9_off_24 mc_i_m1 ?_
        have hF := mj_oi hF; subst hF
        exact mj_iret C hr hlk dX9_off_25
set_option maxRecDepth 100000 in
set_option maxHeartbeats 4000000 in
theorem c_X9_turned {G : mj_G} {l : Launch} (σ : mj_S) (p1 : Int32) (p2 : Int32) (R : Int32) (hF : f_X9_turned σ p1 p2 = some R) : mj_C G l yX9_turned cX9_turned 3 (some .int) 6 [.ref (G.2.1 0), .int p1, .int p2] σ (some (.int R)) σ := by
  unfold f_X9_turned at hF
  refine mj_of (ls := [(0, .ref (G.2.1 0)), (1, .int p1), (2, .int p2)]) (by decide) (Nat.le_of_ble_eq_true rfl) rfl (fun p e s m args below meth c C hr hlk => ?_)
  refine mj_aload_n C dX9_turned_0 rfl ?_
  refine mg_X9_28 C dX9_turned_1 ?_
  refine mj_iload_n C dX9_turned_4 rfl ?_
  refine mj_callVi C (c_X2_has σ p1) yv_X2_has kl_X9_132 (mo_9 G _) rfl rfl rfl rfl (Nat.le_of_ble_eq_true rfl) (mj_roomC (by decide) (by decide)) ⟨Nat.zero_le _, Nat.zero_le _⟩ dX9_turned_5 ?_
  refine mj_if_eq C dX9_turned_8 rfl hF (fun hc1 hF => ?_) (fun hc1 hF => ?_)
  · refine mj_iconstV (v := (-1)) C dX9_turned_20 mc_i_m1 ?_
    have hF := mj_oi hF; subst hF
    exact mj_iret C hr hlk dX9_turned_21
  · refine mj_iload_n C dX9_turned_11 rfl ?_
    refine mj_iconstV (v := 0) C dX9_turned_12 mc_i_0 ?_
    refine mj_iconstV (v := 1) C dX9_turned_13 mc_i_1 ?_
    refine mj_callSi C (c_X9_within σ p2 0 1) ys_X9_within kl_X9_82 rfl rfl (Nat.le_of_ble_eq_true rfl) (mj_roomC (by decide) (by decide)) ⟨Nat.zero_le _, Nat.zero_le _⟩ dX9_turned_14 ?_
    refine mj_if_ne C dX9_turned_17 rfl hF (fun hc2 hF => ?_) (fun hc2 hF => ?_)
    · refine mj_iload_n C dX9_turned_22 rfl ?_
      refine mj_if_ne C dX9_turned_23 rfl hF (fun hc3 hF => ?_) (fun hc3 hF => ?_)
      · refine mj_aload_n C dX9_turned_37 rfl ?_
        refine mg_X9_35 C dX9_turned_38 ?_
        refine mj_iload_n C dX9_turned_41 rfl ?_
        obtain ⟨r4, hq4, hF⟩ := mj_ob hF
        refine mj_callVi C (c_X5_firstTurned σ p1 r4 hq4) yv_X5_firstTurned kl_X9_225 (mo_35 G _) rfl rfl rfl rfl (Nat.le_of_ble_eq_true rfl) (mj_roomC (by decide) (by decide)) ⟨Nat.zero_le _, Nat.zero_le _⟩ dX9_turned_42 ?_
        have hF := mj_oi hF; subst hF
        exact mj_iret C hr hlk dX9_turned_45
      · refine mj_aload_n C dX9_turned_26 rfl ?_
        refine mg_X9_35 C dX9_turned_27 ?_
        refine mj_iload_n C dX9_turned_30 rfl ?_
        obtain ⟨r5, hq5, hF⟩ := mj_ob hF
        refine mj_callVi C (c_X5_turnedMarks σ p1 r5 hq5) yv_X5_turnedMarks kl_X9_222 (mo_35 G _) rfl rfl rfl rfl (Nat.le_of_ble_eq_true rfl) (mj_roomC (by decide) (by decide)) ⟨Nat.zero_le _, Nat.zero_le _⟩ dX9_turned_31 ?_
        refine mj_goto C dX9_turned_34 rfl ?_
        have hF := mj_oi hF; subst hF
        exact mj_iret C hr hlk dX9_turned_45
    · refine mj_iconstV (v := (-1)) C dX9_turned_20 mc_i_m1 ?_
      have hF := mj_oi hF; subst hF
      exact mj_iret C hr hlk dX9_turned_21
set_option maxRecDepth 100000 in
set_option maxHeartbeats 4000000 in
theorem c_X1_toUndo {G : mj_G} {l : Launch} (σ : mj_S) : mj_C G l yX1_toUndo cX1_toUndo 1 (some .int) 1 [.ref (G.2.1 45)] σ (some (.int (f_X1_toUndo σ))) σ := by
  generalize hF : f_X1_toUndo σ = R
  unfold f_X1_toUndo at hF
  refine mj_of (ls := [(0, .ref (G.2.1 45))]) (by decide) (Nat.le_of_ble_eq_true rfl) rfl (fun p e s m args below meth c C hr hlk => ?_)
  refine mj_aload_n C dX1_toUndo_0 rfl ?_
  refine mg_X1_24 C dX1_toUndo_1 ?_
  subst hF
  exact mj_iret C hr hlk dX1_toUndo_4
set_option maxRecDepth 100000 in
set_option maxHeartbeats 4000000 in
theorem c_X1_toRedo {G : mj_G} {l : Launch} (σ : mj_S) : mj_C G l yX1_toRedo cX1_toRedo 1 (some .int) 1 [.ref (G.2.1 45)] σ (some (.int (f_X1_toRedo σ))) σ := by
  generalize hF : f_X1_toRedo σ = R
  unfold f_X1_toRedo at hF
  refine mj_of (ls := [(0, .ref (G.2.1 45))]) (by decide) (Nat.le_of_ble_eq_true rfl) rfl (fun p e s m args below meth c C hr hlk => ?_)
  refine mj_aload_n C dX1_toRedo_0 rfl ?_
  refine mg_X1_28 C dX1_toRedo_1 ?_
  refine mj_aload_n C dX1_toRedo_4 rfl ?_
  refine mg_X1_24 C dX1_toRedo_5 ?_
  refine mj_isub C dX1_toRedo_8 ?_
  subst hF
  exact mj_iret C hr hlk dX1_toRedo_9
set_option maxRecDepth 100000 in
set_option maxHeartbeats 4000000 in
theorem c_X1_become {G : mj_G} {l : Launch} (σ : mj_S) (p1 : Int32) (p2 : Int32) (p3 : Int32) (R : mj_S) (hF : f_X1_become σ p1 p2 p3 = some R) : mj_C G l yX1_become cX1_become 4 (none) 3 [.ref (G.2.1 45), .int p1, .int p2, .int p3] σ none R := by
  unfold f_X1_become at hF
  refine mj_of (ls := [(0, .ref (G.2.1 45)), (1, .int p1), (2, .int p2), (3, .int p3)]) (by decide) (Nat.le_of_ble_eq_true rfl) rfl (fun p e s m args below meth c C hr hlk => ?_)
  refine mj_iload_n C dX1_become_0 rfl ?_
  by_cases hw1_0 : p2 = 0
  · rw [if_pos hw1_0] at hF
    refine mj_tsIn (off := 31) C dX1_become_1 (by rw [hw1_0]; decide) (by rw [hw1_0]; decide) (by rw [hw1_0]; rfl) rfl ?_
    refine mj_aload_n C dX1_become_32 rfl ?_
    refine mg_X1_35 C dX1_become_33 ?_
    refine mj_iload_n C dX1_become_36 rfl ?_
    refine mj_iload_n C dX1_become_37 rfl ?_
    obtain ⟨r2, hq2, hF⟩ := mj_ob hF
    refine mj_callVv C (c_X5_becomeHeight σ p1 p3 r2 hq2) yv_X5_becomeHeight kl_X1_66 (mo_35 G _) rfl rfl rfl rfl (Nat.le_of_ble_eq_true rfl) (mj_roomC (by decide) (by decide)) ⟨Nat.zero_le _, Nat.zero_le _⟩ dX1_become_38 ?_
    refine mj_goto C dX1_become_41 rfl ?_
    have hF := mj_oi hF; subst hF
    exact mj_vret C hr hlk dX1_become_80
  rw [if_neg hw1_0] at hF
  by_cases hw1_1 : p2 = 1
  · rw [if_pos hw1_1] at hF
    refine mj_tsIn (off := 43) C dX1_become_1 (by rw [hw1_1]; decide) (by rw [hw1_1]; decide) (by rw [hw1_1]; rfl) rfl ?_
    refine mj_aload_n C dX1_become_44 rfl ?_
    refine mg_X1_35 C dX1_become_45 ?_
    refine mj_iload_n C dX1_become_48 rfl ?_
    refine mj_iload_n C dX1_become_49 rfl ?_
    obtain ⟨r3, hq3, hF⟩ := mj_ob hF
    refine mj_callVv C (c_X5_becomeWay σ p1 p3 r3 hq3) yv_X5_becomeWay kl_X1_70 (mo_35 G _) rfl rfl rfl rfl (Nat.le_of_ble_eq_true rfl) (mj_roomC (by decide) (by decide)) ⟨Nat.zero_le _, Nat.zero_le _⟩ dX1_become_50 ?_
    refine mj_goto C dX1_become_53 rfl ?_
    have hF := mj_oi hF; subst hF
    exact mj_vret C hr hlk dX1_become_80
  rw [if_neg hw1_1] at hF
  by_cases hw1_2 : p2 = 2
  · rw [if_pos hw1_2] at hF
    refine mj_tsIn (off := 55) C dX1_become_1 (by rw [hw1_2]; decide) (by rw [hw1_2]; decide) (by rw [hw1_2]; rfl) rfl ?_
    refine mj_aload_n C dX1_become_56 rfl ?_
    refine mg_X1_31 C dX1_become_57 ?_
    refine mj_iload_n C dX1_become_60 rfl ?_
    refine mj_iload_n C dX1_become_61 rfl ?_
    obtain ⟨r4, hq4, hF⟩ := mj_ob hF
    refine mj_callVv C (c_X2_becomeLate σ p1 p3 r4 hq4) yv_X2_becomeLate kl_X1_73 (mo_9 G _) rfl rfl rfl rfl (Nat.le_of_ble_eq_true rfl) (mj_roomC (by decide) (by decide)) ⟨Nat.zero_le _, Nat.zero_le _⟩ dX1_become_62 ?_
    refine mj_goto C dX1_become_65 rfl ?_
    have hF := mj_oi hF; subst hF
    exact mj_vret C hr hlk dX1_become_80
  rw [if_neg hw1_2] at hF
  by_cases hw1_3 : p2 = 3
  · rw [if_pos hw1_3] at hF
    refine mj_tsIn (off := 67) C dX1_become_1 (by rw [hw1_3]; decide) (by rw [hw1_3]; decide) (by rw [hw1_3]; rfl) rfl ?_
    refine mj_aload_n C dX1_become_68 rfl ?_
    refine mg_X1_31 C dX1_become_69 ?_
    refine mj_iload_n C dX1_become_72 rfl ?_
    refine mj_iload_n C dX1_become_73 rfl ?_
    obtain ⟨r5, hq5, hF⟩ := mj_ob hF
    refine mj_callVv C (c_X2_becomeParents σ p1 p3 r5 hq5) yv_X2_becomeParents kl_X1_76 (mo_9 G _) rfl rfl rfl rfl (Nat.le_of_ble_eq_true rfl) (mj_roomC (by decide) (by decide)) ⟨Nat.zero_le _, Nat.zero_le _⟩ dX1_become_74 ?_
    refine mj_goto C dX1_become_77 rfl ?_
    have hF := mj_oi hF; subst hF
    exact mj_vret C hr hlk dX1_become_80
  rw [if_neg hw1_3] at hF
  refine mj_tsOut C dX1_become_1 (mj_sw_0_4 hw1_0 hw1_1 hw1_2 hw1_3) rfl ?_
  have hF := mj_oi hF; subst hF
  exact mj_vret C hr hlk dX1_become_80
set_option maxRecDepth 100000 in
set_option maxHeartbeats 4000000 in
theorem c_X1_dropOldest {G : mj_G} {l : Launch} (σ : mj_S) (R : mj_S) (hF : f_X1_dropOldest σ = some R) : mj_C G l yX1_dropOldest cX1_dropOldest 1 (none) 1 [.ref (G.2.1 45)] σ none R := by
  unfold f_X1_dropOldest at hF
  refine mj_of (ls := [(0, .ref (G.2.1 45))]) (by decide) (Nat.le_of_ble_eq_true rfl) rfl (fun p e s m args below meth c C hr hlk => ?_)
  refine mj_aload_n C dX1_dropOldest_0 rfl ?_
  refine mj_bipushV (v := 39) C dX1_dropOldest_1 mc_b_39 ?_
  refine mp_X1_24 C dX1_dropOldest_3 ?_
  refine mj_aload_n C dX1_dropOldest_6 rfl ?_
  refine mg_X1_11 C dX1_dropOldest_7 ?_
  refine mj_iconstV (v := 1) C dX1_dropOldest_10 mc_i_1 ?_
  refine mj_aload_n C dX1_dropOldest_11 rfl ?_
  refine mg_X1_11 C dX1_dropOldest_12 ?_
  refine mj_iconstV (v := 0) C dX1_dropOldest_15 mc_i_0 ?_
  refine mj_aload_n C dX1_dropOldest_16 rfl ?_
  refine mg_X1_24 C dX1_dropOldest_17 ?_
  obtain ⟨hg1, hF⟩ := mj_og hF
  refine mj_copyI C kl_X1_82 rfl rfl hg1 (mj_roomCp (by decide) (Nat.le_of_ble_eq_true rfl)) dX1_dropOldest_20 ?_
  refine mj_aload_n C dX1_dropOldest_23 rfl ?_
  refine mg_X1_15 C dX1_dropOldest_24 ?_
  refine mj_iconstV (v := 1) C dX1_dropOldest_27 mc_i_1 ?_
  refine mj_aload_n C dX1_dropOldest_28 rfl ?_
  refine mg_X1_15 C dX1_dropOldest_29 ?_
  refine mj_iconstV (v := 0) C dX1_dropOldest_32 mc_i_0 ?_
  refine mj_aload_n C dX1_dropOldest_33 rfl ?_
  refine mg_X1_24 C dX1_dropOldest_34 ?_
  obtain ⟨hg2, hF⟩ := mj_og hF
  refine mj_copyI C kl_X1_82 rfl rfl hg2 (mj_roomCp (by decide) (Nat.le_of_ble_eq_true rfl)) dX1_dropOldest_37 ?_
  refine mj_aload_n C dX1_dropOldest_40 rfl ?_
  refine mg_X1_18 C dX1_dropOldest_41 ?_
  refine mj_iconstV (v := 1) C dX1_dropOldest_44 mc_i_1 ?_
  refine mj_aload_n C dX1_dropOldest_45 rfl ?_
  refine mg_X1_18 C dX1_dropOldest_46 ?_
  refine mj_iconstV (v := 0) C dX1_dropOldest_49 mc_i_0 ?_
  refine mj_aload_n C dX1_dropOldest_50 rfl ?_
  refine mg_X1_24 C dX1_dropOldest_51 ?_
  obtain ⟨hg3, hF⟩ := mj_og hF
  refine mj_copyI C kl_X1_82 rfl rfl hg3 (mj_roomCp (by decide) (Nat.le_of_ble_eq_true rfl)) dX1_dropOldest_54 ?_
  refine mj_aload_n C dX1_dropOldest_57 rfl ?_
  refine mg_X1_21 C dX1_dropOldest_58 ?_
  refine mj_iconstV (v := 1) C dX1_dropOldest_61 mc_i_1 ?_
  refine mj_aload_n C dX1_dropOldest_62 rfl ?_
  refine mg_X1_21 C dX1_dropOldest_63 ?_
  refine mj_iconstV (v := 0) C dX1_dropOldest_66 mc_i_0 ?_
  refine mj_aload_n C dX1_dropOldest_67 rfl ?_
  refine mg_X1_24 C dX1_dropOldest_68 ?_
  obtain ⟨hg4, hF⟩ := mj_og hF
  refine mj_copyI C kl_X1_82 rfl rfl hg4 (mj_roomCp (by decide) (Nat.le_of_ble_eq_true rfl)) dX1_dropOldest_71 ?_
  have hF := mj_oi hF; subst hF
  exact mj_vret C hr hlk dX1_dropOldest_74
set_option maxRecDepth 100000 in
set_option maxHeartbeats 4000000 in
theorem w_X1_remember_13 {p : Program} {l : Launch} {e : Env} {s : State} {m : MethodId} {args : Array Value} {below : List Frame} {meth : Method} {c : Code} {G : mj_G} (C : mj_X p s m args meth c G cX1_remember 5 RX1) (hr : meth.sig.returnType = none) (hlk : meth.locks = false) : ∀ (v1 : Int32) (v2 : Int32) (v3 : Int32) (v4 : Int32) (σ : mj_S) (R : mj_S), b_X1_remember_13 v1 v2 v3 v4 σ = some R → mj_W p l e (mj_rm 2) s m args below meth c G 0 0 5 (MQ below (mj_Q G none R) args s 0 0 G.2.2.2) 13 [(0, .ref (G.2.1 45)), (1, .int v1), (2, .int v2), (3, .int v3), (4, .int v4)] [] σ := by
  intro v1 v2 v3 v4 σ R hF
  unfold b_X1_remember_13 at hF
  refine mj_aload_n C dX1_remember_13 rfl ?_
  refine mg_X1_11 C dX1_remember_14 ?_
  refine mj_aload_n C dX1_remember_17 rfl ?_
  refine mg_X1_24 C dX1_remember_18 ?_
  refine mj_iload_n C dX1_remember_21 rfl ?_
  obtain ⟨hg2, hF⟩ := mj_og hF
  refine mj_iastore C dX1_remember_22 rfl hg2 ?_
  refine mj_aload_n C dX1_remember_23 rfl ?_
  refine mg_X1_15 C dX1_remember_24 ?_
  refine mj_aload_n C dX1_remember_27 rfl ?_
  refine mg_X1_24 C dX1_remember_28 ?_
  refine mj_iload_n C dX1_remember_31 rfl ?_
  obtain ⟨hg3, hF⟩ := mj_og hF
  refine mj_iastore C dX1_remember_32 rfl hg3 ?_
  refine mj_aload_n C dX1_remember_33 rfl ?_
  refine mg_X1_18 C dX1_remember_34 ?_
  refine mj_aload_n C dX1_remember_37 rfl ?_
  refine mg_X1_24 C dX1_remember_38 ?_
  refine mj_iload_n C dX1_remember_41 rfl ?_
  obtain ⟨hg4, hF⟩ := mj_og hF
  refine mj_iastore C dX1_remember_42 rfl hg4 ?_
  refine mj_aload_n C dX1_remember_43 rfl ?_
  refine mg_X1_21 C dX1_remember_44 ?_
  refine mj_aload_n C dX1_remember_47 rfl ?_
  refine mg_X1_24 C dX1_remember_48 ?_
  refine mj_iload C dX1_remember_51 rfl ?_
  obtain ⟨hg5, hF⟩ := mj_og hF
  refine mj_iastore C dX1_remember_53 rfl hg5 ?_
  refine mj_aload_n C dX1_remember_54 rfl ?_
  refine mj_dup C dX1_remember_55 rfl ?_
  refine mg_X1_24 C dX1_remember_56 ?_
  refine mj_iconstV (v := 1) C dX1_remember_59 mc_i_1 ?_
  refine mj_iadd C dX1_remember_60 ?_
  refine mp_X1_24 C dX1_remember_61 ?_
  refine mj_aload_n C dX1_remember_64 rfl ?_
  refine mj_aload_n C dX1_remember_65 rfl ?_
  refine mg_X1_24 C dX1_remember_66 ?_
  refine mp_X1_28 C dX1_remember_69 ?_
  have hF := mj_oi hF; subst hF
  exact mj_vret C hr hlk dX1_remember_72
set_option maxRecDepth 100000 in
set_option maxHeartbeats 4000000 in
theorem c_X1_remember {G : mj_G} {l : Launch} (σ : mj_S) (p1 : Int32) (p2 : Int32) (p3 : Int32) (p4 : Int32) (R : mj_S) (hF : f_X1_remember σ p1 p2 p3 p4 = some R) : mj_C G l yX1_remember cX1_remember 5 (none) 2 [.ref (G.2.1 45), .int p1, .int p2, .int p3, .int p4] σ none R := by
  unfold f_X1_remember at hF
  refine mj_of (ls := [(0, .ref (G.2.1 45)), (1, .int p1), (2, .int p2), (3, .int p3), (4, .int p4)]) (by decide) (Nat.le_of_ble_eq_true rfl) rfl (fun p e s m args below meth c C hr hlk => ?_)
  refine mj_aload_n C dX1_remember_0 rfl ?_
  refine mg_X1_24 C dX1_remember_1 ?_
  refine mj_bipushV (v := 40) C dX1_remember_4 mc_b_40 ?_
  refine mj_ic_lt C dX1_remember_6 rfl hF (fun hc1 hF => ?_) (fun hc1 hF => ?_)
  · refine mj_to ?_ (w_X1_remember_13 C hr hlk p1 p2 p3 p4 σ R hF)
    exact ⟨rfl, rfl, rfl, rfl, rfl, trivial⟩
  · refine mj_aload_n C dX1_remember_9 rfl ?_
    obtain ⟨r6, hq6, hF⟩ := mj_ob hF
    refine mj_callVv C (c_X1_dropOldest σ r6 hq6) yv_X1_dropOldest kl_X1_79 (mo_45 G _) rfl rfl rfl rfl (Nat.le_of_ble_eq_true rfl) (mj_roomC (by decide) (by decide)) ⟨Nat.zero_le _, Nat.zero_le _⟩ dX1_remember_10 ?_
    refine mj_to ?_ (w_X1_remember_13 C hr hlk p1 p2 p3 p4 r6 R hF)
    exact ⟨rfl, rfl, rfl, rfl, rfl, trivial⟩
set_option maxRecDepth 100000 in
set_option maxHeartbeats 4000000 in
theorem c_X1_valueOf {G : mj_G} {l : Launch} (σ : mj_S) (p1 : Int32) (p2 : Int32) (R : Int32) (hF : f_X1_valueOf σ p1 p2 = some R) : mj_C G l yX1_valueOf cX1_valueOf 3 (some .int) 3 [.ref (G.2.1 45), .int p1, .int p2] σ (some (.int R)) σ := by
  unfold f_X1_valueOf at hF
  refine mj_of (ls := [(0, .ref (G.2.1 45)), (1, .int p1), (2, .int p2)]) (by decide) (Nat.le_of_ble_eq_true rfl) rfl (fun p e s m args below meth c C hr hlk => ?_)
  refine mj_iload_n C dX1_valueOf_0 rfl ?_
  by_cases hw1_0 : p2 = 0
  · rw [if_pos hw1_0] at hF
    refine mj_tsIn (off := 31) C dX1_valueOf_1 (by rw [hw1_0]; decide) (by rw [hw1_0]; decide) (by rw [hw1_0]; rfl) rfl ?_
    refine mj_aload_n C dX1_valueOf_32 rfl ?_
    refine mg_X1_35 C dX1_valueOf_33 ?_
    refine mj_iload_n C dX1_valueOf_36 rfl ?_
    obtain ⟨r2, hq2, hF⟩ := mj_ob hF
    refine mj_callVi C (c_X5_heightOf σ p1 r2 hq2) yv_X5_heightOf kl_X1_51 (mo_35 G _) rfl rfl rfl rfl (Nat.le_of_ble_eq_true rfl) (mj_roomC (by decide) (by decide)) ⟨Nat.zero_le _, Nat.zero_le _⟩ dX1_valueOf_37 ?_
    have hF := mj_oi hF; subst hF
    exact mj_iret C hr hlk dX1_valueOf_40
  rw [if_neg hw1_0] at hF
  by_cases hw1_1 : p2 = 1
  · rw [if_pos hw1_1] at hF
    refine mj_tsIn (off := 40) C dX1_valueOf_1 (by rw [hw1_1]; decide) (by rw [hw1_1]; decide) (by rw [hw1_1]; rfl) rfl ?_
    refine mj_aload_n C dX1_valueOf_41 rfl ?_
    refine mg_X1_35 C dX1_valueOf_42 ?_
    refine mj_iload_n C dX1_valueOf_45 rfl ?_
    obtain ⟨r3, hq3, hF⟩ := mj_ob hF
    refine mj_callVi C (c_X5_wayOf σ p1 r3 hq3) yv_X5_wayOf kl_X1_57 (mo_35 G _) rfl rfl rfl rfl (Nat.le_of_ble_eq_true rfl) (mj_roomC (by decide) (by decide)) ⟨Nat.zero_le _, Nat.zero_le _⟩ dX1_valueOf_46 ?_
    have hF := mj_oi hF; subst hF
    exact mj_iret C hr hlk dX1_valueOf_49
  rw [if_neg hw1_1] at hF
  by_cases hw1_2 : p2 = 2
  · rw [if_pos hw1_2] at hF
    refine mj_tsIn (off := 49) C dX1_valueOf_1 (by rw [hw1_2]; decide) (by rw [hw1_2]; decide) (by rw [hw1_2]; rfl) rfl ?_
    refine mj_aload_n C dX1_valueOf_50 rfl ?_
    refine mg_X1_31 C dX1_valueOf_51 ?_
    refine mj_iload_n C dX1_valueOf_54 rfl ?_
    refine mj_iconstV (v := 3) C dX1_valueOf_55 mc_i_3 ?_
    obtain ⟨r4, hq4, hF⟩ := mj_ob hF
    refine mj_callVi C (c_X2_told σ p1 3 r4 hq4) yv_X2_told kl_X1_60 (mo_9 G _) rfl rfl rfl rfl (Nat.le_of_ble_eq_true rfl) (mj_roomC (by decide) (by decide)) ⟨Nat.zero_le _, Nat.zero_le _⟩ dX1_valueOf_56 ?_
    have hF := mj_oi hF; subst hF
    exact mj_iret C hr hlk dX1_valueOf_59
  rw [if_neg hw1_2] at hF
  by_cases hw1_3 : p2 = 3
  · rw [if_pos hw1_3] at hF
    refine mj_tsIn (off := 59) C dX1_valueOf_1 (by rw [hw1_3]; decide) (by rw [hw1_3]; decide) (by rw [hw1_3]; rfl) rfl ?_
    refine mj_aload_n C dX1_valueOf_60 rfl ?_
    refine mg_X1_31 C dX1_valueOf_61 ?_
    refine mj_iload_n C dX1_valueOf_64 rfl ?_
    refine mj_iconstV (v := 4) C dX1_valueOf_65 mc_i_4 ?_
    obtain ⟨r5, hq5, hF⟩ := mj_ob hF
    refine mj_callVi C (c_X2_told σ p1 4 r5 hq5) yv_X2_told kl_X1_60 (mo_9 G _) rfl rfl rfl rfl (Nat.le_of_ble_eq_true rfl) (mj_roomC (by decide) (by decide)) ⟨Nat.zero_le _, Nat.zero_le _⟩ dX1_valueOf_66 ?_
    have hF := mj_oi hF; subst hF
    exact mj_iret C hr hlk dX1_valueOf_69
  rw [if_neg hw1_3] at hF
  refine mj_tsOut C dX1_valueOf_1 (mj_sw_0_4 hw1_0 hw1_1 hw1_2 hw1_3) rfl ?_
  refine mj_ldc C dX1_valueOf_70 kc_X1_65 ?_
  have hF := mj_oi hF; subst hF
  exact mj_iret C hr hlk dX1_valueOf_72
set_option maxRecDepth 100000 in
set_option maxHeartbeats 4000000 in
theorem c_X1_change {G : mj_G} {l : Launch} (σ : mj_S) (p1 : Int32) (p2 : Int32) (p3 : Int32) (R : (Int32 × mj_S)) (hF : f_X1_change σ p1 p2 p3 = some R) : mj_C G l yX1_change cX1_change 5 (some .int) 4 [.ref (G.2.1 45), .int p1, .int p2, .int p3] σ (some (.int R.1)) R.2 := by
  unfold f_X1_change at hF
  refine mj_of (ls := [(0, .ref (G.2.1 45)), (1, .int p1), (2, .int p2), (3, .int p3)]) (by decide) (Nat.le_of_ble_eq_true rfl) rfl (fun p e s m args below meth c C hr hlk => ?_)
  refine mj_aload_n C dX1_change_0 rfl ?_
  refine mj_iload_n C dX1_change_1 rfl ?_
  refine mj_iload_n C dX1_change_2 rfl ?_
  obtain ⟨r1, hq1, hF⟩ := mj_ob hF
  refine mj_callVi C (c_X1_valueOf σ p1 p2 r1 hq1) yv_X1_valueOf kl_X1_39 (mo_45 G _) rfl rfl rfl rfl (Nat.le_of_ble_eq_true rfl) (mj_roomC (by decide) (by decide)) ⟨Nat.zero_le _, Nat.zero_le _⟩ dX1_change_3 ?_
  refine mj_istore C dX1_change_6 (by decide) ?_
  refine mj_iload C dX1_change_8 rfl ?_
  refine mj_iload_n C dX1_change_10 rfl ?_
  refine mj_ic_eq C dX1_change_11 rfl hF (fun hc2 hF => ?_) (fun hc2 hF => ?_)
  · refine mj_iload C dX1_change_30 rfl ?_
    have hF := mj_oi hF; subst hF
    exact mj_iret C hr hlk dX1_change_32
  · refine mj_aload_n C dX1_change_14 rfl ?_
    refine mj_iload_n C dX1_change_15 rfl ?_
    refine mj_iload_n C dX1_change_16 rfl ?_
    refine mj_iload_n C dX1_change_17 rfl ?_
    obtain ⟨r3, hq3, hF⟩ := mj_ob hF
    refine mj_callVv C (c_X1_become σ p1 p2 p3 r3 hq3) yv_X1_become kl_X1_43 (mo_45 G _) rfl rfl rfl rfl (Nat.le_of_ble_eq_true rfl) (mj_roomC (by decide) (by decide)) ⟨Nat.zero_le _, Nat.zero_le _⟩ dX1_change_18 ?_
    refine mj_aload_n C dX1_change_21 rfl ?_
    refine mj_iload_n C dX1_change_22 rfl ?_
    refine mj_iload_n C dX1_change_23 rfl ?_
    refine mj_iload C dX1_change_24 rfl ?_
    refine mj_iload_n C dX1_change_26 rfl ?_
    obtain ⟨r4, hq4, hF⟩ := mj_ob hF
    refine mj_callVv C (c_X1_remember r3 p1 p2 r1 p3 r4 hq4) yv_X1_remember kl_X1_47 (mo_45 G _) rfl rfl rfl rfl (Nat.le_of_ble_eq_true rfl) (mj_roomC (by decide) (by decide)) ⟨Nat.zero_le _, Nat.zero_le _⟩ dX1_change_27 ?_
    refine mj_iload C dX1_change_30 rfl ?_
    have hF := mj_oi hF; subst hF
    exact mj_iret C hr hlk dX1_change_32
set_option maxRecDepth 100000 in
set_option maxHeartbeats 4000000 in
theorem c_X1_goBack {G : mj_G} {l : Launch} (σ : mj_S) (R : mj_S) (hF : f_X1_goBack σ = some R) : mj_C G l yX1_goBack cX1_goBack 1 (none) 4 [.ref (G.2.1 45)] σ none R := by
  unfold f_X1_goBack at hF
  refine mj_of (ls := [(0, .ref (G.2.1 45))]) (by decide) (Nat.le_of_ble_eq_true rfl) rfl (fun p e s m args below meth c C hr hlk => ?_)
  refine mj_aload_n C dX1_goBack_0 rfl ?_
  refine mg_X1_24 C dX1_goBack_1 ?_
  refine mj_if_le C dX1_goBack_4 rfl hF (fun hc1 hF => ?_) (fun hc1 hF => ?_)
  · have hF := mj_oi hF; subst hF
    exact mj_vret C hr hlk dX1_goBack_48
  · refine mj_aload_n C dX1_goBack_7 rfl ?_
    refine mj_dup C dX1_goBack_8 rfl ?_
    refine mg_X1_24 C dX1_goBack_9 ?_
    refine mj_iconstV (v := 1) C dX1_goBack_12 mc_i_1 ?_
    refine mj_isub C dX1_goBack_13 ?_
    refine mp_X1_24 C dX1_goBack_14 ?_
    refine mj_aload_n C dX1_goBack_17 rfl ?_
    refine mj_aload_n C dX1_goBack_18 rfl ?_
    refine mg_X1_11 C dX1_goBack_19 ?_
    refine mj_aload_n C dX1_goBack_22 rfl ?_
    refine mg_X1_24 C dX1_goBack_23 ?_
    obtain ⟨hg2, hF⟩ := mj_og hF
    refine mj_iaload C dX1_goBack_26 rfl hg2 ?_
    refine mj_aload_n C dX1_goBack_27 rfl ?_
    refine mg_X1_15 C dX1_goBack_28 ?_
    refine mj_aload_n C dX1_goBack_31 rfl ?_
    refine mg_X1_24 C dX1_goBack_32 ?_
    obtain ⟨hg3, hF⟩ := mj_og hF
    refine mj_iaload C dX1_goBack_35 rfl hg3 ?_
    refine mj_aload_n C dX1_goBack_36 rfl ?_
    refine mg_X1_18 C dX1_goBack_37 ?_
    refine mj_aload_n C dX1_goBack_40 rfl ?_
    refine mg_X1_24 C dX1_goBack_41 ?_
    obtain ⟨hg4, hF⟩ := mj_og hF
    refine mj_iaload C dX1_goBack_44 rfl hg4 ?_
    obtain ⟨r5, hq5, hF⟩ := mj_ob hF
    refine mj_callVv C (c_X1_become (mj_sI σ 45 6 ((σ.1 45 6) - 1)) (σ.1 46 ((σ.1 45 6) - 1).toNatClampNeg) (σ.1 47 ((σ.1 45 6) - 1).toNatClampNeg) (σ.1 48 ((σ.1 45 6) - 1).toNatClampNeg) r5 hq5) yv_X1_become kl_X1_43 (mo_45 G _) rfl rfl rfl rfl (Nat.le_of_ble_eq_true rfl) (mj_roomC (by decide) (by decide)) ⟨Nat.zero_le _, Nat.zero_le _⟩ dX1_goBack_45 ?_
    have hF := mj_oi hF; subst hF
    exact mj_vret C hr hlk dX1_goBack_48
set_option maxRecDepth 100000 in
set_option maxHeartbeats 4000000 in
theorem c_X1_goForward {G : mj_G} {l : Launch} (σ : mj_S) (R : mj_S) (hF : f_X1_goForward σ = some R) : mj_C G l yX1_goForward cX1_goForward 1 (none) 4 [.ref (G.2.1 45)] σ none R := by
  unfold f_X1_goForward at hF
  refine mj_of (ls := [(0, .ref (G.2.1 45))]) (by decide) (Nat.le_of_ble_eq_true rfl) rfl (fun p e s m args below meth c C hr hlk => ?_)
  refine mj_aload_n C dX1_goForward_0 rfl ?_
  refine mg_X1_24 C dX1_goForward_1 ?_
  refine mj_aload_n C dX1_goForward_4 rfl ?_
  refine mg_X1_28 C dX1_goForward_5 ?_
  refine mj_ic_ge C dX1_goForward_8 rfl hF (fun hc1 hF => ?_) (fun hc1 hF => ?_)
  · have hF := mj_oi hF; subst hF
    exact mj_vret C hr hlk dX1_goForward_61
  · refine mj_aload_n C dX1_goForward_11 rfl ?_
    refine mg_X1_24 C dX1_goForward_12 ?_
    refine mj_bipushV (v := 40) C dX1_goForward_15 mc_b_40 ?_
    refine mj_ic_ge C dX1_goForward_17 rfl hF (fun hc2 hF => ?_) (fun hc2 hF => ?_)
    · have hF := mj_oi hF; subst hF
      exact mj_vret C hr hlk dX1_goForward_61
    · refine mj_aload_n C dX1_goForward_20 rfl ?_
      refine mj_aload_n C dX1_goForward_21 rfl ?_
      refine mg_X1_11 C dX1_goForward_22 ?_
      refine mj_aload_n C dX1_goForward_25 rfl ?_
      refine mg_X1_24 C dX1_goForward_26 ?_
      obtain ⟨hg3, hF⟩ := mj_og hF
      refine mj_iaload C dX1_goForward_29 rfl hg3 ?_
      refine mj_aload_n C dX1_goForward_30 rfl ?_
      refine mg_X1_15 C dX1_goForward_31 ?_
      refine mj_aload_n C dX1_goForward_34 rfl ?_
      refine mg_X1_24 C dX1_goForward_35 ?_
      obtain ⟨hg4, hF⟩ := mj_og hF
      refine mj_iaload C dX1_goForward_38 rfl hg4 ?_
      refine mj_aload_n C dX1_goForward_39 rfl ?_
      refine mg_X1_21 C dX1_goForward_40 ?_
      refine mj_aload_n C dX1_goForward_43 rfl ?_
      refine mg_X1_24 C dX1_goForward_44 ?_
      obtain ⟨hg5, hF⟩ := mj_og hF
      refine mj_iaload C dX1_goForward_47 rfl hg5 ?_
      obtain ⟨r6, hq6, hF⟩ := mj_ob hF
      refine mj_callVv C (c_X1_become σ (σ.1 46 (σ.1 45 6).toNatClampNeg) (σ.1 47 (σ.1 45 6).toNatClampNeg) (σ.1 49 (σ.1 45 6).toNatClampNeg) r6 hq6) yv_X1_become kl_X1_43 (mo_45 G _) rfl rfl rfl rfl (Nat.le_of_ble_eq_true rfl) (mj_roomC (by decide) (by decide)) ⟨Nat.zero_le _, Nat.zero_le _⟩ dX1_goForward_48 ?_
      refine mj_aload_n C dX1_goForward_51 rfl ?_
      refine mj_dup C dX1_goForward_52 rfl ?_
      refine mg_X1_24 C dX1_goForward_53 ?_
      refine mj_iconstV (v := 1) C dX1_goForward_56 mc_i_1 ?_
      refine mj_iadd C dX1_goForward_57 ?_
      refine mp_X1_24 C dX1_goForward_58 ?_
      have hF := mj_oi hF; subst hF
      exact mj_vret C hr hlk dX1_goForward_61
set_option maxRecDepth 100000 in
set_option maxHeartbeats 4000000 in
theorem w_X3_find_137 {p : Program} {l : Launch} {e : Env} {s : State} {m : MethodId} {args : Array Value} {below : List Frame} {meth : Method} {c : Code} {G : mj_G} {K94 : Int32 → Int32 → Int32 → Int32 → Int32 → Int32 → Int32 → mj_S → Option (Int32 × mj_S)} (C : mj_X p s m args meth c G cX3_find 12 RX3) (hr : meth.sig.returnType = some .boolean) (hlk : meth.locks = false) (hK94 : ∀ (v1 : Int32) (v4 : Int32) (v6 : Int32) (v7 : Int32) (v8 : Int32) (v9 : Int32) (v10 : Int32) (σ : mj_S) (R : (Int32 × mj_S)), K94 v1 v4 v6 v7 v8 v9 v10 σ = some R → mj_W p l e (mj_rm 4) s m args below meth c G 0 0 12 (MQ below (mj_Q G (some (.int R.1)) R.2) args s 0 0 G.2.2.2) 94 [(0, .ref (G.2.1 40)), (1, .int v1), (4, .int v4), (6, .int v6), (7, .int v7), (8, .int v8), (9, .int v9), (10, .int v10)] [] σ) : ∀ (v1 : Int32) (v4 : Int32) (v6 : Int32) (v7 : Int32) (v8 : Int32) (v9 : Int32) (v10 : Int32) (v11 : Int32) (σ : mj_S) (R : (Int32 × mj_S)), b_X3_find_137 K94 v1 v4 v6 v7 v8 v9 v10 v11 σ = some R → mj_W p l e (mj_rm 4) s m args below meth c G 0 0 12 (MQ below (mj_Q G (some (.int R.1)) R.2) args s 0 0 G.2.2.2) 137 [(0, .ref (G.2.1 40)), (1, .int v1), (4, .int v4), (6, .int v6), (7, .int v7), (8, .int v8), (9, .int v9), (10, .int v10), (11, .int v11)] [] σ := by
  intro v1 v4 v6 v7 v8 v9 v10 v11 σ R hF
  unfold b_X3_find_137 at hF
  refine mj_aload_n C dX3_find_137 rfl ?_
  refine mj_iload C dX3_find_138 rfl ?_
  refine mp_X3_9 C dX3_find_140 ?_
  refine mj_aload_n C dX3_find_143 rfl ?_
  refine mj_iload C dX3_find_144 rfl ?_
  refine mp_X3_15 C dX3_find_146 ?_
  refine mj_aload_n C dX3_find_149 rfl ?_
  refine mj_iload C dX3_find_150 rfl ?_
  refine mp_X3_18 C dX3_find_152 ?_
  refine mj_iinc (v := v10 + 1) C dX3_find_155 rfl rfl (by decide) ?_
  refine mj_goto C dX3_find_158 rfl ?_
  refine mj_to ?_ (hK94 v1 v4 v6 v7 v8 v9 (v10 + 1) (mj_sI (mj_sI (mj_sI σ 40 2 v10) 40 3 v9) 40 4 v11) R hF)
  exact ⟨rfl, rfl, rfl, rfl, rfl, rfl, rfl, rfl, trivial⟩
set_option maxRecDepth 100000 in
set_option maxHeartbeats 4000000 in
theorem w_X3_find_94 {p : Program} {l : Launch} {e : Env} {s : State} {m : MethodId} {args : Array Value} {below : List Frame} {meth : Method} {c : Code} {G : mj_G} {K83 : Int32 → Int32 → Int32 → Int32 → Int32 → Int32 → mj_S → Option (Int32 × mj_S)} (C : mj_X p s m args meth c G cX3_find 12 RX3) (hr : meth.sig.returnType = some .boolean) (hlk : meth.locks = false) (hK83 : ∀ (v1 : Int32) (v4 : Int32) (v6 : Int32) (v7 : Int32) (v8 : Int32) (v9 : Int32) (σ : mj_S) (R : (Int32 × mj_S)), K83 v1 v4 v6 v7 v8 v9 σ = some R → mj_W p l e (mj_rm 4) s m args below meth c G 0 0 12 (MQ below (mj_Q G (some (.int R.1)) R.2) args s 0 0 G.2.2.2) 83 [(0, .ref (G.2.1 40)), (1, .int v1), (4, .int v4), (6, .int v6), (7, .int v7), (8, .int v8), (9, .int v9)] [] σ) : ∀ (n : Nat) (v1 : Int32) (v4 : Int32) (v6 : Int32) (v7 : Int32) (v8 : Int32) (v9 : Int32) (v10 : Int32) (σ : mj_S) (R : (Int32 × mj_S)), b_X3_find_94 K83 n v1 v4 v6 v7 v8 v9 v10 σ = some R → mj_W p l e (mj_rm 4) s m args below meth c G 0 0 12 (MQ below (mj_Q G (some (.int R.1)) R.2) args s 0 0 G.2.2.2) 94 [(0, .ref (G.2.1 40)), (1, .int v1), (4, .int v4), (6, .int v6), (7, .int v7), (8, .int v8), (9, .int v9), (10, .int v10)] [] σ := by
  intro n
  induction n with
  | zero =>
    intro v1 v4 v6 v7 v8 v9 v10 σ R hF
    cases hF
  | succ n ih =>
    intro v1 v4 v6 v7 v8 v9 v10 σ R hF
    rw [b_X3_find_94] at hF
    refine mj_iload C dX3_find_94 rfl ?_
    refine mj_iload C dX3_find_96 rfl ?_
    refine mj_ic_gt C dX3_find_98 rfl hF (fun hc7 hF => ?_) (fun hc7 hF => ?_)
    · refine mj_iinc (v := v9 + 1) C dX3_find_161 rfl rfl (by decide) ?_
      refine mj_goto C dX3_find_164 rfl ?_
      refine mj_to ?_ (hK83 v1 v4 v6 v7 v8 (v9 + 1) σ R hF)
      exact ⟨rfl, rfl, rfl, rfl, rfl, rfl, rfl, trivial⟩
    · refine mj_aload_n C dX3_find_101 rfl ?_
      refine mj_iload_n C dX3_find_102 rfl ?_
      refine mj_iload C dX3_find_103 rfl ?_
      refine mj_iload C dX3_find_105 rfl ?_
      refine mj_iload C dX3_find_107 rfl ?_
      obtain ⟨r8, hq8, hF⟩ := mj_ob hF
      refine mj_callVi C (c_X3_distance σ v1 v10 v9 v4 r8 hq8) yv_X3_distance kl_X3_96 (mo_40 G _) rfl rfl rfl rfl (Nat.le_of_ble_eq_true rfl) (mj_roomC (by decide) (by decide)) ⟨Nat.zero_le _, Nat.zero_le _⟩ dX3_find_109 ?_
      refine mj_istore C dX3_find_112 (by decide) ?_
      refine mj_iload C dX3_find_114 rfl ?_
      refine mj_bipushV (v := (-2)) C dX3_find_116 mc_b_m2 ?_
      refine mj_ic_eq C dX3_find_118 rfl hF (fun hc9 hF => ?_) (fun hc9 hF => ?_)
      · refine mj_iinc (v := v10 + 1) C dX3_find_155 rfl rfl (by decide) ?_
        refine mj_goto C dX3_find_158 rfl ?_
        refine mj_to ?_ (ih v1 v4 v6 v7 v8 v9 (v10 + 1) σ R hF)
        exact ⟨rfl, rfl, rfl, rfl, rfl, rfl, rfl, rfl, trivial⟩
      · refine mj_aload_n C dX3_find_121 rfl ?_
        refine mg_X3_9 C dX3_find_122 ?_
        refine mj_if_lt C dX3_find_125 rfl hF (fun hc10 hF => ?_) (fun hc10 hF => ?_)
        · refine mj_to ?_ (w_X3_find_137 C hr hlk ih v1 v4 v6 v7 v8 v9 v10 r8 σ R hF)
          exact ⟨rfl, rfl, rfl, rfl, rfl, rfl, rfl, rfl, rfl, trivial⟩
        · refine mj_iload C dX3_find_128 rfl ?_
          refine mj_aload_n C dX3_find_130 rfl ?_
          refine mg_X3_18 C dX3_find_131 ?_
          refine mj_ic_ge C dX3_find_134 rfl hF (fun hc11 hF => ?_) (fun hc11 hF => ?_)
          · refine mj_iinc (v := v10 + 1) C dX3_find_155 rfl rfl (by decide) ?_
            refine mj_goto C dX3_find_158 rfl ?_
            refine mj_to ?_ (ih v1 v4 v6 v7 v8 v9 (v10 + 1) σ R hF)
            exact ⟨rfl, rfl, rfl, rfl, rfl, rfl, rfl, rfl, trivial⟩
          · refine mj_to ?_ (w_X3_find_137 C hr hlk ih v1 v4 v6 v7 v8 v9 v10 r8 σ R hF)
            exact ⟨rfl, rfl, rfl, rfl, rfl, rfl, rfl, rfl, rfl, trivial⟩
set_option maxRecDepth 100000 in
set_option maxHeartbeats 4000000 in
theorem w_X3_find_83 {p : Program} {l : Launch} {e : Env} {s : State} {m : MethodId} {args : Array Value} {below : List Frame} {meth : Method} {c : Code} {G : mj_G} (C : mj_X p s m args meth c G cX3_find 12 RX3) (hr : meth.sig.returnType = some .boolean) (hlk : meth.locks = false) : ∀ (n : Nat) (v1 : Int32) (v4 : Int32) (v6 : Int32) (v7 : Int32) (v8 : Int32) (v9 : Int32) (σ : mj_S) (R : (Int32 × mj_S)), b_X3_find_83 n v1 v4 v6 v7 v8 v9 σ = some R → mj_W p l e (mj_rm 4) s m args below meth c G 0 0 12 (MQ below (mj_Q G (some (.int R.1)) R.2) args s 0 0 G.2.2.2) 83 [(0, .ref (G.2.1 40)), (1, .int v1), (4, .int v4), (6, .int v6), (7, .int v7), (8, .int v8), (9, .int v9)] [] σ := by
  intro n
  induction n with
  | zero =>
    intro v1 v4 v6 v7 v8 v9 σ R hF
    cases hF
  | succ n ih =>
    intro v1 v4 v6 v7 v8 v9 σ R hF
    rw [b_X3_find_83] at hF
    refine mj_iload C dX3_find_83 rfl ?_
    refine mj_iload C dX3_find_85 rfl ?_
    refine mj_ic_gt C dX3_find_87 rfl hF (fun hc5 hF => ?_) (fun hc5 hF => ?_)
    · refine mj_aload_n C dX3_find_167 rfl ?_
      refine mg_X3_9 C dX3_find_168 ?_
      refine mj_if_lt C dX3_find_171 rfl hF (fun hc6 hF => ?_) (fun hc6 hF => ?_)
      · refine mj_iconstV (v := 0) C dX3_find_178 mc_i_0 ?_
        have hF := mj_oi hF; subst hF
        exact mj_zret (v := 0) rfl C hr hlk dX3_find_179
      · refine mj_iconstV (v := 1) C dX3_find_174 mc_i_1 ?_
        refine mj_goto C dX3_find_175 rfl ?_
        have hF := mj_oi hF; subst hF
        exact mj_zret (v := 1) rfl C hr hlk dX3_find_179
    · refine mj_iload C dX3_find_90 rfl ?_
      refine mj_istore C dX3_find_92 (by decide) ?_
      refine mj_to ?_ (w_X3_find_94 C hr hlk ih mj_fu v1 v4 v6 v7 v8 v9 v7 σ R hF)
      exact ⟨rfl, rfl, rfl, rfl, rfl, rfl, rfl, rfl, trivial⟩
set_option maxRecDepth 100000 in
set_option maxHeartbeats 4000000 in
theorem w_X3_find_51 {p : Program} {l : Launch} {e : Env} {s : State} {m : MethodId} {args : Array Value} {below : List Frame} {meth : Method} {c : Code} {G : mj_G} (C : mj_X p s m args meth c G cX3_find 12 RX3) (hr : meth.sig.returnType = some .boolean) (hlk : meth.locks = false) : ∀ (v1 : Int32) (v2 : Int32) (v4 : Int32) (v5 : Int32) (v6 : Int32) (t0 : Int32) (σ : mj_S) (R : (Int32 × mj_S)), b_X3_find_51 v1 v2 v4 v5 v6 t0 σ = some R → mj_W p l e (mj_rm 4) s m args below meth c G 0 0 12 (MQ below (mj_Q G (some (.int R.1)) R.2) args s 0 0 G.2.2.2) 51 [(0, .ref (G.2.1 40)), (1, .int v1), (2, .int v2), (4, .int v4), (5, .int v5), (6, .int v6)] [.int t0] σ := by
  intro v1 v2 v4 v5 v6 t0 σ R hF
  unfold b_X3_find_51 at hF
  refine mj_istore C dX3_find_51 (by decide) ?_
  refine mj_aload_n C dX3_find_53 rfl ?_
  refine mg_X3_37 C dX3_find_54 ?_
  refine mj_iload_n C dX3_find_57 rfl ?_
  refine mj_callVi C (c_X2_has σ v2) yv_X2_has kl_X3_89 (mo_9 G _) rfl rfl rfl rfl (Nat.le_of_ble_eq_true rfl) (mj_roomC (by decide) (by decide)) ⟨Nat.zero_le _, Nat.zero_le _⟩ dX3_find_58 ?_
  refine mj_if_eq C dX3_find_61 rfl hF (fun hc4 hF => ?_) (fun hc4 hF => ?_)
  · refine mj_aload_n C dX3_find_68 rfl ?_
    refine mg_X3_37 C dX3_find_69 ?_
    refine mj_callVi C (c_X2_size σ) yv_X2_size kl_X3_92 (mo_9 G _) rfl rfl rfl rfl (Nat.le_of_ble_eq_true rfl) (mj_roomC (by decide) (by decide)) ⟨Nat.zero_le _, Nat.zero_le _⟩ dX3_find_72 ?_
    refine mj_iconstV (v := 1) C dX3_find_75 mc_i_1 ?_
    refine mj_isub C dX3_find_76 ?_
    refine mj_istore C dX3_find_77 (by decide) ?_
    refine mj_iload C dX3_find_79 rfl ?_
    refine mj_istore C dX3_find_81 (by decide) ?_
    refine mj_to ?_ (w_X3_find_83 C hr hlk mj_fu v1 v4 v6 t0 ((f_X2_size σ) - 1) v5 σ R hF)
    exact ⟨rfl, rfl, rfl, rfl, rfl, rfl, rfl, trivial⟩
  · refine mj_iload_n C dX3_find_64 rfl ?_
    refine mj_goto C dX3_find_65 rfl ?_
    refine mj_istore C dX3_find_77 (by decide) ?_
    refine mj_iload C dX3_find_79 rfl ?_
    refine mj_istore C dX3_find_81 (by decide) ?_
    refine mj_to ?_ (w_X3_find_83 C hr hlk mj_fu v1 v4 v6 t0 v2 v5 σ R hF)
    exact ⟨rfl, rfl, rfl, rfl, rfl, rfl, rfl, trivial⟩
set_option maxRecDepth 100000 in
set_option maxHeartbeats 4000000 in
theorem w_X3_find_33 {p : Program} {l : Launch} {e : Env} {s : State} {m : MethodId} {args : Array Value} {below : List Frame} {meth : Method} {c : Code} {G : mj_G} (C : mj_X p s m args meth c G cX3_find 12 RX3) (hr : meth.sig.returnType = some .boolean) (hlk : meth.locks = false) : ∀ (v1 : Int32) (v2 : Int32) (v4 : Int32) (v5 : Int32) (t0 : Int32) (σ : mj_S) (R : (Int32 × mj_S)), b_X3_find_33 v1 v2 v4 v5 t0 σ = some R → mj_W p l e (mj_rm 4) s m args below meth c G 0 0 12 (MQ below (mj_Q G (some (.int R.1)) R.2) args s 0 0 G.2.2.2) 33 [(0, .ref (G.2.1 40)), (1, .int v1), (2, .int v2), (4, .int v4), (5, .int v5)] [.int t0] σ := by
  intro v1 v2 v4 v5 t0 σ R hF
  unfold b_X3_find_33 at hF
  refine mj_istore C dX3_find_33 (by decide) ?_
  refine mj_aload_n C dX3_find_35 rfl ?_
  refine mg_X3_37 C dX3_find_36 ?_
  refine mj_iload_n C dX3_find_39 rfl ?_
  refine mj_callVi C (c_X2_has σ v2) yv_X2_has kl_X3_89 (mo_9 G _) rfl rfl rfl rfl (Nat.le_of_ble_eq_true rfl) (mj_roomC (by decide) (by decide)) ⟨Nat.zero_le _, Nat.zero_le _⟩ dX3_find_40 ?_
  refine mj_if_eq C dX3_find_43 rfl hF (fun hc3 hF => ?_) (fun hc3 hF => ?_)
  · refine mj_iconstV (v := 0) C dX3_find_50 mc_i_0 ?_
    refine mj_to ?_ (w_X3_find_51 C hr hlk v1 v2 v4 v5 t0 0 σ R hF)
    exact ⟨rfl, rfl, rfl, rfl, rfl, rfl, trivial⟩
  · refine mj_iload_n C dX3_find_46 rfl ?_
    refine mj_goto C dX3_find_47 rfl ?_
    refine mj_to ?_ (w_X3_find_51 C hr hlk v1 v2 v4 v5 t0 v2 σ R hF)
    exact ⟨rfl, rfl, rfl, rfl, rfl, rfl, trivial⟩
set_option maxRecDepth 100000 in
set_option maxHeartbeats 4000000 in
theorem w_X3_find_17 {p : Program} {l : Launch} {e : Env} {s : State} {m : MethodId} {args : Array Value} {below : List Frame} {meth : Method} {c : Code} {G : mj_G} (C : mj_X p s m args meth c G cX3_find 12 RX3) (hr : meth.sig.returnType = some .boolean) (hlk : meth.locks = false) : ∀ (v1 : Int32) (v2 : Int32) (v3 : Int32) (v4 : Int32) (t0 : Int32) (σ : mj_S) (R : (Int32 × mj_S)), b_X3_find_17 v1 v2 v3 v4 t0 σ = some R → mj_W p l e (mj_rm 4) s m args below meth c G 0 0 12 (MQ below (mj_Q G (some (.int R.1)) R.2) args s 0 0 G.2.2.2) 17 [(0, .ref (G.2.1 40)), (1, .int v1), (2, .int v2), (3, .int v3), (4, .int v4)] [.int t0] σ := by
  intro v1 v2 v3 v4 t0 σ R hF
  unfold b_X3_find_17 at hF
  refine mj_istore C dX3_find_17 (by decide) ?_
  refine mj_iload_n C dX3_find_19 rfl ?_
  refine mj_callNi C (c_X9_isMonth σ v3) ys_X9_isMonth kn_X3_85 rfl rfl (Nat.le_of_ble_eq_true rfl) (mj_roomC (by decide) (by decide)) ⟨Nat.zero_le _, Nat.zero_le _⟩ dX3_find_20 ?_
  refine mj_if_eq C dX3_find_23 rfl hF (fun hc2 hF => ?_) (fun hc2 hF => ?_)
  · refine mj_sipushV (v := 599) C dX3_find_30 mc_s_599 ?_
    refine mj_to ?_ (w_X3_find_33 C hr hlk v1 v2 v4 t0 599 σ R hF)
    exact ⟨rfl, rfl, rfl, rfl, rfl, trivial⟩
  · refine mj_iload_n C dX3_find_26 rfl ?_
    refine mj_goto C dX3_find_27 rfl ?_
    refine mj_to ?_ (w_X3_find_33 C hr hlk v1 v2 v4 t0 v3 σ R hF)
    exact ⟨rfl, rfl, rfl, rfl, rfl, trivial⟩
set_option maxRecDepth 100000 in
set_option maxHeartbeats 4000000 in
theorem c_X3_find {G : mj_G} {l : Launch} (σ : mj_S) (p1 : Int32) (p2 : Int32) (p3 : Int32) (p4 : Int32) (R : (Int32 × mj_S)) (hF : f_X3_find σ p1 p2 p3 p4 = some R) : mj_C G l yX3_find cX3_find 12 (some .boolean) 4 [.ref (G.2.1 40), .int p1, .int p2, .int p3, .int p4] σ (some (.int R.1)) R.2 := by
  unfold f_X3_find at hF
  refine mj_of (ls := [(0, .ref (G.2.1 40)), (1, .int p1), (2, .int p2), (3, .int p3), (4, .int p4)]) (by decide) (Nat.le_of_ble_eq_true rfl) rfl (fun p e s m args below meth c C hr hlk => ?_)
  refine mj_aload_n C dX3_find_0 rfl ?_
  refine mj_iconstV (v := (-1)) C dX3_find_1 mc_i_m1 ?_
  refine mp_X3_9 C dX3_find_2 ?_
  refine mj_iload_n C dX3_find_5 rfl ?_
  refine mj_callNi C (c_X9_isMonth (mj_sI σ 40 2 (-1)) p3) ys_X9_isMonth kn_X3_85 rfl rfl (Nat.le_of_ble_eq_true rfl) (mj_roomC (by decide) (by decide)) ⟨Nat.zero_le _, Nat.zero_le _⟩ dX3_find_6 ?_
  refine mj_if_eq C dX3_find_9 rfl hF (fun hc1 hF => ?_) (fun hc1 hF => ?_)
  · refine mj_iconstV (v := 0) C dX3_find_16 mc_i_0 ?_
    refine mj_to ?_ (w_X3_find_17 C hr hlk p1 p2 p3 p4 0 (mj_sI σ 40 2 (-1)) R hF)
    exact ⟨rfl, rfl, rfl, rfl, rfl, trivial⟩
  · refine mj_iload_n C dX3_find_12 rfl ?_
    refine mj_goto C dX3_find_13 rfl ?_
    refine mj_to ?_ (w_X3_find_17 C hr hlk p1 p2 p3 p4 p3 (mj_sI σ 40 2 (-1)) R hF)
    exact ⟨rfl, rfl, rfl, rfl, rfl, trivial⟩
set_option maxRecDepth 100000 in
set_option maxHeartbeats 4000000 in
theorem c_X3_findFor {G : mj_G} {l : Launch} (σ : mj_S) (p1 : Int32) (R : (Int32 × mj_S)) (hF : f_X3_findFor σ p1 = some R) : mj_C G l yX3_findFor cX3_findFor 2 (some .boolean) 5 [.ref (G.2.1 40), .int p1] σ (some (.int R.1)) R.2 := by
  unfold f_X3_findFor at hF
  refine mj_of (ls := [(0, .ref (G.2.1 40)), (1, .int p1)]) (by decide) (Nat.le_of_ble_eq_true rfl) rfl (fun p e s m args below meth c C hr hlk => ?_)
  refine mj_aload_n C dX3_findFor_0 rfl ?_
  refine mj_aload_n C dX3_findFor_1 rfl ?_
  refine mg_X3_41 C dX3_findFor_2 ?_
  refine mj_iload_n C dX3_findFor_5 rfl ?_
  obtain ⟨r1, hq1, hF⟩ := mj_ob hF
  refine mj_callVi C (c_X5_heightOf σ p1 r1 hq1) yv_X5_heightOf kl_X3_67 (mo_35 G _) rfl rfl rfl rfl (Nat.le_of_ble_eq_true rfl) (mj_roomC (by decide) (by decide)) ⟨Nat.zero_le _, Nat.zero_le _⟩ dX3_findFor_6 ?_
  refine mj_aload_n C dX3_findFor_9 rfl ?_
  refine mg_X3_41 C dX3_findFor_10 ?_
  refine mj_iload_n C dX3_findFor_13 rfl ?_
  obtain ⟨r2, hq2, hF⟩ := mj_ob hF
  refine mj_callVi C (c_X5_nameOf σ p1 r2 hq2) yv_X5_nameOf kl_X3_72 (mo_35 G _) rfl rfl rfl rfl (Nat.le_of_ble_eq_true rfl) (mj_roomC (by decide) (by decide)) ⟨Nat.zero_le _, Nat.zero_le _⟩ dX3_findFor_14 ?_
  refine mj_aload_n C dX3_findFor_17 rfl ?_
  refine mg_X3_41 C dX3_findFor_18 ?_
  refine mj_iload_n C dX3_findFor_21 rfl ?_
  obtain ⟨r3, hq3, hF⟩ := mj_ob hF
  refine mj_callVi C (c_X5_monthOf σ p1 r3 hq3) yv_X5_monthOf kl_X3_75 (mo_35 G _) rfl rfl rfl rfl (Nat.le_of_ble_eq_true rfl) (mj_roomC (by decide) (by decide)) ⟨Nat.zero_le _, Nat.zero_le _⟩ dX3_findFor_22 ?_
  refine mj_aload_n C dX3_findFor_25 rfl ?_
  refine mg_X3_41 C dX3_findFor_26 ?_
  refine mj_iload_n C dX3_findFor_29 rfl ?_
  obtain ⟨r4, hq4, hF⟩ := mj_ob hF
  refine mj_callVi C (c_X5_wayOf σ p1 r4 hq4) yv_X5_wayOf kl_X3_78 (mo_35 G _) rfl rfl rfl rfl (Nat.le_of_ble_eq_true rfl) (mj_roomC (by decide) (by decide)) ⟨Nat.zero_le _, Nat.zero_le _⟩ dX3_findFor_30 ?_
  obtain ⟨r5, hq5, hF⟩ := mj_ob hF
  refine mj_callVi C (c_X3_find σ r1 r2 r3 r4 r5 hq5) yv_X3_find kl_X3_81 (mo_40 G _) rfl rfl rfl rfl (Nat.le_of_ble_eq_true rfl) (mj_roomC (by decide) (by decide)) ⟨Nat.zero_le _, Nat.zero_le _⟩ dX3_findFor_33 ?_
  have hF := mj_oi hF; subst hF
  exact mj_zbret C hr hlk dX3_findFor_36
set_option maxRecDepth 100000 in
set_option maxHeartbeats 4000000 in
theorem w_X3_leadingTo_4 {p : Program} {l : Launch} {e : Env} {s : State} {m : MethodId} {args : Array Value} {below : List Frame} {meth : Method} {c : Code} {G : mj_G} (C : mj_X p s m args meth c G cX3_leadingTo 4 RX3) (hr : meth.sig.returnType = some .int) (hlk : meth.locks = false) : ∀ (n : Nat) (v1 : Int32) (v2 : Int32) (v3 : Int32) (σ : mj_S) (R : (Int32 × mj_S)), b_X3_leadingTo_4 n v1 v2 v3 σ = some R → mj_W p l e (mj_rm 6) s m args below meth c G 0 0 4 (MQ below (mj_Q G (some (.int R.1)) R.2) args s 0 0 G.2.2.2) 4 [(0, .ref (G.2.1 40)), (1, .int v1), (2, .int v2), (3, .int v3)] [] σ := by
  intro n
  induction n with
  | zero =>
    intro v1 v2 v3 σ R hF
    cases hF
  | succ n ih =>
    intro v1 v2 v3 σ R hF
    rw [b_X3_leadingTo_4] at hF
    refine mj_iload_n C dX3_leadingTo_4 rfl ?_
    refine mj_aload_n C dX3_leadingTo_5 rfl ?_
    refine mg_X3_41 C dX3_leadingTo_6 ?_
    refine mj_callVi C (c_X5_size σ) yv_X5_size kl_X3_100 (mo_35 G _) rfl rfl rfl rfl (Nat.le_of_ble_eq_true rfl) (mj_roomC (by decide) (by decide)) ⟨Nat.zero_le _, Nat.zero_le _⟩ dX3_leadingTo_9 ?_
    refine mj_ic_ge C dX3_leadingTo_12 rfl hF (fun hc1 hF => ?_) (fun hc1 hF => ?_)
    · refine mj_iload_n C dX3_leadingTo_40 rfl ?_
      have hF := mj_oi hF; subst hF
      exact mj_iret C hr hlk dX3_leadingTo_41
    · refine mj_aload_n C dX3_leadingTo_15 rfl ?_
      refine mj_iload_n C dX3_leadingTo_16 rfl ?_
      obtain ⟨r2, hq2, hF⟩ := mj_ob hF
      refine mj_callVi C (c_X3_findFor σ v3 r2 hq2) yv_X3_findFor kl_X3_101 (mo_40 G _) rfl rfl rfl rfl (Nat.le_of_ble_eq_true rfl) (mj_roomC (by decide) (by decide)) ⟨Nat.zero_le _, Nat.zero_le _⟩ dX3_leadingTo_17 ?_
      refine mj_if_eq C dX3_leadingTo_20 rfl hF (fun hc3 hF => ?_) (fun hc3 hF => ?_)
      · refine mj_iinc (v := v3 + 1) C dX3_leadingTo_34 rfl rfl (by decide) ?_
        refine mj_goto C dX3_leadingTo_37 rfl ?_
        refine mj_to ?_ (ih v1 v2 (v3 + 1) r2.2 R hF)
        exact ⟨rfl, rfl, rfl, rfl, trivial⟩
      · refine mj_aload_n C dX3_leadingTo_23 rfl ?_
        refine mg_X3_9 C dX3_leadingTo_24 ?_
        refine mj_iload_n C dX3_leadingTo_27 rfl ?_
        refine mj_ic_ne C dX3_leadingTo_28 rfl hF (fun hc4 hF => ?_) (fun hc4 hF => ?_)
        · refine mj_iinc (v := v3 + 1) C dX3_leadingTo_34 rfl rfl (by decide) ?_
          refine mj_goto C dX3_leadingTo_37 rfl ?_
          refine mj_to ?_ (ih v1 v2 (v3 + 1) r2.2 R hF)
          exact ⟨rfl, rfl, rfl, rfl, trivial⟩
        · refine mj_iinc (v := v2 + 1) C dX3_leadingTo_31 rfl rfl (by decide) ?_
          refine mj_iinc (v := v3 + 1) C dX3_leadingTo_34 rfl rfl (by decide) ?_
          refine mj_goto C dX3_leadingTo_37 rfl ?_
          refine mj_to ?_ (ih v1 (v2 + 1) (v3 + 1) r2.2 R hF)
          exact ⟨rfl, rfl, rfl, rfl, trivial⟩
set_option maxRecDepth 100000 in
set_option maxHeartbeats 4000000 in
theorem c_X3_leadingTo {G : mj_G} {l : Launch} (σ : mj_S) (p1 : Int32) (R : (Int32 × mj_S)) (hF : f_X3_leadingTo σ p1 = some R) : mj_C G l yX3_leadingTo cX3_leadingTo 4 (some .int) 6 [.ref (G.2.1 40), .int p1] σ (some (.int R.1)) R.2 := by
  unfold f_X3_leadingTo at hF
  refine mj_of (ls := [(0, .ref (G.2.1 40)), (1, .int p1)]) (by decide) (Nat.le_of_ble_eq_true rfl) rfl (fun p e s m args below meth c C hr hlk => ?_)
  refine mj_iconstV (v := 0) C dX3_leadingTo_0 mc_i_0 ?_
  refine mj_istore_n C dX3_leadingTo_1 (by decide) ?_
  refine mj_iconstV (v := 0) C dX3_leadingTo_2 mc_i_0 ?_
  refine mj_istore_n C dX3_leadingTo_3 (by decide) ?_
  refine mj_to ?_ (w_X3_leadingTo_4 C hr hlk mj_fu p1 0 0 σ R hF)
  exact ⟨rfl, rfl, rfl, rfl, trivial⟩
set_option maxRecDepth 100000 in
set_option maxHeartbeats 4000000 in
theorem w_X3_weight_45 {p : Program} {l : Launch} {e : Env} {s : State} {m : MethodId} {args : Array Value} {below : List Frame} {meth : Method} {c : Code} {G : mj_G} {σ : mj_S} (C : mj_X p s m args meth c G cX3_weight 6 RX3) (hr : meth.sig.returnType = some .int) (hlk : meth.locks = false) : ∀ (v1 : Int32) (v2 : Int32) (v4 : Int32) (R : Int32), b_X3_weight_45 σ v1 v2 v4 = some R → mj_W p l e (mj_rm 4) s m args below meth c G 0 0 6 (MQ below (mj_Q G (some (.int R)) σ) args s 0 0 G.2.2.2) 45 [(0, .ref (G.2.1 40)), (1, .int v1), (2, .int v2), (4, .int v4)] [] σ := by
  intro v1 v2 v4 R hF
  unfold b_X3_weight_45 at hF
  refine mj_aload_n C dX3_weight_45 rfl ?_
  refine mj_aload_n C dX3_weight_46 rfl ?_
  refine mg_X3_41 C dX3_weight_47 ?_
  refine mj_iload_n C dX3_weight_50 rfl ?_
  obtain ⟨r5, hq5, hF⟩ := mj_ob hF
  refine mj_callVi C (c_X5_heightOf σ v1 r5 hq5) yv_X5_heightOf kl_X3_67 (mo_35 G _) rfl rfl rfl rfl (Nat.le_of_ble_eq_true rfl) (mj_roomC (by decide) (by decide)) ⟨Nat.zero_le _, Nat.zero_le _⟩ dX3_weight_51 ?_
  refine mj_iload_n C dX3_weight_54 rfl ?_
  refine mj_iload C dX3_weight_55 rfl ?_
  refine mj_aload_n C dX3_weight_57 rfl ?_
  refine mg_X3_41 C dX3_weight_58 ?_
  refine mj_iload_n C dX3_weight_61 rfl ?_
  obtain ⟨r6, hq6, hF⟩ := mj_ob hF
  refine mj_callVi C (c_X5_wayOf σ v1 r6 hq6) yv_X5_wayOf kl_X3_78 (mo_35 G _) rfl rfl rfl rfl (Nat.le_of_ble_eq_true rfl) (mj_roomC (by decide) (by decide)) ⟨Nat.zero_le _, Nat.zero_le _⟩ dX3_weight_62 ?_
  obtain ⟨r7, hq7, hF⟩ := mj_ob hF
  refine mj_callVi C (c_X3_distance σ r5 v2 v4 r6 r7 hq7) yv_X3_distance kl_X3_96 (mo_40 G _) rfl rfl rfl rfl (Nat.le_of_ble_eq_true rfl) (mj_roomC (by decide) (by decide)) ⟨Nat.zero_le _, Nat.zero_le _⟩ dX3_weight_65 ?_
  refine mj_istore C dX3_weight_68 (by decide) ?_
  refine mj_iload C dX3_weight_70 rfl ?_
  refine mj_if_ge C dX3_weight_72 rfl hF (fun hc8 hF => ?_) (fun hc8 hF => ?_)
  · refine mj_sipushV (v := 10000) C dX3_weight_79 mc_s_10000 ?_
    refine mj_iconstV (v := 1) C dX3_weight_82 mc_i_1 ?_
    refine mj_iload C dX3_weight_83 rfl ?_
    refine mj_iadd C dX3_weight_85 ?_
    obtain ⟨hz9, hF⟩ := mj_oz hF
    refine mj_idiv C dX3_weight_86 hz9 ?_
    have hF := mj_oi hF; subst hF
    exact mj_iret C hr hlk dX3_weight_87
  · refine mj_iconstV (v := 0) C dX3_weight_75 mc_i_0 ?_
    refine mj_goto C dX3_weight_76 rfl ?_
    have hF := mj_oi hF; subst hF
    exact mj_iret C hr hlk dX3_weight_87
set_option maxRecDepth 100000 in
set_option maxHeartbeats 4000000 in
theorem c_X3_weight {G : mj_G} {l : Launch} (σ : mj_S) (p1 : Int32) (p2 : Int32) (R : Int32) (hF : f_X3_weight σ p1 p2 = some R) : mj_C G l yX3_weight cX3_weight 6 (some .int) 4 [.ref (G.2.1 40), .int p1, .int p2] σ (some (.int R)) σ := by
  unfold f_X3_weight at hF
  refine mj_of (ls := [(0, .ref (G.2.1 40)), (1, .int p1), (2, .int p2)]) (by decide) (Nat.le_of_ble_eq_true rfl) rfl (fun p e s m args below meth c C hr hlk => ?_)
  refine mj_aload_n C dX3_weight_0 rfl ?_
  refine mg_X3_41 C dX3_weight_1 ?_
  refine mj_iload_n C dX3_weight_4 rfl ?_
  obtain ⟨r1, hq1, hF⟩ := mj_ob hF
  refine mj_callVi C (c_X5_nameOf σ p1 r1 hq1) yv_X5_nameOf kl_X3_72 (mo_35 G _) rfl rfl rfl rfl (Nat.le_of_ble_eq_true rfl) (mj_roomC (by decide) (by decide)) ⟨Nat.zero_le _, Nat.zero_le _⟩ dX3_weight_5 ?_
  refine mj_istore_n C dX3_weight_8 (by decide) ?_
  refine mj_aload_n C dX3_weight_9 rfl ?_
  refine mg_X3_41 C dX3_weight_10 ?_
  refine mj_iload_n C dX3_weight_13 rfl ?_
  obtain ⟨r2, hq2, hF⟩ := mj_ob hF
  refine mj_callVi C (c_X5_monthOf σ p1 r2 hq2) yv_X5_monthOf kl_X3_75 (mo_35 G _) rfl rfl rfl rfl (Nat.le_of_ble_eq_true rfl) (mj_roomC (by decide) (by decide)) ⟨Nat.zero_le _, Nat.zero_le _⟩ dX3_weight_14 ?_
  refine mj_istore C dX3_weight_17 (by decide) ?_
  refine mj_iload C dX3_weight_19 rfl ?_
  refine mj_callNi C (c_X9_isMonth σ r2) ys_X9_isMonth kn_X3_85 rfl rfl (Nat.le_of_ble_eq_true rfl) (mj_roomC (by decide) (by decide)) ⟨Nat.zero_le _, Nat.zero_le _⟩ dX3_weight_21 ?_
  refine mj_if_eq C dX3_weight_24 rfl hF (fun hc3 hF => ?_) (fun hc3 hF => ?_)
  · refine mj_iconstV (v := 0) C dX3_weight_43 mc_i_0 ?_
    have hF := mj_oi hF; subst hF
    exact mj_iret C hr hlk dX3_weight_44
  · refine mj_aload_n C dX3_weight_27 rfl ?_
    refine mg_X3_37 C dX3_weight_28 ?_
    refine mj_iload_n C dX3_weight_31 rfl ?_
    refine mj_callVi C (c_X2_has σ r1) yv_X2_has kl_X3_89 (mo_9 G _) rfl rfl rfl rfl (Nat.le_of_ble_eq_true rfl) (mj_roomC (by decide) (by decide)) ⟨Nat.zero_le _, Nat.zero_le _⟩ dX3_weight_32 ?_
    refine mj_if_eq C dX3_weight_35 rfl hF (fun hc4 hF => ?_) (fun hc4 hF => ?_)
    · refine mj_to ?_ (w_X3_weight_45 C hr hlk p1 p2 r2 R hF)
      exact ⟨rfl, rfl, rfl, rfl, trivial⟩
    · refine mj_iload_n C dX3_weight_38 rfl ?_
      refine mj_iload_n C dX3_weight_39 rfl ?_
      refine mj_ic_eq C dX3_weight_40 rfl hF (fun hc10 hF => ?_) (fun hc10 hF => ?_)
      · refine mj_to ?_ (w_X3_weight_45 C hr hlk p1 p2 r2 R hF)
        exact ⟨rfl, rfl, rfl, rfl, trivial⟩
      · refine mj_iconstV (v := 0) C dX3_weight_43 mc_i_0 ?_
        have hF := mj_oi hF; subst hF
        exact mj_iret C hr hlk dX3_weight_44
set_option maxRecDepth 100000 in
set_option maxHeartbeats 4000000 in
theorem w_X3_chance_8 {p : Program} {l : Launch} {e : Env} {s : State} {m : MethodId} {args : Array Value} {below : List Frame} {meth : Method} {c : Code} {G : mj_G} {σ : mj_S} (C : mj_X p s m args meth c G cX3_chance 7 RX3) (hr : meth.sig.returnType = some .int) (hlk : meth.locks = false) : ∀ (n : Nat) (v1 : Int32) (v2 : Int32) (v3 : Int32) (v4 : Int32) (v5 : Int32) (R : Int32), b_X3_chance_8 σ n v1 v2 v3 v4 v5 = some R → mj_W p l e (mj_rm 5) s m args below meth c G 0 0 7 (MQ below (mj_Q G (some (.int R)) σ) args s 0 0 G.2.2.2) 8 [(0, .ref (G.2.1 40)), (1, .int v1), (2, .int v2), (3, .int v3), (4, .int v4), (5, .int v5)] [] σ := by
  intro n
  induction n with
  | zero =>
    intro v1 v2 v3 v4 v5 R hF
    cases hF
  | succ n ih =>
    intro v1 v2 v3 v4 v5 R hF
    rw [b_X3_chance_8] at hF
    refine mj_iload C dX3_chance_8 rfl ?_
    refine mj_aload_n C dX3_chance_10 rfl ?_
    refine mg_X3_37 C dX3_chance_11 ?_
    refine mj_callVi C (c_X2_size σ) yv_X2_size kl_X3_92 (mo_9 G _) rfl rfl rfl rfl (Nat.le_of_ble_eq_true rfl) (mj_roomC (by decide) (by decide)) ⟨Nat.zero_le _, Nat.zero_le _⟩ dX3_chance_14 ?_
    refine mj_ic_ge C dX3_chance_17 rfl hF (fun hc1 hF => ?_) (fun hc1 hF => ?_)
    · refine mj_iload C dX3_chance_51 rfl ?_
      refine mj_if_ne C dX3_chance_53 rfl hF (fun hc2 hF => ?_) (fun hc2 hF => ?_)
      · refine mj_sipushV (v := 1000) C dX3_chance_61 mc_s_1000 ?_
        refine mj_iload_n C dX3_chance_64 rfl ?_
        refine mj_imul C dX3_chance_65 ?_
        refine mj_iload C dX3_chance_66 rfl ?_
        obtain ⟨hz3, hF⟩ := mj_oz hF
        refine mj_idiv C dX3_chance_68 hz3 ?_
        have hF := mj_oi hF; subst hF
        exact mj_iret C hr hlk dX3_chance_69
      · refine mj_bipushV (v := (-2)) C dX3_chance_56 mc_b_m2 ?_
        refine mj_goto C dX3_chance_58 rfl ?_
        have hF := mj_oi hF; subst hF
        exact mj_iret C hr hlk dX3_chance_69
    · refine mj_aload_n C dX3_chance_20 rfl ?_
      refine mj_iload_n C dX3_chance_21 rfl ?_
      refine mj_iload C dX3_chance_22 rfl ?_
      obtain ⟨r4, hq4, hF⟩ := mj_ob hF
      refine mj_callVi C (c_X3_weight σ v1 v5 r4 hq4) yv_X3_weight kl_X3_104 (mo_40 G _) rfl rfl rfl rfl (Nat.le_of_ble_eq_true rfl) (mj_roomC (by decide) (by decide)) ⟨Nat.zero_le _, Nat.zero_le _⟩ dX3_chance_24 ?_
      refine mj_istore C dX3_chance_27 (by decide) ?_
      refine mj_iload C dX3_chance_29 rfl ?_
      refine mj_iload C dX3_chance_31 rfl ?_
      refine mj_iadd C dX3_chance_33 ?_
      refine mj_istore C dX3_chance_34 (by decide) ?_
      refine mj_iload C dX3_chance_36 rfl ?_
      refine mj_iload_n C dX3_chance_38 rfl ?_
      refine mj_ic_ne C dX3_chance_39 rfl hF (fun hc5 hF => ?_) (fun hc5 hF => ?_)
      · refine mj_iinc (v := v5 + 1) C dX3_chance_45 rfl rfl (by decide) ?_
        refine mj_goto C dX3_chance_48 rfl ?_
        refine mj_to ?_ (ih v1 v2 v3 (v4 + r4) (v5 + 1) R hF)
        exact ⟨rfl, rfl, rfl, rfl, rfl, rfl, trivial⟩
      · refine mj_iload C dX3_chance_42 rfl ?_
        refine mj_istore_n C dX3_chance_44 (by decide) ?_
        refine mj_iinc (v := v5 + 1) C dX3_chance_45 rfl rfl (by decide) ?_
        refine mj_goto C dX3_chance_48 rfl ?_
        refine mj_to ?_ (ih v1 v2 r4 (v4 + r4) (v5 + 1) R hF)
        exact ⟨rfl, rfl, rfl, rfl, rfl, rfl, trivial⟩
set_option maxRecDepth 100000 in
set_option maxHeartbeats 4000000 in
theorem c_X3_chance {G : mj_G} {l : Launch} (σ : mj_S) (p1 : Int32) (p2 : Int32) (R : Int32) (hF : f_X3_chance σ p1 p2 = some R) : mj_C G l yX3_chance cX3_chance 7 (some .int) 5 [.ref (G.2.1 40), .int p1, .int p2] σ (some (.int R)) σ := by
  unfold f_X3_chance at hF
  refine mj_of (ls := [(0, .ref (G.2.1 40)), (1, .int p1), (2, .int p2)]) (by decide) (Nat.le_of_ble_eq_true rfl) rfl (fun p e s m args below meth c C hr hlk => ?_)
  refine mj_iconstV (v := 0) C dX3_chance_0 mc_i_0 ?_
  refine mj_istore_n C dX3_chance_1 (by decide) ?_
  refine mj_iconstV (v := 0) C dX3_chance_2 mc_i_0 ?_
  refine mj_istore C dX3_chance_3 (by decide) ?_
  refine mj_iconstV (v := 0) C dX3_chance_5 mc_i_0 ?_
  refine mj_istore C dX3_chance_6 (by decide) ?_
  refine mj_to ?_ (w_X3_chance_8 C hr hlk mj_fu p1 p2 0 0 0 R hF)
  exact ⟨rfl, rfl, rfl, rfl, rfl, rfl, trivial⟩
set_option maxRecDepth 100000 in
set_option maxHeartbeats 4000000 in
theorem c_X3_foundDistanceBy {G : mj_G} {l : Launch} (σ : mj_S) (p1 : Int32) (p2 : Int32) (R : Int32) (hF : f_X3_foundDistanceBy σ p1 p2 = some R) : mj_C G l yX3_foundDistanceBy cX3_foundDistanceBy 3 (some .int) 4 [.ref (G.2.1 40), .int p1, .int p2] σ (some (.int R)) σ := by
  unfold f_X3_foundDistanceBy at hF
  refine mj_of (ls := [(0, .ref (G.2.1 40)), (1, .int p1), (2, .int p2)]) (by decide) (Nat.le_of_ble_eq_true rfl) rfl (fun p e s m args below meth c C hr hlk => ?_)
  refine mj_aload_n C dX3_foundDistanceBy_0 rfl ?_
  refine mj_aload_n C dX3_foundDistanceBy_1 rfl ?_
  refine mg_X3_41 C dX3_foundDistanceBy_2 ?_
  refine mj_iload_n C dX3_foundDistanceBy_5 rfl ?_
  obtain ⟨r1, hq1, hF⟩ := mj_ob hF
  refine mj_callVi C (c_X5_heightOf σ p1 r1 hq1) yv_X5_heightOf kl_X3_67 (mo_35 G _) rfl rfl rfl rfl (Nat.le_of_ble_eq_true rfl) (mj_roomC (by decide) (by decide)) ⟨Nat.zero_le _, Nat.zero_le _⟩ dX3_foundDistanceBy_6 ?_
  refine mj_aload_n C dX3_foundDistanceBy_9 rfl ?_
  refine mg_X3_9 C dX3_foundDistanceBy_10 ?_
  refine mj_aload_n C dX3_foundDistanceBy_13 rfl ?_
  refine mg_X3_15 C dX3_foundDistanceBy_14 ?_
  refine mj_iload_n C dX3_foundDistanceBy_17 rfl ?_
  obtain ⟨r2, hq2, hF⟩ := mj_ob hF
  refine mj_callVi C (c_X3_distance σ r1 (σ.1 40 2) (σ.1 40 3) p2 r2 hq2) yv_X3_distance kl_X3_96 (mo_40 G _) rfl rfl rfl rfl (Nat.le_of_ble_eq_true rfl) (mj_roomC (by decide) (by decide)) ⟨Nat.zero_le _, Nat.zero_le _⟩ dX3_foundDistanceBy_18 ?_
  have hF := mj_oi hF; subst hF
  exact mj_iret C hr hlk dX3_foundDistanceBy_21
set_option maxRecDepth 100000 in
set_option maxHeartbeats 4000000 in
theorem w_X3_likeliestWay_4 {p : Program} {l : Launch} {e : Env} {s : State} {m : MethodId} {args : Array Value} {below : List Frame} {meth : Method} {c : Code} {G : mj_G} {σ : mj_S} (C : mj_X p s m args meth c G cX3_likeliestWay 4 RX3) (hr : meth.sig.returnType = some .int) (hlk : meth.locks = false) : ∀ (n : Nat) (v1 : Int32) (v2 : Int32) (v3 : Int32) (R : Int32), b_X3_likeliestWay_4 σ n v1 v2 v3 = some R → mj_W p l e (mj_rm 5) s m args below meth c G 0 0 4 (MQ below (mj_Q G (some (.int R)) σ) args s 0 0 G.2.2.2) 4 [(0, .ref (G.2.1 40)), (1, .int v1), (2, .int v2), (3, .int v3)] [] σ := by
  intro n
  induction n with
  | zero =>
    intro v1 v2 v3 R hF
    cases hF
  | succ n ih =>
    intro v1 v2 v3 R hF
    rw [b_X3_likeliestWay_4] at hF
    refine mj_iload_n C dX3_likeliestWay_4 rfl ?_
    refine mj_iconstV (v := 4) C dX3_likeliestWay_5 mc_i_4 ?_
    refine mj_ic_gt C dX3_likeliestWay_6 rfl hF (fun hc1 hF => ?_) (fun hc1 hF => ?_)
    · refine mj_iload_n C dX3_likeliestWay_32 rfl ?_
      have hF := mj_oi hF; subst hF
      exact mj_iret C hr hlk dX3_likeliestWay_33
    · refine mj_aload_n C dX3_likeliestWay_9 rfl ?_
      refine mj_iload_n C dX3_likeliestWay_10 rfl ?_
      refine mj_iload_n C dX3_likeliestWay_11 rfl ?_
      obtain ⟨r2, hq2, hF⟩ := mj_ob hF
      refine mj_callVi C (c_X3_foundDistanceBy σ v1 v3 r2 hq2) yv_X3_foundDistanceBy kl_X3_107 (mo_40 G _) rfl rfl rfl rfl (Nat.le_of_ble_eq_true rfl) (mj_roomC (by decide) (by decide)) ⟨Nat.zero_le _, Nat.zero_le _⟩ dX3_likeliestWay_12 ?_
      refine mj_aload_n C dX3_likeliestWay_15 rfl ?_
      refine mj_iload_n C dX3_likeliestWay_16 rfl ?_
      refine mj_iload_n C dX3_likeliestWay_17 rfl ?_
      obtain ⟨r3, hq3, hF⟩ := mj_ob hF
      refine mj_callVi C (c_X3_foundDistanceBy σ v1 v2 r3 hq3) yv_X3_foundDistanceBy kl_X3_107 (mo_40 G _) rfl rfl rfl rfl (Nat.le_of_ble_eq_true rfl) (mj_roomC (by decide) (by decide)) ⟨Nat.zero_le _, Nat.zero_le _⟩ dX3_likeliestWay_18 ?_
      refine mj_ic_ge C dX3_likeliestWay_21 rfl hF (fun hc4 hF => ?_) (fun hc4 hF => ?_)
      · refine mj_iinc (v := v3 + 1) C dX3_likeliestWay_26 rfl rfl (by decide) ?_
        refine mj_goto C dX3_likeliestWay_29 rfl ?_
        refine mj_to ?_ (ih v1 v2 (v3 + 1) R hF)
        exact ⟨rfl, rfl, rfl, rfl, trivial⟩
      · refine mj_iload_n C dX3_likeliestWay_24 rfl ?_
        refine mj_istore_n C dX3_likeliestWay_25 (by decide) ?_
        refine mj_iinc (v := v3 + 1) C dX3_likeliestWay_26 rfl rfl (by decide) ?_
        refine mj_goto C dX3_likeliestWay_29 rfl ?_
        refine mj_to ?_ (ih v1 v3 (v3 + 1) R hF)
        exact ⟨rfl, rfl, rfl, rfl, trivial⟩
set_option maxRecDepth 100000 in
set_option maxHeartbeats 4000000 in
theorem c_X3_likeliestWay {G : mj_G} {l : Launch} (σ : mj_S) (p1 : Int32) (R : Int32) (hF : f_X3_likeliestWay σ p1 = some R) : mj_C G l yX3_likeliestWay cX3_likeliestWay 4 (some .int) 5 [.ref (G.2.1 40), .int p1] σ (some (.int R)) σ := by
  unfold f_X3_likeliestWay at hF
  refine mj_of (ls := [(0, .ref (G.2.1 40)), (1, .int p1)]) (by decide) (Nat.le_of_ble_eq_true rfl) rfl (fun p e s m args below meth c C hr hlk => ?_)
  refine mj_iconstV (v := 0) C dX3_likeliestWay_0 mc_i_0 ?_
  refine mj_istore_n C dX3_likeliestWay_1 (by decide) ?_
  refine mj_iconstV (v := 1) C dX3_likeliestWay_2 mc_i_1 ?_
  refine mj_istore_n C dX3_likeliestWay_3 (by decide) ?_
  refine mj_to ?_ (w_X3_likeliestWay_4 C hr hlk mj_fu p1 0 1 R hF)
  exact ⟨rfl, rfl, rfl, rfl, trivial⟩
set_option maxRecDepth 100000 in
set_option maxHeartbeats 4000000 in
theorem c_X3_wrongWay {G : mj_G} {l : Launch} (σ : mj_S) (p1 : Int32) (R : Int32) (hF : f_X3_wrongWay σ p1 = some R) : mj_C G l yX3_wrongWay cX3_wrongWay 3 (some .int) 6 [.ref (G.2.1 40), .int p1] σ (some (.int R)) σ := by
  unfold f_X3_wrongWay at hF
  refine mj_of (ls := [(0, .ref (G.2.1 40)), (1, .int p1)]) (by decide) (Nat.le_of_ble_eq_true rfl) rfl (fun p e s m args below meth c C hr hlk => ?_)
  refine mj_aload_n C dX3_wrongWay_0 rfl ?_
  refine mj_iload_n C dX3_wrongWay_1 rfl ?_
  refine mj_aload_n C dX3_wrongWay_2 rfl ?_
  refine mj_iload_n C dX3_wrongWay_3 rfl ?_
  obtain ⟨r1, hq1, hF⟩ := mj_ob hF
  refine mj_callVi C (c_X3_likeliestWay σ p1 r1 hq1) yv_X3_likeliestWay kl_X3_110 (mo_40 G _) rfl rfl rfl rfl (Nat.le_of_ble_eq_true rfl) (mj_roomC (by decide) (by decide)) ⟨Nat.zero_le _, Nat.zero_le _⟩ dX3_wrongWay_4 ?_
  obtain ⟨r2, hq2, hF⟩ := mj_ob hF
  refine mj_callVi C (c_X3_foundDistanceBy σ p1 r1 r2 hq2) yv_X3_foundDistanceBy kl_X3_107 (mo_40 G _) rfl rfl rfl rfl (Nat.le_of_ble_eq_true rfl) (mj_roomC (by decide) (by decide)) ⟨Nat.zero_le _, Nat.zero_le _⟩ dX3_wrongWay_7 ?_
  refine mj_istore_n C dX3_wrongWay_10 (by decide) ?_
  refine mj_aload_n C dX3_wrongWay_11 rfl ?_
  refine mj_iload_n C dX3_wrongWay_12 rfl ?_
  refine mj_aload_n C dX3_wrongWay_13 rfl ?_
  refine mg_X3_41 C dX3_wrongWay_14 ?_
  refine mj_iload_n C dX3_wrongWay_17 rfl ?_
  obtain ⟨r3, hq3, hF⟩ := mj_ob hF
  refine mj_callVi C (c_X5_wayOf σ p1 r3 hq3) yv_X5_wayOf kl_X3_78 (mo_35 G _) rfl rfl rfl rfl (Nat.le_of_ble_eq_true rfl) (mj_roomC (by decide) (by decide)) ⟨Nat.zero_le _, Nat.zero_le _⟩ dX3_wrongWay_18 ?_
  obtain ⟨r4, hq4, hF⟩ := mj_ob hF
  refine mj_callVi C (c_X3_foundDistanceBy σ p1 r3 r4 hq4) yv_X3_foundDistanceBy kl_X3_107 (mo_40 G _) rfl rfl rfl rfl (Nat.le_of_ble_eq_true rfl) (mj_roomC (by decide) (by decide)) ⟨Nat.zero_le _, Nat.zero_le _⟩ dX3_wrongWay_21 ?_
  refine mj_iload_n C dX3_wrongWay_24 rfl ?_
  refine mj_isub C dX3_wrongWay_25 ?_
  refine mj_bipushV (v := 32) C dX3_wrongWay_26 mc_b_32 ?_
  refine mj_ic_lt C dX3_wrongWay_28 rfl hF (fun hc5 hF => ?_) (fun hc5 hF => ?_)
  · refine mj_iconstV (v := 0) C dX3_wrongWay_35 mc_i_0 ?_
    have hF := mj_oi hF; subst hF
    exact mj_iret C hr hlk dX3_wrongWay_36
  · refine mj_iconstV (v := 1) C dX3_wrongWay_31 mc_i_1 ?_
    refine mj_goto C dX3_wrongWay_32 rfl ?_
    have hF := mj_oi hF; subst hF
    exact mj_iret C hr hlk dX3_wrongWay_36
set_option maxRecDepth 100000 in
set_option maxHeartbeats 4000000 in
theorem w_X3_gather_7 {p : Program} {l : Launch} {e : Env} {s : State} {m : MethodId} {args : Array Value} {below : List Frame} {meth : Method} {c : Code} {G : mj_G} (C : mj_X p s m args meth c G cX3_gather 3 RX3) (hr : meth.sig.returnType = some .int) (hlk : meth.locks = false) : ∀ (n : Nat) (v1 : Int32) (v2 : Int32) (σ : mj_S) (R : (Int32 × mj_S)), b_X3_gather_7 n v1 v2 σ = some R → mj_W p l e (mj_rm 3) s m args below meth c G 0 0 3 (MQ below (mj_Q G (some (.int R.1)) R.2) args s 0 0 G.2.2.2) 7 [(0, .ref (G.2.1 40)), (1, .int v1), (2, .int v2)] [] σ := by
  intro n
  induction n with
  | zero =>
    intro v1 v2 σ R hF
    cases hF
  | succ n ih =>
    intro v1 v2 σ R hF
    rw [b_X3_gather_7] at hF
    refine mj_iload_n C dX3_gather_7 rfl ?_
    refine mj_aload_n C dX3_gather_8 rfl ?_
    refine mg_X3_41 C dX3_gather_9 ?_
    refine mj_callVi C (c_X5_size σ) yv_X5_size kl_X3_100 (mo_35 G _) rfl rfl rfl rfl (Nat.le_of_ble_eq_true rfl) (mj_roomC (by decide) (by decide)) ⟨Nat.zero_le _, Nat.zero_le _⟩ dX3_gather_12 ?_
    refine mj_ic_ge C dX3_gather_15 rfl hF (fun hc1 hF => ?_) (fun hc1 hF => ?_)
    · refine mj_aload_n C dX3_gather_77 rfl ?_
      refine mg_X3_25 C dX3_gather_78 ?_
      have hF := mj_oi hF; subst hF
      exact mj_iret C hr hlk dX3_gather_81
    · refine mj_aload_n C dX3_gather_18 rfl ?_
      refine mg_X3_25 C dX3_gather_19 ?_
      refine mj_iconstV (v := 4) C dX3_gather_22 mc_i_4 ?_
      refine mj_ic_ge C dX3_gather_23 rfl hF (fun hc2 hF => ?_) (fun hc2 hF => ?_)
      · refine mj_aload_n C dX3_gather_77 rfl ?_
        refine mg_X3_25 C dX3_gather_78 ?_
        have hF := mj_oi hF; subst hF
        exact mj_iret C hr hlk dX3_gather_81
      · refine mj_aload_n C dX3_gather_26 rfl ?_
        refine mg_X3_41 C dX3_gather_27 ?_
        refine mj_iload_n C dX3_gather_30 rfl ?_
        obtain ⟨r3, hq3, hF⟩ := mj_ob hF
        refine mj_callVi C (c_X5_monthOf σ v2 r3 hq3) yv_X5_monthOf kl_X3_75 (mo_35 G _) rfl rfl rfl rfl (Nat.le_of_ble_eq_true rfl) (mj_roomC (by decide) (by decide)) ⟨Nat.zero_le _, Nat.zero_le _⟩ dX3_gather_31 ?_
        refine mj_iload_n C dX3_gather_34 rfl ?_
        refine mj_ic_ne C dX3_gather_35 rfl hF (fun hc4 hF => ?_) (fun hc4 hF => ?_)
        · refine mj_iinc (v := v2 + 1) C dX3_gather_71 rfl rfl (by decide) ?_
          refine mj_goto C dX3_gather_74 rfl ?_
          refine mj_to ?_ (ih v1 (v2 + 1) σ R hF)
          exact ⟨rfl, rfl, rfl, trivial⟩
        · refine mj_aload_n C dX3_gather_38 rfl ?_
          refine mg_X3_41 C dX3_gather_39 ?_
          refine mj_iload_n C dX3_gather_42 rfl ?_
          obtain ⟨r5, hq5, hF⟩ := mj_ob hF
          refine mj_callVi C (c_X5_nameOf σ v2 r5 hq5) yv_X5_nameOf kl_X3_72 (mo_35 G _) rfl rfl rfl rfl (Nat.le_of_ble_eq_true rfl) (mj_roomC (by decide) (by decide)) ⟨Nat.zero_le _, Nat.zero_le _⟩ dX3_gather_43 ?_
          refine mj_bipushV (v := 6) C dX3_gather_46 mc_b_6 ?_
          refine mj_ic_ne C dX3_gather_48 rfl hF (fun hc6 hF => ?_) (fun hc6 hF => ?_)
          · refine mj_iinc (v := v2 + 1) C dX3_gather_71 rfl rfl (by decide) ?_
            refine mj_goto C dX3_gather_74 rfl ?_
            refine mj_to ?_ (ih v1 (v2 + 1) σ R hF)
            exact ⟨rfl, rfl, rfl, trivial⟩
          · refine mj_aload_n C dX3_gather_51 rfl ?_
            refine mg_X3_21 C dX3_gather_52 ?_
            refine mj_aload_n C dX3_gather_55 rfl ?_
            refine mg_X3_25 C dX3_gather_56 ?_
            refine mj_iload_n C dX3_gather_59 rfl ?_
            obtain ⟨hg7, hF⟩ := mj_og hF
            refine mj_iastore C dX3_gather_60 rfl hg7 ?_
            refine mj_aload_n C dX3_gather_61 rfl ?_
            refine mj_dup C dX3_gather_62 rfl ?_
            refine mg_X3_25 C dX3_gather_63 ?_
            refine mj_iconstV (v := 1) C dX3_gather_66 mc_i_1 ?_
            refine mj_iadd C dX3_gather_67 ?_
            refine mp_X3_25 C dX3_gather_68 ?_
            refine mj_iinc (v := v2 + 1) C dX3_gather_71 rfl rfl (by decide) ?_
            refine mj_goto C dX3_gather_74 rfl ?_
            refine mj_to ?_ (ih v1 (v2 + 1) (mj_sI (mj_sI σ 41 (σ.1 40 6).toNatClampNeg v2) 40 6 ((σ.1 40 6) + 1)) R hF)
            exact ⟨rfl, rfl, rfl, trivial⟩
set_option maxRecDepth 100000 in
set_option maxHeartbeats 4000000 in
theorem c_X3_gather {G : mj_G} {l : Launch} (σ : mj_S) (p1 : Int32) (R : (Int32 × mj_S)) (hF : f_X3_gather σ p1 = some R) : mj_C G l yX3_gather cX3_gather 3 (some .int) 3 [.ref (G.2.1 40), .int p1] σ (some (.int R.1)) R.2 := by
  unfold f_X3_gather at hF
  refine mj_of (ls := [(0, .ref (G.2.1 40)), (1, .int p1)]) (by decide) (Nat.le_of_ble_eq_true rfl) rfl (fun p e s m args below meth c C hr hlk => ?_)
  refine mj_aload_n C dX3_gather_0 rfl ?_
  refine mj_iconstV (v := 0) C dX3_gather_1 mc_i_0 ?_
  refine mp_X3_25 C dX3_gather_2 ?_
  refine mj_iconstV (v := 0) C dX3_gather_5 mc_i_0 ?_
  refine mj_istore_n C dX3_gather_6 (by decide) ?_
  refine mj_to ?_ (w_X3_gather_7 C hr hlk mj_fu p1 0 (mj_sI σ 40 6 0) R hF)
  exact ⟨rfl, rfl, rfl, trivial⟩
set_option maxRecDepth 100000 in
set_option maxHeartbeats 4000000 in
theorem w_X3_sumOfRow_30 {p : Program} {l : Launch} {e : Env} {s : State} {m : MethodId} {args : Array Value} {below : List Frame} {meth : Method} {c : Code} {G : mj_G} (C : mj_X p s m args meth c G cX3_sumOfRow 10 RX3) (hr : meth.sig.returnType = some .int) (hlk : meth.locks = false) : ∀ (n : Nat) (v2 : Int32) (v3 : Int32) (v4 : Int32) (v5 : Int32) (v6 : Int32) (σ : mj_S) (R : (Int32 × mj_S)), b_X3_sumOfRow_30 n v2 v3 v4 v5 v6 σ = some R → mj_W p l e (mj_rm 4) s m args below meth c G 0 0 10 (MQ below (mj_Q G (some (.int R.1)) R.2) args s 0 0 G.2.2.2) 30 [(0, .ref (G.2.1 40)), (2, .int v2), (3, .int v3), (4, .int v4), (5, .int v5), (6, .int v6)] [] σ := by
  intro n
  induction n with
  | zero =>
    intro v2 v3 v4 v5 v6 σ R hF
    cases hF
  | succ n ih =>
    intro v2 v3 v4 v5 v6 σ R hF
    rw [b_X3_sumOfRow_30] at hF
    refine mj_iload C dX3_sumOfRow_30 rfl ?_
    refine mj_if_lt C dX3_sumOfRow_32 rfl hF (fun hc1 hF => ?_) (fun hc1 hF => ?_)
    · refine mj_iload C dX3_sumOfRow_126 rfl ?_
      have hF := mj_oi hF; subst hF
      exact mj_iret C hr hlk dX3_sumOfRow_128
    · refine mj_iload C dX3_sumOfRow_35 rfl ?_
      refine mj_iload_n C dX3_sumOfRow_37 rfl ?_
      obtain ⟨hz2, hF⟩ := mj_oz hF
      refine mj_irem C dX3_sumOfRow_38 hz2 ?_
      refine mj_istore C dX3_sumOfRow_39 (by decide) ?_
      refine mj_iload C dX3_sumOfRow_41 rfl ?_
      refine mj_iload_n C dX3_sumOfRow_43 rfl ?_
      obtain ⟨hz3, hF⟩ := mj_oz hF
      refine mj_idiv C dX3_sumOfRow_44 hz3 ?_
      refine mj_istore C dX3_sumOfRow_45 (by decide) ?_
      refine mj_aload_n C dX3_sumOfRow_47 rfl ?_
      refine mg_X3_21 C dX3_sumOfRow_48 ?_
      refine mj_iload C dX3_sumOfRow_51 rfl ?_
      obtain ⟨hg4, hF⟩ := mj_og hF
      refine mj_iaload C dX3_sumOfRow_53 rfl hg4 ?_
      refine mj_istore C dX3_sumOfRow_54 (by decide) ?_
      refine mj_aload_n C dX3_sumOfRow_56 rfl ?_
      refine mj_aload_n C dX3_sumOfRow_57 rfl ?_
      refine mg_X3_41 C dX3_sumOfRow_58 ?_
      refine mj_iload C dX3_sumOfRow_61 rfl ?_
      obtain ⟨r5, hq5, hF⟩ := mj_ob hF
      refine mj_callVi C (c_X5_heightOf σ (σ.1 41 v6.toNatClampNeg) r5 hq5) yv_X5_heightOf kl_X3_67 (mo_35 G _) rfl rfl rfl rfl (Nat.le_of_ble_eq_true rfl) (mj_roomC (by decide) (by decide)) ⟨Nat.zero_le _, Nat.zero_le _⟩ dX3_sumOfRow_63 ?_
      refine mj_iload C dX3_sumOfRow_66 rfl ?_
      refine mj_iload_n C dX3_sumOfRow_68 rfl ?_
      refine mj_aload_n C dX3_sumOfRow_69 rfl ?_
      refine mg_X3_41 C dX3_sumOfRow_70 ?_
      refine mj_iload C dX3_sumOfRow_73 rfl ?_
      obtain ⟨r6, hq6, hF⟩ := mj_ob hF
      refine mj_callVi C (c_X5_wayOf σ (σ.1 41 v6.toNatClampNeg) r6 hq6) yv_X5_wayOf kl_X3_78 (mo_35 G _) rfl rfl rfl rfl (Nat.le_of_ble_eq_true rfl) (mj_roomC (by decide) (by decide)) ⟨Nat.zero_le _, Nat.zero_le _⟩ dX3_sumOfRow_75 ?_
      obtain ⟨r7, hq7, hF⟩ := mj_ob hF
      refine mj_callVi C (c_X3_distance σ r5 (mj_rem v4 v3) v2 r6 r7 hq7) yv_X3_distance kl_X3_96 (mo_40 G _) rfl rfl rfl rfl (Nat.le_of_ble_eq_true rfl) (mj_roomC (by decide) (by decide)) ⟨Nat.zero_le _, Nat.zero_le _⟩ dX3_sumOfRow_78 ?_
      refine mj_istore C dX3_sumOfRow_81 (by decide) ?_
      refine mj_iload C dX3_sumOfRow_83 rfl ?_
      refine mj_bipushV (v := (-2)) C dX3_sumOfRow_85 mc_b_m2 ?_
      refine mj_ic_eq C dX3_sumOfRow_87 rfl hF (fun hc8 hF => ?_) (fun hc8 hF => ?_)
      · refine mj_bipushV (v := (-2)) C dX3_sumOfRow_101 mc_b_m2 ?_
        have hF := mj_oi hF; subst hF
        exact mj_iret C hr hlk dX3_sumOfRow_103
      · refine mj_aload_n C dX3_sumOfRow_90 rfl ?_
        refine mj_iload C dX3_sumOfRow_91 rfl ?_
        refine mj_iload C dX3_sumOfRow_93 rfl ?_
        obtain ⟨r9, hq9, hF⟩ := mj_ob hF
        refine mj_callVi C (c_X3_isTriedBehind σ v6 (mj_rem v4 v3) r9 hq9) yv_X3_isTriedBehind kl_X3_125 (mo_40 G _) rfl rfl rfl rfl (Nat.le_of_ble_eq_true rfl) (mj_roomC (by decide) (by decide)) ⟨Nat.zero_le _, Nat.zero_le _⟩ dX3_sumOfRow_95 ?_
        refine mj_if_eq C dX3_sumOfRow_98 rfl hF (fun hc10 hF => ?_) (fun hc10 hF => ?_)
        · refine mj_aload_n C dX3_sumOfRow_104 rfl ?_
          refine mg_X3_28 C dX3_sumOfRow_105 ?_
          refine mj_iload C dX3_sumOfRow_108 rfl ?_
          refine mj_iload C dX3_sumOfRow_110 rfl ?_
          obtain ⟨hg11, hF⟩ := mj_og hF
          refine mj_iastore C dX3_sumOfRow_112 rfl hg11 ?_
          refine mj_iload C dX3_sumOfRow_113 rfl ?_
          refine mj_iload C dX3_sumOfRow_115 rfl ?_
          refine mj_iadd C dX3_sumOfRow_117 ?_
          refine mj_istore C dX3_sumOfRow_118 (by decide) ?_
          refine mj_iinc (v := v6 + (-1)) C dX3_sumOfRow_120 rfl rfl (by decide) ?_
          refine mj_goto C dX3_sumOfRow_123 rfl ?_
          refine mj_to ?_ (ih v2 v3 (v4 / v3) (v5 + r7) (v6 + (-1)) (mj_sI σ 42 v6.toNatClampNeg (mj_rem v4 v3)) R hF)
          exact ⟨rfl, rfl, rfl, rfl, rfl, rfl, trivial⟩
        · refine mj_bipushV (v := (-2)) C dX3_sumOfRow_101 mc_b_m2 ?_
          have hF := mj_oi hF; subst hF
          exact mj_iret C hr hlk dX3_sumOfRow_103
set_option maxRecDepth 100000 in
set_option maxHeartbeats 4000000 in
theorem c_X3_sumOfRow {G : mj_G} {l : Launch} (σ : mj_S) (p1 : Int32) (p2 : Int32) (R : (Int32 × mj_S)) (hF : f_X3_sumOfRow σ p1 p2 = some R) : mj_C G l yX3_sumOfRow cX3_sumOfRow 10 (some .int) 4 [.ref (G.2.1 40), .int p1, .int p2] σ (some (.int R.1)) R.2 := by
  unfold f_X3_sumOfRow at hF
  refine mj_of (ls := [(0, .ref (G.2.1 40)), (1, .int p1), (2, .int p2)]) (by decide) (Nat.le_of_ble_eq_true rfl) rfl (fun p e s m args below meth c C hr hlk => ?_)
  refine mj_iconstV (v := 1) C dX3_sumOfRow_0 mc_i_1 ?_
  refine mj_aload_n C dX3_sumOfRow_1 rfl ?_
  refine mg_X3_37 C dX3_sumOfRow_2 ?_
  refine mj_callVi C (c_X2_size σ) yv_X2_size kl_X3_92 (mo_9 G _) rfl rfl rfl rfl (Nat.le_of_ble_eq_true rfl) (mj_roomC (by decide) (by decide)) ⟨Nat.zero_le _, Nat.zero_le _⟩ dX3_sumOfRow_5 ?_
  refine mj_mmax C kl_X3_64 (mj_room13 (by decide) (Nat.le_of_ble_eq_true rfl)) ⟨Nat.zero_le _, Nat.zero_le _⟩ dX3_sumOfRow_8 ?_
  refine mj_istore_n C dX3_sumOfRow_11 (by decide) ?_
  refine mj_iload_n C dX3_sumOfRow_12 rfl ?_
  refine mj_istore C dX3_sumOfRow_13 (by decide) ?_
  refine mj_iconstV (v := 0) C dX3_sumOfRow_15 mc_i_0 ?_
  refine mj_istore C dX3_sumOfRow_16 (by decide) ?_
  refine mj_aload_n C dX3_sumOfRow_18 rfl ?_
  refine mg_X3_25 C dX3_sumOfRow_19 ?_
  refine mj_iconstV (v := 4) C dX3_sumOfRow_22 mc_i_4 ?_
  refine mj_mmin C kl_X3_122 (mj_room13 (by decide) (Nat.le_of_ble_eq_true rfl)) ⟨Nat.zero_le _, Nat.zero_le _⟩ dX3_sumOfRow_23 ?_
  refine mj_iconstV (v := 1) C dX3_sumOfRow_26 mc_i_1 ?_
  refine mj_isub C dX3_sumOfRow_27 ?_
  refine mj_istore C dX3_sumOfRow_28 (by decide) ?_
  refine mj_to ?_ (w_X3_sumOfRow_30 C hr hlk mj_fu p2 (mj_max 1 (f_X2_size σ)) p1 0 ((mj_min (σ.1 40 6) 4) - 1) σ R hF)
  exact ⟨rfl, rfl, rfl, rfl, rfl, rfl, trivial⟩
set_option maxRecDepth 100000 in
set_option maxHeartbeats 4000000 in
theorem w_X3_shareOut_68 {p : Program} {l : Launch} {e : Env} {s : State} {m : MethodId} {args : Array Value} {below : List Frame} {meth : Method} {c : Code} {G : mj_G} {K33 : Int32 → Int32 → Int32 → Int32 → mj_S → Option (Int32 × mj_S)} (C : mj_X p s m args meth c G cX3_shareOut 6 RX3) (hr : meth.sig.returnType = some .boolean) (hlk : meth.locks = false) (hK33 : ∀ (v1 : Int32) (v2 : Int32) (v3 : Int32) (v4 : Int32) (σ : mj_S) (R : (Int32 × mj_S)), K33 v1 v2 v3 v4 σ = some R → mj_W p l e (mj_rm 5) s m args below meth c G 0 0 6 (MQ below (mj_Q G (some (.int R.1)) R.2) args s 0 0 G.2.2.2) 33 [(0, .ref (G.2.1 40)), (1, .int v1), (2, .int v2), (3, .int v3), (4, .int v4)] [] σ) : ∀ (v1 : Int32) (v2 : Int32) (v4 : Int32) (v5 : Int32) (σ : mj_S) (R : (Int32 × mj_S)), b_X3_shareOut_68 K33 v1 v2 v4 v5 σ = some R → mj_W p l e (mj_rm 5) s m args below meth c G 0 0 6 (MQ below (mj_Q G (some (.int R.1)) R.2) args s 0 0 G.2.2.2) 68 [(0, .ref (G.2.1 40)), (1, .int v1), (2, .int v2), (4, .int v4), (5, .int v5)] [] σ := by
  intro v1 v2 v4 v5 σ R hF
  unfold b_X3_shareOut_68 at hF
  refine mj_iconstV (v := 1) C dX3_shareOut_68 mc_i_1 ?_
  refine mj_istore_n C dX3_shareOut_69 (by decide) ?_
  refine mj_aload_n C dX3_shareOut_70 rfl ?_
  refine mj_iload C dX3_shareOut_71 rfl ?_
  refine mp_X3_34 C dX3_shareOut_73 ?_
  refine mj_aload_n C dX3_shareOut_76 rfl ?_
  refine mg_X3_28 C dX3_shareOut_77 ?_
  refine mj_iconstV (v := 0) C dX3_shareOut_80 mc_i_0 ?_
  refine mj_aload_n C dX3_shareOut_81 rfl ?_
  refine mg_X3_31 C dX3_shareOut_82 ?_
  refine mj_iconstV (v := 0) C dX3_shareOut_85 mc_i_0 ?_
  refine mj_iconstV (v := 4) C dX3_shareOut_86 mc_i_4 ?_
  obtain ⟨hg6, hF⟩ := mj_og hF
  refine mj_copyI C kl_X3_116 rfl rfl hg6 (mj_roomCp (by decide) (Nat.le_of_ble_eq_true rfl)) dX3_shareOut_87 ?_
  refine mj_iinc (v := v4 + 1) C dX3_shareOut_90 rfl rfl (by decide) ?_
  refine mj_goto C dX3_shareOut_93 rfl ?_
  refine mj_to ?_ (hK33 v1 v2 1 (v4 + 1) (mj_sR (mj_sI σ 40 9 v5) 43 (va_cpy (σ.1 42) (σ.1 43) 0 0 4)) R hF)
  exact ⟨rfl, rfl, rfl, rfl, rfl, trivial⟩
set_option maxRecDepth 100000 in
set_option maxHeartbeats 4000000 in
theorem w_X3_shareOut_33 {p : Program} {l : Launch} {e : Env} {s : State} {m : MethodId} {args : Array Value} {below : List Frame} {meth : Method} {c : Code} {G : mj_G} (C : mj_X p s m args meth c G cX3_shareOut 6 RX3) (hr : meth.sig.returnType = some .boolean) (hlk : meth.locks = false) : ∀ (n : Nat) (v1 : Int32) (v2 : Int32) (v3 : Int32) (v4 : Int32) (σ : mj_S) (R : (Int32 × mj_S)), b_X3_shareOut_33 n v1 v2 v3 v4 σ = some R → mj_W p l e (mj_rm 5) s m args below meth c G 0 0 6 (MQ below (mj_Q G (some (.int R.1)) R.2) args s 0 0 G.2.2.2) 33 [(0, .ref (G.2.1 40)), (1, .int v1), (2, .int v2), (3, .int v3), (4, .int v4)] [] σ := by
  intro n
  induction n with
  | zero =>
    intro v1 v2 v3 v4 σ R hF
    cases hF
  | succ n ih =>
    intro v1 v2 v3 v4 σ R hF
    rw [b_X3_shareOut_33] at hF
    refine mj_iload C dX3_shareOut_33 rfl ?_
    refine mj_iload_n C dX3_shareOut_35 rfl ?_
    refine mj_ic_ge C dX3_shareOut_36 rfl hF (fun hc2 hF => ?_) (fun hc2 hF => ?_)
    · refine mj_iload_n C dX3_shareOut_96 rfl ?_
      have hF := mj_oi hF; subst hF
      exact mj_zbret C hr hlk dX3_shareOut_97
    · refine mj_aload_n C dX3_shareOut_39 rfl ?_
      refine mj_iload C dX3_shareOut_40 rfl ?_
      refine mj_iload_n C dX3_shareOut_42 rfl ?_
      obtain ⟨r3, hq3, hF⟩ := mj_ob hF
      refine mj_callVi C (c_X3_sumOfRow σ v4 v1 r3 hq3) yv_X3_sumOfRow kl_X3_113 (mo_40 G _) rfl rfl rfl rfl (Nat.le_of_ble_eq_true rfl) (mj_roomC (by decide) (by decide)) ⟨Nat.zero_le _, Nat.zero_le _⟩ dX3_shareOut_43 ?_
      refine mj_istore C dX3_shareOut_46 (by decide) ?_
      refine mj_iload C dX3_shareOut_48 rfl ?_
      refine mj_bipushV (v := (-2)) C dX3_shareOut_50 mc_b_m2 ?_
      refine mj_ic_eq C dX3_shareOut_52 rfl hF (fun hc4 hF => ?_) (fun hc4 hF => ?_)
      · refine mj_iinc (v := v4 + 1) C dX3_shareOut_90 rfl rfl (by decide) ?_
        refine mj_goto C dX3_shareOut_93 rfl ?_
        refine mj_to ?_ (ih v1 v2 v3 (v4 + 1) r3.2 R hF)
        exact ⟨rfl, rfl, rfl, rfl, rfl, trivial⟩
      · refine mj_iload_n C dX3_shareOut_55 rfl ?_
        refine mj_if_eq C dX3_shareOut_56 rfl hF (fun hc5 hF => ?_) (fun hc5 hF => ?_)
        · refine mj_to ?_ (w_X3_shareOut_68 C hr hlk ih v1 v2 v4 r3.1 r3.2 R hF)
          exact ⟨rfl, rfl, rfl, rfl, rfl, trivial⟩
        · refine mj_iload C dX3_shareOut_59 rfl ?_
          refine mj_aload_n C dX3_shareOut_61 rfl ?_
          refine mg_X3_34 C dX3_shareOut_62 ?_
          refine mj_ic_ge C dX3_shareOut_65 rfl hF (fun hc7 hF => ?_) (fun hc7 hF => ?_)
          · refine mj_iinc (v := v4 + 1) C dX3_shareOut_90 rfl rfl (by decide) ?_
            refine mj_goto C dX3_shareOut_93 rfl ?_
            refine mj_to ?_ (ih v1 v2 v3 (v4 + 1) r3.2 R hF)
            exact ⟨rfl, rfl, rfl, rfl, rfl, trivial⟩
          · refine mj_to ?_ (w_X3_shareOut_68 C hr hlk ih v1 v2 v4 r3.1 r3.2 R hF)
            exact ⟨rfl, rfl, rfl, rfl, rfl, trivial⟩
set_option maxRecDepth 100000 in
set_option maxHeartbeats 4000000 in
theorem w_X3_shareOut_4 {p : Program} {l : Launch} {e : Env} {s : State} {m : MethodId} {args : Array Value} {below : List Frame} {meth : Method} {c : Code} {G : mj_G} (C : mj_X p s m args meth c G cX3_shareOut 6 RX3) (hr : meth.sig.returnType = some .boolean) (hlk : meth.locks = false) : ∀ (n : Nat) (v1 : Int32) (v2 : Int32) (v3 : Int32) (σ : mj_S) (R : (Int32 × mj_S)), b_X3_shareOut_4 n v1 v2 v3 σ = some R → mj_W p l e (mj_rm 5) s m args below meth c G 0 0 6 (MQ below (mj_Q G (some (.int R.1)) R.2) args s 0 0 G.2.2.2) 4 [(0, .ref (G.2.1 40)), (1, .int v1), (2, .int v2), (3, .int v3)] [] σ := by
  intro n
  induction n with
  | zero =>
    intro v1 v2 v3 σ R hF
    cases hF
  | succ n ih =>
    intro v1 v2 v3 σ R hF
    rw [b_X3_shareOut_4] at hF
    refine mj_iload_n C dX3_shareOut_4 rfl ?_
    refine mj_aload_n C dX3_shareOut_5 rfl ?_
    refine mg_X3_25 C dX3_shareOut_6 ?_
    refine mj_ic_ge C dX3_shareOut_9 rfl hF (fun hc1 hF => ?_) (fun hc1 hF => ?_)
    · refine mj_iconstV (v := 0) C dX3_shareOut_28 mc_i_0 ?_
      refine mj_istore_n C dX3_shareOut_29 (by decide) ?_
      refine mj_iconstV (v := 0) C dX3_shareOut_30 mc_i_0 ?_
      refine mj_istore C dX3_shareOut_31 (by decide) ?_
      refine mj_to ?_ (w_X3_shareOut_33 C hr hlk mj_fu v1 v2 0 0 σ R hF)
      exact ⟨rfl, rfl, rfl, rfl, rfl, trivial⟩
    · refine mj_iload_n C dX3_shareOut_12 rfl ?_
      refine mj_aload_n C dX3_shareOut_13 rfl ?_
      refine mg_X3_37 C dX3_shareOut_14 ?_
      refine mj_callVi C (c_X2_size σ) yv_X2_size kl_X3_92 (mo_9 G _) rfl rfl rfl rfl (Nat.le_of_ble_eq_true rfl) (mj_roomC (by decide) (by decide)) ⟨Nat.zero_le _, Nat.zero_le _⟩ dX3_shareOut_17 ?_
      refine mj_imul C dX3_shareOut_20 ?_
      refine mj_istore_n C dX3_shareOut_21 (by decide) ?_
      refine mj_iinc (v := v3 + 1) C dX3_shareOut_22 rfl rfl (by decide) ?_
      refine mj_goto C dX3_shareOut_25 rfl ?_
      refine mj_to ?_ (ih v1 (v2 * (f_X2_size σ)) (v3 + 1) σ R hF)
      exact ⟨rfl, rfl, rfl, rfl, trivial⟩
set_option maxRecDepth 100000 in
set_option maxHeartbeats 4000000 in
theorem c_X3_shareOut {G : mj_G} {l : Launch} (σ : mj_S) (p1 : Int32) (R : (Int32 × mj_S)) (hF : f_X3_shareOut σ p1 = some R) : mj_C G l yX3_shareOut cX3_shareOut 6 (some .boolean) 5 [.ref (G.2.1 40), .int p1] σ (some (.int R.1)) R.2 := by
  unfold f_X3_shareOut at hF
  refine mj_of (ls := [(0, .ref (G.2.1 40)), (1, .int p1)]) (by decide) (Nat.le_of_ble_eq_true rfl) rfl (fun p e s m args below meth c C hr hlk => ?_)
  refine mj_iconstV (v := 1) C dX3_shareOut_0 mc_i_1 ?_
  refine mj_istore_n C dX3_shareOut_1 (by decide) ?_
  refine mj_iconstV (v := 0) C dX3_shareOut_2 mc_i_0 ?_
  refine mj_istore_n C dX3_shareOut_3 (by decide) ?_
  refine mj_to ?_ (w_X3_shareOut_4 C hr hlk mj_fu p1 1 0 σ R hF)
  exact ⟨rfl, rfl, rfl, rfl, trivial⟩
set_option maxRecDepth 100000 in
set_option maxHeartbeats 4000000 in
theorem w_X3_slipsFound_32 {p : Program} {l : Launch} {e : Env} {s : State} {m : MethodId} {args : Array Value} {below : List Frame} {meth : Method} {c : Code} {G : mj_G} (C : mj_X p s m args meth c G cX3_slipsFound 12 RX3) (hr : meth.sig.returnType = some .int) (hlk : meth.locks = false) : ∀ (n : Nat) (v1 : Int32) (v2 : Int32) (v4 : Int32) (v5 : Int32) (v6 : Int32) (v7 : Int32) (v8 : Int32) (v9 : Int32) (v10 : Int32) (σ : mj_S) (R : (Int32 × mj_S)), b_X3_slipsFound_32 n v1 v2 v4 v5 v6 v7 v8 v9 v10 σ = some R → mj_W p l e (mj_rm 5) s m args below meth c G 0 0 12 (MQ below (mj_Q G (some (.int R.1)) R.2) args s 0 0 G.2.2.2) 32 [(0, .ref (G.2.1 40)), (1, .int v1), (2, .int v2), (4, .int v4), (5, .int v5), (6, .int v6), (7, .int v7), (8, .int v8), (9, .int v9), (10, .int v10)] [] σ := by
  intro n
  induction n with
  | zero =>
    intro v1 v2 v4 v5 v6 v7 v8 v9 v10 σ R hF
    cases hF
  | succ n ih =>
    intro v1 v2 v4 v5 v6 v7 v8 v9 v10 σ R hF
    rw [b_X3_slipsFound_32] at hF
    refine mj_iload C dX3_slipsFound_32 rfl ?_
    refine mj_iload C dX3_slipsFound_34 rfl ?_
    refine mj_ic_ge C dX3_slipsFound_36 rfl hF (fun hc2 hF => ?_) (fun hc2 hF => ?_)
    · refine mj_iload C dX3_slipsFound_96 rfl ?_
      have hF := mj_oi hF; subst hF
      exact mj_iret C hr hlk dX3_slipsFound_98
    · refine mj_iload C dX3_slipsFound_39 rfl ?_
      refine mj_ldc C dX3_slipsFound_41 kc_X3_128 ?_
      refine mj_imul C dX3_slipsFound_43 ?_
      refine mj_sipushV (v := 12345) C dX3_slipsFound_44 mc_s_12345 ?_
      refine mj_iadd C dX3_slipsFound_47 ?_
      refine mj_istore C dX3_slipsFound_48 (by decide) ?_
      refine mj_iload C dX3_slipsFound_50 rfl ?_
      refine mj_bipushV (v := 8) C dX3_slipsFound_52 mc_b_8 ?_
      refine mj_iushr C dX3_slipsFound_54 ?_
      refine mj_iload C dX3_slipsFound_55 rfl ?_
      obtain ⟨hz3, hF⟩ := mj_oz hF
      refine mj_irem C dX3_slipsFound_57 hz3 ?_
      refine mj_iload C dX3_slipsFound_58 rfl ?_
      refine mj_isub C dX3_slipsFound_60 ?_
      refine mj_istore C dX3_slipsFound_61 (by decide) ?_
      refine mj_aload_n C dX3_slipsFound_63 rfl ?_
      refine mj_iload C dX3_slipsFound_64 rfl ?_
      refine mj_iload C dX3_slipsFound_66 rfl ?_
      refine mj_iadd C dX3_slipsFound_68 ?_
      refine mj_bipushV (v := 6) C dX3_slipsFound_69 mc_b_6 ?_
      refine mj_iload_n C dX3_slipsFound_71 rfl ?_
      refine mj_iconstV (v := 0) C dX3_slipsFound_72 mc_i_0 ?_
      obtain ⟨r4, hq4, hF⟩ := mj_ob hF
      refine mj_callVi C (c_X3_find σ (v6 + ((mj_rem (mj_ushr ((v8 * 1103515245) + 12345) 8) v7) - v5)) 6 v2 0 r4 hq4) yv_X3_find kl_X3_81 (mo_40 G _) rfl rfl rfl rfl (Nat.le_of_ble_eq_true rfl) (mj_roomC (by decide) (by decide)) ⟨Nat.zero_le _, Nat.zero_le _⟩ dX3_slipsFound_73 ?_
      refine mj_if_eq C dX3_slipsFound_76 rfl hF (fun hc5 hF => ?_) (fun hc5 hF => ?_)
      · refine mj_iinc (v := v10 + 1) C dX3_slipsFound_90 rfl rfl (by decide) ?_
        refine mj_goto C dX3_slipsFound_93 rfl ?_
        refine mj_to ?_ (ih v1 v2 v4 v5 v6 v7 ((v8 * 1103515245) + 12345) v9 (v10 + 1) r4.2 R hF)
        exact ⟨rfl, rfl, rfl, rfl, rfl, rfl, rfl, rfl, rfl, rfl, trivial⟩
      · refine mj_aload_n C dX3_slipsFound_79 rfl ?_
        refine mg_X3_9 C dX3_slipsFound_80 ?_
        refine mj_iload_n C dX3_slipsFound_83 rfl ?_
        refine mj_ic_ne C dX3_slipsFound_84 rfl hF (fun hc6 hF => ?_) (fun hc6 hF => ?_)
        · refine mj_iinc (v := v10 + 1) C dX3_slipsFound_90 rfl rfl (by decide) ?_
          refine mj_goto C dX3_slipsFound_93 rfl ?_
          refine mj_to ?_ (ih v1 v2 v4 v5 v6 v7 ((v8 * 1103515245) + 12345) v9 (v10 + 1) r4.2 R hF)
          exact ⟨rfl, rfl, rfl, rfl, rfl, rfl, rfl, rfl, rfl, rfl, trivial⟩
        · refine mj_iinc (v := v9 + 1) C dX3_slipsFound_87 rfl rfl (by decide) ?_
          refine mj_iinc (v := v10 + 1) C dX3_slipsFound_90 rfl rfl (by decide) ?_
          refine mj_goto C dX3_slipsFound_93 rfl ?_
          refine mj_to ?_ (ih v1 v2 v4 v5 v6 v7 ((v8 * 1103515245) + 12345) (v9 + 1) (v10 + 1) r4.2 R hF)
          exact ⟨rfl, rfl, rfl, rfl, rfl, rfl, rfl, rfl, rfl, rfl, trivial⟩
set_option maxRecDepth 100000 in
set_option maxHeartbeats 4000000 in
theorem c_X3_slipsFound {G : mj_G} {l : Launch} (σ : mj_S) (p1 : Int32) (p2 : Int32) (p3 : Int32) (p4 : Int32) (p5 : Int32) (R : (Int32 × mj_S)) (hF : f_X3_slipsFound σ p1 p2 p3 p4 p5 = some R) : mj_C G l yX3_slipsFound cX3_slipsFound 12 (some .int) 5 [.ref (G.2.1 40), .int p1, .int p2, .int p3, .int p4, .int p5] σ (some (.int R.1)) R.2 := by
  unfold f_X3_slipsFound at hF
  refine mj_of (ls := [(0, .ref (G.2.1 40)), (1, .int p1), (2, .int p2), (3, .int p3), (4, .int p4), (5, .int p5)]) (by decide) (Nat.le_of_ble_eq_true rfl) rfl (fun p e s m args below meth c C hr hlk => ?_)
  refine mj_aload_n C dX3_slipsFound_0 rfl ?_
  refine mg_X3_37 C dX3_slipsFound_1 ?_
  refine mj_iload_n C dX3_slipsFound_4 rfl ?_
  refine mj_iload_n C dX3_slipsFound_5 rfl ?_
  obtain ⟨r1, hq1, hF⟩ := mj_ob hF
  refine mj_callVi C (c_X2_heightAt σ p1 p2 r1 hq1) yv_X2_heightAt kl_X3_51 (mo_9 G _) rfl rfl rfl rfl (Nat.le_of_ble_eq_true rfl) (mj_roomC (by decide) (by decide)) ⟨Nat.zero_le _, Nat.zero_le _⟩ dX3_slipsFound_6 ?_
  refine mj_istore C dX3_slipsFound_9 (by decide) ?_
  refine mj_iconstV (v := 1) C dX3_slipsFound_11 mc_i_1 ?_
  refine mj_iconstV (v := 2) C dX3_slipsFound_12 mc_i_2 ?_
  refine mj_iload C dX3_slipsFound_13 rfl ?_
  refine mj_imul C dX3_slipsFound_15 ?_
  refine mj_iconstV (v := 1) C dX3_slipsFound_16 mc_i_1 ?_
  refine mj_iadd C dX3_slipsFound_17 ?_
  refine mj_mmax C kl_X3_64 (mj_room13 (by decide) (Nat.le_of_ble_eq_true rfl)) ⟨Nat.zero_le _, Nat.zero_le _⟩ dX3_slipsFound_18 ?_
  refine mj_istore C dX3_slipsFound_21 (by decide) ?_
  refine mj_iload_n C dX3_slipsFound_23 rfl ?_
  refine mj_istore C dX3_slipsFound_24 (by decide) ?_
  refine mj_iconstV (v := 0) C dX3_slipsFound_26 mc_i_0 ?_
  refine mj_istore C dX3_slipsFound_27 (by decide) ?_
  refine mj_iconstV (v := 0) C dX3_slipsFound_29 mc_i_0 ?_
  refine mj_istore C dX3_slipsFound_30 (by decide) ?_
  refine mj_to ?_ (w_X3_slipsFound_32 C hr hlk mj_fu p1 p2 p4 p5 r1 (mj_max 1 ((2 * p5) + 1)) p3 0 0 σ R hF)
  exact ⟨rfl, rfl, rfl, rfl, rfl, rfl, rfl, rfl, rfl, rfl, trivial⟩
set_option maxRecDepth 100000 in
set_option maxHeartbeats 4000000 in
theorem c_X9_whose {G : mj_G} {l : Launch} (σ : mj_S) (p1 : Int32) (p2 : Int32) (R : (Int32 × mj_S)) (hF : f_X9_whose σ p1 p2 = some R) : mj_C G l yX9_whose cX9_whose 3 (some .int) 6 [.ref (G.2.1 0), .int p1, .int p2] σ (some (.int R.1)) R.2 := by
  unfold f_X9_whose at hF
  refine mj_of (ls := [(0, .ref (G.2.1 0)), (1, .int p1), (2, .int p2)]) (by decide) (Nat.le_of_ble_eq_true rfl) rfl (fun p e s m args below meth c C hr hlk => ?_)
  refine mj_aload_n C dX9_whose_0 rfl ?_
  refine mg_X9_35 C dX9_whose_1 ?_
  refine mj_iload_n C dX9_whose_4 rfl ?_
  refine mj_callVi C (c_X5_has σ p1) yv_X5_has kl_X9_168 (mo_35 G _) rfl rfl rfl rfl (Nat.le_of_ble_eq_true rfl) (mj_roomC (by decide) (by decide)) ⟨Nat.zero_le _, Nat.zero_le _⟩ dX9_whose_5 ?_
  refine mj_if_eq C dX9_whose_8 rfl hF (fun hc1 hF => ?_) (fun hc1 hF => ?_)
  · refine mj_iconstV (v := (-1)) C dX9_whose_20 mc_i_m1 ?_
    have hF := mj_oi hF; subst hF
    exact mj_iret C hr hlk dX9_whose_21
  · refine mj_iload_n C dX9_whose_11 rfl ?_
    refine mj_iconstV (v := 0) C dX9_whose_12 mc_i_0 ?_
    refine mj_iconstV (v := 2) C dX9_whose_13 mc_i_2 ?_
    refine mj_callSi C (c_X9_within σ p2 0 2) ys_X9_within kl_X9_82 rfl rfl (Nat.le_of_ble_eq_true rfl) (mj_roomC (by decide) (by decide)) ⟨Nat.zero_le _, Nat.zero_le _⟩ dX9_whose_14 ?_
    refine mj_if_ne C dX9_whose_17 rfl hF (fun hc2 hF => ?_) (fun hc2 hF => ?_)
    · refine mj_aload_n C dX9_whose_22 rfl ?_
      refine mg_X9_44 C dX9_whose_23 ?_
      refine mj_iload_n C dX9_whose_26 rfl ?_
      obtain ⟨r3, hq3, hF⟩ := mj_ob hF
      refine mj_callVi C (c_X3_findFor σ p1 r3 hq3) yv_X3_findFor kl_X9_189 (mo_40 G _) rfl rfl rfl rfl (Nat.le_of_ble_eq_true rfl) (mj_roomC (by decide) (by decide)) ⟨Nat.zero_le _, Nat.zero_le _⟩ dX9_whose_27 ?_
      refine mj_if_ne C dX9_whose_30 rfl hF (fun hc4 hF => ?_) (fun hc4 hF => ?_)
      · refine mj_iload_n C dX9_whose_36 rfl ?_
        by_cases hw5_0 : p2 = 0
        · rw [if_pos hw5_0] at hF
          refine mj_lsw (off := 27) C dX9_whose_37 rfl (by rw [hw5_0]; rfl) rfl ?_
          refine mj_aload_n C dX9_whose_64 rfl ?_
          refine mg_X9_44 C dX9_whose_65 ?_
          refine mj_callVi C (c_X3_foundChild r3.2) yv_X3_foundChild kl_X9_192 (mo_40 G _) rfl rfl rfl rfl (Nat.le_of_ble_eq_true rfl) (mj_roomC (by decide) (by decide)) ⟨Nat.zero_le _, Nat.zero_le _⟩ dX9_whose_68 ?_
          have hF := mj_oi hF; subst hF
          exact mj_iret C hr hlk dX9_whose_71
        rw [if_neg hw5_0] at hF
        by_cases hw5_1 : p2 = 1
        · rw [if_pos hw5_1] at hF
          refine mj_lsw (off := 35) C dX9_whose_37 rfl (by rw [hw5_1]; rfl) rfl ?_
          refine mj_aload_n C dX9_whose_72 rfl ?_
          refine mg_X9_44 C dX9_whose_73 ?_
          refine mj_callVi C (c_X3_foundMonth r3.2) yv_X3_foundMonth kl_X9_195 (mo_40 G _) rfl rfl rfl rfl (Nat.le_of_ble_eq_true rfl) (mj_roomC (by decide) (by decide)) ⟨Nat.zero_le _, Nat.zero_le _⟩ dX9_whose_76 ?_
          have hF := mj_oi hF; subst hF
          exact mj_iret C hr hlk dX9_whose_79
        rw [if_neg hw5_1] at hF
        refine mj_lsw (off := 43) C dX9_whose_37 rfl (by refine (lv_osw hw5_0 rfl).trans ?_; refine (lv_osw hw5_1 rfl).trans ?_; rfl) rfl ?_
        refine mj_aload_n C dX9_whose_80 rfl ?_
        refine mg_X9_44 C dX9_whose_81 ?_
        refine mj_callVi C (c_X3_foundDistance r3.2) yv_X3_foundDistance kl_X9_198 (mo_40 G _) rfl rfl rfl rfl (Nat.le_of_ble_eq_true rfl) (mj_roomC (by decide) (by decide)) ⟨Nat.zero_le _, Nat.zero_le _⟩ dX9_whose_84 ?_
        have hF := mj_oi hF; subst hF
        exact mj_iret C hr hlk dX9_whose_87
      · refine mj_bipushV (v := (-2)) C dX9_whose_33 mc_b_m2 ?_
        have hF := mj_oi hF; subst hF
        exact mj_iret C hr hlk dX9_whose_35
    · refine mj_iconstV (v := (-1)) C dX9_whose_20 mc_i_m1 ?_
      have hF := mj_oi hF; subst hF
      exact mj_iret C hr hlk dX9_whose_21
set_option maxRecDepth 100000 in
set_option maxHeartbeats 4000000 in
theorem c_X9_odds {G : mj_G} {l : Launch} (σ : mj_S) (p1 : Int32) (R : Int32) (hF : f_X9_odds σ p1 = some R) : mj_C G l yX9_odds cX9_odds 2 (some .int) 6 [.ref (G.2.1 0), .int p1] σ (some (.int R)) σ := by
  unfold f_X9_odds at hF
  refine mj_of (ls := [(0, .ref (G.2.1 0)), (1, .int p1)]) (by decide) (Nat.le_of_ble_eq_true rfl) rfl (fun p e s m args below meth c C hr hlk => ?_)
  refine mj_aload_n C dX9_odds_0 rfl ?_
  refine mj_iload_n C dX9_odds_1 rfl ?_
  refine mj_callVi C (c_X9_isMarkAndChild σ p1) yv_X9_isMarkAndChild kl_X9_180 (mo_0 G _) rfl rfl rfl rfl (Nat.le_of_ble_eq_true rfl) (mj_roomC (by decide) (by decide)) ⟨Nat.zero_le _, Nat.zero_le _⟩ dX9_odds_2 ?_
  refine mj_if_eq C dX9_odds_5 rfl hF (fun hc1 hF => ?_) (fun hc1 hF => ?_)
  · refine mj_iconstV (v := (-1)) C dX9_odds_26 mc_i_m1 ?_
    have hF := mj_oi hF; subst hF
    exact mj_iret C hr hlk dX9_odds_27
  · refine mj_aload_n C dX9_odds_8 rfl ?_
    refine mg_X9_44 C dX9_odds_9 ?_
    refine mj_iload_n C dX9_odds_12 rfl ?_
    refine mj_bipushV (v := 10) C dX9_odds_13 mc_b_10 ?_
    refine mj_idiv C dX9_odds_15 (by decide) ?_
    refine mj_iload_n C dX9_odds_16 rfl ?_
    refine mj_bipushV (v := 10) C dX9_odds_17 mc_b_10 ?_
    refine mj_irem C dX9_odds_19 (by decide) ?_
    obtain ⟨r2, hq2, hF⟩ := mj_ob hF
    refine mj_callVi C (c_X3_chance σ (p1 / 10) (mj_rem p1 10) r2 hq2) yv_X3_chance kl_X9_201 (mo_40 G _) rfl rfl rfl rfl (Nat.le_of_ble_eq_true rfl) (mj_roomC (by decide) (by decide)) ⟨Nat.zero_le _, Nat.zero_le _⟩ dX9_odds_20 ?_
    refine mj_goto C dX9_odds_23 rfl ?_
    have hF := mj_oi hF; subst hF
    exact mj_iret C hr hlk dX9_odds_27
set_option maxRecDepth 100000 in
set_option maxHeartbeats 4000000 in
theorem c_X9_how {G : mj_G} {l : Launch} (σ : mj_S) (p1 : Int32) (p2 : Int32) (R : (Int32 × mj_S)) (hF : f_X9_how σ p1 p2 = some R) : mj_C G l yX9_how cX9_how 3 (some .int) 7 [.ref (G.2.1 0), .int p1, .int p2] σ (some (.int R.1)) R.2 := by
  unfold f_X9_how at hF
  refine mj_of (ls := [(0, .ref (G.2.1 0)), (1, .int p1), (2, .int p2)]) (by decide) (Nat.le_of_ble_eq_true rfl) rfl (fun p e s m args below meth c C hr hlk => ?_)
  refine mj_aload_n C dX9_how_0 rfl ?_
  refine mg_X9_35 C dX9_how_1 ?_
  refine mj_iload_n C dX9_how_4 rfl ?_
  refine mj_callVi C (c_X5_has σ p1) yv_X5_has kl_X9_168 (mo_35 G _) rfl rfl rfl rfl (Nat.le_of_ble_eq_true rfl) (mj_roomC (by decide) (by decide)) ⟨Nat.zero_le _, Nat.zero_le _⟩ dX9_how_5 ?_
  refine mj_if_eq C dX9_how_8 rfl hF (fun hc1 hF => ?_) (fun hc1 hF => ?_)
  · refine mj_iconstV (v := (-1)) C dX9_how_20 mc_i_m1 ?_
    have hF := mj_oi hF; subst hF
    exact mj_iret C hr hlk dX9_how_21
  · refine mj_iload_n C dX9_how_11 rfl ?_
    refine mj_iconstV (v := 0) C dX9_how_12 mc_i_0 ?_
    refine mj_iconstV (v := 1) C dX9_how_13 mc_i_1 ?_
    refine mj_callSi C (c_X9_within σ p2 0 1) ys_X9_within kl_X9_82 rfl rfl (Nat.le_of_ble_eq_true rfl) (mj_roomC (by decide) (by decide)) ⟨Nat.zero_le _, Nat.zero_le _⟩ dX9_how_14 ?_
    refine mj_if_ne C dX9_how_17 rfl hF (fun hc2 hF => ?_) (fun hc2 hF => ?_)
    · refine mj_aload_n C dX9_how_22 rfl ?_
      refine mg_X9_44 C dX9_how_23 ?_
      refine mj_iload_n C dX9_how_26 rfl ?_
      obtain ⟨r3, hq3, hF⟩ := mj_ob hF
      refine mj_callVi C (c_X3_findFor σ p1 r3 hq3) yv_X3_findFor kl_X9_189 (mo_40 G _) rfl rfl rfl rfl (Nat.le_of_ble_eq_true rfl) (mj_roomC (by decide) (by decide)) ⟨Nat.zero_le _, Nat.zero_le _⟩ dX9_how_27 ?_
      refine mj_if_ne C dX9_how_30 rfl hF (fun hc4 hF => ?_) (fun hc4 hF => ?_)
      · refine mj_iload_n C dX9_how_36 rfl ?_
        refine mj_if_ne C dX9_how_37 rfl hF (fun hc5 hF => ?_) (fun hc5 hF => ?_)
        · refine mj_aload_n C dX9_how_51 rfl ?_
          refine mg_X9_44 C dX9_how_52 ?_
          refine mj_iload_n C dX9_how_55 rfl ?_
          obtain ⟨r6, hq6, hF⟩ := mj_ob hF
          refine mj_callVi C (c_X3_wrongWay r3.2 p1 r6 hq6) yv_X3_wrongWay kl_X9_207 (mo_40 G _) rfl rfl rfl rfl (Nat.le_of_ble_eq_true rfl) (mj_roomC (by decide) (by decide)) ⟨Nat.zero_le _, Nat.zero_le _⟩ dX9_how_56 ?_
          have hF := mj_oi hF; subst hF
          exact mj_iret C hr hlk dX9_how_59
        · refine mj_aload_n C dX9_how_40 rfl ?_
          refine mg_X9_44 C dX9_how_41 ?_
          refine mj_iload_n C dX9_how_44 rfl ?_
          obtain ⟨r7, hq7, hF⟩ := mj_ob hF
          refine mj_callVi C (c_X3_likeliestWay r3.2 p1 r7 hq7) yv_X3_likeliestWay kl_X9_204 (mo_40 G _) rfl rfl rfl rfl (Nat.le_of_ble_eq_true rfl) (mj_roomC (by decide) (by decide)) ⟨Nat.zero_le _, Nat.zero_le _⟩ dX9_how_45 ?_
          refine mj_goto C dX9_how_48 rfl ?_
          have hF := mj_oi hF; subst hF
          exact mj_iret C hr hlk dX9_how_59
      · refine mj_bipushV (v := (-2)) C dX9_how_33 mc_b_m2 ?_
        have hF := mj_oi hF; subst hF
        exact mj_iret C hr hlk dX9_how_35
    · refine mj_iconstV (v := (-1)) C dX9_how_20 mc_i_m1 ?_
      have hF := mj_oi hF; subst hF
      exact mj_iret C hr hlk dX9_how_21
set_option maxRecDepth 100000 in
set_option maxHeartbeats 4000000 in
theorem c_X9_together {G : mj_G} {l : Launch} (σ : mj_S) (p1 : Int32) (p2 : Int32) (R : (Int32 × mj_S)) (hF : f_X9_together σ p1 p2 = some R) : mj_C G l yX9_together cX9_together 4 (some .int) 6 [.ref (G.2.1 0), .int p1, .int p2] σ (some (.int R.1)) R.2 := by
  unfold f_X9_together at hF
  refine mj_of (ls := [(0, .ref (G.2.1 0)), (1, .int p1), (2, .int p2)]) (by decide) (Nat.le_of_ble_eq_true rfl) rfl (fun p e s m args below meth c C hr hlk => ?_)
  refine mj_iload_n C dX9_together_0 rfl ?_
  refine mj_callSi C (c_X9_isMonth σ p1) ys_X9_isMonth kl_X9_78 rfl rfl (Nat.le_of_ble_eq_true rfl) (mj_roomC (by decide) (by decide)) ⟨Nat.zero_le _, Nat.zero_le _⟩ dX9_together_1 ?_
  refine mj_if_ne C dX9_together_4 rfl hF (fun hc1 hF => ?_) (fun hc1 hF => ?_)
  · refine mj_aload_n C dX9_together_9 rfl ?_
    refine mg_X9_44 C dX9_together_10 ?_
    refine mj_iload_n C dX9_together_13 rfl ?_
    obtain ⟨r2, hq2, hF⟩ := mj_ob hF
    refine mj_callVi C (c_X3_gather σ p1 r2 hq2) yv_X3_gather kl_X9_210 (mo_40 G _) rfl rfl rfl rfl (Nat.le_of_ble_eq_true rfl) (mj_roomC (by decide) (by decide)) ⟨Nat.zero_le _, Nat.zero_le _⟩ dX9_together_14 ?_
    refine mj_istore_n C dX9_together_17 (by decide) ?_
    refine mj_iload_n C dX9_together_18 rfl ?_
    refine mj_iconstV (v := (-1)) C dX9_together_19 mc_i_m1 ?_
    refine mj_ic_lt C dX9_together_20 rfl hF (fun hc3 hF => ?_) (fun hc3 hF => ?_)
    · refine mj_iconstV (v := (-1)) C dX9_together_28 mc_i_m1 ?_
      have hF := mj_oi hF; subst hF
      exact mj_iret C hr hlk dX9_together_29
    · refine mj_iload_n C dX9_together_23 rfl ?_
      refine mj_iload_n C dX9_together_24 rfl ?_
      refine mj_ic_lt C dX9_together_25 rfl hF (fun hc4 hF => ?_) (fun hc4 hF => ?_)
      · refine mj_aload_n C dX9_together_30 rfl ?_
        refine mg_X9_44 C dX9_together_31 ?_
        refine mj_iload_n C dX9_together_34 rfl ?_
        obtain ⟨r5, hq5, hF⟩ := mj_ob hF
        refine mj_callVi C (c_X3_shareOut r2.2 p1 r5 hq5) yv_X3_shareOut kl_X9_213 (mo_40 G _) rfl rfl rfl rfl (Nat.le_of_ble_eq_true rfl) (mj_roomC (by decide) (by decide)) ⟨Nat.zero_le _, Nat.zero_le _⟩ dX9_together_35 ?_
        refine mj_if_ne C dX9_together_38 rfl hF (fun hc6 hF => ?_) (fun hc6 hF => ?_)
        · refine mj_iload_n C dX9_together_44 rfl ?_
          refine mj_if_ge C dX9_together_45 rfl hF (fun hc7 hF => ?_) (fun hc7 hF => ?_)
          · refine mj_aload_n C dX9_together_58 rfl ?_
            refine mg_X9_44 C dX9_together_59 ?_
            refine mj_iload_n C dX9_together_62 rfl ?_
            obtain ⟨r8, hq8, hF⟩ := mj_ob hF
            refine mj_callVi C (c_X3_sharedChild r5.2 p2 r8 hq8) yv_X3_sharedChild kl_X9_219 (mo_40 G _) rfl rfl rfl rfl (Nat.le_of_ble_eq_true rfl) (mj_roomC (by decide) (by decide)) ⟨Nat.zero_le _, Nat.zero_le _⟩ dX9_together_63 ?_
            have hF := mj_oi hF; subst hF
            exact mj_iret C hr hlk dX9_together_66
          · refine mj_aload_n C dX9_together_48 rfl ?_
            refine mg_X9_44 C dX9_together_49 ?_
            refine mj_callVi C (c_X3_sharedSum r5.2) yv_X3_sharedSum kl_X9_216 (mo_40 G _) rfl rfl rfl rfl (Nat.le_of_ble_eq_true rfl) (mj_roomC (by decide) (by decide)) ⟨Nat.zero_le _, Nat.zero_le _⟩ dX9_together_52 ?_
            refine mj_goto C dX9_together_55 rfl ?_
            have hF := mj_oi hF; subst hF
            exact mj_iret C hr hlk dX9_together_66
        · refine mj_bipushV (v := (-2)) C dX9_together_41 mc_b_m2 ?_
          have hF := mj_oi hF; subst hF
          exact mj_iret C hr hlk dX9_together_43
      · refine mj_iconstV (v := (-1)) C dX9_together_28 mc_i_m1 ?_
        have hF := mj_oi hF; subst hF
        exact mj_iret C hr hlk dX9_together_29
  · refine mj_iconstV (v := (-1)) C dX9_together_7 mc_i_m1 ?_
    have hF := mj_oi hF; subst hF
    exact mj_iret C hr hlk dX9_together_8
set_option maxRecDepth 100000 in
set_option maxHeartbeats 4000000 in
theorem c_X9_led {G : mj_G} {l : Launch} (σ : mj_S) (p1 : Int32) (R : (Int32 × mj_S)) (hF : f_X9_led σ p1 = some R) : mj_C G l yX9_led cX9_led 2 (some .int) 7 [.ref (G.2.1 0), .int p1] σ (some (.int R.1)) R.2 := by
  unfold f_X9_led at hF
  refine mj_of (ls := [(0, .ref (G.2.1 0)), (1, .int p1)]) (by decide) (Nat.le_of_ble_eq_true rfl) rfl (fun p e s m args below meth c C hr hlk => ?_)
  refine mj_aload_n C dX9_led_0 rfl ?_
  refine mg_X9_28 C dX9_led_1 ?_
  refine mj_iload_n C dX9_led_4 rfl ?_
  refine mj_callVi C (c_X2_has σ p1) yv_X2_has kl_X9_132 (mo_9 G _) rfl rfl rfl rfl (Nat.le_of_ble_eq_true rfl) (mj_roomC (by decide) (by decide)) ⟨Nat.zero_le _, Nat.zero_le _⟩ dX9_led_5 ?_
  refine mj_if_eq C dX9_led_8 rfl hF (fun hc1 hF => ?_) (fun hc1 hF => ?_)
  · refine mj_iconstV (v := (-1)) C dX9_led_22 mc_i_m1 ?_
    have hF := mj_oi hF; subst hF
    exact mj_iret C hr hlk dX9_led_23
  · refine mj_aload_n C dX9_led_11 rfl ?_
    refine mg_X9_44 C dX9_led_12 ?_
    refine mj_iload_n C dX9_led_15 rfl ?_
    obtain ⟨r2, hq2, hF⟩ := mj_ob hF
    refine mj_callVi C (c_X3_leadingTo σ p1 r2 hq2) yv_X3_leadingTo kl_X9_228 (mo_40 G _) rfl rfl rfl rfl (Nat.le_of_ble_eq_true rfl) (mj_roomC (by decide) (by decide)) ⟨Nat.zero_le _, Nat.zero_le _⟩ dX9_led_16 ?_
    refine mj_goto C dX9_led_19 rfl ?_
    have hF := mj_oi hF; subst hF
    exact mj_iret C hr hlk dX9_led_23
set_option maxRecDepth 100000 in
set_option maxHeartbeats 4000000 in
theorem c_X9_slips {G : mj_G} {l : Launch} (σ : mj_S) (p1 : Int32) (p2 : Int32) (p3 : Int32) (p4 : Int32) (R : (Int32 × mj_S)) (hF : f_X9_slips σ p1 p2 p3 p4 = some R) : mj_C G l yX9_slips cX9_slips 5 (some .int) 6 [.ref (G.2.1 0), .int p1, .int p2, .int p3, .int p4] σ (some (.int R.1)) R.2 := by
  unfold f_X9_slips at hF
  refine mj_of (ls := [(0, .ref (G.2.1 0)), (1, .int p1), (2, .int p2), (3, .int p3), (4, .int p4)]) (by decide) (Nat.le_of_ble_eq_true rfl) rfl (fun p e s m args below meth c C hr hlk => ?_)
  refine mj_aload_n C dX9_slips_0 rfl ?_
  refine mg_X9_28 C dX9_slips_1 ?_
  refine mj_iload_n C dX9_slips_4 rfl ?_
  refine mj_callVi C (c_X2_has σ p1) yv_X2_has kl_X9_132 (mo_9 G _) rfl rfl rfl rfl (Nat.le_of_ble_eq_true rfl) (mj_roomC (by decide) (by decide)) ⟨Nat.zero_le _, Nat.zero_le _⟩ dX9_slips_5 ?_
  refine mj_if_eq C dX9_slips_8 rfl hF (fun hc1 hF => ?_) (fun hc1 hF => ?_)
  · refine mj_iconstV (v := (-1)) C dX9_slips_37 mc_i_m1 ?_
    have hF := mj_oi hF; subst hF
    exact mj_iret C hr hlk dX9_slips_38
  · refine mj_iload_n C dX9_slips_11 rfl ?_
    refine mj_callSi C (c_X9_isMonth σ p2) ys_X9_isMonth kl_X9_78 rfl rfl (Nat.le_of_ble_eq_true rfl) (mj_roomC (by decide) (by decide)) ⟨Nat.zero_le _, Nat.zero_le _⟩ dX9_slips_12 ?_
    refine mj_if_eq C dX9_slips_15 rfl hF (fun hc2 hF => ?_) (fun hc2 hF => ?_)
    · refine mj_iconstV (v := (-1)) C dX9_slips_37 mc_i_m1 ?_
      have hF := mj_oi hF; subst hF
      exact mj_iret C hr hlk dX9_slips_38
    · refine mj_iload C dX9_slips_18 rfl ?_
      refine mj_if_lt C dX9_slips_20 rfl hF (fun hc3 hF => ?_) (fun hc3 hF => ?_)
      · refine mj_iconstV (v := (-1)) C dX9_slips_37 mc_i_m1 ?_
        have hF := mj_oi hF; subst hF
        exact mj_iret C hr hlk dX9_slips_38
      · refine mj_iload C dX9_slips_23 rfl ?_
        refine mj_bipushV (v := 100) C dX9_slips_25 mc_b_100 ?_
        refine mj_idiv C dX9_slips_27 (by decide) ?_
        refine mj_iconstV (v := 1) C dX9_slips_28 mc_i_1 ?_
        refine mj_bipushV (v := 50) C dX9_slips_29 mc_b_50 ?_
        refine mj_callSi C (c_X9_within σ (p4 / 100) 1 50) ys_X9_within kl_X9_82 rfl rfl (Nat.le_of_ble_eq_true rfl) (mj_roomC (by decide) (by decide)) ⟨Nat.zero_le _, Nat.zero_le _⟩ dX9_slips_31 ?_
        refine mj_if_ne C dX9_slips_34 rfl hF (fun hc4 hF => ?_) (fun hc4 hF => ?_)
        · refine mj_aload_n C dX9_slips_39 rfl ?_
          refine mg_X9_28 C dX9_slips_40 ?_
          refine mj_iload_n C dX9_slips_43 rfl ?_
          refine mj_iload_n C dX9_slips_44 rfl ?_
          obtain ⟨r5, hq5, hF⟩ := mj_ob hF
          refine mj_callVi C (c_X2_isBorn σ p1 p2 r5 hq5) yv_X2_isBorn kl_X9_247 (mo_9 G _) rfl rfl rfl rfl (Nat.le_of_ble_eq_true rfl) (mj_roomC (by decide) (by decide)) ⟨Nat.zero_le _, Nat.zero_le _⟩ dX9_slips_45 ?_
          refine mj_if_ne C dX9_slips_48 rfl hF (fun hc6 hF => ?_) (fun hc6 hF => ?_)
          · refine mj_aload_n C dX9_slips_54 rfl ?_
            refine mg_X9_44 C dX9_slips_55 ?_
            refine mj_iload_n C dX9_slips_58 rfl ?_
            refine mj_iload_n C dX9_slips_59 rfl ?_
            refine mj_iload_n C dX9_slips_60 rfl ?_
            refine mj_iload C dX9_slips_61 rfl ?_
            refine mj_bipushV (v := 100) C dX9_slips_63 mc_b_100 ?_
            refine mj_idiv C dX9_slips_65 (by decide) ?_
            refine mj_iload C dX9_slips_66 rfl ?_
            refine mj_bipushV (v := 100) C dX9_slips_68 mc_b_100 ?_
            refine mj_irem C dX9_slips_70 (by decide) ?_
            obtain ⟨r7, hq7, hF⟩ := mj_ob hF
            refine mj_callVi C (c_X3_slipsFound σ p1 p2 p3 (p4 / 100) (mj_rem p4 100) r7 hq7) yv_X3_slipsFound kl_X9_269 (mo_40 G _) rfl rfl rfl rfl (Nat.le_of_ble_eq_true rfl) (mj_roomC (by decide) (by decide)) ⟨Nat.zero_le _, Nat.zero_le _⟩ dX9_slips_71 ?_
            have hF := mj_oi hF; subst hF
            exact mj_iret C hr hlk dX9_slips_74
          · refine mj_bipushV (v := (-2)) C dX9_slips_51 mc_b_m2 ?_
            have hF := mj_oi hF; subst hF
            exact mj_iret C hr hlk dX9_slips_53
        · refine mj_iconstV (v := (-1)) C dX9_slips_37 mc_i_m1 ?_
          have hF := mj_oi hF; subst hF
          exact mj_iret C hr hlk dX9_slips_38
set_option maxRecDepth 100000 in
set_option maxHeartbeats 4000000 in
theorem c_X9_count {G : mj_G} {l : Launch} (σ : mj_S) (p1 : Int32) : mj_C G l yX9_count cX9_count 2 (some .int) 2 [.ref (G.2.1 0), .int p1] σ (some (.int (f_X9_count σ p1))) σ := by
  generalize hF : f_X9_count σ p1 = R
  unfold f_X9_count at hF
  refine mj_of (ls := [(0, .ref (G.2.1 0)), (1, .int p1)]) (by decide) (Nat.le_of_ble_eq_true rfl) rfl (fun p e s m args below meth c C hr hlk => ?_)
  refine mj_iload_n C dX9_count_0 rfl ?_
  by_cases hw1_0 : p1 = 0
  · rw [if_pos hw1_0] at hF
    refine mj_tsIn (off := 43) C dX9_count_1 (by rw [hw1_0]; decide) (by rw [hw1_0]; decide) (by rw [hw1_0]; rfl) rfl ?_
    refine mj_aload_n C dX9_count_44 rfl ?_
    refine mg_X9_28 C dX9_count_45 ?_
    refine mj_callVi C (c_X2_size σ) yv_X2_size kl_X9_92 (mo_9 G _) rfl rfl rfl rfl (Nat.le_of_ble_eq_true rfl) (mj_roomC (by decide) (by decide)) ⟨Nat.zero_le _, Nat.zero_le _⟩ dX9_count_48 ?_
    subst hF
    exact mj_iret C hr hlk dX9_count_51
  rw [if_neg hw1_0] at hF
  by_cases hw1_1 : p1 = 1
  · rw [if_pos hw1_1] at hF
    refine mj_tsIn (off := 51) C dX9_count_1 (by rw [hw1_1]; decide) (by rw [hw1_1]; decide) (by rw [hw1_1]; rfl) rfl ?_
    refine mj_aload_n C dX9_count_52 rfl ?_
    refine mg_X9_28 C dX9_count_53 ?_
    refine mj_callVi C (c_X2_wantsTold σ) yv_X2_wantsTold kl_X9_106 (mo_9 G _) rfl rfl rfl rfl (Nat.le_of_ble_eq_true rfl) (mj_roomC (by decide) (by decide)) ⟨Nat.zero_le _, Nat.zero_le _⟩ dX9_count_56 ?_
    subst hF
    exact mj_iret C hr hlk dX9_count_59
  rw [if_neg hw1_1] at hF
  by_cases hw1_2 : p1 = 2
  · rw [if_pos hw1_2] at hF
    refine mj_tsIn (off := 59) C dX9_count_1 (by rw [hw1_2]; decide) (by rw [hw1_2]; decide) (by rw [hw1_2]; rfl) rfl ?_
    refine mj_aload_n C dX9_count_60 rfl ?_
    refine mg_X9_35 C dX9_count_61 ?_
    refine mj_callVi C (c_X5_size σ) yv_X5_size kl_X9_146 (mo_35 G _) rfl rfl rfl rfl (Nat.le_of_ble_eq_true rfl) (mj_roomC (by decide) (by decide)) ⟨Nat.zero_le _, Nat.zero_le _⟩ dX9_count_64 ?_
    subst hF
    exact mj_iret C hr hlk dX9_count_67
  rw [if_neg hw1_2] at hF
  by_cases hw1_3 : p1 = 3
  · rw [if_pos hw1_3] at hF
    refine mj_tsIn (off := 67) C dX9_count_1 (by rw [hw1_3]; decide) (by rw [hw1_3]; decide) (by rw [hw1_3]; rfl) rfl ?_
    refine mj_aload_n C dX9_count_68 rfl ?_
    refine mg_X9_19 C dX9_count_69 ?_
    refine mj_callVi C (c_X7_tapeLength σ) yv_X7_tapeLength kl_X9_113 (mo_5 G _) rfl rfl rfl rfl (Nat.le_of_ble_eq_true rfl) (mj_roomC (by decide) (by decide)) ⟨Nat.zero_le _, Nat.zero_le _⟩ dX9_count_72 ?_
    subst hF
    exact mj_iret C hr hlk dX9_count_75
  rw [if_neg hw1_3] at hF
  by_cases hw1_4 : p1 = 4
  · rw [if_pos hw1_4] at hF
    refine mj_tsIn (off := 75) C dX9_count_1 (by rw [hw1_4]; decide) (by rw [hw1_4]; decide) (by rw [hw1_4]; rfl) rfl ?_
    refine mj_aload_n C dX9_count_76 rfl ?_
    refine mg_X9_60 C dX9_count_77 ?_
    refine mj_callVi C (c_X1_toUndo σ) yv_X1_toUndo kl_X9_272 (mo_45 G _) rfl rfl rfl rfl (Nat.le_of_ble_eq_true rfl) (mj_roomC (by decide) (by decide)) ⟨Nat.zero_le _, Nat.zero_le _⟩ dX9_count_80 ?_
    subst hF
    exact mj_iret C hr hlk dX9_count_83
  rw [if_neg hw1_4] at hF
  by_cases hw1_5 : p1 = 5
  · rw [if_pos hw1_5] at hF
    refine mj_tsIn (off := 83) C dX9_count_1 (by rw [hw1_5]; decide) (by rw [hw1_5]; decide) (by rw [hw1_5]; rfl) rfl ?_
    refine mj_aload_n C dX9_count_84 rfl ?_
    refine mg_X9_67 C dX9_count_85 ?_
    refine mj_callVi C (c_X0_size σ) yv_X0_size kl_X9_287 (mo_50 G _) rfl rfl rfl rfl (Nat.le_of_ble_eq_true rfl) (mj_roomC (by decide) (by decide)) ⟨Nat.zero_le _, Nat.zero_le _⟩ dX9_count_88 ?_
    subst hF
    exact mj_iret C hr hlk dX9_count_91
  rw [if_neg hw1_5] at hF
  by_cases hw1_6 : p1 = 6
  · rw [if_pos hw1_6] at hF
    refine mj_tsIn (off := 91) C dX9_count_1 (by rw [hw1_6]; decide) (by rw [hw1_6]; decide) (by rw [hw1_6]; rfl) rfl ?_
    refine mj_aload_n C dX9_count_92 rfl ?_
    refine mg_X9_67 C dX9_count_93 ?_
    refine mj_callVi C (c_X0_ranInAll σ) yv_X0_ranInAll kl_X9_345 (mo_50 G _) rfl rfl rfl rfl (Nat.le_of_ble_eq_true rfl) (mj_roomC (by decide) (by decide)) ⟨Nat.zero_le _, Nat.zero_le _⟩ dX9_count_96 ?_
    subst hF
    exact mj_iret C hr hlk dX9_count_99
  rw [if_neg hw1_6] at hF
  refine mj_tsOut C dX9_count_1 (mj_sw_0_7 hw1_0 hw1_1 hw1_2 hw1_3 hw1_4 hw1_5 hw1_6) rfl ?_
  refine mj_iconstV (v := (-1)) C dX9_count_100 mc_i_m1 ?_
  subst hF
  exact mj_iret C hr hlk dX9_count_101
set_option maxRecDepth 100000 in
set_option maxHeartbeats 4000000 in
theorem c_X8_isSort {G : mj_G} {l : Launch} (σ : mj_S) (p0 : Int32) : mj_C G l yX8_isSort cX8_isSort 1 (some .boolean) 2 [.int p0] σ (some (.int (f_X8_isSort σ p0))) σ := by
  generalize hF : f_X8_isSort σ p0 = R
  unfold f_X8_isSort at hF
  refine mj_of (ls := [(0, .int p0)]) (by decide) (Nat.le_of_ble_eq_true rfl) rfl (fun p e s m args below meth c C hr hlk => ?_)
  refine mj_iload_n C dX8_isSort_0 rfl ?_
  refine mj_iconstV (v := 0) C dX8_isSort_1 mc_i_0 ?_
  refine mj_iconstV (v := 4) C dX8_isSort_2 mc_i_4 ?_
  refine mj_callNi C (c_X9_within σ p0 0 4) ys_X9_within kn_X8_24 rfl rfl (Nat.le_of_ble_eq_true rfl) (mj_roomC (by decide) (by decide)) ⟨Nat.zero_le _, Nat.zero_le _⟩ dX8_isSort_3 ?_
  subst hF
  exact mj_zbret C hr hlk dX8_isSort_6
set_option maxRecDepth 100000 in
set_option maxHeartbeats 4000000 in
theorem c_X8_has {G : mj_G} {l : Launch} (σ : mj_S) (p1 : Int32) : mj_C G l yX8_has cX8_has 2 (some .boolean) 1 [.ref (G.2.1 53), .int p1] σ (some (.int (f_X8_has σ p1))) σ := by
  generalize hF : f_X8_has σ p1 = R
  unfold f_X8_has at hF
  refine mj_of (ls := [(0, .ref (G.2.1 53)), (1, .int p1)]) (by decide) (Nat.le_of_ble_eq_true rfl) rfl (fun p e s m args below meth c C hr hlk => ?_)
  refine mj_iconstV (v := 0) C dX8_has_0 mc_i_0 ?_
  refine mj_iload_n C dX8_has_1 rfl ?_
  refine mj_ic_gt C dX8_has_2 rfl hF (fun hc1 hF => ?_) (fun hc1 hF => ?_)
  · refine mj_iconstV (v := 0) C dX8_has_15 mc_i_0 ?_
    subst hF
    exact mj_zret (v := 0) rfl C hr hlk dX8_has_16
  · refine mj_iload_n C dX8_has_5 rfl ?_
    refine mj_bipushV (v := 6) C dX8_has_6 mc_b_6 ?_
    refine mj_ic_ge C dX8_has_8 rfl hF (fun hc2 hF => ?_) (fun hc2 hF => ?_)
    · refine mj_iconstV (v := 0) C dX8_has_15 mc_i_0 ?_
      subst hF
      exact mj_zret (v := 0) rfl C hr hlk dX8_has_16
    · refine mj_iconstV (v := 1) C dX8_has_11 mc_i_1 ?_
      refine mj_goto C dX8_has_12 rfl ?_
      subst hF
      exact mj_zret (v := 1) rfl C hr hlk dX8_has_16
set_option maxRecDepth 100000 in
set_option maxHeartbeats 4000000 in
theorem c_X8_holdsRow {G : mj_G} {l : Launch} (σ : mj_S) (p1 : Int32) (R : Int32) (hF : f_X8_holdsRow σ p1 = some R) : mj_C G l yX8_holdsRow cX8_holdsRow 2 (some .boolean) 2 [.ref (G.2.1 53), .int p1] σ (some (.int R)) σ := by
  unfold f_X8_holdsRow at hF
  refine mj_of (ls := [(0, .ref (G.2.1 53)), (1, .int p1)]) (by decide) (Nat.le_of_ble_eq_true rfl) rfl (fun p e s m args below meth c C hr hlk => ?_)
  refine mj_aload_n C dX8_holdsRow_0 rfl ?_
  refine mj_iload_n C dX8_holdsRow_1 rfl ?_
  refine mj_callVi C (c_X8_has σ p1) yv_X8_has kl_X8_30 (mo_53 G _) rfl rfl rfl rfl (Nat.le_of_ble_eq_true rfl) (mj_roomC (by decide) (by decide)) ⟨Nat.zero_le _, Nat.zero_le _⟩ dX8_holdsRow_2 ?_
  refine mj_if_eq C dX8_holdsRow_5 rfl hF (fun hc1 hF => ?_) (fun hc1 hF => ?_)
  · refine mj_iconstV (v := 0) C dX8_holdsRow_22 mc_i_0 ?_
    have hF := mj_oi hF; subst hF
    exact mj_zret (v := 0) rfl C hr hlk dX8_holdsRow_23
  · refine mj_aload_n C dX8_holdsRow_8 rfl ?_
    refine mg_X8_13 C dX8_holdsRow_9 ?_
    refine mj_iload_n C dX8_holdsRow_12 rfl ?_
    obtain ⟨hg2, hF⟩ := mj_og hF
    refine mj_iaload C dX8_holdsRow_13 rfl hg2 ?_
    refine mj_iconstV (v := (-1)) C dX8_holdsRow_14 mc_i_m1 ?_
    refine mj_ic_eq C dX8_holdsRow_15 rfl hF (fun hc3 hF => ?_) (fun hc3 hF => ?_)
    · refine mj_iconstV (v := 0) C dX8_holdsRow_22 mc_i_0 ?_
      have hF := mj_oi hF; subst hF
      exact mj_zret (v := 0) rfl C hr hlk dX8_holdsRow_23
    · refine mj_iconstV (v := 1) C dX8_holdsRow_18 mc_i_1 ?_
      refine mj_goto C dX8_holdsRow_19 rfl ?_
      have hF := mj_oi hF; subst hF
      exact mj_zret (v := 1) rfl C hr hlk dX8_holdsRow_23
set_option maxRecDepth 100000 in
set_option maxHeartbeats 4000000 in
theorem c_X8_holdsShorts {G : mj_G} {l : Launch} (σ : mj_S) (p1 : Int32) (R : Int32) (hF : f_X8_holdsShorts σ p1 = some R) : mj_C G l yX8_holdsShorts cX8_holdsShorts 2 (some .boolean) 2 [.ref (G.2.1 53), .int p1] σ (some (.int R)) σ := by
  unfold f_X8_holdsShorts at hF
  refine mj_of (ls := [(0, .ref (G.2.1 53)), (1, .int p1)]) (by decide) (Nat.le_of_ble_eq_true rfl) rfl (fun p e s m args below meth c C hr hlk => ?_)
  refine mj_aload_n C dX8_holdsShorts_0 rfl ?_
  refine mj_iload_n C dX8_holdsShorts_1 rfl ?_
  refine mj_callVi C (c_X8_has σ p1) yv_X8_has kl_X8_30 (mo_53 G _) rfl rfl rfl rfl (Nat.le_of_ble_eq_true rfl) (mj_roomC (by decide) (by decide)) ⟨Nat.zero_le _, Nat.zero_le _⟩ dX8_holdsShorts_2 ?_
  refine mj_if_eq C dX8_holdsShorts_5 rfl hF (fun hc1 hF => ?_) (fun hc1 hF => ?_)
  · refine mj_iconstV (v := 0) C dX8_holdsShorts_22 mc_i_0 ?_
    have hF := mj_oi hF; subst hF
    exact mj_zret (v := 0) rfl C hr hlk dX8_holdsShorts_23
  · refine mj_aload_n C dX8_holdsShorts_8 rfl ?_
    refine mg_X8_13 C dX8_holdsShorts_9 ?_
    refine mj_iload_n C dX8_holdsShorts_12 rfl ?_
    obtain ⟨hg2, hF⟩ := mj_og hF
    refine mj_iaload C dX8_holdsShorts_13 rfl hg2 ?_
    refine mj_iconstV (v := 1) C dX8_holdsShorts_14 mc_i_1 ?_
    refine mj_ic_ne C dX8_holdsShorts_15 rfl hF (fun hc3 hF => ?_) (fun hc3 hF => ?_)
    · refine mj_iconstV (v := 0) C dX8_holdsShorts_22 mc_i_0 ?_
      have hF := mj_oi hF; subst hF
      exact mj_zret (v := 0) rfl C hr hlk dX8_holdsShorts_23
    · refine mj_iconstV (v := 1) C dX8_holdsShorts_18 mc_i_1 ?_
      refine mj_goto C dX8_holdsShorts_19 rfl ?_
      have hF := mj_oi hF; subst hF
      exact mj_zret (v := 1) rfl C hr hlk dX8_holdsShorts_23
set_option maxRecDepth 100000 in
set_option maxHeartbeats 4000000 in
theorem c_X8_holdsNothing {G : mj_G} {l : Launch} (σ : mj_S) (p1 : Int32) (R : Int32) (hF : f_X8_holdsNothing σ p1 = some R) : mj_C G l yX8_holdsNothing cX8_holdsNothing 2 (some .boolean) 2 [.ref (G.2.1 53), .int p1] σ (some (.int R)) σ := by
  unfold f_X8_holdsNothing at hF
  refine mj_of (ls := [(0, .ref (G.2.1 53)), (1, .int p1)]) (by decide) (Nat.le_of_ble_eq_true rfl) rfl (fun p e s m args below meth c C hr hlk => ?_)
  refine mj_aload_n C dX8_holdsNothing_0 rfl ?_
  refine mj_iload_n C dX8_holdsNothing_1 rfl ?_
  refine mj_callVi C (c_X8_has σ p1) yv_X8_has kl_X8_30 (mo_53 G _) rfl rfl rfl rfl (Nat.le_of_ble_eq_true rfl) (mj_roomC (by decide) (by decide)) ⟨Nat.zero_le _, Nat.zero_le _⟩ dX8_holdsNothing_2 ?_
  refine mj_if_eq C dX8_holdsNothing_5 rfl hF (fun hc1 hF => ?_) (fun hc1 hF => ?_)
  · refine mj_iconstV (v := 0) C dX8_holdsNothing_32 mc_i_0 ?_
    have hF := mj_oi hF; subst hF
    exact mj_zret (v := 0) rfl C hr hlk dX8_holdsNothing_33
  · refine mj_aload_n C dX8_holdsNothing_8 rfl ?_
    refine mg_X8_13 C dX8_holdsNothing_9 ?_
    refine mj_iload_n C dX8_holdsNothing_12 rfl ?_
    obtain ⟨hg2, hF⟩ := mj_og hF
    refine mj_iaload C dX8_holdsNothing_13 rfl hg2 ?_
    refine mj_iconstV (v := (-1)) C dX8_holdsNothing_14 mc_i_m1 ?_
    refine mj_ic_ne C dX8_holdsNothing_15 rfl hF (fun hc3 hF => ?_) (fun hc3 hF => ?_)
    · refine mj_iconstV (v := 0) C dX8_holdsNothing_32 mc_i_0 ?_
      have hF := mj_oi hF; subst hF
      exact mj_zret (v := 0) rfl C hr hlk dX8_holdsNothing_33
    · refine mj_aload_n C dX8_holdsNothing_18 rfl ?_
      refine mg_X8_9 C dX8_holdsNothing_19 ?_
      refine mj_iload_n C dX8_holdsNothing_22 rfl ?_
      obtain ⟨hg4, hF⟩ := mj_og hF
      refine mj_iaload C dX8_holdsNothing_23 rfl hg4 ?_
      refine mj_iconstV (v := (-1)) C dX8_holdsNothing_24 mc_i_m1 ?_
      refine mj_ic_ne C dX8_holdsNothing_25 rfl hF (fun hc5 hF => ?_) (fun hc5 hF => ?_)
      · refine mj_iconstV (v := 0) C dX8_holdsNothing_32 mc_i_0 ?_
        have hF := mj_oi hF; subst hF
        exact mj_zret (v := 0) rfl C hr hlk dX8_holdsNothing_33
      · refine mj_iconstV (v := 1) C dX8_holdsNothing_28 mc_i_1 ?_
        refine mj_goto C dX8_holdsNothing_29 rfl ?_
        have hF := mj_oi hF; subst hF
        exact mj_zret (v := 1) rfl C hr hlk dX8_holdsNothing_33
set_option maxRecDepth 100000 in
set_option maxHeartbeats 4000000 in
theorem c_X8_bodyOn {G : mj_G} {l : Launch} (σ : mj_S) (p1 : Int32) (R : Int32) (hF : f_X8_bodyOn σ p1 = some R) : mj_C G l yX8_bodyOn cX8_bodyOn 2 (some .int) 2 [.ref (G.2.1 53), .int p1] σ (some (.int R)) σ := by
  unfold f_X8_bodyOn at hF
  refine mj_of (ls := [(0, .ref (G.2.1 53)), (1, .int p1)]) (by decide) (Nat.le_of_ble_eq_true rfl) rfl (fun p e s m args below meth c C hr hlk => ?_)
  refine mj_aload_n C dX8_bodyOn_0 rfl ?_
  refine mj_iload_n C dX8_bodyOn_1 rfl ?_
  refine mj_callVi C (c_X8_has σ p1) yv_X8_has kl_X8_30 (mo_53 G _) rfl rfl rfl rfl (Nat.le_of_ble_eq_true rfl) (mj_roomC (by decide) (by decide)) ⟨Nat.zero_le _, Nat.zero_le _⟩ dX8_bodyOn_2 ?_
  refine mj_if_eq C dX8_bodyOn_5 rfl hF (fun hc1 hF => ?_) (fun hc1 hF => ?_)
  · refine mj_iconstV (v := (-1)) C dX8_bodyOn_17 mc_i_m1 ?_
    have hF := mj_oi hF; subst hF
    exact mj_iret C hr hlk dX8_bodyOn_18
  · refine mj_aload_n C dX8_bodyOn_8 rfl ?_
    refine mg_X8_9 C dX8_bodyOn_9 ?_
    refine mj_iload_n C dX8_bodyOn_12 rfl ?_
    obtain ⟨hg2, hF⟩ := mj_og hF
    refine mj_iaload C dX8_bodyOn_13 rfl hg2 ?_
    refine mj_goto C dX8_bodyOn_14 rfl ?_
    have hF := mj_oi hF; subst hF
    exact mj_iret C hr hlk dX8_bodyOn_18
set_option maxRecDepth 100000 in
set_option maxHeartbeats 4000000 in
theorem c_X8_holdBody {G : mj_G} {l : Launch} (σ : mj_S) (p1 : Int32) (p2 : Int32) (R : mj_S) (hF : f_X8_holdBody σ p1 p2 = some R) : mj_C G l yX8_holdBody cX8_holdBody 3 (none) 2 [.ref (G.2.1 53), .int p1, .int p2] σ none R := by
  unfold f_X8_holdBody at hF
  refine mj_of (ls := [(0, .ref (G.2.1 53)), (1, .int p1), (2, .int p2)]) (by decide) (Nat.le_of_ble_eq_true rfl) rfl (fun p e s m args below meth c C hr hlk => ?_)
  refine mj_aload_n C dX8_holdBody_0 rfl ?_
  refine mj_iload_n C dX8_holdBody_1 rfl ?_
  refine mj_callVi C (c_X8_has σ p1) yv_X8_has kl_X8_30 (mo_53 G _) rfl rfl rfl rfl (Nat.le_of_ble_eq_true rfl) (mj_roomC (by decide) (by decide)) ⟨Nat.zero_le _, Nat.zero_le _⟩ dX8_holdBody_2 ?_
  refine mj_if_eq C dX8_holdBody_5 rfl hF (fun hc1 hF => ?_) (fun hc1 hF => ?_)
  · have hF := mj_oi hF; subst hF
    exact mj_vret C hr hlk dX8_holdBody_29
  · refine mj_aload_n C dX8_holdBody_8 rfl ?_
    refine mg_X8_9 C dX8_holdBody_9 ?_
    refine mj_iload_n C dX8_holdBody_12 rfl ?_
    refine mj_iload_n C dX8_holdBody_13 rfl ?_
    obtain ⟨hg2, hF⟩ := mj_og hF
    refine mj_iastore C dX8_holdBody_14 rfl hg2 ?_
    refine mj_aload_n C dX8_holdBody_15 rfl ?_
    refine mg_X8_13 C dX8_holdBody_16 ?_
    refine mj_iload_n C dX8_holdBody_19 rfl ?_
    refine mj_iconstV (v := (-1)) C dX8_holdBody_20 mc_i_m1 ?_
    obtain ⟨hg3, hF⟩ := mj_og hF
    refine mj_iastore C dX8_holdBody_21 rfl hg3 ?_
    refine mj_aload_n C dX8_holdBody_22 rfl ?_
    refine mg_X8_16 C dX8_holdBody_23 ?_
    refine mj_iload_n C dX8_holdBody_26 rfl ?_
    refine mj_iconstV (v := 0) C dX8_holdBody_27 mc_i_0 ?_
    obtain ⟨hg4, hF⟩ := mj_og hF
    refine mj_iastore C dX8_holdBody_28 rfl hg4 ?_
    have hF := mj_oi hF; subst hF
    exact mj_vret C hr hlk dX8_holdBody_29
set_option maxRecDepth 100000 in
set_option maxHeartbeats 4000000 in
theorem w_X8_holdRow_43 {p : Program} {l : Launch} {e : Env} {s : State} {m : MethodId} {args : Array Value} {below : List Frame} {meth : Method} {c : Code} {G : mj_G} (C : mj_X p s m args meth c G cX8_holdRow 5 RX8) (hr : meth.sig.returnType = none) (hlk : meth.locks = false) : ∀ (n : Nat) (v1 : Int32) (v4 : Int32) (σ : mj_S) (R : mj_S), b_X8_holdRow_43 n v1 v4 σ = some R → mj_W p l e (mj_rm 2) s m args below meth c G 0 0 5 (MQ below (mj_Q G none R) args s 0 0 G.2.2.2) 43 [(0, .ref (G.2.1 53)), (1, .int v1), (4, .int v4)] [] σ := by
  intro n
  induction n with
  | zero =>
    intro v1 v4 σ R hF
    cases hF
  | succ n ih =>
    intro v1 v4 σ R hF
    rw [b_X8_holdRow_43] at hF
    refine mj_iload C dX8_holdRow_43 rfl ?_
    refine mj_bipushV (v := 60) C dX8_holdRow_45 mc_b_60 ?_
    refine mj_ic_ge C dX8_holdRow_47 rfl hF (fun hc6 hF => ?_) (fun hc6 hF => ?_)
    · have hF := mj_oi hF; subst hF
      exact mj_vret C hr hlk dX8_holdRow_66
    · refine mj_aload_n C dX8_holdRow_50 rfl ?_
      refine mg_X8_21 C dX8_holdRow_51 ?_
      refine mj_iload_n C dX8_holdRow_54 rfl ?_
      obtain ⟨hg7, hF⟩ := mj_og hF
      have hA8 := mj_row_57 hg7
      refine mj_aaL C rfl (Nat.le_of_ble_eq_true rfl) hg7 dX8_holdRow_55 ?_
      refine mj_iload C dX8_holdRow_56 rfl ?_
      refine mj_lconstV (v := 0) C dX8_holdRow_58 mc_l_0 ?_
      obtain ⟨hg9, hF⟩ := mj_og hF
      refine mj_lastore C dX8_holdRow_59 hA8 hg9 ?_
      refine mj_iinc (v := v4 + 1) C dX8_holdRow_60 rfl rfl (by decide) ?_
      refine mj_goto C dX8_holdRow_63 rfl ?_
      refine mj_to ?_ (ih v1 (v4 + 1) (mj_sL σ (57 + 1 + v1.toNatClampNeg) v4.toNatClampNeg 0) R hF)
      exact ⟨rfl, rfl, rfl, trivial⟩
set_option maxRecDepth 100000 in
set_option maxHeartbeats 4000000 in
theorem c_X8_holdRow {G : mj_G} {l : Launch} (σ : mj_S) (p1 : Int32) (p2 : Int32) (p3 : Int32) (R : mj_S) (hF : f_X8_holdRow σ p1 p2 p3 = some R) : mj_C G l yX8_holdRow cX8_holdRow 5 (none) 2 [.ref (G.2.1 53), .int p1, .int p2, .int p3] σ none R := by
  unfold f_X8_holdRow at hF
  refine mj_of (ls := [(0, .ref (G.2.1 53)), (1, .int p1), (2, .int p2), (3, .int p3)]) (by decide) (Nat.le_of_ble_eq_true rfl) rfl (fun p e s m args below meth c C hr hlk => ?_)
  refine mj_aload_n C dX8_holdRow_0 rfl ?_
  refine mj_iload_n C dX8_holdRow_1 rfl ?_
  refine mj_callVi C (c_X8_has σ p1) yv_X8_has kl_X8_30 (mo_53 G _) rfl rfl rfl rfl (Nat.le_of_ble_eq_true rfl) (mj_roomC (by decide) (by decide)) ⟨Nat.zero_le _, Nat.zero_le _⟩ dX8_holdRow_2 ?_
  refine mj_if_eq C dX8_holdRow_5 rfl hF (fun hc1 hF => ?_) (fun hc1 hF => ?_)
  · have hF := mj_oi hF; subst hF
    exact mj_vret C hr hlk dX8_holdRow_18
  · refine mj_iload_n C dX8_holdRow_8 rfl ?_
    refine mj_iconstV (v := 0) C dX8_holdRow_9 mc_i_0 ?_
    refine mj_bipushV (v := 60) C dX8_holdRow_10 mc_b_60 ?_
    refine mj_callNi C (c_X9_within σ p3 0 60) ys_X9_within kn_X8_24 rfl rfl (Nat.le_of_ble_eq_true rfl) (mj_roomC (by decide) (by decide)) ⟨Nat.zero_le _, Nat.zero_le _⟩ dX8_holdRow_12 ?_
    refine mj_if_ne C dX8_holdRow_15 rfl hF (fun hc2 hF => ?_) (fun hc2 hF => ?_)
    · refine mj_aload_n C dX8_holdRow_19 rfl ?_
      refine mg_X8_9 C dX8_holdRow_20 ?_
      refine mj_iload_n C dX8_holdRow_23 rfl ?_
      refine mj_iconstV (v := (-1)) C dX8_holdRow_24 mc_i_m1 ?_
      obtain ⟨hg3, hF⟩ := mj_og hF
      refine mj_iastore C dX8_holdRow_25 rfl hg3 ?_
      refine mj_aload_n C dX8_holdRow_26 rfl ?_
      refine mg_X8_13 C dX8_holdRow_27 ?_
      refine mj_iload_n C dX8_holdRow_30 rfl ?_
      refine mj_iload_n C dX8_holdRow_31 rfl ?_
      obtain ⟨hg4, hF⟩ := mj_og hF
      refine mj_iastore C dX8_holdRow_32 rfl hg4 ?_
      refine mj_aload_n C dX8_holdRow_33 rfl ?_
      refine mg_X8_16 C dX8_holdRow_34 ?_
      refine mj_iload_n C dX8_holdRow_37 rfl ?_
      refine mj_iload_n C dX8_holdRow_38 rfl ?_
      obtain ⟨hg5, hF⟩ := mj_og hF
      refine mj_iastore C dX8_holdRow_39 rfl hg5 ?_
      refine mj_iconstV (v := 0) C dX8_holdRow_40 mc_i_0 ?_
      refine mj_istore C dX8_holdRow_41 (by decide) ?_
      refine mj_to ?_ (w_X8_holdRow_43 C hr hlk mj_fu p1 0 (mj_sI (mj_sI (mj_sI σ 54 p1.toNatClampNeg (-1)) 55 p1.toNatClampNeg p2) 56 p1.toNatClampNeg p3) R hF)
      exact ⟨rfl, rfl, rfl, trivial⟩
    · have hF := mj_oi hF; subst hF
      exact mj_vret C hr hlk dX8_holdRow_18
set_option maxRecDepth 100000 in
set_option maxHeartbeats 4000000 in
theorem c_X8_areAlike {G : mj_G} {l : Launch} (σ : mj_S) (p1 : Int32) (p2 : Int32) (R : Int32) (hF : f_X8_areAlike σ p1 p2 = some R) : mj_C G l yX8_areAlike cX8_areAlike 3 (some .boolean) 2 [.ref (G.2.1 53), .int p1, .int p2] σ (some (.int R)) σ := by
  unfold f_X8_areAlike at hF
  refine mj_of (ls := [(0, .ref (G.2.1 53)), (1, .int p1), (2, .int p2)]) (by decide) (Nat.le_of_ble_eq_true rfl) rfl (fun p e s m args below meth c C hr hlk => ?_)
  refine mj_aload_n C dX8_areAlike_0 rfl ?_
  refine mj_iload_n C dX8_areAlike_1 rfl ?_
  refine mj_callVi C (c_X8_has σ p1) yv_X8_has kl_X8_30 (mo_53 G _) rfl rfl rfl rfl (Nat.le_of_ble_eq_true rfl) (mj_roomC (by decide) (by decide)) ⟨Nat.zero_le _, Nat.zero_le _⟩ dX8_areAlike_2 ?_
  refine mj_if_eq C dX8_areAlike_5 rfl hF (fun hc1 hF => ?_) (fun hc1 hF => ?_)
  · refine mj_iconstV (v := 0) C dX8_areAlike_35 mc_i_0 ?_
    have hF := mj_oi hF; subst hF
    exact mj_zret (v := 0) rfl C hr hlk dX8_areAlike_36
  · refine mj_aload_n C dX8_areAlike_8 rfl ?_
    refine mj_iload_n C dX8_areAlike_9 rfl ?_
    refine mj_callVi C (c_X8_has σ p2) yv_X8_has kl_X8_30 (mo_53 G _) rfl rfl rfl rfl (Nat.le_of_ble_eq_true rfl) (mj_roomC (by decide) (by decide)) ⟨Nat.zero_le _, Nat.zero_le _⟩ dX8_areAlike_10 ?_
    refine mj_if_eq C dX8_areAlike_13 rfl hF (fun hc2 hF => ?_) (fun hc2 hF => ?_)
    · refine mj_iconstV (v := 0) C dX8_areAlike_35 mc_i_0 ?_
      have hF := mj_oi hF; subst hF
      exact mj_zret (v := 0) rfl C hr hlk dX8_areAlike_36
    · refine mj_aload_n C dX8_areAlike_16 rfl ?_
      refine mg_X8_13 C dX8_areAlike_17 ?_
      refine mj_iload_n C dX8_areAlike_20 rfl ?_
      obtain ⟨hg3, hF⟩ := mj_og hF
      refine mj_iaload C dX8_areAlike_21 rfl hg3 ?_
      refine mj_aload_n C dX8_areAlike_22 rfl ?_
      refine mg_X8_13 C dX8_areAlike_23 ?_
      refine mj_iload_n C dX8_areAlike_26 rfl ?_
      obtain ⟨hg4, hF⟩ := mj_og hF
      refine mj_iaload C dX8_areAlike_27 rfl hg4 ?_
      refine mj_ic_ne C dX8_areAlike_28 rfl hF (fun hc5 hF => ?_) (fun hc5 hF => ?_)
      · refine mj_iconstV (v := 0) C dX8_areAlike_35 mc_i_0 ?_
        have hF := mj_oi hF; subst hF
        exact mj_zret (v := 0) rfl C hr hlk dX8_areAlike_36
      · refine mj_iconstV (v := 1) C dX8_areAlike_31 mc_i_1 ?_
        refine mj_goto C dX8_areAlike_32 rfl ?_
        have hF := mj_oi hF; subst hF
        exact mj_zret (v := 1) rfl C hr hlk dX8_areAlike_36
set_option maxRecDepth 100000 in
set_option maxHeartbeats 4000000 in
theorem c_X8_hasPlaces {G : mj_G} {l : Launch} (σ : mj_S) (p1 : Int32) (p2 : Int32) (p3 : Int32) (R : Int32) (hF : f_X8_hasPlaces σ p1 p2 p3 = some R) : mj_C G l yX8_hasPlaces cX8_hasPlaces 4 (some .boolean) 2 [.ref (G.2.1 53), .int p1, .int p2, .int p3] σ (some (.int R)) σ := by
  unfold f_X8_hasPlaces at hF
  refine mj_of (ls := [(0, .ref (G.2.1 53)), (1, .int p1), (2, .int p2), (3, .int p3)]) (by decide) (Nat.le_of_ble_eq_true rfl) rfl (fun p e s m args below meth c C hr hlk => ?_)
  refine mj_aload_n C dX8_hasPlaces_0 rfl ?_
  refine mj_iload_n C dX8_hasPlaces_1 rfl ?_
  refine mj_callVi C (c_X8_has σ p1) yv_X8_has kl_X8_30 (mo_53 G _) rfl rfl rfl rfl (Nat.le_of_ble_eq_true rfl) (mj_roomC (by decide) (by decide)) ⟨Nat.zero_le _, Nat.zero_le _⟩ dX8_hasPlaces_2 ?_
  refine mj_if_eq C dX8_hasPlaces_5 rfl hF (fun hc1 hF => ?_) (fun hc1 hF => ?_)
  · refine mj_iconstV (v := 0) C dX8_hasPlaces_42 mc_i_0 ?_
    have hF := mj_oi hF; subst hF
    exact mj_zret (v := 0) rfl C hr hlk dX8_hasPlaces_43
  · refine mj_iload_n C dX8_hasPlaces_8 rfl ?_
    refine mj_if_lt C dX8_hasPlaces_9 rfl hF (fun hc2 hF => ?_) (fun hc2 hF => ?_)
    · refine mj_iconstV (v := 0) C dX8_hasPlaces_42 mc_i_0 ?_
      have hF := mj_oi hF; subst hF
      exact mj_zret (v := 0) rfl C hr hlk dX8_hasPlaces_43
    · refine mj_iload_n C dX8_hasPlaces_12 rfl ?_
      refine mj_if_lt C dX8_hasPlaces_13 rfl hF (fun hc3 hF => ?_) (fun hc3 hF => ?_)
      · refine mj_iconstV (v := 0) C dX8_hasPlaces_42 mc_i_0 ?_
        have hF := mj_oi hF; subst hF
        exact mj_zret (v := 0) rfl C hr hlk dX8_hasPlaces_43
      · refine mj_iload_n C dX8_hasPlaces_16 rfl ?_
        refine mj_aload_n C dX8_hasPlaces_17 rfl ?_
        refine mg_X8_16 C dX8_hasPlaces_18 ?_
        refine mj_iload_n C dX8_hasPlaces_21 rfl ?_
        obtain ⟨hg4, hF⟩ := mj_og hF
        refine mj_iaload C dX8_hasPlaces_22 rfl hg4 ?_
        refine mj_ic_gt C dX8_hasPlaces_23 rfl hF (fun hc5 hF => ?_) (fun hc5 hF => ?_)
        · refine mj_iconstV (v := 0) C dX8_hasPlaces_42 mc_i_0 ?_
          have hF := mj_oi hF; subst hF
          exact mj_zret (v := 0) rfl C hr hlk dX8_hasPlaces_43
        · refine mj_iload_n C dX8_hasPlaces_26 rfl ?_
          refine mj_aload_n C dX8_hasPlaces_27 rfl ?_
          refine mg_X8_16 C dX8_hasPlaces_28 ?_
          refine mj_iload_n C dX8_hasPlaces_31 rfl ?_
          obtain ⟨hg6, hF⟩ := mj_og hF
          refine mj_iaload C dX8_hasPlaces_32 rfl hg6 ?_
          refine mj_iload_n C dX8_hasPlaces_33 rfl ?_
          refine mj_isub C dX8_hasPlaces_34 ?_
          refine mj_ic_gt C dX8_hasPlaces_35 rfl hF (fun hc7 hF => ?_) (fun hc7 hF => ?_)
          · refine mj_iconstV (v := 0) C dX8_hasPlaces_42 mc_i_0 ?_
            have hF := mj_oi hF; subst hF
            exact mj_zret (v := 0) rfl C hr hlk dX8_hasPlaces_43
          · refine mj_iconstV (v := 1) C dX8_hasPlaces_38 mc_i_1 ?_
            refine mj_goto C dX8_hasPlaces_39 rfl ?_
            have hF := mj_oi hF; subst hF
            exact mj_zret (v := 1) rfl C hr hlk dX8_hasPlaces_43
set_option maxRecDepth 100000 in
set_option maxHeartbeats 4000000 in
theorem c_X8_get {G : mj_G} {l : Launch} (σ : mj_S) (p1 : Int32) (p2 : Int32) (R : Int64) (hF : f_X8_get σ p1 p2 = some R) : mj_C G l yX8_get cX8_get 3 (some .long) 3 [.ref (G.2.1 53), .int p1, .int p2] σ (some (.long R)) σ := by
  unfold f_X8_get at hF
  refine mj_of (ls := [(0, .ref (G.2.1 53)), (1, .int p1), (2, .int p2)]) (by decide) (Nat.le_of_ble_eq_true rfl) rfl (fun p e s m args below meth c C hr hlk => ?_)
  refine mj_aload_n C dX8_get_0 rfl ?_
  refine mj_iload_n C dX8_get_1 rfl ?_
  refine mj_iload_n C dX8_get_2 rfl ?_
  refine mj_iconstV (v := 1) C dX8_get_3 mc_i_1 ?_
  obtain ⟨r1, hq1, hF⟩ := mj_ob hF
  refine mj_callVi C (c_X8_hasPlaces σ p1 p2 1 r1 hq1) yv_X8_hasPlaces kl_X8_34 (mo_53 G _) rfl rfl rfl rfl (Nat.le_of_ble_eq_true rfl) (mj_roomC (by decide) (by decide)) ⟨Nat.zero_le _, Nat.zero_le _⟩ dX8_get_4 ?_
  refine mj_if_eq C dX8_get_7 rfl hF (fun hc2 hF => ?_) (fun hc2 hF => ?_)
  · refine mj_lconstV (v := 0) C dX8_get_21 mc_l_0 ?_
    have hF := mj_oi hF; subst hF
    exact mj_lret C hr hlk dX8_get_22
  · refine mj_aload_n C dX8_get_10 rfl ?_
    refine mg_X8_21 C dX8_get_11 ?_
    refine mj_iload_n C dX8_get_14 rfl ?_
    obtain ⟨hg3, hF⟩ := mj_og hF
    have hA4 := mj_row_57 hg3
    refine mj_aaL C rfl (Nat.le_of_ble_eq_true rfl) hg3 dX8_get_15 ?_
    refine mj_iload_n C dX8_get_16 rfl ?_
    obtain ⟨hg5, hF⟩ := mj_og hF
    refine mj_laload C dX8_get_17 hA4 hg5 ?_
    refine mj_goto C dX8_get_18 rfl ?_
    have hF := mj_oi hF; subst hF
    exact mj_lret C hr hlk dX8_get_22
set_option maxRecDepth 100000 in
set_option maxHeartbeats 4000000 in
theorem c_X8_lowestBits {G : mj_G} {l : Launch} (σ : mj_S) (p0 : Int32) (p1 : Int64) : mj_C G l yX8_lowestBits cX8_lowestBits 3 (some .long) 1 [.int p0, .long p1] σ (some (.long (f_X8_lowestBits σ p0 p1))) σ := by
  generalize hF : f_X8_lowestBits σ p0 p1 = R
  unfold f_X8_lowestBits at hF
  refine mj_of (ls := [(0, .int p0), (1, .long p1)]) (by decide) (Nat.le_of_ble_eq_true rfl) rfl (fun p e s m args below meth c C hr hlk => ?_)
  refine mj_iload_n C dX8_lowestBits_0 rfl ?_
  by_cases hw1_0 : p0 = 0
  · rw [if_pos hw1_0] at hF
    refine mj_tsIn (off := 35) C dX8_lowestBits_1 (by rw [hw1_0]; decide) (by rw [hw1_0]; decide) (by rw [hw1_0]; rfl) rfl ?_
    refine mj_lload_n C dX8_lowestBits_36 rfl ?_
    refine mj_l2i C dX8_lowestBits_37 ?_
    refine mj_i2b C dX8_lowestBits_38 ?_
    refine mj_i2l C dX8_lowestBits_39 ?_
    subst hF
    exact mj_lret C hr hlk dX8_lowestBits_40
  rw [if_neg hw1_0] at hF
  by_cases hw1_1 : p0 = 1
  · rw [if_pos hw1_1] at hF
    refine mj_tsIn (off := 40) C dX8_lowestBits_1 (by rw [hw1_1]; decide) (by rw [hw1_1]; decide) (by rw [hw1_1]; rfl) rfl ?_
    refine mj_lload_n C dX8_lowestBits_41 rfl ?_
    refine mj_l2i C dX8_lowestBits_42 ?_
    refine mj_i2s C dX8_lowestBits_43 ?_
    refine mj_i2l C dX8_lowestBits_44 ?_
    subst hF
    exact mj_lret C hr hlk dX8_lowestBits_45
  rw [if_neg hw1_1] at hF
  by_cases hw1_2 : p0 = 2
  · rw [if_pos hw1_2] at hF
    refine mj_tsIn (off := 45) C dX8_lowestBits_1 (by rw [hw1_2]; decide) (by rw [hw1_2]; decide) (by rw [hw1_2]; rfl) rfl ?_
    refine mj_lload_n C dX8_lowestBits_46 rfl ?_
    refine mj_l2i C dX8_lowestBits_47 ?_
    refine mj_i2l C dX8_lowestBits_48 ?_
    subst hF
    exact mj_lret C hr hlk dX8_lowestBits_49
  rw [if_neg hw1_2] at hF
  by_cases hw1_3 : p0 = 3
  · rw [if_pos hw1_3] at hF
    refine mj_tsIn (off := 49) C dX8_lowestBits_1 (by rw [hw1_3]; decide) (by rw [hw1_3]; decide) (by rw [hw1_3]; rfl) rfl ?_
    refine mj_lload_n C dX8_lowestBits_50 rfl ?_
    subst hF
    exact mj_lret C hr hlk dX8_lowestBits_51
  rw [if_neg hw1_3] at hF
  by_cases hw1_4 : p0 = 4
  · rw [if_pos hw1_4] at hF
    refine mj_tsIn (off := 51) C dX8_lowestBits_1 (by rw [hw1_4]; decide) (by rw [hw1_4]; decide) (by rw [hw1_4]; rfl) rfl ?_
    refine mj_lload_n C dX8_lowestBits_52 rfl ?_
    refine mj_lconstV (v := 0) C dX8_lowestBits_53 mc_l_0 ?_
    refine mj_lcmp C dX8_lowestBits_54 ?_
    refine mj_if_eq C dX8_lowestBits_55 rfl hF (fun hc2 hF => ?_) (fun hc2 hF => ?_)
    · refine mj_lconstV (v := 0) C dX8_lowestBits_62 mc_l_0 ?_
      subst hF
      exact mj_lret C hr hlk dX8_lowestBits_63
    · refine mj_lconstV (v := 1) C dX8_lowestBits_58 mc_l_1 ?_
      refine mj_goto C dX8_lowestBits_59 rfl ?_
      subst hF
      exact mj_lret C hr hlk dX8_lowestBits_63
  rw [if_neg hw1_4] at hF
  refine mj_tsOut C dX8_lowestBits_1 (mj_sw_0_5 hw1_0 hw1_1 hw1_2 hw1_3 hw1_4) rfl ?_
  refine mj_lconstV (v := 0) C dX8_lowestBits_64 mc_l_0 ?_
  subst hF
  exact mj_lret C hr hlk dX8_lowestBits_65
set_option maxRecDepth 100000 in
set_option maxHeartbeats 4000000 in
theorem c_X8_set {G : mj_G} {l : Launch} (σ : mj_S) (p1 : Int32) (p2 : Int32) (p3 : Int64) (R : mj_S) (hF : f_X8_set σ p1 p2 p3 = some R) : mj_C G l yX8_set cX8_set 5 (none) 3 [.ref (G.2.1 53), .int p1, .int p2, .long p3] σ none R := by
  unfold f_X8_set at hF
  refine mj_of (ls := [(0, .ref (G.2.1 53)), (1, .int p1), (2, .int p2), (3, .long p3)]) (by decide) (Nat.le_of_ble_eq_true rfl) rfl (fun p e s m args below meth c C hr hlk => ?_)
  refine mj_aload_n C dX8_set_0 rfl ?_
  refine mj_iload_n C dX8_set_1 rfl ?_
  refine mj_iload_n C dX8_set_2 rfl ?_
  refine mj_iconstV (v := 1) C dX8_set_3 mc_i_1 ?_
  obtain ⟨r1, hq1, hF⟩ := mj_ob hF
  refine mj_callVi C (c_X8_hasPlaces σ p1 p2 1 r1 hq1) yv_X8_hasPlaces kl_X8_34 (mo_53 G _) rfl rfl rfl rfl (Nat.le_of_ble_eq_true rfl) (mj_roomC (by decide) (by decide)) ⟨Nat.zero_le _, Nat.zero_le _⟩ dX8_set_4 ?_
  refine mj_if_eq C dX8_set_7 rfl hF (fun hc2 hF => ?_) (fun hc2 hF => ?_)
  · have hF := mj_oi hF; subst hF
    exact mj_vret C hr hlk dX8_set_28
  · refine mj_aload_n C dX8_set_10 rfl ?_
    refine mg_X8_21 C dX8_set_11 ?_
    refine mj_iload_n C dX8_set_14 rfl ?_
    obtain ⟨hg3, hF⟩ := mj_og hF
    have hA4 := mj_row_57 hg3
    refine mj_aaL C rfl (Nat.le_of_ble_eq_true rfl) hg3 dX8_set_15 ?_
    refine mj_iload_n C dX8_set_16 rfl ?_
    refine mj_aload_n C dX8_set_17 rfl ?_
    refine mg_X8_13 C dX8_set_18 ?_
    refine mj_iload_n C dX8_set_21 rfl ?_
    obtain ⟨hg5, hF⟩ := mj_og hF
    refine mj_iaload C dX8_set_22 rfl hg5 ?_
    refine mj_lload_n C dX8_set_23 rfl ?_
    refine mj_callSl C (c_X8_lowestBits σ (σ.1 55 p1.toNatClampNeg) p3) ys_X8_lowestBits kl_X8_37 rfl rfl (Nat.le_of_ble_eq_true rfl) (mj_roomC (by decide) (by decide)) ⟨Nat.zero_le _, Nat.zero_le _⟩ dX8_set_24 ?_
    obtain ⟨hg6, hF⟩ := mj_og hF
    refine mj_lastore C dX8_set_27 hA4 hg6 ?_
    have hF := mj_oi hF; subst hF
    exact mj_vret C hr hlk dX8_set_28
set_option maxRecDepth 100000 in
set_option maxHeartbeats 4000000 in
theorem c_X8_move {G : mj_G} {l : Launch} (σ : mj_S) (p1 : Int32) (p2 : Int32) (p3 : Int32) (p4 : Int32) (p5 : Int32) (R : mj_S) (hF : f_X8_move σ p1 p2 p3 p4 p5 = some R) : mj_C G l yX8_move cX8_move 6 (none) 3 [.ref (G.2.1 53), .int p1, .int p2, .int p3, .int p4, .int p5] σ none R := by
  unfold f_X8_move at hF
  refine mj_of (ls := [(0, .ref (G.2.1 53)), (1, .int p1), (2, .int p2), (3, .int p3), (4, .int p4), (5, .int p5)]) (by decide) (Nat.le_of_ble_eq_true rfl) rfl (fun p e s m args below meth c C hr hlk => ?_)
  refine mj_aload_n C dX8_move_0 rfl ?_
  refine mj_iload_n C dX8_move_1 rfl ?_
  refine mj_iload_n C dX8_move_2 rfl ?_
  refine mj_iload C dX8_move_3 rfl ?_
  obtain ⟨r1, hq1, hF⟩ := mj_ob hF
  refine mj_callVi C (c_X8_hasPlaces σ p1 p2 p5 r1 hq1) yv_X8_hasPlaces kl_X8_34 (mo_53 G _) rfl rfl rfl rfl (Nat.le_of_ble_eq_true rfl) (mj_roomC (by decide) (by decide)) ⟨Nat.zero_le _, Nat.zero_le _⟩ dX8_move_5 ?_
  refine mj_if_eq C dX8_move_8 rfl hF (fun hc2 hF => ?_) (fun hc2 hF => ?_)
  · have hF := mj_oi hF; subst hF
    exact mj_vret C hr hlk dX8_move_43
  · refine mj_aload_n C dX8_move_11 rfl ?_
    refine mj_iload_n C dX8_move_12 rfl ?_
    refine mj_iload C dX8_move_13 rfl ?_
    refine mj_iload C dX8_move_15 rfl ?_
    obtain ⟨r3, hq3, hF⟩ := mj_ob hF
    refine mj_callVi C (c_X8_hasPlaces σ p3 p4 p5 r3 hq3) yv_X8_hasPlaces kl_X8_34 (mo_53 G _) rfl rfl rfl rfl (Nat.le_of_ble_eq_true rfl) (mj_roomC (by decide) (by decide)) ⟨Nat.zero_le _, Nat.zero_le _⟩ dX8_move_17 ?_
    refine mj_if_eq C dX8_move_20 rfl hF (fun hc4 hF => ?_) (fun hc4 hF => ?_)
    · have hF := mj_oi hF; subst hF
      exact mj_vret C hr hlk dX8_move_43
    · refine mj_aload_n C dX8_move_23 rfl ?_
      refine mg_X8_21 C dX8_move_24 ?_
      refine mj_iload_n C dX8_move_27 rfl ?_
      obtain ⟨hg5, hF⟩ := mj_og hF
      have hA6 := mj_row_57 hg5
      refine mj_aaL C rfl (Nat.le_of_ble_eq_true rfl) hg5 dX8_move_28 ?_
      refine mj_iload_n C dX8_move_29 rfl ?_
      refine mj_aload_n C dX8_move_30 rfl ?_
      refine mg_X8_21 C dX8_move_31 ?_
      refine mj_iload_n C dX8_move_34 rfl ?_
      obtain ⟨hg7, hF⟩ := mj_og hF
      have hA8 := mj_row_57 hg7
      refine mj_aaL C rfl (Nat.le_of_ble_eq_true rfl) hg7 dX8_move_35 ?_
      refine mj_iload C dX8_move_36 rfl ?_
      refine mj_iload C dX8_move_38 rfl ?_
      obtain ⟨hg9, hF⟩ := mj_og hF
      refine mj_copyL C kl_X8_41 hA6 hA8 hg9 (mj_roomCp (by decide) (Nat.le_of_ble_eq_true rfl)) dX8_move_40 ?_
      have hF := mj_oi hF; subst hF
      exact mj_vret C hr hlk dX8_move_43
set_option maxRecDepth 100000 in
set_option maxHeartbeats 4000000 in
theorem c_X9_markFromRow {G : mj_G} {l : Launch} (σ : mj_S) (p1 : Int32) (p2 : Int32) (R : (Int32 × mj_S)) (hF : f_X9_markFromRow σ p1 p2 = some R) : mj_C G l yX9_markFromRow cX9_markFromRow 7 (some .boolean) 4 [.ref (G.2.1 0), .int p1, .int p2] σ (some (.int R.1)) R.2 := by
  unfold f_X9_markFromRow at hF
  refine mj_of (ls := [(0, .ref (G.2.1 0)), (1, .int p1), (2, .int p2)]) (by decide) (Nat.le_of_ble_eq_true rfl) rfl (fun p e s m args below meth c C hr hlk => ?_)
  refine mj_aload_n C dX9_markFromRow_0 rfl ?_
  refine mg_X9_35 C dX9_markFromRow_1 ?_
  refine mj_callVi C (c_X5_size σ) yv_X5_size kl_X9_146 (mo_35 G _) rfl rfl rfl rfl (Nat.le_of_ble_eq_true rfl) (mj_roomC (by decide) (by decide)) ⟨Nat.zero_le _, Nat.zero_le _⟩ dX9_markFromRow_4 ?_
  refine mj_bipushV (v := 30) C dX9_markFromRow_7 mc_b_30 ?_
  refine mj_ic_ge C dX9_markFromRow_9 rfl hF (fun hc1 hF => ?_) (fun hc1 hF => ?_)
  · refine mj_iconstV (v := 0) C dX9_markFromRow_25 mc_i_0 ?_
    have hF := mj_oi hF; subst hF
    exact mj_zret (v := 0) rfl C hr hlk dX9_markFromRow_26
  · refine mj_aload_n C dX9_markFromRow_12 rfl ?_
    refine mg_X9_74 C dX9_markFromRow_13 ?_
    refine mj_iload_n C dX9_markFromRow_16 rfl ?_
    refine mj_iload_n C dX9_markFromRow_17 rfl ?_
    refine mj_iconstV (v := 4) C dX9_markFromRow_18 mc_i_4 ?_
    obtain ⟨r2, hq2, hF⟩ := mj_ob hF
    refine mj_callVi C (c_X8_hasPlaces σ p1 p2 4 r2 hq2) yv_X8_hasPlaces kl_X9_329 (mo_53 G _) rfl rfl rfl rfl (Nat.le_of_ble_eq_true rfl) (mj_roomC (by decide) (by decide)) ⟨Nat.zero_le _, Nat.zero_le _⟩ dX9_markFromRow_19 ?_
    refine mj_if_ne C dX9_markFromRow_22 rfl hF (fun hc3 hF => ?_) (fun hc3 hF => ?_)
    · refine mj_aload_n C dX9_markFromRow_27 rfl ?_
      refine mg_X9_74 C dX9_markFromRow_28 ?_
      refine mj_iload_n C dX9_markFromRow_31 rfl ?_
      refine mj_iload_n C dX9_markFromRow_32 rfl ?_
      obtain ⟨r4, hq4, hF⟩ := mj_ob hF
      refine mj_callVl C (c_X8_get σ p1 p2 r4 hq4) yv_X8_get kl_X9_319 (mo_53 G _) rfl rfl rfl rfl (Nat.le_of_ble_eq_true rfl) (mj_roomC (by decide) (by decide)) ⟨Nat.zero_le _, Nat.zero_le _⟩ dX9_markFromRow_33 ?_
      refine mj_l2i C dX9_markFromRow_36 ?_
      refine mj_istore_n C dX9_markFromRow_37 (by decide) ?_
      refine mj_aload_n C dX9_markFromRow_38 rfl ?_
      refine mg_X9_74 C dX9_markFromRow_39 ?_
      refine mj_iload_n C dX9_markFromRow_42 rfl ?_
      refine mj_iload_n C dX9_markFromRow_43 rfl ?_
      refine mj_iconstV (v := 1) C dX9_markFromRow_44 mc_i_1 ?_
      refine mj_iadd C dX9_markFromRow_45 ?_
      obtain ⟨r5, hq5, hF⟩ := mj_ob hF
      refine mj_callVl C (c_X8_get σ p1 (p2 + 1) r5 hq5) yv_X8_get kl_X9_319 (mo_53 G _) rfl rfl rfl rfl (Nat.le_of_ble_eq_true rfl) (mj_roomC (by decide) (by decide)) ⟨Nat.zero_le _, Nat.zero_le _⟩ dX9_markFromRow_46 ?_
      refine mj_l2i C dX9_markFromRow_49 ?_
      refine mj_istore C dX9_markFromRow_50 (by decide) ?_
      refine mj_aload_n C dX9_markFromRow_52 rfl ?_
      refine mg_X9_74 C dX9_markFromRow_53 ?_
      refine mj_iload_n C dX9_markFromRow_56 rfl ?_
      refine mj_iload_n C dX9_markFromRow_57 rfl ?_
      refine mj_iconstV (v := 2) C dX9_markFromRow_58 mc_i_2 ?_
      refine mj_iadd C dX9_markFromRow_59 ?_
      obtain ⟨r6, hq6, hF⟩ := mj_ob hF
      refine mj_callVl C (c_X8_get σ p1 (p2 + 2) r6 hq6) yv_X8_get kl_X9_319 (mo_53 G _) rfl rfl rfl rfl (Nat.le_of_ble_eq_true rfl) (mj_roomC (by decide) (by decide)) ⟨Nat.zero_le _, Nat.zero_le _⟩ dX9_markFromRow_60 ?_
      refine mj_l2i C dX9_markFromRow_63 ?_
      refine mj_istore C dX9_markFromRow_64 (by decide) ?_
      refine mj_aload_n C dX9_markFromRow_66 rfl ?_
      refine mg_X9_74 C dX9_markFromRow_67 ?_
      refine mj_iload_n C dX9_markFromRow_70 rfl ?_
      refine mj_iload_n C dX9_markFromRow_71 rfl ?_
      refine mj_iconstV (v := 3) C dX9_markFromRow_72 mc_i_3 ?_
      refine mj_iadd C dX9_markFromRow_73 ?_
      obtain ⟨r7, hq7, hF⟩ := mj_ob hF
      refine mj_callVl C (c_X8_get σ p1 (p2 + 3) r7 hq7) yv_X8_get kl_X9_319 (mo_53 G _) rfl rfl rfl rfl (Nat.le_of_ble_eq_true rfl) (mj_roomC (by decide) (by decide)) ⟨Nat.zero_le _, Nat.zero_le _⟩ dX9_markFromRow_74 ?_
      refine mj_l2i C dX9_markFromRow_77 ?_
      refine mj_istore C dX9_markFromRow_78 (by decide) ?_
      refine mj_iload_n C dX9_markFromRow_80 rfl ?_
      refine mj_iload C dX9_markFromRow_81 rfl ?_
      refine mj_iload C dX9_markFromRow_83 rfl ?_
      refine mj_iload C dX9_markFromRow_85 rfl ?_
      refine mj_callSi C (c_X9_isMark σ r4.toInt32 r5.toInt32 r6.toInt32 r7.toInt32) ys_X9_isMark kl_X9_142 rfl rfl (Nat.le_of_ble_eq_true rfl) (mj_roomC (by decide) (by decide)) ⟨Nat.zero_le _, Nat.zero_le _⟩ dX9_markFromRow_87 ?_
      refine mj_if_ne C dX9_markFromRow_90 rfl hF (fun hc8 hF => ?_) (fun hc8 hF => ?_)
      · refine mj_aload_n C dX9_markFromRow_95 rfl ?_
        refine mg_X9_35 C dX9_markFromRow_96 ?_
        refine mj_iload_n C dX9_markFromRow_99 rfl ?_
        refine mj_iload C dX9_markFromRow_100 rfl ?_
        refine mj_iload C dX9_markFromRow_102 rfl ?_
        refine mj_iload C dX9_markFromRow_104 rfl ?_
        obtain ⟨r9, hq9, hF⟩ := mj_ob hF
        refine mj_callVi C (c_X5_add σ r4.toInt32 r5.toInt32 r6.toInt32 r7.toInt32 r9 hq9) yv_X5_add kl_X9_147 (mo_35 G _) rfl rfl rfl rfl (Nat.le_of_ble_eq_true rfl) (mj_roomC (by decide) (by decide)) ⟨Nat.zero_le _, Nat.zero_le _⟩ dX9_markFromRow_106 ?_
        refine mj_pop C dX9_markFromRow_109 rfl ?_
        refine mj_iconstV (v := 1) C dX9_markFromRow_110 mc_i_1 ?_
        have hF := mj_oi hF; subst hF
        exact mj_zret (v := 1) rfl C hr hlk dX9_markFromRow_111
      · refine mj_iconstV (v := 0) C dX9_markFromRow_93 mc_i_0 ?_
        have hF := mj_oi hF; subst hF
        exact mj_zret (v := 0) rfl C hr hlk dX9_markFromRow_94
    · refine mj_iconstV (v := 0) C dX9_markFromRow_25 mc_i_0 ?_
      have hF := mj_oi hF; subst hF
      exact mj_zret (v := 0) rfl C hr hlk dX9_markFromRow_26
set_option maxRecDepth 100000 in
set_option maxHeartbeats 4000000 in
theorem w_X9_marks_54 {p : Program} {l : Launch} {e : Env} {s : State} {m : MethodId} {args : Array Value} {below : List Frame} {meth : Method} {c : Code} {G : mj_G} (C : mj_X p s m args meth c G cX9_marks 6 RX9) (hr : meth.sig.returnType = some .int) (hlk : meth.locks = false) : ∀ (n : Nat) (v1 : Int32) (v2 : Int32) (v3 : Int32) (v4 : Int32) (v5 : Int32) (σ : mj_S) (R : (Int32 × mj_S)), b_X9_marks_54 n v1 v2 v3 v4 v5 σ = some R → mj_W p l e (mj_rm 5) s m args below meth c G 0 0 6 (MQ below (mj_Q G (some (.int R.1)) R.2) args s 0 0 G.2.2.2) 54 [(0, .ref (G.2.1 0)), (1, .int v1), (2, .int v2), (3, .int v3), (4, .int v4), (5, .int v5)] [] σ := by
  intro n
  induction n with
  | zero =>
    intro v1 v2 v3 v4 v5 σ R hF
    cases hF
  | succ n ih =>
    intro v1 v2 v3 v4 v5 σ R hF
    rw [b_X9_marks_54] at hF
    refine mj_iload C dX9_marks_54 rfl ?_
    refine mj_iload_n C dX9_marks_56 rfl ?_
    refine mj_ic_ge C dX9_marks_57 rfl hF (fun hc5 hF => ?_) (fun hc5 hF => ?_)
    · refine mj_iload C dX9_marks_83 rfl ?_
      have hF := mj_oi hF; subst hF
      exact mj_iret C hr hlk dX9_marks_85
    · refine mj_aload_n C dX9_marks_60 rfl ?_
      refine mj_iload_n C dX9_marks_61 rfl ?_
      refine mj_iload_n C dX9_marks_62 rfl ?_
      refine mj_iconstV (v := 4) C dX9_marks_63 mc_i_4 ?_
      refine mj_iload C dX9_marks_64 rfl ?_
      refine mj_imul C dX9_marks_66 ?_
      refine mj_iadd C dX9_marks_67 ?_
      obtain ⟨r6, hq6, hF⟩ := mj_ob hF
      refine mj_callVi C (c_X9_markFromRow σ v1 (v2 + (4 * v5)) r6 hq6) yv_X9_markFromRow kl_X9_157 (mo_0 G _) rfl rfl rfl rfl (Nat.le_of_ble_eq_true rfl) (mj_roomC (by decide) (by decide)) ⟨Nat.zero_le _, Nat.zero_le _⟩ dX9_marks_68 ?_
      refine mj_if_eq C dX9_marks_71 rfl hF (fun hc7 hF => ?_) (fun hc7 hF => ?_)
      · refine mj_iload C dX9_marks_83 rfl ?_
        have hF := mj_oi hF; subst hF
        exact mj_iret C hr hlk dX9_marks_85
      · refine mj_iinc (v := v4 + 1) C dX9_marks_74 rfl rfl (by decide) ?_
        refine mj_iinc (v := v5 + 1) C dX9_marks_77 rfl rfl (by decide) ?_
        refine mj_goto C dX9_marks_80 rfl ?_
        refine mj_to ?_ (ih v1 v2 v3 (v4 + 1) (v5 + 1) r6.2 R hF)
        exact ⟨rfl, rfl, rfl, rfl, rfl, rfl, trivial⟩
set_option maxRecDepth 100000 in
set_option maxHeartbeats 4000000 in
theorem c_X9_marks {G : mj_G} {l : Launch} (σ : mj_S) (p1 : Int32) (p2 : Int32) (p3 : Int32) (R : (Int32 × mj_S)) (hF : f_X9_marks σ p1 p2 p3 = some R) : mj_C G l yX9_marks cX9_marks 6 (some .int) 5 [.ref (G.2.1 0), .int p1, .int p2, .int p3] σ (some (.int R.1)) R.2 := by
  unfold f_X9_marks at hF
  refine mj_of (ls := [(0, .ref (G.2.1 0)), (1, .int p1), (2, .int p2), (3, .int p3)]) (by decide) (Nat.le_of_ble_eq_true rfl) rfl (fun p e s m args below meth c C hr hlk => ?_)
  refine mj_aload_n C dX9_marks_0 rfl ?_
  refine mg_X9_74 C dX9_marks_1 ?_
  refine mj_iload_n C dX9_marks_4 rfl ?_
  refine mj_callVi C (c_X8_has σ p1) yv_X8_has kl_X9_150 (mo_53 G _) rfl rfl rfl rfl (Nat.le_of_ble_eq_true rfl) (mj_roomC (by decide) (by decide)) ⟨Nat.zero_le _, Nat.zero_le _⟩ dX9_marks_5 ?_
  refine mj_if_eq C dX9_marks_8 rfl hF (fun hc1 hF => ?_) (fun hc1 hF => ?_)
  · refine mj_iconstV (v := (-1)) C dX9_marks_21 mc_i_m1 ?_
    have hF := mj_oi hF; subst hF
    exact mj_iret C hr hlk dX9_marks_22
  · refine mj_iload_n C dX9_marks_11 rfl ?_
    refine mj_iconstV (v := 1) C dX9_marks_12 mc_i_1 ?_
    refine mj_bipushV (v := 15) C dX9_marks_13 mc_b_15 ?_
    refine mj_callSi C (c_X9_within σ p3 1 15) ys_X9_within kl_X9_82 rfl rfl (Nat.le_of_ble_eq_true rfl) (mj_roomC (by decide) (by decide)) ⟨Nat.zero_le _, Nat.zero_le _⟩ dX9_marks_15 ?_
    refine mj_if_ne C dX9_marks_18 rfl hF (fun hc2 hF => ?_) (fun hc2 hF => ?_)
    · refine mj_aload_n C dX9_marks_23 rfl ?_
      refine mg_X9_74 C dX9_marks_24 ?_
      refine mj_iload_n C dX9_marks_27 rfl ?_
      obtain ⟨r3, hq3, hF⟩ := mj_ob hF
      refine mj_callVi C (c_X8_holdsNothing σ p1 r3 hq3) yv_X8_holdsNothing kl_X9_151 (mo_53 G _) rfl rfl rfl rfl (Nat.le_of_ble_eq_true rfl) (mj_roomC (by decide) (by decide)) ⟨Nat.zero_le _, Nat.zero_le _⟩ dX9_marks_28 ?_
      refine mj_if_ne C dX9_marks_31 rfl hF (fun hc4 hF => ?_) (fun hc4 hF => ?_)
      · refine mj_iconstV (v := 0) C dX9_marks_48 mc_i_0 ?_
        refine mj_istore C dX9_marks_49 (by decide) ?_
        refine mj_iconstV (v := 0) C dX9_marks_51 mc_i_0 ?_
        refine mj_istore C dX9_marks_52 (by decide) ?_
        refine mj_to ?_ (w_X9_marks_54 C hr hlk mj_fu p1 p2 p3 0 0 σ R hF)
        exact ⟨rfl, rfl, rfl, rfl, rfl, rfl, trivial⟩
      · refine mj_aload_n C dX9_marks_34 rfl ?_
        refine mg_X9_74 C dX9_marks_35 ?_
        refine mj_iload_n C dX9_marks_38 rfl ?_
        obtain ⟨r8, hq8, hF⟩ := mj_ob hF
        refine mj_callVi C (c_X8_holdsShorts σ p1 r8 hq8) yv_X8_holdsShorts kl_X9_154 (mo_53 G _) rfl rfl rfl rfl (Nat.le_of_ble_eq_true rfl) (mj_roomC (by decide) (by decide)) ⟨Nat.zero_le _, Nat.zero_le _⟩ dX9_marks_39 ?_
        refine mj_if_ne C dX9_marks_42 rfl hF (fun hc9 hF => ?_) (fun hc9 hF => ?_)
        · refine mj_iconstV (v := 0) C dX9_marks_48 mc_i_0 ?_
          refine mj_istore C dX9_marks_49 (by decide) ?_
          refine mj_iconstV (v := 0) C dX9_marks_51 mc_i_0 ?_
          refine mj_istore C dX9_marks_52 (by decide) ?_
          refine mj_to ?_ (w_X9_marks_54 C hr hlk mj_fu p1 p2 p3 0 0 σ R hF)
          exact ⟨rfl, rfl, rfl, rfl, rfl, rfl, trivial⟩
        · refine mj_bipushV (v := (-12)) C dX9_marks_45 mc_b_m12 ?_
          have hF := mj_oi hF; subst hF
          exact mj_iret C hr hlk dX9_marks_47
    · refine mj_iconstV (v := (-1)) C dX9_marks_21 mc_i_m1 ?_
      have hF := mj_oi hF; subst hF
      exact mj_iret C hr hlk dX9_marks_22
set_option maxRecDepth 100000 in
set_option maxHeartbeats 4000000 in
theorem w_X9_keep_29 {p : Program} {l : Launch} {e : Env} {s : State} {m : MethodId} {args : Array Value} {below : List Frame} {meth : Method} {c : Code} {G : mj_G} (C : mj_X p s m args meth c G cX9_keep 3 RX9) (hr : meth.sig.returnType = some .int) (hlk : meth.locks = false) : ∀ (v1 : Int32) (v2 : Int32) (σ : mj_S) (R : (Int32 × mj_S)), b_X9_keep_29 v1 v2 σ = some R → mj_W p l e (mj_rm 3) s m args below meth c G 0 0 3 (MQ below (mj_Q G (some (.int R.1)) R.2) args s 0 0 G.2.2.2) 29 [(0, .ref (G.2.1 0)), (1, .int v1), (2, .int v2)] [] σ := by
  intro v1 v2 σ R hF
  unfold b_X9_keep_29 at hF
  refine mj_aload_n C dX9_keep_29 rfl ?_
  refine mg_X9_74 C dX9_keep_30 ?_
  refine mj_iload_n C dX9_keep_33 rfl ?_
  refine mj_iload_n C dX9_keep_34 rfl ?_
  obtain ⟨r3, hq3, hF⟩ := mj_ob hF
  refine mj_callVv C (c_X8_holdBody σ v1 v2 r3 hq3) yv_X8_holdBody kl_X9_297 (mo_53 G _) rfl rfl rfl rfl (Nat.le_of_ble_eq_true rfl) (mj_roomC (by decide) (by decide)) ⟨Nat.zero_le _, Nat.zero_le _⟩ dX9_keep_35 ?_
  refine mj_iconstV (v := 1) C dX9_keep_38 mc_i_1 ?_
  have hF := mj_oi hF; subst hF
  exact mj_iret C hr hlk dX9_keep_39
set_option maxRecDepth 100000 in
set_option maxHeartbeats 4000000 in
theorem c_X9_keep {G : mj_G} {l : Launch} (σ : mj_S) (p1 : Int32) (p2 : Int32) (R : (Int32 × mj_S)) (hF : f_X9_keep σ p1 p2 = some R) : mj_C G l yX9_keep cX9_keep 3 (some .int) 3 [.ref (G.2.1 0), .int p1, .int p2] σ (some (.int R.1)) R.2 := by
  unfold f_X9_keep at hF
  refine mj_of (ls := [(0, .ref (G.2.1 0)), (1, .int p1), (2, .int p2)]) (by decide) (Nat.le_of_ble_eq_true rfl) rfl (fun p e s m args below meth c C hr hlk => ?_)
  refine mj_aload_n C dX9_keep_0 rfl ?_
  refine mg_X9_74 C dX9_keep_1 ?_
  refine mj_iload_n C dX9_keep_4 rfl ?_
  refine mj_callVi C (c_X8_has σ p1) yv_X8_has kl_X9_150 (mo_53 G _) rfl rfl rfl rfl (Nat.le_of_ble_eq_true rfl) (mj_roomC (by decide) (by decide)) ⟨Nat.zero_le _, Nat.zero_le _⟩ dX9_keep_5 ?_
  refine mj_if_eq C dX9_keep_8 rfl hF (fun hc1 hF => ?_) (fun hc1 hF => ?_)
  · refine mj_iconstV (v := (-1)) C dX9_keep_27 mc_i_m1 ?_
    have hF := mj_oi hF; subst hF
    exact mj_iret C hr hlk dX9_keep_28
  · refine mj_iload_n C dX9_keep_11 rfl ?_
    refine mj_iconstV (v := (-1)) C dX9_keep_12 mc_i_m1 ?_
    refine mj_ic_eq C dX9_keep_13 rfl hF (fun hc2 hF => ?_) (fun hc2 hF => ?_)
    · refine mj_to ?_ (w_X9_keep_29 C hr hlk p1 p2 σ R hF)
      exact ⟨rfl, rfl, rfl, trivial⟩
    · refine mj_aload_n C dX9_keep_16 rfl ?_
      refine mg_X9_67 C dX9_keep_17 ?_
      refine mj_iload_n C dX9_keep_20 rfl ?_
      refine mj_callVi C (c_X0_has σ p2) yv_X0_has kl_X9_296 (mo_50 G _) rfl rfl rfl rfl (Nat.le_of_ble_eq_true rfl) (mj_roomC (by decide) (by decide)) ⟨Nat.zero_le _, Nat.zero_le _⟩ dX9_keep_21 ?_
      refine mj_if_ne C dX9_keep_24 rfl hF (fun hc4 hF => ?_) (fun hc4 hF => ?_)
      · refine mj_to ?_ (w_X9_keep_29 C hr hlk p1 p2 σ R hF)
        exact ⟨rfl, rfl, rfl, trivial⟩
      · refine mj_iconstV (v := (-1)) C dX9_keep_27 mc_i_m1 ?_
        have hF := mj_oi hF; subst hF
        exact mj_iret C hr hlk dX9_keep_28
set_option maxRecDepth 100000 in
set_option maxHeartbeats 4000000 in
theorem c_X9_row {G : mj_G} {l : Launch} (σ : mj_S) (p1 : Int32) (p2 : Int32) (p3 : Int32) (R : (Int32 × mj_S)) (hF : f_X9_row σ p1 p2 p3 = some R) : mj_C G l yX9_row cX9_row 4 (some .int) 3 [.ref (G.2.1 0), .int p1, .int p2, .int p3] σ (some (.int R.1)) R.2 := by
  unfold f_X9_row at hF
  refine mj_of (ls := [(0, .ref (G.2.1 0)), (1, .int p1), (2, .int p2), (3, .int p3)]) (by decide) (Nat.le_of_ble_eq_true rfl) rfl (fun p e s m args below meth c C hr hlk => ?_)
  refine mj_aload_n C dX9_row_0 rfl ?_
  refine mg_X9_74 C dX9_row_1 ?_
  refine mj_iload_n C dX9_row_4 rfl ?_
  refine mj_callVi C (c_X8_has σ p1) yv_X8_has kl_X9_150 (mo_53 G _) rfl rfl rfl rfl (Nat.le_of_ble_eq_true rfl) (mj_roomC (by decide) (by decide)) ⟨Nat.zero_le _, Nat.zero_le _⟩ dX9_row_5 ?_
  refine mj_if_eq C dX9_row_8 rfl hF (fun hc1 hF => ?_) (fun hc1 hF => ?_)
  · refine mj_iconstV (v := (-1)) C dX9_row_24 mc_i_m1 ?_
    have hF := mj_oi hF; subst hF
    exact mj_iret C hr hlk dX9_row_25
  · refine mj_iload_n C dX9_row_11 rfl ?_
    refine mj_callSi C (c_X8_isSort σ p2) ys_X8_isSort kl_X9_301 rfl rfl (Nat.le_of_ble_eq_true rfl) (mj_roomC (by decide) (by decide)) ⟨Nat.zero_le _, Nat.zero_le _⟩ dX9_row_12 ?_
    refine mj_if_eq C dX9_row_15 rfl hF (fun hc2 hF => ?_) (fun hc2 hF => ?_)
    · refine mj_iconstV (v := (-1)) C dX9_row_24 mc_i_m1 ?_
      have hF := mj_oi hF; subst hF
      exact mj_iret C hr hlk dX9_row_25
    · refine mj_iload_n C dX9_row_18 rfl ?_
      refine mj_bipushV (v := 60) C dX9_row_19 mc_b_60 ?_
      refine mj_ic_le C dX9_row_21 rfl hF (fun hc3 hF => ?_) (fun hc3 hF => ?_)
      · refine mj_iload_n C dX9_row_26 rfl ?_
        refine mj_if_ge C dX9_row_27 rfl hF (fun hc4 hF => ?_) (fun hc4 hF => ?_)
        · refine mj_aload_n C dX9_row_33 rfl ?_
          refine mg_X9_74 C dX9_row_34 ?_
          refine mj_iload_n C dX9_row_37 rfl ?_
          refine mj_iload_n C dX9_row_38 rfl ?_
          refine mj_iload_n C dX9_row_39 rfl ?_
          obtain ⟨r5, hq5, hF⟩ := mj_ob hF
          refine mj_callVv C (c_X8_holdRow σ p1 p2 p3 r5 hq5) yv_X8_holdRow kl_X9_304 (mo_53 G _) rfl rfl rfl rfl (Nat.le_of_ble_eq_true rfl) (mj_roomC (by decide) (by decide)) ⟨Nat.zero_le _, Nat.zero_le _⟩ dX9_row_40 ?_
          refine mj_iconstV (v := 1) C dX9_row_43 mc_i_1 ?_
          have hF := mj_oi hF; subst hF
          exact mj_iret C hr hlk dX9_row_44
        · refine mj_bipushV (v := (-14)) C dX9_row_30 mc_b_m14 ?_
          have hF := mj_oi hF; subst hF
          exact mj_iret C hr hlk dX9_row_32
      · refine mj_iconstV (v := (-1)) C dX9_row_24 mc_i_m1 ?_
        have hF := mj_oi hF; subst hF
        exact mj_iret C hr hlk dX9_row_25
set_option maxRecDepth 100000 in
set_option maxHeartbeats 4000000 in
theorem c_X9_refusalAt {G : mj_G} {l : Launch} (σ : mj_S) (p1 : Int32) (p2 : Int32) (R : Int32) (hF : f_X9_refusalAt σ p1 p2 = some R) : mj_C G l yX9_refusalAt cX9_refusalAt 3 (some .int) 3 [.ref (G.2.1 0), .int p1, .int p2] σ (some (.int R)) σ := by
  unfold f_X9_refusalAt at hF
  refine mj_of (ls := [(0, .ref (G.2.1 0)), (1, .int p1), (2, .int p2)]) (by decide) (Nat.le_of_ble_eq_true rfl) rfl (fun p e s m args below meth c C hr hlk => ?_)
  refine mj_aload_n C dX9_refusalAt_0 rfl ?_
  refine mg_X9_74 C dX9_refusalAt_1 ?_
  refine mj_iload_n C dX9_refusalAt_4 rfl ?_
  refine mj_callVi C (c_X8_has σ p1) yv_X8_has kl_X9_150 (mo_53 G _) rfl rfl rfl rfl (Nat.le_of_ble_eq_true rfl) (mj_roomC (by decide) (by decide)) ⟨Nat.zero_le _, Nat.zero_le _⟩ dX9_refusalAt_5 ?_
  refine mj_if_ne C dX9_refusalAt_8 rfl hF (fun hc1 hF => ?_) (fun hc1 hF => ?_)
  · refine mj_aload_n C dX9_refusalAt_13 rfl ?_
    refine mg_X9_74 C dX9_refusalAt_14 ?_
    refine mj_iload_n C dX9_refusalAt_17 rfl ?_
    obtain ⟨r2, hq2, hF⟩ := mj_ob hF
    refine mj_callVi C (c_X8_holdsNothing σ p1 r2 hq2) yv_X8_holdsNothing kl_X9_151 (mo_53 G _) rfl rfl rfl rfl (Nat.le_of_ble_eq_true rfl) (mj_roomC (by decide) (by decide)) ⟨Nat.zero_le _, Nat.zero_le _⟩ dX9_refusalAt_18 ?_
    refine mj_if_eq C dX9_refusalAt_21 rfl hF (fun hc3 hF => ?_) (fun hc3 hF => ?_)
    · refine mj_aload_n C dX9_refusalAt_27 rfl ?_
      refine mg_X9_74 C dX9_refusalAt_28 ?_
      refine mj_iload_n C dX9_refusalAt_31 rfl ?_
      obtain ⟨r4, hq4, hF⟩ := mj_ob hF
      refine mj_callVi C (c_X8_holdsRow σ p1 r4 hq4) yv_X8_holdsRow kl_X9_323 (mo_53 G _) rfl rfl rfl rfl (Nat.le_of_ble_eq_true rfl) (mj_roomC (by decide) (by decide)) ⟨Nat.zero_le _, Nat.zero_le _⟩ dX9_refusalAt_32 ?_
      refine mj_if_ne C dX9_refusalAt_35 rfl hF (fun hc5 hF => ?_) (fun hc5 hF => ?_)
      · refine mj_aload_n C dX9_refusalAt_41 rfl ?_
        refine mg_X9_74 C dX9_refusalAt_42 ?_
        refine mj_iload_n C dX9_refusalAt_45 rfl ?_
        refine mj_iload_n C dX9_refusalAt_46 rfl ?_
        refine mj_iconstV (v := 1) C dX9_refusalAt_47 mc_i_1 ?_
        obtain ⟨r6, hq6, hF⟩ := mj_ob hF
        refine mj_callVi C (c_X8_hasPlaces σ p1 p2 1 r6 hq6) yv_X8_hasPlaces kl_X9_329 (mo_53 G _) rfl rfl rfl rfl (Nat.le_of_ble_eq_true rfl) (mj_roomC (by decide) (by decide)) ⟨Nat.zero_le _, Nat.zero_le _⟩ dX9_refusalAt_48 ?_
        refine mj_if_eq C dX9_refusalAt_51 rfl hF (fun hc7 hF => ?_) (fun hc7 hF => ?_)
        · refine mj_bipushV (v := (-13)) C dX9_refusalAt_58 mc_b_m13 ?_
          have hF := mj_oi hF; subst hF
          exact mj_iret C hr hlk dX9_refusalAt_60
        · refine mj_iconstV (v := 0) C dX9_refusalAt_54 mc_i_0 ?_
          refine mj_goto C dX9_refusalAt_55 rfl ?_
          have hF := mj_oi hF; subst hF
          exact mj_iret C hr hlk dX9_refusalAt_60
      · refine mj_bipushV (v := (-12)) C dX9_refusalAt_38 mc_b_m12 ?_
        have hF := mj_oi hF; subst hF
        exact mj_iret C hr hlk dX9_refusalAt_40
    · refine mj_bipushV (v := (-11)) C dX9_refusalAt_24 mc_b_m11 ?_
      have hF := mj_oi hF; subst hF
      exact mj_iret C hr hlk dX9_refusalAt_26
  · refine mj_iconstV (v := (-1)) C dX9_refusalAt_11 mc_i_m1 ?_
    have hF := mj_oi hF; subst hF
    exact mj_iret C hr hlk dX9_refusalAt_12
set_option maxRecDepth 100000 in
set_option maxHeartbeats 4000000 in
theorem c_X9_put {G : mj_G} {l : Launch} (σ : mj_S) (p1 : Int32) (p2 : Int32) (p3 : Int64) (R : (Int32 × mj_S)) (hF : f_X9_put σ p1 p2 p3 = some R) : mj_C G l yX9_put cX9_put 6 (some .int) 4 [.ref (G.2.1 0), .int p1, .int p2, .long p3] σ (some (.int R.1)) R.2 := by
  unfold f_X9_put at hF
  refine mj_of (ls := [(0, .ref (G.2.1 0)), (1, .int p1), (2, .int p2), (3, .long p3)]) (by decide) (Nat.le_of_ble_eq_true rfl) rfl (fun p e s m args below meth c C hr hlk => ?_)
  refine mj_aload_n C dX9_put_0 rfl ?_
  refine mj_iload_n C dX9_put_1 rfl ?_
  refine mj_iload_n C dX9_put_2 rfl ?_
  obtain ⟨r1, hq1, hF⟩ := mj_ob hF
  refine mj_callVi C (c_X9_refusalAt σ p1 p2 r1 hq1) yv_X9_refusalAt kl_X9_308 (mo_0 G _) rfl rfl rfl rfl (Nat.le_of_ble_eq_true rfl) (mj_roomC (by decide) (by decide)) ⟨Nat.zero_le _, Nat.zero_le _⟩ dX9_put_3 ?_
  refine mj_istore C dX9_put_6 (by decide) ?_
  refine mj_iload C dX9_put_8 rfl ?_
  refine mj_if_eq C dX9_put_10 rfl hF (fun hc2 hF => ?_) (fun hc2 hF => ?_)
  · refine mj_aload_n C dX9_put_16 rfl ?_
    refine mg_X9_74 C dX9_put_17 ?_
    refine mj_iload_n C dX9_put_20 rfl ?_
    refine mj_iload_n C dX9_put_21 rfl ?_
    refine mj_lload_n C dX9_put_22 rfl ?_
    obtain ⟨r3, hq3, hF⟩ := mj_ob hF
    refine mj_callVv C (c_X8_set σ p1 p2 p3 r3 hq3) yv_X8_set kl_X9_311 (mo_53 G _) rfl rfl rfl rfl (Nat.le_of_ble_eq_true rfl) (mj_roomC (by decide) (by decide)) ⟨Nat.zero_le _, Nat.zero_le _⟩ dX9_put_23 ?_
    refine mj_iconstV (v := 1) C dX9_put_26 mc_i_1 ?_
    have hF := mj_oi hF; subst hF
    exact mj_iret C hr hlk dX9_put_27
  · refine mj_iload C dX9_put_13 rfl ?_
    have hF := mj_oi hF; subst hF
    exact mj_iret C hr hlk dX9_put_15
set_option maxRecDepth 100000 in
set_option maxHeartbeats 4000000 in
theorem c_X9_element {G : mj_G} {l : Launch} (σ : mj_S) (p1 : Int32) (p2 : Int32) (R : Int64) (hF : f_X9_element σ p1 p2 = some R) : mj_C G l yX9_element cX9_element 3 (some .long) 4 [.ref (G.2.1 0), .int p1, .int p2] σ (some (.long R)) σ := by
  unfold f_X9_element at hF
  refine mj_of (ls := [(0, .ref (G.2.1 0)), (1, .int p1), (2, .int p2)]) (by decide) (Nat.le_of_ble_eq_true rfl) rfl (fun p e s m args below meth c C hr hlk => ?_)
  refine mj_aload_n C dX9_element_0 rfl ?_
  refine mj_iload_n C dX9_element_1 rfl ?_
  refine mj_iload_n C dX9_element_2 rfl ?_
  obtain ⟨r1, hq1, hF⟩ := mj_ob hF
  refine mj_callVi C (c_X9_refusalAt σ p1 p2 r1 hq1) yv_X9_refusalAt kl_X9_308 (mo_0 G _) rfl rfl rfl rfl (Nat.le_of_ble_eq_true rfl) (mj_roomC (by decide) (by decide)) ⟨Nat.zero_le _, Nat.zero_le _⟩ dX9_element_3 ?_
  refine mj_if_eq C dX9_element_6 rfl hF (fun hc2 hF => ?_) (fun hc2 hF => ?_)
  · refine mj_aload_n C dX9_element_15 rfl ?_
    refine mg_X9_74 C dX9_element_16 ?_
    refine mj_iload_n C dX9_element_19 rfl ?_
    refine mj_iload_n C dX9_element_20 rfl ?_
    obtain ⟨r3, hq3, hF⟩ := mj_ob hF
    refine mj_callVl C (c_X8_get σ p1 p2 r3 hq3) yv_X8_get kl_X9_319 (mo_53 G _) rfl rfl rfl rfl (Nat.le_of_ble_eq_true rfl) (mj_roomC (by decide) (by decide)) ⟨Nat.zero_le _, Nat.zero_le _⟩ dX9_element_21 ?_
    have hF := mj_oi hF; subst hF
    exact mj_lret C hr hlk dX9_element_24
  · refine mj_ldc2 C dX9_element_9 kc_X9_317 ?_
    refine mj_goto C dX9_element_12 rfl ?_
    have hF := mj_oi hF; subst hF
    exact mj_lret C hr hlk dX9_element_24
set_option maxRecDepth 100000 in
set_option maxHeartbeats 4000000 in
theorem c_X9_shift {G : mj_G} {l : Launch} (σ : mj_S) (p1 : Int32) (p2 : Int32) (p3 : Int32) (p4 : Int32) (p5 : Int32) (R : (Int32 × mj_S)) (hF : f_X9_shift σ p1 p2 p3 p4 p5 = some R) : mj_C G l yX9_shift cX9_shift 6 (some .int) 4 [.ref (G.2.1 0), .int p1, .int p2, .int p3, .int p4, .int p5] σ (some (.int R.1)) R.2 := by
  unfold f_X9_shift at hF
  refine mj_of (ls := [(0, .ref (G.2.1 0)), (1, .int p1), (2, .int p2), (3, .int p3), (4, .int p4), (5, .int p5)]) (by decide) (Nat.le_of_ble_eq_true rfl) rfl (fun p e s m args below meth c C hr hlk => ?_)
  refine mj_aload_n C dX9_shift_0 rfl ?_
  refine mg_X9_74 C dX9_shift_1 ?_
  refine mj_iload_n C dX9_shift_4 rfl ?_
  refine mj_callVi C (c_X8_has σ p1) yv_X8_has kl_X9_150 (mo_53 G _) rfl rfl rfl rfl (Nat.le_of_ble_eq_true rfl) (mj_roomC (by decide) (by decide)) ⟨Nat.zero_le _, Nat.zero_le _⟩ dX9_shift_5 ?_
  refine mj_if_eq C dX9_shift_8 rfl hF (fun hc1 hF => ?_) (fun hc1 hF => ?_)
  · refine mj_iconstV (v := (-1)) C dX9_shift_22 mc_i_m1 ?_
    have hF := mj_oi hF; subst hF
    exact mj_iret C hr hlk dX9_shift_23
  · refine mj_aload_n C dX9_shift_11 rfl ?_
    refine mg_X9_74 C dX9_shift_12 ?_
    refine mj_iload_n C dX9_shift_15 rfl ?_
    refine mj_callVi C (c_X8_has σ p3) yv_X8_has kl_X9_150 (mo_53 G _) rfl rfl rfl rfl (Nat.le_of_ble_eq_true rfl) (mj_roomC (by decide) (by decide)) ⟨Nat.zero_le _, Nat.zero_le _⟩ dX9_shift_16 ?_
    refine mj_if_ne C dX9_shift_19 rfl hF (fun hc2 hF => ?_) (fun hc2 hF => ?_)
    · refine mj_aload_n C dX9_shift_24 rfl ?_
      refine mg_X9_74 C dX9_shift_25 ?_
      refine mj_iload_n C dX9_shift_28 rfl ?_
      obtain ⟨r3, hq3, hF⟩ := mj_ob hF
      refine mj_callVi C (c_X8_holdsNothing σ p1 r3 hq3) yv_X8_holdsNothing kl_X9_151 (mo_53 G _) rfl rfl rfl rfl (Nat.le_of_ble_eq_true rfl) (mj_roomC (by decide) (by decide)) ⟨Nat.zero_le _, Nat.zero_le _⟩ dX9_shift_29 ?_
      refine mj_if_ne C dX9_shift_32 rfl hF (fun hc4 hF => ?_) (fun hc4 hF => ?_)
      · refine mj_bipushV (v := (-11)) C dX9_shift_46 mc_b_m11 ?_
        have hF := mj_oi hF; subst hF
        exact mj_iret C hr hlk dX9_shift_48
      · refine mj_aload_n C dX9_shift_35 rfl ?_
        refine mg_X9_74 C dX9_shift_36 ?_
        refine mj_iload_n C dX9_shift_39 rfl ?_
        obtain ⟨r5, hq5, hF⟩ := mj_ob hF
        refine mj_callVi C (c_X8_holdsNothing σ p3 r5 hq5) yv_X8_holdsNothing kl_X9_151 (mo_53 G _) rfl rfl rfl rfl (Nat.le_of_ble_eq_true rfl) (mj_roomC (by decide) (by decide)) ⟨Nat.zero_le _, Nat.zero_le _⟩ dX9_shift_40 ?_
        refine mj_if_eq C dX9_shift_43 rfl hF (fun hc6 hF => ?_) (fun hc6 hF => ?_)
        · refine mj_aload_n C dX9_shift_49 rfl ?_
          refine mg_X9_74 C dX9_shift_50 ?_
          refine mj_iload_n C dX9_shift_53 rfl ?_
          obtain ⟨r7, hq7, hF⟩ := mj_ob hF
          refine mj_callVi C (c_X8_holdsRow σ p1 r7 hq7) yv_X8_holdsRow kl_X9_323 (mo_53 G _) rfl rfl rfl rfl (Nat.le_of_ble_eq_true rfl) (mj_roomC (by decide) (by decide)) ⟨Nat.zero_le _, Nat.zero_le _⟩ dX9_shift_54 ?_
          refine mj_if_eq C dX9_shift_57 rfl hF (fun hc8 hF => ?_) (fun hc8 hF => ?_)
          · refine mj_bipushV (v := (-12)) C dX9_shift_83 mc_b_m12 ?_
            have hF := mj_oi hF; subst hF
            exact mj_iret C hr hlk dX9_shift_85
          · refine mj_aload_n C dX9_shift_60 rfl ?_
            refine mg_X9_74 C dX9_shift_61 ?_
            refine mj_iload_n C dX9_shift_64 rfl ?_
            obtain ⟨r9, hq9, hF⟩ := mj_ob hF
            refine mj_callVi C (c_X8_holdsRow σ p3 r9 hq9) yv_X8_holdsRow kl_X9_323 (mo_53 G _) rfl rfl rfl rfl (Nat.le_of_ble_eq_true rfl) (mj_roomC (by decide) (by decide)) ⟨Nat.zero_le _, Nat.zero_le _⟩ dX9_shift_65 ?_
            refine mj_if_eq C dX9_shift_68 rfl hF (fun hc10 hF => ?_) (fun hc10 hF => ?_)
            · refine mj_bipushV (v := (-12)) C dX9_shift_83 mc_b_m12 ?_
              have hF := mj_oi hF; subst hF
              exact mj_iret C hr hlk dX9_shift_85
            · refine mj_aload_n C dX9_shift_71 rfl ?_
              refine mg_X9_74 C dX9_shift_72 ?_
              refine mj_iload_n C dX9_shift_75 rfl ?_
              refine mj_iload_n C dX9_shift_76 rfl ?_
              obtain ⟨r11, hq11, hF⟩ := mj_ob hF
              refine mj_callVi C (c_X8_areAlike σ p1 p3 r11 hq11) yv_X8_areAlike kl_X9_326 (mo_53 G _) rfl rfl rfl rfl (Nat.le_of_ble_eq_true rfl) (mj_roomC (by decide) (by decide)) ⟨Nat.zero_le _, Nat.zero_le _⟩ dX9_shift_77 ?_
              refine mj_if_ne C dX9_shift_80 rfl hF (fun hc12 hF => ?_) (fun hc12 hF => ?_)
              · refine mj_aload_n C dX9_shift_86 rfl ?_
                refine mg_X9_74 C dX9_shift_87 ?_
                refine mj_iload_n C dX9_shift_90 rfl ?_
                refine mj_iload_n C dX9_shift_91 rfl ?_
                refine mj_iload C dX9_shift_92 rfl ?_
                obtain ⟨r13, hq13, hF⟩ := mj_ob hF
                refine mj_callVi C (c_X8_hasPlaces σ p1 p2 p5 r13 hq13) yv_X8_hasPlaces kl_X9_329 (mo_53 G _) rfl rfl rfl rfl (Nat.le_of_ble_eq_true rfl) (mj_roomC (by decide) (by decide)) ⟨Nat.zero_le _, Nat.zero_le _⟩ dX9_shift_94 ?_
                refine mj_if_eq C dX9_shift_97 rfl hF (fun hc14 hF => ?_) (fun hc14 hF => ?_)
                · refine mj_bipushV (v := (-13)) C dX9_shift_115 mc_b_m13 ?_
                  have hF := mj_oi hF; subst hF
                  exact mj_iret C hr hlk dX9_shift_117
                · refine mj_aload_n C dX9_shift_100 rfl ?_
                  refine mg_X9_74 C dX9_shift_101 ?_
                  refine mj_iload_n C dX9_shift_104 rfl ?_
                  refine mj_iload C dX9_shift_105 rfl ?_
                  refine mj_iload C dX9_shift_107 rfl ?_
                  obtain ⟨r15, hq15, hF⟩ := mj_ob hF
                  refine mj_callVi C (c_X8_hasPlaces σ p3 p4 p5 r15 hq15) yv_X8_hasPlaces kl_X9_329 (mo_53 G _) rfl rfl rfl rfl (Nat.le_of_ble_eq_true rfl) (mj_roomC (by decide) (by decide)) ⟨Nat.zero_le _, Nat.zero_le _⟩ dX9_shift_109 ?_
                  refine mj_if_ne C dX9_shift_112 rfl hF (fun hc16 hF => ?_) (fun hc16 hF => ?_)
                  · refine mj_aload_n C dX9_shift_118 rfl ?_
                    refine mg_X9_74 C dX9_shift_119 ?_
                    refine mj_iload_n C dX9_shift_122 rfl ?_
                    refine mj_iload_n C dX9_shift_123 rfl ?_
                    refine mj_iload_n C dX9_shift_124 rfl ?_
                    refine mj_iload C dX9_shift_125 rfl ?_
                    refine mj_iload C dX9_shift_127 rfl ?_
                    obtain ⟨r17, hq17, hF⟩ := mj_ob hF
                    refine mj_callVv C (c_X8_move σ p1 p2 p3 p4 p5 r17 hq17) yv_X8_move kl_X9_332 (mo_53 G _) rfl rfl rfl rfl (Nat.le_of_ble_eq_true rfl) (mj_roomC (by decide) (by decide)) ⟨Nat.zero_le _, Nat.zero_le _⟩ dX9_shift_129 ?_
                    refine mj_iload C dX9_shift_132 rfl ?_
                    have hF := mj_oi hF; subst hF
                    exact mj_iret C hr hlk dX9_shift_134
                  · refine mj_bipushV (v := (-13)) C dX9_shift_115 mc_b_m13 ?_
                    have hF := mj_oi hF; subst hF
                    exact mj_iret C hr hlk dX9_shift_117
              · refine mj_bipushV (v := (-12)) C dX9_shift_83 mc_b_m12 ?_
                have hF := mj_oi hF; subst hF
                exact mj_iret C hr hlk dX9_shift_85
        · refine mj_bipushV (v := (-11)) C dX9_shift_46 mc_b_m11 ?_
          have hF := mj_oi hF; subst hF
          exact mj_iret C hr hlk dX9_shift_48
    · refine mj_iconstV (v := (-1)) C dX9_shift_22 mc_i_m1 ?_
      have hF := mj_oi hF; subst hF
      exact mj_iret C hr hlk dX9_shift_23
set_option maxRecDepth 100000 in
set_option maxHeartbeats 4000000 in
theorem c_X2_wantAt {G : mj_G} {l : Launch} (σ : mj_S) (p1 : Int32) (R : Int32) (hF : f_X2_wantAt σ p1 = some R) : mj_C G l yX2_wantAt cX2_wantAt 2 (some .int) 3 [.ref (G.2.1 9), .int p1] σ (some (.int R)) σ := by
  unfold f_X2_wantAt at hF
  refine mj_of (ls := [(0, .ref (G.2.1 9)), (1, .int p1)]) (by decide) (Nat.le_of_ble_eq_true rfl) rfl (fun p e s m args below meth c C hr hlk => ?_)
  refine mj_iload_n C dX2_wantAt_0 rfl ?_
  refine mj_callNi C (c_X9_isMonth σ p1) ys_X9_isMonth kn_X2_72 rfl rfl (Nat.le_of_ble_eq_true rfl) (mj_roomC (by decide) (by decide)) ⟨Nat.zero_le _, Nat.zero_le _⟩ dX2_wantAt_1 ?_
  refine mj_if_eq C dX2_wantAt_4 rfl hF (fun hc1 hF => ?_) (fun hc1 hF => ?_)
  · refine mj_iconstV (v := 0) C dX2_wantAt_16 mc_i_0 ?_
    have hF := mj_oi hF; subst hF
    exact mj_iret C hr hlk dX2_wantAt_17
  · refine mj_aload_n C dX2_wantAt_7 rfl ?_
    refine mg_X2_31 C dX2_wantAt_8 ?_
    refine mj_iload_n C dX2_wantAt_11 rfl ?_
    obtain ⟨hg2, hF⟩ := mj_og hF
    refine mj_iaload C dX2_wantAt_12 rfl hg2 ?_
    refine mj_goto C dX2_wantAt_13 rfl ?_
    have hF := mj_oi hF; subst hF
    exact mj_iret C hr hlk dX2_wantAt_17
set_option maxRecDepth 100000 in
set_option maxHeartbeats 4000000 in
theorem w_X2_grow_107 {p : Program} {l : Launch} {e : Env} {s : State} {m : MethodId} {args : Array Value} {below : List Frame} {meth : Method} {c : Code} {G : mj_G} {K6 : Nat → Nat → Int32 → Int32 → Int32 → Nat → Nat → Int32 → Int32 → mj_S → Option mj_S} (C : mj_X p s m args meth c G cX2_grow 8 RX2) (hr : meth.sig.returnType = none) (hlk : meth.locks = false) (hK6 : ∀ (a1 na1 : Nat) (ha1 : mj_il a1 = some na1) (v2 : Int32) (v3 : Int32) (v4 : Int32) (a5 na5 : Nat) (ha5 : mj_il a5 = some na5) (v6 : Int32) (v7 : Int32) (σ : mj_S) (R : mj_S), K6 a1 na1 v2 v3 v4 a5 na5 v6 v7 σ = some R → mj_W p l e (mj_rm 5) s m args below meth c G 0 0 8 (MQ below (mj_Q G none R) args s 0 0 G.2.2.2) 6 [(0, .ref (G.2.1 9)), (1, .ref (G.2.1 a1)), (2, .int v2), (3, .int v3), (4, .int v4), (5, .ref (G.2.1 a5)), (6, .int v6), (7, .int v7)] [] σ) : ∀ (a1 na1 : Nat) (ha1 : mj_il a1 = some na1) (v2 : Int32) (v3 : Int32) (v4 : Int32) (a5 na5 : Nat) (ha5 : mj_il a5 = some na5) (v6 : Int32) (v7 : Int32) (σ : mj_S) (R : mj_S), b_X2_grow_107 K6 a1 na1 v2 v3 v4 a5 na5 v6 v7 σ = some R → mj_W p l e (mj_rm 5) s m args below meth c G 0 0 8 (MQ below (mj_Q G none R) args s 0 0 G.2.2.2) 107 [(0, .ref (G.2.1 9)), (1, .ref (G.2.1 a1)), (2, .int v2), (3, .int v3), (4, .int v4), (5, .ref (G.2.1 a5)), (6, .int v6), (7, .int v7)] [] σ := by
  intro a1 na1 ha1 v2 v3 v4 a5 na5 ha5 v6 v7 σ R hF
  unfold b_X2_grow_107 at hF
  refine mj_aload_n C dX2_grow_107 rfl ?_
  refine mj_iload C dX2_grow_108 rfl ?_
  refine mj_iload C dX2_grow_110 rfl ?_
  obtain ⟨hg5, hF⟩ := mj_og hF
  refine mj_iastore C dX2_grow_112 ha1 hg5 ?_
  refine mj_iinc (v := v7 + 1) C dX2_grow_113 rfl rfl (by decide) ?_
  refine mj_goto C dX2_grow_116 rfl ?_
  refine mj_to ?_ (hK6 a1 na1 ha1 v2 v3 v4 a5 na5 ha5 v6 (v7 + 1) (mj_sI σ a1 v7.toNatClampNeg v6) R hF)
  exact ⟨rfl, rfl, rfl, rfl, rfl, rfl, rfl, rfl, trivial⟩
set_option maxRecDepth 100000 in
set_option maxHeartbeats 4000000 in
theorem w_X2_grow_6 {p : Program} {l : Launch} {e : Env} {s : State} {m : MethodId} {args : Array Value} {below : List Frame} {meth : Method} {c : Code} {G : mj_G} (C : mj_X p s m args meth c G cX2_grow 8 RX2) (hr : meth.sig.returnType = none) (hlk : meth.locks = false) : ∀ (n : Nat) (a1 na1 : Nat) (ha1 : mj_il a1 = some na1) (v2 : Int32) (v3 : Int32) (v4 : Int32) (a5 na5 : Nat) (ha5 : mj_il a5 = some na5) (v6 : Int32) (v7 : Int32) (σ : mj_S) (R : mj_S), b_X2_grow_6 n a1 na1 v2 v3 v4 a5 na5 v6 v7 σ = some R → mj_W p l e (mj_rm 5) s m args below meth c G 0 0 8 (MQ below (mj_Q G none R) args s 0 0 G.2.2.2) 6 [(0, .ref (G.2.1 9)), (1, .ref (G.2.1 a1)), (2, .int v2), (3, .int v3), (4, .int v4), (5, .ref (G.2.1 a5)), (6, .int v6), (7, .int v7)] [] σ := by
  intro n
  induction n with
  | zero =>
    intro a1 na1 ha1 v2 v3 v4 a5 na5 ha5 v6 v7 σ R hF
    cases hF
  | succ n ih =>
    intro a1 na1 ha1 v2 v3 v4 a5 na5 ha5 v6 v7 σ R hF
    rw [b_X2_grow_6] at hF
    refine mj_iload C dX2_grow_6 rfl ?_
    refine mj_aload_n C dX2_grow_8 rfl ?_
    refine mj_alen (v := Int32.ofNat na1) C dX2_grow_9 ha1 rfl ?_
    refine mj_ic_ge C dX2_grow_10 rfl hF (fun hc1 hF => ?_) (fun hc1 hF => ?_)
    · have hF := mj_oi hF; subst hF
      exact mj_vret C hr hlk dX2_grow_119
    · refine mj_iload C dX2_grow_13 rfl ?_
      refine mj_aload C dX2_grow_15 rfl ?_
      refine mj_alen (v := Int32.ofNat na5) C dX2_grow_17 ha5 rfl ?_
      refine mj_ic_ge C dX2_grow_18 rfl hF (fun hc2 hF => ?_) (fun hc2 hF => ?_)
      · have hF := mj_oi hF; subst hF
        exact mj_vret C hr hlk dX2_grow_119
      · refine mj_iload C dX2_grow_21 rfl ?_
        refine mj_iload_n C dX2_grow_23 rfl ?_
        refine mj_ic_ne C dX2_grow_24 rfl hF (fun hc3 hF => ?_) (fun hc3 hF => ?_)
        · refine mj_iload C dX2_grow_33 rfl ?_
          refine mj_iload_n C dX2_grow_35 rfl ?_
          refine mj_ic_le C dX2_grow_36 rfl hF (fun hc4 hF => ?_) (fun hc4 hF => ?_)
          · refine mj_to ?_ (w_X2_grow_107 C hr hlk ih a1 na1 ha1 v2 v3 v4 a5 na5 ha5 v6 v7 σ R hF)
            exact ⟨rfl, rfl, rfl, rfl, rfl, rfl, rfl, rfl, trivial⟩
          · refine mj_aload_n C dX2_grow_39 rfl ?_
            refine mg_X2_60 C dX2_grow_40 ?_
            refine mj_iconstV (v := 0) C dX2_grow_43 mc_i_0 ?_
            refine mj_iload C dX2_grow_44 rfl ?_
            refine mj_iload_n C dX2_grow_46 rfl ?_
            refine mj_isub C dX2_grow_47 ?_
            refine mj_iload C dX2_grow_48 rfl ?_
            refine mj_isub C dX2_grow_50 ?_
            refine mj_iastore C dX2_grow_51 rfl (by decide) ?_
            refine mj_aload_n C dX2_grow_52 rfl ?_
            refine mg_X2_60 C dX2_grow_53 ?_
            refine mj_iconstV (v := 2) C dX2_grow_56 mc_i_2 ?_
            refine mj_aload C dX2_grow_57 rfl ?_
            refine mj_iload C dX2_grow_59 rfl ?_
            obtain ⟨hg6, hF⟩ := mj_og hF
            refine mj_iaload C dX2_grow_61 ha5 hg6 ?_
            refine mj_iastore C dX2_grow_62 rfl (by decide) ?_
            refine mj_aload_n C dX2_grow_63 rfl ?_
            refine mg_X2_60 C dX2_grow_64 ?_
            refine mj_iconstV (v := 3) C dX2_grow_67 mc_i_3 ?_
            refine mj_iload C dX2_grow_68 rfl ?_
            refine mj_bipushV (v := 64) C dX2_grow_70 mc_b_64 ?_
            refine mj_idiv C dX2_grow_72 (by decide) ?_
            refine mj_iastore C dX2_grow_73 rfl (by decide) ?_
            refine mj_aload_n C dX2_grow_74 rfl ?_
            refine mg_X2_60 C dX2_grow_75 ?_
            refine mj_iconstV (v := 5) C dX2_grow_78 mc_i_5 ?_
            refine mj_iload C dX2_grow_79 rfl ?_
            refine mj_bipushV (v := 12) C dX2_grow_81 mc_b_12 ?_
            refine mj_irem C dX2_grow_83 (by decide) ?_
            refine mj_iastore C dX2_grow_84 rfl (by decide) ?_
            refine mj_sipushV (v := 8000) C dX2_grow_85 mc_s_8000 ?_
            refine mj_iload C dX2_grow_88 rfl ?_
            refine mj_aload_n C dX2_grow_90 rfl ?_
            refine mg_X2_63 C dX2_grow_91 ?_
            refine mj_aload_n C dX2_grow_94 rfl ?_
            refine mg_X2_60 C dX2_grow_95 ?_
            obtain ⟨r7, hq7, hF⟩ := mj_ob hF
            refine mj_callVi C (c_X4_growth (mj_sI (mj_sI (mj_sI (mj_sI σ 34 0 ((v7 - v2) - v4)) 34 2 ((mj_sI σ 34 0 ((v7 - v2) - v4)).1 a5 v7.toNatClampNeg)) 34 3 (v6 / 64)) 34 5 (mj_rem v7 12)) 34 7 rfl r7 hq7) yv_X4_growth kl_X2_102 (mo_1 G _) rfl rfl rfl rfl (Nat.le_of_ble_eq_true rfl) (mj_roomC (by decide) (by decide)) ⟨Nat.zero_le _, Nat.zero_le _⟩ dX2_grow_98 ?_
            refine mj_iadd C dX2_grow_101 ?_
            refine mj_mmin C kl_X2_106 (mj_room13 (by decide) (Nat.le_of_ble_eq_true rfl)) ⟨Nat.zero_le _, Nat.zero_le _⟩ dX2_grow_102 ?_
            refine mj_istore C dX2_grow_105 (by decide) ?_
            refine mj_to ?_ (w_X2_grow_107 C hr hlk ih a1 na1 ha1 v2 v3 v4 a5 na5 ha5 (mj_min 8000 (v6 + r7.1)) v7 r7.2 R hF)
            exact ⟨rfl, rfl, rfl, rfl, rfl, rfl, rfl, rfl, trivial⟩
        · refine mj_iload_n C dX2_grow_27 rfl ?_
          refine mj_istore C dX2_grow_28 (by decide) ?_
          refine mj_goto C dX2_grow_30 rfl ?_
          refine mj_to ?_ (w_X2_grow_107 C hr hlk ih a1 na1 ha1 v2 v3 v4 a5 na5 ha5 v3 v7 σ R hF)
          exact ⟨rfl, rfl, rfl, rfl, rfl, rfl, rfl, rfl, trivial⟩
set_option maxRecDepth 100000 in
set_option maxHeartbeats 4000000 in
theorem c_X2_grow {G : mj_G} {l : Launch} (σ : mj_S) (a1 n1 : Nat) (h1 : mj_il a1 = some n1) (p2 : Int32) (p3 : Int32) (p4 : Int32) (a5 n5 : Nat) (h5 : mj_il a5 = some n5) (R : mj_S) (hF : f_X2_grow σ a1 n1 p2 p3 p4 a5 n5 = some R) : mj_C G l yX2_grow cX2_grow 8 (none) 5 [.ref (G.2.1 9), .ref (G.2.1 a1), .int p2, .int p3, .int p4, .ref (G.2.1 a5)] σ none R := by
  unfold f_X2_grow at hF
  refine mj_of (ls := [(0, .ref (G.2.1 9)), (1, .ref (G.2.1 a1)), (2, .int p2), (3, .int p3), (4, .int p4), (5, .ref (G.2.1 a5))]) (by decide) (Nat.le_of_ble_eq_true rfl) rfl (fun p e s m args below meth c C hr hlk => ?_)
  refine mj_iconstV (v := 0) C dX2_grow_0 mc_i_0 ?_
  refine mj_istore C dX2_grow_1 (by decide) ?_
  refine mj_iconstV (v := 0) C dX2_grow_3 mc_i_0 ?_
  refine mj_istore C dX2_grow_4 (by decide) ?_
  refine mj_to ?_ (w_X2_grow_6 C hr hlk mj_fu a1 n1 h1 p2 p3 p4 a5 n5 h5 0 0 σ R hF)
  exact ⟨rfl, rfl, rfl, rfl, rfl, rfl, rfl, rfl, trivial⟩
set_option maxRecDepth 100000 in
set_option maxHeartbeats 4000000 in
theorem w_X2_refresh_2 {p : Program} {l : Launch} {e : Env} {s : State} {m : MethodId} {args : Array Value} {below : List Frame} {meth : Method} {c : Code} {G : mj_G} (C : mj_X p s m args meth c G cX2_refresh 2 RX2) (hr : meth.sig.returnType = none) (hlk : meth.locks = false) : ∀ (n : Nat) (v1 : Int32) (σ : mj_S) (R : mj_S), b_X2_refresh_2 n v1 σ = some R → mj_W p l e (mj_rm 6) s m args below meth c G 0 0 2 (MQ below (mj_Q G none R) args s 0 0 G.2.2.2) 2 [(0, .ref (G.2.1 9)), (1, .int v1)] [] σ := by
  intro n
  induction n with
  | zero =>
    intro v1 σ R hF
    cases hF
  | succ n ih =>
    intro v1 σ R hF
    rw [b_X2_refresh_2] at hF
    refine mj_iload_n C dX2_refresh_2 rfl ?_
    refine mj_aload_n C dX2_refresh_3 rfl ?_
    refine mg_X2_27 C dX2_refresh_4 ?_
    refine mj_ic_ge C dX2_refresh_7 rfl hF (fun hc1 hF => ?_) (fun hc1 hF => ?_)
    · have hF := mj_oi hF; subst hF
      exact mj_vret C hr hlk dX2_refresh_126
    · refine mj_iload_n C dX2_refresh_10 rfl ?_
      refine mj_bipushV (v := 6) C dX2_refresh_11 mc_b_6 ?_
      refine mj_ic_ge C dX2_refresh_13 rfl hF (fun hc2 hF => ?_) (fun hc2 hF => ?_)
      · have hF := mj_oi hF; subst hF
        exact mj_vret C hr hlk dX2_refresh_126
      · refine mj_aload_n C dX2_refresh_16 rfl ?_
        refine mg_X2_54 C dX2_refresh_17 ?_
        refine mj_iload_n C dX2_refresh_20 rfl ?_
        obtain ⟨hg3, hF⟩ := mj_og hF
        refine mj_zaload C dX2_refresh_21 rfl hg3 ?_
        refine mj_if_eq C dX2_refresh_22 rfl hF (fun hc4 hF => ?_) (fun hc4 hF => ?_)
        · refine mj_iinc (v := v1 + 1) C dX2_refresh_120 rfl rfl (by decide) ?_
          refine mj_goto C dX2_refresh_123 rfl ?_
          refine mj_to ?_ (ih (v1 + 1) σ R hF)
          exact ⟨rfl, rfl, trivial⟩
        · refine mj_aload_n C dX2_refresh_25 rfl ?_
          refine mj_aload_n C dX2_refresh_26 rfl ?_
          refine mg_X2_15 C dX2_refresh_27 ?_
          refine mj_iload_n C dX2_refresh_30 rfl ?_
          obtain ⟨hg5, hF⟩ := mj_og hF
          refine mj_iaload C dX2_refresh_31 rfl hg5 ?_
          refine mj_aload_n C dX2_refresh_32 rfl ?_
          refine mg_X2_24 C dX2_refresh_33 ?_
          refine mj_iload_n C dX2_refresh_36 rfl ?_
          obtain ⟨hg6, hF⟩ := mj_og hF
          refine mj_iaload C dX2_refresh_37 rfl hg6 ?_
          refine mj_iload_n C dX2_refresh_38 rfl ?_
          obtain ⟨r7, hq7, hF⟩ := mj_ob hF
          refine mj_callVv C (c_X2_name σ (σ.1 11 v1.toNatClampNeg) (σ.1 14 v1.toNatClampNeg) v1 r7 hq7) yv_X2_name kl_X2_88 (mo_9 G _) rfl rfl rfl rfl (Nat.le_of_ble_eq_true rfl) (mj_roomC (by decide) (by decide)) ⟨Nat.zero_le _, Nat.zero_le _⟩ dX2_refresh_39 ?_
          refine mj_aload_n C dX2_refresh_42 rfl ?_
          refine mj_aload_n C dX2_refresh_43 rfl ?_
          refine mg_X2_45 C dX2_refresh_44 ?_
          refine mj_iload_n C dX2_refresh_47 rfl ?_
          obtain ⟨hg8, hF⟩ := mj_og hF
          have hA9 := mj_row_18 hg8
          refine mj_aaI C rfl (Nat.le_of_ble_eq_true rfl) hg8 dX2_refresh_48 ?_
          refine mj_aload_n C dX2_refresh_49 rfl ?_
          refine mg_X2_9 C dX2_refresh_50 ?_
          refine mj_iload_n C dX2_refresh_53 rfl ?_
          obtain ⟨hg10, hF⟩ := mj_og hF
          refine mj_iaload C dX2_refresh_54 rfl hg10 ?_
          refine mj_aload_n C dX2_refresh_55 rfl ?_
          refine mg_X2_18 C dX2_refresh_56 ?_
          refine mj_iload_n C dX2_refresh_59 rfl ?_
          obtain ⟨hg11, hF⟩ := mj_og hF
          refine mj_iaload C dX2_refresh_60 rfl hg11 ?_
          refine mj_aload_n C dX2_refresh_61 rfl ?_
          refine mg_X2_21 C dX2_refresh_62 ?_
          refine mj_iload_n C dX2_refresh_65 rfl ?_
          obtain ⟨hg12, hF⟩ := mj_og hF
          refine mj_iaload C dX2_refresh_66 rfl hg12 ?_
          refine mj_aload_n C dX2_refresh_67 rfl ?_
          refine mg_X2_31 C dX2_refresh_68 ?_
          obtain ⟨r13, hq13, hF⟩ := mj_ob hF
          refine mj_callVv C (c_X2_grow r7 (18 + 1 + v1.toNatClampNeg) 600 hA9 (r7.1 10 v1.toNatClampNeg) (r7.1 12 v1.toNatClampNeg) (r7.1 13 v1.toNatClampNeg) 15 600 rfl r13 hq13) yv_X2_grow kl_X2_92 (mo_9 G _) rfl rfl rfl rfl (Nat.le_of_ble_eq_true rfl) (mj_roomC (by decide) (by decide)) ⟨Nat.zero_le _, Nat.zero_le _⟩ dX2_refresh_71 ?_
          refine mj_aload_n C dX2_refresh_74 rfl ?_
          refine mj_aload_n C dX2_refresh_75 rfl ?_
          refine mg_X2_15 C dX2_refresh_76 ?_
          refine mj_iload_n C dX2_refresh_79 rfl ?_
          obtain ⟨hg14, hF⟩ := mj_og hF
          refine mj_iaload C dX2_refresh_80 rfl hg14 ?_
          refine mj_sipushV (v := 4300) C dX2_refresh_81 mc_s_4300 ?_
          refine mj_bipushV (v := 6) C dX2_refresh_84 mc_b_6 ?_
          obtain ⟨r15, hq15, hF⟩ := mj_ob hF
          refine mj_callVv C (c_X2_name r13 (r13.1 11 v1.toNatClampNeg) 4300 6 r15 hq15) yv_X2_name kl_X2_88 (mo_9 G _) rfl rfl rfl rfl (Nat.le_of_ble_eq_true rfl) (mj_roomC (by decide) (by decide)) ⟨Nat.zero_le _, Nat.zero_le _⟩ dX2_refresh_86 ?_
          refine mj_aload_n C dX2_refresh_89 rfl ?_
          refine mj_aload_n C dX2_refresh_90 rfl ?_
          refine mg_X2_48 C dX2_refresh_91 ?_
          refine mj_iload_n C dX2_refresh_94 rfl ?_
          obtain ⟨hg16, hF⟩ := mj_og hF
          have hA17 := mj_row_25 hg16
          refine mj_aaI C rfl (Nat.le_of_ble_eq_true rfl) hg16 dX2_refresh_95 ?_
          refine mj_aload_n C dX2_refresh_96 rfl ?_
          refine mg_X2_9 C dX2_refresh_97 ?_
          refine mj_iload_n C dX2_refresh_100 rfl ?_
          obtain ⟨hg18, hF⟩ := mj_og hF
          refine mj_iaload C dX2_refresh_101 rfl hg18 ?_
          refine mj_sipushV (v := 1280) C dX2_refresh_102 mc_s_1280 ?_
          refine mj_iconstV (v := 0) C dX2_refresh_105 mc_i_0 ?_
          refine mj_aload_n C dX2_refresh_106 rfl ?_
          refine mg_X2_34 C dX2_refresh_107 ?_
          obtain ⟨r19, hq19, hF⟩ := mj_ob hF
          refine mj_callVv C (c_X2_grow r15 (25 + 1 + v1.toNatClampNeg) 600 hA17 (r15.1 10 v1.toNatClampNeg) 1280 0 16 600 rfl r19 hq19) yv_X2_grow kl_X2_92 (mo_9 G _) rfl rfl rfl rfl (Nat.le_of_ble_eq_true rfl) (mj_roomC (by decide) (by decide)) ⟨Nat.zero_le _, Nat.zero_le _⟩ dX2_refresh_110 ?_
          refine mj_aload_n C dX2_refresh_113 rfl ?_
          refine mg_X2_54 C dX2_refresh_114 ?_
          refine mj_iload_n C dX2_refresh_117 rfl ?_
          refine mj_iconstV (v := 0) C dX2_refresh_118 mc_i_0 ?_
          obtain ⟨hg20, hF⟩ := mj_og hF
          refine mj_zastore C dX2_refresh_119 rfl rfl hg20 ?_
          refine mj_iinc (v := v1 + 1) C dX2_refresh_120 rfl rfl (by decide) ?_
          refine mj_goto C dX2_refresh_123 rfl ?_
          refine mj_to ?_ (ih (v1 + 1) (mj_sI r19 33 v1.toNatClampNeg 0) R hF)
          exact ⟨rfl, rfl, trivial⟩
set_option maxRecDepth 100000 in
set_option maxHeartbeats 4000000 in
theorem c_X2_refresh {G : mj_G} {l : Launch} (σ : mj_S) (R : mj_S) (hF : f_X2_refresh σ = some R) : mj_C G l yX2_refresh cX2_refresh 2 (none) 6 [.ref (G.2.1 9)] σ none R := by
  unfold f_X2_refresh at hF
  refine mj_of (ls := [(0, .ref (G.2.1 9))]) (by decide) (Nat.le_of_ble_eq_true rfl) rfl (fun p e s m args below meth c C hr hlk => ?_)
  refine mj_iconstV (v := 0) C dX2_refresh_0 mc_i_0 ?_
  refine mj_istore_n C dX2_refresh_1 (by decide) ?_
  refine mj_to ?_ (w_X2_refresh_2 C hr hlk mj_fu 0 σ R hF)
  exact ⟨rfl, rfl, trivial⟩
set_option maxRecDepth 100000 in
set_option maxHeartbeats 4000000 in
theorem c_X2_think {G : mj_G} {l : Launch} (σ : mj_S) (p1 : Int32) (p2 : Int32) (p3 : Int32) (p4 : Int32) (R : mj_S) (hF : f_X2_think σ p1 p2 p3 p4 = some R) : mj_C G l yX2_think cX2_think 5 (none) 6 [.ref (G.2.1 9), .int p1, .int p2, .int p3, .int p4] σ none R := by
  unfold f_X2_think at hF
  refine mj_of (ls := [(0, .ref (G.2.1 9)), (1, .int p1), (2, .int p2), (3, .int p3), (4, .int p4)]) (by decide) (Nat.le_of_ble_eq_true rfl) rfl (fun p e s m args below meth c C hr hlk => ?_)
  refine mj_aload_n C dX2_think_0 rfl ?_
  refine mj_iload_n C dX2_think_1 rfl ?_
  refine mj_callVi C (c_X2_has σ p1) yv_X2_has kl_X2_67 (mo_9 G _) rfl rfl rfl rfl (Nat.le_of_ble_eq_true rfl) (mj_roomC (by decide) (by decide)) ⟨Nat.zero_le _, Nat.zero_le _⟩ dX2_think_2 ?_
  refine mj_if_eq C dX2_think_5 rfl hF (fun hc1 hF => ?_) (fun hc1 hF => ?_)
  · have hF := mj_oi hF; subst hF
    exact mj_vret C hr hlk dX2_think_82
  · refine mj_aload_n C dX2_think_8 rfl ?_
    refine mg_X2_31 C dX2_think_9 ?_
    refine mj_iconstV (v := 0) C dX2_think_12 mc_i_0 ?_
    refine mj_aload_n C dX2_think_13 rfl ?_
    refine mg_X2_37 C dX2_think_14 ?_
    refine mj_iconstV (v := 0) C dX2_think_17 mc_i_0 ?_
    refine mj_sipushV (v := 600) C dX2_think_18 mc_s_600 ?_
    obtain ⟨hg2, hF⟩ := mj_og hF
    refine mj_copyI C kl_X2_96 rfl rfl hg2 (mj_roomCp (by decide) (Nat.le_of_ble_eq_true rfl)) dX2_think_21 ?_
    refine mj_aload_n C dX2_think_24 rfl ?_
    refine mg_X2_37 C dX2_think_25 ?_
    refine mj_iload_n C dX2_think_28 rfl ?_
    refine mj_iload_n C dX2_think_29 rfl ?_
    refine mj_iload C dX2_think_30 rfl ?_
    obtain ⟨r3, hq3, hF⟩ := mj_ob hF
    refine mj_callSv C (c_X2_raise (mj_sR σ 17 (va_cpy (σ.1 15) (σ.1 17) 0 0 600)) 17 600 rfl p2 p3 p4 r3 hq3) ys_X2_raise kl_X2_75 rfl rfl (Nat.le_of_ble_eq_true rfl) (mj_roomC (by decide) (by decide)) ⟨Nat.zero_le _, Nat.zero_le _⟩ dX2_think_32 ?_
    refine mj_aload_n C dX2_think_35 rfl ?_
    refine mj_aload_n C dX2_think_36 rfl ?_
    refine mg_X2_15 C dX2_think_37 ?_
    refine mj_iload_n C dX2_think_40 rfl ?_
    obtain ⟨hg4, hF⟩ := mj_og hF
    refine mj_iaload C dX2_think_41 rfl hg4 ?_
    refine mj_aload_n C dX2_think_42 rfl ?_
    refine mg_X2_24 C dX2_think_43 ?_
    refine mj_iload_n C dX2_think_46 rfl ?_
    obtain ⟨hg5, hF⟩ := mj_og hF
    refine mj_iaload C dX2_think_47 rfl hg5 ?_
    refine mj_iload_n C dX2_think_48 rfl ?_
    obtain ⟨r6, hq6, hF⟩ := mj_ob hF
    refine mj_callVv C (c_X2_name r3 (r3.1 11 p1.toNatClampNeg) (r3.1 14 p1.toNatClampNeg) p1 r6 hq6) yv_X2_name kl_X2_88 (mo_9 G _) rfl rfl rfl rfl (Nat.le_of_ble_eq_true rfl) (mj_roomC (by decide) (by decide)) ⟨Nat.zero_le _, Nat.zero_le _⟩ dX2_think_49 ?_
    refine mj_aload_n C dX2_think_52 rfl ?_
    refine mj_aload_n C dX2_think_53 rfl ?_
    refine mg_X2_51 C dX2_think_54 ?_
    refine mj_aload_n C dX2_think_57 rfl ?_
    refine mg_X2_9 C dX2_think_58 ?_
    refine mj_iload_n C dX2_think_61 rfl ?_
    obtain ⟨hg7, hF⟩ := mj_og hF
    refine mj_iaload C dX2_think_62 rfl hg7 ?_
    refine mj_aload_n C dX2_think_63 rfl ?_
    refine mg_X2_18 C dX2_think_64 ?_
    refine mj_iload_n C dX2_think_67 rfl ?_
    obtain ⟨hg8, hF⟩ := mj_og hF
    refine mj_iaload C dX2_think_68 rfl hg8 ?_
    refine mj_aload_n C dX2_think_69 rfl ?_
    refine mg_X2_21 C dX2_think_70 ?_
    refine mj_iload_n C dX2_think_73 rfl ?_
    obtain ⟨hg9, hF⟩ := mj_og hF
    refine mj_iaload C dX2_think_74 rfl hg9 ?_
    refine mj_aload_n C dX2_think_75 rfl ?_
    refine mg_X2_37 C dX2_think_76 ?_
    obtain ⟨r10, hq10, hF⟩ := mj_ob hF
    refine mj_callVv C (c_X2_grow r6 32 600 rfl (r6.1 10 p1.toNatClampNeg) (r6.1 12 p1.toNatClampNeg) (r6.1 13 p1.toNatClampNeg) 17 600 rfl r10 hq10) yv_X2_grow kl_X2_92 (mo_9 G _) rfl rfl rfl rfl (Nat.le_of_ble_eq_true rfl) (mj_roomC (by decide) (by decide)) ⟨Nat.zero_le _, Nat.zero_le _⟩ dX2_think_79 ?_
    have hF := mj_oi hF; subst hF
    exact mj_vret C hr hlk dX2_think_82
set_option maxRecDepth 100000 in
set_option maxHeartbeats 4000000 in
theorem c_X9_child {G : mj_G} {l : Launch} (σ : mj_S) (p1 : Int32) (p2 : Int32) (p3 : Int32) (R : (Int32 × mj_S)) (hF : f_X9_child σ p1 p2 p3 = some R) : mj_C G l yX9_child cX9_child 9 (some .int) 7 [.ref (G.2.1 0), .int p1, .int p2, .int p3] σ (some (.int R.1)) R.2 := by
  unfold f_X9_child at hF
  refine mj_of (ls := [(0, .ref (G.2.1 0)), (1, .int p1), (2, .int p2), (3, .int p3)]) (by decide) (Nat.le_of_ble_eq_true rfl) rfl (fun p e s m args below meth c C hr hlk => ?_)
  refine mj_iload_n C dX9_child_0 rfl ?_
  refine mj_if_lt C dX9_child_1 rfl hF (fun hc1 hF => ?_) (fun hc1 hF => ?_)
  · refine mj_iconstV (v := (-1)) C dX9_child_8 mc_i_m1 ?_
    have hF := mj_oi hF; subst hF
    exact mj_iret C hr hlk dX9_child_9
  · refine mj_iload_n C dX9_child_4 rfl ?_
    refine mj_if_ge C dX9_child_5 rfl hF (fun hc2 hF => ?_) (fun hc2 hF => ?_)
    · refine mj_iload_n C dX9_child_10 rfl ?_
      refine mj_bipushV (v := 10) C dX9_child_11 mc_b_10 ?_
      refine mj_idiv C dX9_child_13 (by decide) ?_
      refine mj_istore C dX9_child_14 (by decide) ?_
      refine mj_iload_n C dX9_child_16 rfl ?_
      refine mj_bipushV (v := 10) C dX9_child_17 mc_b_10 ?_
      refine mj_irem C dX9_child_19 (by decide) ?_
      refine mj_istore C dX9_child_20 (by decide) ?_
      refine mj_iload_n C dX9_child_22 rfl ?_
      refine mj_sipushV (v := 10000) C dX9_child_23 mc_s_10000 ?_
      refine mj_idiv C dX9_child_26 (by decide) ?_
      refine mj_bipushV (v := 24) C dX9_child_27 mc_b_24 ?_
      refine mj_isub C dX9_child_29 ?_
      refine mj_istore C dX9_child_30 (by decide) ?_
      refine mj_iload_n C dX9_child_32 rfl ?_
      refine mj_sipushV (v := 10000) C dX9_child_33 mc_s_10000 ?_
      refine mj_irem C dX9_child_36 (by decide) ?_
      refine mj_istore C dX9_child_37 (by decide) ?_
      refine mj_iload C dX9_child_39 rfl ?_
      refine mj_callSi C (c_X9_isMonth σ (p1 / 10)) ys_X9_isMonth kl_X9_78 rfl rfl (Nat.le_of_ble_eq_true rfl) (mj_roomC (by decide) (by decide)) ⟨Nat.zero_le _, Nat.zero_le _⟩ dX9_child_41 ?_
      refine mj_if_eq C dX9_child_44 rfl hF (fun hc3 hF => ?_) (fun hc3 hF => ?_)
      · refine mj_iconstV (v := (-1)) C dX9_child_82 mc_i_m1 ?_
        have hF := mj_oi hF; subst hF
        exact mj_iret C hr hlk dX9_child_83
      · refine mj_iload C dX9_child_47 rfl ?_
        refine mj_iconstV (v := 1) C dX9_child_49 mc_i_1 ?_
        refine mj_ic_gt C dX9_child_50 rfl hF (fun hc4 hF => ?_) (fun hc4 hF => ?_)
        · refine mj_iconstV (v := (-1)) C dX9_child_82 mc_i_m1 ?_
          have hF := mj_oi hF; subst hF
          exact mj_iret C hr hlk dX9_child_83
        · refine mj_iload_n C dX9_child_53 rfl ?_
          refine mj_sipushV (v := 500) C dX9_child_54 mc_s_500 ?_
          refine mj_sipushV (v := 2000) C dX9_child_57 mc_s_2000 ?_
          refine mj_callSi C (c_X9_within σ p2 500 2000) ys_X9_within kl_X9_82 rfl rfl (Nat.le_of_ble_eq_true rfl) (mj_roomC (by decide) (by decide)) ⟨Nat.zero_le _, Nat.zero_le _⟩ dX9_child_60 ?_
          refine mj_if_eq C dX9_child_63 rfl hF (fun hc5 hF => ?_) (fun hc5 hF => ?_)
          · refine mj_iconstV (v := (-1)) C dX9_child_82 mc_i_m1 ?_
            have hF := mj_oi hF; subst hF
            exact mj_iret C hr hlk dX9_child_83
          · refine mj_iload C dX9_child_66 rfl ?_
            refine mj_callSi C (c_X9_isLate σ ((p3 / 10000) - 24)) ys_X9_isLate kl_X9_86 rfl rfl (Nat.le_of_ble_eq_true rfl) (mj_roomC (by decide) (by decide)) ⟨Nat.zero_le _, Nat.zero_le _⟩ dX9_child_68 ?_
            refine mj_if_eq C dX9_child_71 rfl hF (fun hc6 hF => ?_) (fun hc6 hF => ?_)
            · refine mj_iconstV (v := (-1)) C dX9_child_82 mc_i_m1 ?_
              have hF := mj_oi hF; subst hF
              exact mj_iret C hr hlk dX9_child_83
            · refine mj_iload C dX9_child_74 rfl ?_
              refine mj_callSi C (c_X9_isParents σ (mj_rem p3 10000)) ys_X9_isParents kl_X9_89 rfl rfl (Nat.le_of_ble_eq_true rfl) (mj_roomC (by decide) (by decide)) ⟨Nat.zero_le _, Nat.zero_le _⟩ dX9_child_76 ?_
              refine mj_if_ne C dX9_child_79 rfl hF (fun hc7 hF => ?_) (fun hc7 hF => ?_)
              · refine mj_aload_n C dX9_child_84 rfl ?_
                refine mg_X9_28 C dX9_child_85 ?_
                refine mj_callVi C (c_X2_size σ) yv_X2_size kl_X9_92 (mo_9 G _) rfl rfl rfl rfl (Nat.le_of_ble_eq_true rfl) (mj_roomC (by decide) (by decide)) ⟨Nat.zero_le _, Nat.zero_le _⟩ dX9_child_88 ?_
                refine mj_bipushV (v := 6) C dX9_child_91 mc_b_6 ?_
                refine mj_ic_lt C dX9_child_93 rfl hF (fun hc8 hF => ?_) (fun hc8 hF => ?_)
                · refine mj_aload_n C dX9_child_99 rfl ?_
                  refine mg_X9_28 C dX9_child_100 ?_
                  refine mj_iload C dX9_child_103 rfl ?_
                  refine mj_iload C dX9_child_105 rfl ?_
                  refine mj_iload_n C dX9_child_107 rfl ?_
                  refine mj_iload C dX9_child_108 rfl ?_
                  refine mj_iload C dX9_child_110 rfl ?_
                  obtain ⟨r9, hq9, hF⟩ := mj_ob hF
                  refine mj_callVi C (c_X2_add σ (p1 / 10) (mj_rem p1 10) p2 ((p3 / 10000) - 24) (mj_rem p3 10000) r9 hq9) yv_X2_add kl_X9_96 (mo_9 G _) rfl rfl rfl rfl (Nat.le_of_ble_eq_true rfl) (mj_roomC (by decide) (by decide)) ⟨Nat.zero_le _, Nat.zero_le _⟩ dX9_child_112 ?_
                  refine mj_istore C dX9_child_115 (by decide) ?_
                  refine mj_aload_n C dX9_child_117 rfl ?_
                  refine mg_X9_28 C dX9_child_118 ?_
                  obtain ⟨r10, hq10, hF⟩ := mj_ob hF
                  refine mj_callVv C (c_X2_refresh r9.2 r10 hq10) yv_X2_refresh kl_X9_100 (mo_9 G _) rfl rfl rfl rfl (Nat.le_of_ble_eq_true rfl) (mj_roomC (by decide) (by decide)) ⟨Nat.zero_le _, Nat.zero_le _⟩ dX9_child_121 ?_
                  refine mj_iload C dX9_child_124 rfl ?_
                  have hF := mj_oi hF; subst hF
                  exact mj_iret C hr hlk dX9_child_126
                · refine mj_bipushV (v := (-3)) C dX9_child_96 mc_b_m3 ?_
                  have hF := mj_oi hF; subst hF
                  exact mj_iret C hr hlk dX9_child_98
              · refine mj_iconstV (v := (-1)) C dX9_child_82 mc_i_m1 ?_
                have hF := mj_oi hF; subst hF
                exact mj_iret C hr hlk dX9_child_83
    · refine mj_iconstV (v := (-1)) C dX9_child_8 mc_i_m1 ?_
      have hF := mj_oi hF; subst hF
      exact mj_iret C hr hlk dX9_child_9
set_option maxRecDepth 100000 in
set_option maxHeartbeats 4000000 in
theorem c_X9_want {G : mj_G} {l : Launch} (σ : mj_S) (p1 : Int32) (p2 : Int32) (R : (Int32 × mj_S)) (hF : f_X9_want σ p1 p2 = some R) : mj_C G l yX9_want cX9_want 4 (some .int) 7 [.ref (G.2.1 0), .int p1, .int p2] σ (some (.int R.1)) R.2 := by
  unfold f_X9_want at hF
  refine mj_of (ls := [(0, .ref (G.2.1 0)), (1, .int p1), (2, .int p2)]) (by decide) (Nat.le_of_ble_eq_true rfl) rfl (fun p e s m args below meth c C hr hlk => ?_)
  refine mj_iload_n C dX9_want_0 rfl ?_
  refine mj_callSi C (c_X9_isSpan σ p1) ys_X9_isSpan kl_X9_103 rfl rfl (Nat.le_of_ble_eq_true rfl) (mj_roomC (by decide) (by decide)) ⟨Nat.zero_le _, Nat.zero_le _⟩ dX9_want_1 ?_
  refine mj_if_eq C dX9_want_4 rfl hF (fun hc1 hF => ?_) (fun hc1 hF => ?_)
  · refine mj_iconstV (v := (-1)) C dX9_want_17 mc_i_m1 ?_
    have hF := mj_oi hF; subst hF
    exact mj_iret C hr hlk dX9_want_18
  · refine mj_iload_n C dX9_want_7 rfl ?_
    refine mj_iconstV (v := 1) C dX9_want_8 mc_i_1 ?_
    refine mj_bipushV (v := 9) C dX9_want_9 mc_b_9 ?_
    refine mj_callSi C (c_X9_within σ p2 1 9) ys_X9_within kl_X9_82 rfl rfl (Nat.le_of_ble_eq_true rfl) (mj_roomC (by decide) (by decide)) ⟨Nat.zero_le _, Nat.zero_le _⟩ dX9_want_11 ?_
    refine mj_if_ne C dX9_want_14 rfl hF (fun hc2 hF => ?_) (fun hc2 hF => ?_)
    · refine mj_aload_n C dX9_want_19 rfl ?_
      refine mg_X9_28 C dX9_want_20 ?_
      refine mj_callVi C (c_X2_wantsTold σ) yv_X2_wantsTold kl_X9_106 (mo_9 G _) rfl rfl rfl rfl (Nat.le_of_ble_eq_true rfl) (mj_roomC (by decide) (by decide)) ⟨Nat.zero_le _, Nat.zero_le _⟩ dX9_want_23 ?_
      refine mj_bipushV (v := 10) C dX9_want_26 mc_b_10 ?_
      refine mj_ic_lt C dX9_want_28 rfl hF (fun hc3 hF => ?_) (fun hc3 hF => ?_)
      · refine mj_aload_n C dX9_want_34 rfl ?_
        refine mg_X9_28 C dX9_want_35 ?_
        refine mj_iload_n C dX9_want_38 rfl ?_
        refine mj_sipushV (v := 1000) C dX9_want_39 mc_s_1000 ?_
        refine mj_idiv C dX9_want_42 (by decide) ?_
        refine mj_iload_n C dX9_want_43 rfl ?_
        refine mj_sipushV (v := 1000) C dX9_want_44 mc_s_1000 ?_
        refine mj_irem C dX9_want_47 (by decide) ?_
        refine mj_iload_n C dX9_want_48 rfl ?_
        obtain ⟨r4, hq4, hF⟩ := mj_ob hF
        refine mj_callVi C (c_X2_addWant σ (p1 / 1000) (mj_rem p1 1000) p2 r4 hq4) yv_X2_addWant kl_X9_109 (mo_9 G _) rfl rfl rfl rfl (Nat.le_of_ble_eq_true rfl) (mj_roomC (by decide) (by decide)) ⟨Nat.zero_le _, Nat.zero_le _⟩ dX9_want_49 ?_
        refine mj_istore_n C dX9_want_52 (by decide) ?_
        refine mj_aload_n C dX9_want_53 rfl ?_
        refine mg_X9_28 C dX9_want_54 ?_
        obtain ⟨r5, hq5, hF⟩ := mj_ob hF
        refine mj_callVv C (c_X2_refresh r4.2 r5 hq5) yv_X2_refresh kl_X9_100 (mo_9 G _) rfl rfl rfl rfl (Nat.le_of_ble_eq_true rfl) (mj_roomC (by decide) (by decide)) ⟨Nat.zero_le _, Nat.zero_le _⟩ dX9_want_57 ?_
        refine mj_iload_n C dX9_want_60 rfl ?_
        have hF := mj_oi hF; subst hF
        exact mj_iret C hr hlk dX9_want_61
      · refine mj_bipushV (v := (-3)) C dX9_want_31 mc_b_m3 ?_
        have hF := mj_oi hF; subst hF
        exact mj_iret C hr hlk dX9_want_33
    · refine mj_iconstV (v := (-1)) C dX9_want_17 mc_i_m1 ?_
      have hF := mj_oi hF; subst hF
      exact mj_iret C hr hlk dX9_want_18
set_option maxRecDepth 100000 in
set_option maxHeartbeats 4000000 in
theorem c_X9_wants {G : mj_G} {l : Launch} (σ : mj_S) (p1 : Int32) (R : Int32) (hF : f_X9_wants σ p1 = some R) : mj_C G l yX9_wants cX9_wants 2 (some .int) 4 [.ref (G.2.1 0), .int p1] σ (some (.int R)) σ := by
  unfold f_X9_wants at hF
  refine mj_of (ls := [(0, .ref (G.2.1 0)), (1, .int p1)]) (by decide) (Nat.le_of_ble_eq_true rfl) rfl (fun p e s m args below meth c C hr hlk => ?_)
  refine mj_iload_n C dX9_wants_0 rfl ?_
  refine mj_callSi C (c_X9_isMonth σ p1) ys_X9_isMonth kl_X9_78 rfl rfl (Nat.le_of_ble_eq_true rfl) (mj_roomC (by decide) (by decide)) ⟨Nat.zero_le _, Nat.zero_le _⟩ dX9_wants_1 ?_
  refine mj_if_eq C dX9_wants_4 rfl hF (fun hc1 hF => ?_) (fun hc1 hF => ?_)
  · refine mj_iconstV (v := (-1)) C dX9_wants_18 mc_i_m1 ?_
    have hF := mj_oi hF; subst hF
    exact mj_iret C hr hlk dX9_wants_19
  · refine mj_aload_n C dX9_wants_7 rfl ?_
    refine mg_X9_28 C dX9_wants_8 ?_
    refine mj_iload_n C dX9_wants_11 rfl ?_
    obtain ⟨r2, hq2, hF⟩ := mj_ob hF
    refine mj_callVi C (c_X2_wantAt σ p1 r2 hq2) yv_X2_wantAt kl_X9_139 (mo_9 G _) rfl rfl rfl rfl (Nat.le_of_ble_eq_true rfl) (mj_roomC (by decide) (by decide)) ⟨Nat.zero_le _, Nat.zero_le _⟩ dX9_wants_12 ?_
    refine mj_goto C dX9_wants_15 rfl ?_
    have hF := mj_oi hF; subst hF
    exact mj_iret C hr hlk dX9_wants_19
set_option maxRecDepth 100000 in
set_option maxHeartbeats 4000000 in
theorem c_X9_mend {G : mj_G} {l : Launch} (σ : mj_S) (p1 : Int32) (p2 : Int32) (p3 : Int32) (R : (Int32 × mj_S)) (hF : f_X9_mend σ p1 p2 p3 = some R) : mj_C G l yX9_mend cX9_mend 5 (some .int) 7 [.ref (G.2.1 0), .int p1, .int p2, .int p3] σ (some (.int R.1)) R.2 := by
  unfold f_X9_mend at hF
  refine mj_of (ls := [(0, .ref (G.2.1 0)), (1, .int p1), (2, .int p2), (3, .int p3)]) (by decide) (Nat.le_of_ble_eq_true rfl) rfl (fun p e s m args below meth c C hr hlk => ?_)
  refine mj_aload_n C dX9_mend_0 rfl ?_
  refine mj_iload_n C dX9_mend_1 rfl ?_
  refine mj_iload_n C dX9_mend_2 rfl ?_
  refine mj_iload_n C dX9_mend_3 rfl ?_
  refine mj_callVi C (c_X9_isMendable σ p1 p2 p3) yv_X9_isMendable kl_X9_174 (mo_0 G _) rfl rfl rfl rfl (Nat.le_of_ble_eq_true rfl) (mj_roomC (by decide) (by decide)) ⟨Nat.zero_le _, Nat.zero_le _⟩ dX9_mend_4 ?_
  refine mj_if_ne C dX9_mend_7 rfl hF (fun hc1 hF => ?_) (fun hc1 hF => ?_)
  · refine mj_aload_n C dX9_mend_13 rfl ?_
    refine mg_X9_60 C dX9_mend_14 ?_
    refine mj_iload_n C dX9_mend_17 rfl ?_
    refine mj_iload_n C dX9_mend_18 rfl ?_
    refine mj_iload_n C dX9_mend_19 rfl ?_
    obtain ⟨r2, hq2, hF⟩ := mj_ob hF
    refine mj_callVi C (c_X1_change σ p1 p2 p3 r2 hq2) yv_X1_change kl_X9_177 (mo_45 G _) rfl rfl rfl rfl (Nat.le_of_ble_eq_true rfl) (mj_roomC (by decide) (by decide)) ⟨Nat.zero_le _, Nat.zero_le _⟩ dX9_mend_20 ?_
    refine mj_istore C dX9_mend_23 (by decide) ?_
    refine mj_aload_n C dX9_mend_25 rfl ?_
    refine mg_X9_28 C dX9_mend_26 ?_
    obtain ⟨r3, hq3, hF⟩ := mj_ob hF
    refine mj_callVv C (c_X2_refresh r2.2 r3 hq3) yv_X2_refresh kl_X9_100 (mo_9 G _) rfl rfl rfl rfl (Nat.le_of_ble_eq_true rfl) (mj_roomC (by decide) (by decide)) ⟨Nat.zero_le _, Nat.zero_le _⟩ dX9_mend_29 ?_
    refine mj_iload C dX9_mend_32 rfl ?_
    have hF := mj_oi hF; subst hF
    exact mj_iret C hr hlk dX9_mend_34
  · refine mj_ldc C dX9_mend_10 kc_X9_173 ?_
    have hF := mj_oi hF; subst hF
    exact mj_iret C hr hlk dX9_mend_12
set_option maxRecDepth 100000 in
set_option maxHeartbeats 4000000 in
theorem c_X9_enough {G : mj_G} {l : Launch} (σ : mj_S) (p1 : Int32) (p2 : Int32) (p3 : Int32) (R : (Int32 × mj_S)) (hF : f_X9_enough σ p1 p2 p3 = some R) : mj_C G l yX9_enough cX9_enough 4 (some .int) 7 [.ref (G.2.1 0), .int p1, .int p2, .int p3] σ (some (.int R.1)) R.2 := by
  unfold f_X9_enough at hF
  refine mj_of (ls := [(0, .ref (G.2.1 0)), (1, .int p1), (2, .int p2), (3, .int p3)]) (by decide) (Nat.le_of_ble_eq_true rfl) rfl (fun p e s m args below meth c C hr hlk => ?_)
  refine mj_aload_n C dX9_enough_0 rfl ?_
  refine mg_X9_28 C dX9_enough_1 ?_
  refine mj_iload_n C dX9_enough_4 rfl ?_
  refine mj_callVi C (c_X2_has σ p1) yv_X2_has kl_X9_132 (mo_9 G _) rfl rfl rfl rfl (Nat.le_of_ble_eq_true rfl) (mj_roomC (by decide) (by decide)) ⟨Nat.zero_le _, Nat.zero_le _⟩ dX9_enough_5 ?_
  refine mj_if_eq C dX9_enough_8 rfl hF (fun hc1 hF => ?_) (fun hc1 hF => ?_)
  · refine mj_ldc C dX9_enough_28 kc_X9_173 ?_
    have hF := mj_oi hF; subst hF
    exact mj_iret C hr hlk dX9_enough_30
  · refine mj_iload_n C dX9_enough_11 rfl ?_
    refine mj_callSi C (c_X9_isSpan σ p2) ys_X9_isSpan kl_X9_103 rfl rfl (Nat.le_of_ble_eq_true rfl) (mj_roomC (by decide) (by decide)) ⟨Nat.zero_le _, Nat.zero_le _⟩ dX9_enough_12 ?_
    refine mj_if_eq C dX9_enough_15 rfl hF (fun hc2 hF => ?_) (fun hc2 hF => ?_)
    · refine mj_ldc C dX9_enough_28 kc_X9_173 ?_
      have hF := mj_oi hF; subst hF
      exact mj_iret C hr hlk dX9_enough_30
    · refine mj_iload_n C dX9_enough_18 rfl ?_
      refine mj_iconstV (v := 1) C dX9_enough_19 mc_i_1 ?_
      refine mj_bipushV (v := 9) C dX9_enough_20 mc_b_9 ?_
      refine mj_callSi C (c_X9_within σ p3 1 9) ys_X9_within kl_X9_82 rfl rfl (Nat.le_of_ble_eq_true rfl) (mj_roomC (by decide) (by decide)) ⟨Nat.zero_le _, Nat.zero_le _⟩ dX9_enough_22 ?_
      refine mj_if_ne C dX9_enough_25 rfl hF (fun hc3 hF => ?_) (fun hc3 hF => ?_)
      · refine mj_aload_n C dX9_enough_31 rfl ?_
        refine mg_X9_28 C dX9_enough_32 ?_
        refine mj_iload_n C dX9_enough_35 rfl ?_
        refine mj_iload_n C dX9_enough_36 rfl ?_
        refine mj_sipushV (v := 1000) C dX9_enough_37 mc_s_1000 ?_
        refine mj_idiv C dX9_enough_40 (by decide) ?_
        refine mj_iload_n C dX9_enough_41 rfl ?_
        refine mj_sipushV (v := 1000) C dX9_enough_42 mc_s_1000 ?_
        refine mj_irem C dX9_enough_45 (by decide) ?_
        refine mj_iload_n C dX9_enough_46 rfl ?_
        obtain ⟨r4, hq4, hF⟩ := mj_ob hF
        refine mj_callVv C (c_X2_think σ p1 (p2 / 1000) (mj_rem p2 1000) p3 r4 hq4) yv_X2_think kl_X9_259 (mo_9 G _) rfl rfl rfl rfl (Nat.le_of_ble_eq_true rfl) (mj_roomC (by decide) (by decide)) ⟨Nat.zero_le _, Nat.zero_le _⟩ dX9_enough_47 ?_
        refine mj_aload_n C dX9_enough_50 rfl ?_
        refine mg_X9_28 C dX9_enough_51 ?_
        refine mj_aload_n C dX9_enough_54 rfl ?_
        refine mg_X9_53 C dX9_enough_55 ?_
        refine mj_iload_n C dX9_enough_58 rfl ?_
        obtain ⟨r5, hq5, hF⟩ := mj_ob hF
        refine mj_callVi C (c_X6_endMonth r4 p1 r5 hq5) yv_X6_endMonth kl_X9_263 (mo_44 G _) rfl rfl rfl rfl (Nat.le_of_ble_eq_true rfl) (mj_roomC (by decide) (by decide)) ⟨Nat.zero_le _, Nat.zero_le _⟩ dX9_enough_59 ?_
        obtain ⟨r6, hq6, hF⟩ := mj_ob hF
        refine mj_callVi C (c_X2_thoughtHeightAt r4 r5 r6 hq6) yv_X2_thoughtHeightAt kl_X9_266 (mo_9 G _) rfl rfl rfl rfl (Nat.le_of_ble_eq_true rfl) (mj_roomC (by decide) (by decide)) ⟨Nat.zero_le _, Nat.zero_le _⟩ dX9_enough_62 ?_
        refine mj_aload_n C dX9_enough_65 rfl ?_
        refine mg_X9_53 C dX9_enough_66 ?_
        refine mj_iload_n C dX9_enough_69 rfl ?_
        obtain ⟨r7, hq7, hF⟩ := mj_ob hF
        refine mj_callVi C (c_X6_endOf r4 p1 r7 hq7) yv_X6_endOf kl_X9_231 (mo_44 G _) rfl rfl rfl rfl (Nat.le_of_ble_eq_true rfl) (mj_roomC (by decide) (by decide)) ⟨Nat.zero_le _, Nat.zero_le _⟩ dX9_enough_70 ?_
        refine mj_isub C dX9_enough_73 ?_
        have hF := mj_oi hF; subst hF
        exact mj_iret C hr hlk dX9_enough_74
      · refine mj_ldc C dX9_enough_28 kc_X9_173 ?_
        have hF := mj_oi hF; subst hF
        exact mj_iret C hr hlk dX9_enough_30
set_option maxRecDepth 100000 in
set_option maxHeartbeats 4000000 in
theorem c_X9_undo {G : mj_G} {l : Launch} (σ : mj_S) (R : (Int32 × mj_S)) (hF : f_X9_undo σ = some R) : mj_C G l yX9_undo cX9_undo 1 (some .int) 7 [.ref (G.2.1 0)] σ (some (.int R.1)) R.2 := by
  unfold f_X9_undo at hF
  refine mj_of (ls := [(0, .ref (G.2.1 0))]) (by decide) (Nat.le_of_ble_eq_true rfl) rfl (fun p e s m args below meth c C hr hlk => ?_)
  refine mj_aload_n C dX9_undo_0 rfl ?_
  refine mg_X9_60 C dX9_undo_1 ?_
  refine mj_callVi C (c_X1_toUndo σ) yv_X1_toUndo kl_X9_272 (mo_45 G _) rfl rfl rfl rfl (Nat.le_of_ble_eq_true rfl) (mj_roomC (by decide) (by decide)) ⟨Nat.zero_le _, Nat.zero_le _⟩ dX9_undo_4 ?_
  refine mj_if_ne C dX9_undo_7 rfl hF (fun hc1 hF => ?_) (fun hc1 hF => ?_)
  · refine mj_aload_n C dX9_undo_13 rfl ?_
    refine mg_X9_60 C dX9_undo_14 ?_
    obtain ⟨r2, hq2, hF⟩ := mj_ob hF
    refine mj_callVv C (c_X1_goBack σ r2 hq2) yv_X1_goBack kl_X9_275 (mo_45 G _) rfl rfl rfl rfl (Nat.le_of_ble_eq_true rfl) (mj_roomC (by decide) (by decide)) ⟨Nat.zero_le _, Nat.zero_le _⟩ dX9_undo_17 ?_
    refine mj_aload_n C dX9_undo_20 rfl ?_
    refine mg_X9_28 C dX9_undo_21 ?_
    obtain ⟨r3, hq3, hF⟩ := mj_ob hF
    refine mj_callVv C (c_X2_refresh r2 r3 hq3) yv_X2_refresh kl_X9_100 (mo_9 G _) rfl rfl rfl rfl (Nat.le_of_ble_eq_true rfl) (mj_roomC (by decide) (by decide)) ⟨Nat.zero_le _, Nat.zero_le _⟩ dX9_undo_24 ?_
    refine mj_aload_n C dX9_undo_27 rfl ?_
    refine mg_X9_60 C dX9_undo_28 ?_
    refine mj_callVi C (c_X1_toUndo r3) yv_X1_toUndo kl_X9_272 (mo_45 G _) rfl rfl rfl rfl (Nat.le_of_ble_eq_true rfl) (mj_roomC (by decide) (by decide)) ⟨Nat.zero_le _, Nat.zero_le _⟩ dX9_undo_31 ?_
    have hF := mj_oi hF; subst hF
    exact mj_iret C hr hlk dX9_undo_34
  · refine mj_bipushV (v := (-5)) C dX9_undo_10 mc_b_m5 ?_
    have hF := mj_oi hF; subst hF
    exact mj_iret C hr hlk dX9_undo_12
set_option maxRecDepth 100000 in
set_option maxHeartbeats 4000000 in
theorem c_X9_redo {G : mj_G} {l : Launch} (σ : mj_S) (R : (Int32 × mj_S)) (hF : f_X9_redo σ = some R) : mj_C G l yX9_redo cX9_redo 1 (some .int) 7 [.ref (G.2.1 0)] σ (some (.int R.1)) R.2 := by
  unfold f_X9_redo at hF
  refine mj_of (ls := [(0, .ref (G.2.1 0))]) (by decide) (Nat.le_of_ble_eq_true rfl) rfl (fun p e s m args below meth c C hr hlk => ?_)
  refine mj_aload_n C dX9_redo_0 rfl ?_
  refine mg_X9_60 C dX9_redo_1 ?_
  refine mj_callVi C (c_X1_toRedo σ) yv_X1_toRedo kl_X9_278 (mo_45 G _) rfl rfl rfl rfl (Nat.le_of_ble_eq_true rfl) (mj_roomC (by decide) (by decide)) ⟨Nat.zero_le _, Nat.zero_le _⟩ dX9_redo_4 ?_
  refine mj_if_ne C dX9_redo_7 rfl hF (fun hc1 hF => ?_) (fun hc1 hF => ?_)
  · refine mj_aload_n C dX9_redo_13 rfl ?_
    refine mg_X9_60 C dX9_redo_14 ?_
    obtain ⟨r2, hq2, hF⟩ := mj_ob hF
    refine mj_callVv C (c_X1_goForward σ r2 hq2) yv_X1_goForward kl_X9_281 (mo_45 G _) rfl rfl rfl rfl (Nat.le_of_ble_eq_true rfl) (mj_roomC (by decide) (by decide)) ⟨Nat.zero_le _, Nat.zero_le _⟩ dX9_redo_17 ?_
    refine mj_aload_n C dX9_redo_20 rfl ?_
    refine mg_X9_28 C dX9_redo_21 ?_
    obtain ⟨r3, hq3, hF⟩ := mj_ob hF
    refine mj_callVv C (c_X2_refresh r2 r3 hq3) yv_X2_refresh kl_X9_100 (mo_9 G _) rfl rfl rfl rfl (Nat.le_of_ble_eq_true rfl) (mj_roomC (by decide) (by decide)) ⟨Nat.zero_le _, Nat.zero_le _⟩ dX9_redo_24 ?_
    refine mj_aload_n C dX9_redo_27 rfl ?_
    refine mg_X9_60 C dX9_redo_28 ?_
    refine mj_callVi C (c_X1_toRedo r3) yv_X1_toRedo kl_X9_278 (mo_45 G _) rfl rfl rfl rfl (Nat.le_of_ble_eq_true rfl) (mj_roomC (by decide) (by decide)) ⟨Nat.zero_le _, Nat.zero_le _⟩ dX9_redo_31 ?_
    have hF := mj_oi hF; subst hF
    exact mj_iret C hr hlk dX9_redo_34
  · refine mj_bipushV (v := (-5)) C dX9_redo_10 mc_b_m5 ?_
    have hF := mj_oi hF; subst hF
    exact mj_iret C hr hlk dX9_redo_12
set_option maxRecDepth 100000 in
set_option maxHeartbeats 4000000 in
theorem c_X6_twiceAtTwo {G : mj_G} {l : Launch} (σ : mj_S) (p1 : Int32) (R : Int32) (hF : f_X6_twiceAtTwo σ p1 = some R) : mj_C G l yX6_twiceAtTwo cX6_twiceAtTwo 3 (some .int) 3 [.ref (G.2.1 44), .int p1] σ (some (.int R)) σ := by
  unfold f_X6_twiceAtTwo at hF
  refine mj_of (ls := [(0, .ref (G.2.1 44)), (1, .int p1)]) (by decide) (Nat.le_of_ble_eq_true rfl) rfl (fun p e s m args below meth c C hr hlk => ?_)
  refine mj_aload_n C dX6_twiceAtTwo_0 rfl ?_
  refine mg_X6_9 C dX6_twiceAtTwo_1 ?_
  refine mj_iload_n C dX6_twiceAtTwo_4 rfl ?_
  obtain ⟨r1, hq1, hF⟩ := mj_ob hF
  refine mj_callVi C (c_X2_bornIn σ p1 r1 hq1) yv_X2_bornIn kl_X6_15 (mo_9 G _) rfl rfl rfl rfl (Nat.le_of_ble_eq_true rfl) (mj_roomC (by decide) (by decide)) ⟨Nat.zero_le _, Nat.zero_le _⟩ dX6_twiceAtTwo_5 ?_
  refine mj_bipushV (v := 24) C dX6_twiceAtTwo_8 mc_b_24 ?_
  refine mj_iadd C dX6_twiceAtTwo_10 ?_
  refine mj_istore_n C dX6_twiceAtTwo_11 (by decide) ?_
  refine mj_iload_n C dX6_twiceAtTwo_12 rfl ?_
  refine mj_callNi C (c_X9_isMonth σ (r1 + 24)) ys_X9_isMonth kn_X6_33 rfl rfl (Nat.le_of_ble_eq_true rfl) (mj_roomC (by decide) (by decide)) ⟨Nat.zero_le _, Nat.zero_le _⟩ dX6_twiceAtTwo_13 ?_
  refine mj_if_eq C dX6_twiceAtTwo_16 rfl hF (fun hc2 hF => ?_) (fun hc2 hF => ?_)
  · refine mj_bipushV (v := (-2)) C dX6_twiceAtTwo_33 mc_b_m2 ?_
    have hF := mj_oi hF; subst hF
    exact mj_iret C hr hlk dX6_twiceAtTwo_35
  · refine mj_iconstV (v := 2) C dX6_twiceAtTwo_19 mc_i_2 ?_
    refine mj_aload_n C dX6_twiceAtTwo_20 rfl ?_
    refine mg_X6_9 C dX6_twiceAtTwo_21 ?_
    refine mj_iload_n C dX6_twiceAtTwo_24 rfl ?_
    refine mj_iload_n C dX6_twiceAtTwo_25 rfl ?_
    obtain ⟨r3, hq3, hF⟩ := mj_ob hF
    refine mj_callVi C (c_X2_heightAt σ p1 (r1 + 24) r3 hq3) yv_X2_heightAt kl_X6_30 (mo_9 G _) rfl rfl rfl rfl (Nat.le_of_ble_eq_true rfl) (mj_roomC (by decide) (by decide)) ⟨Nat.zero_le _, Nat.zero_le _⟩ dX6_twiceAtTwo_26 ?_
    refine mj_imul C dX6_twiceAtTwo_29 ?_
    refine mj_goto C dX6_twiceAtTwo_30 rfl ?_
    have hF := mj_oi hF; subst hF
    exact mj_iret C hr hlk dX6_twiceAtTwo_35
set_option maxRecDepth 100000 in
set_option maxHeartbeats 4000000 in
theorem c_X6_isWholeYear {G : mj_G} {l : Launch} (σ : mj_S) (p1 : Int32) (p2 : Int32) (R : Int32) (hF : f_X6_isWholeYear σ p1 p2 = some R) : mj_C G l yX6_isWholeYear cX6_isWholeYear 3 (some .boolean) 3 [.ref (G.2.1 44), .int p1, .int p2] σ (some (.int R)) σ := by
  unfold f_X6_isWholeYear at hF
  refine mj_of (ls := [(0, .ref (G.2.1 44)), (1, .int p1), (2, .int p2)]) (by decide) (Nat.le_of_ble_eq_true rfl) rfl (fun p e s m args below meth c C hr hlk => ?_)
  refine mj_aload_n C dX6_isWholeYear_0 rfl ?_
  refine mg_X6_9 C dX6_isWholeYear_1 ?_
  refine mj_iload_n C dX6_isWholeYear_4 rfl ?_
  obtain ⟨r1, hq1, hF⟩ := mj_ob hF
  refine mj_callVi C (c_X2_bornIn σ p1 r1 hq1) yv_X2_bornIn kl_X6_15 (mo_9 G _) rfl rfl rfl rfl (Nat.le_of_ble_eq_true rfl) (mj_roomC (by decide) (by decide)) ⟨Nat.zero_le _, Nat.zero_le _⟩ dX6_isWholeYear_5 ?_
  refine mj_bipushV (v := 12) C dX6_isWholeYear_8 mc_b_12 ?_
  refine mj_iload_n C dX6_isWholeYear_10 rfl ?_
  refine mj_iconstV (v := 1) C dX6_isWholeYear_11 mc_i_1 ?_
  refine mj_iadd C dX6_isWholeYear_12 ?_
  refine mj_imul C dX6_isWholeYear_13 ?_
  refine mj_iadd C dX6_isWholeYear_14 ?_
  refine mj_callNi C (c_X9_isMonth σ (r1 + (12 * (p2 + 1)))) ys_X9_isMonth kn_X6_33 rfl rfl (Nat.le_of_ble_eq_true rfl) (mj_roomC (by decide) (by decide)) ⟨Nat.zero_le _, Nat.zero_le _⟩ dX6_isWholeYear_15 ?_
  have hF := mj_oi hF; subst hF
  exact mj_zbret C hr hlk dX6_isWholeYear_18
set_option maxRecDepth 100000 in
set_option maxHeartbeats 4000000 in
theorem w_X6_yearOf_6 {p : Program} {l : Launch} {e : Env} {s : State} {m : MethodId} {args : Array Value} {below : List Frame} {meth : Method} {c : Code} {G : mj_G} {σ : mj_S} (C : mj_X p s m args meth c G cX6_yearOf 5 RX6) (hr : meth.sig.returnType = some .int) (hlk : meth.locks = false) : ∀ (n : Nat) (v1 : Int32) (v2 : Int32) (v3 : Int32) (v4 : Int32) (R : Int32), b_X6_yearOf_6 σ n v1 v2 v3 v4 = some R → mj_W p l e (mj_rm 4) s m args below meth c G 0 0 5 (MQ below (mj_Q G (some (.int R)) σ) args s 0 0 G.2.2.2) 6 [(0, .ref (G.2.1 44)), (1, .int v1), (2, .int v2), (3, .int v3), (4, .int v4)] [] σ := by
  intro n
  induction n with
  | zero =>
    intro v1 v2 v3 v4 R hF
    cases hF
  | succ n ih =>
    intro v1 v2 v3 v4 R hF
    rw [b_X6_yearOf_6] at hF
    refine mj_iload C dX6_yearOf_6 rfl ?_
    refine mj_bipushV (v := 20) C dX6_yearOf_8 mc_b_20 ?_
    refine mj_ic_ge C dX6_yearOf_10 rfl hF (fun hc1 hF => ?_) (fun hc1 hF => ?_)
    · refine mj_iload_n C dX6_yearOf_58 rfl ?_
      have hF := mj_oi hF; subst hF
      exact mj_iret C hr hlk dX6_yearOf_59
    · refine mj_aload_n C dX6_yearOf_13 rfl ?_
      refine mj_iload_n C dX6_yearOf_14 rfl ?_
      refine mj_iload C dX6_yearOf_15 rfl ?_
      obtain ⟨r2, hq2, hF⟩ := mj_ob hF
      refine mj_callVi C (c_X6_isWholeYear σ v1 v4 r2 hq2) yv_X6_isWholeYear kl_X6_40 (mo_44 G _) rfl rfl rfl rfl (Nat.le_of_ble_eq_true rfl) (mj_roomC (by decide) (by decide)) ⟨Nat.zero_le _, Nat.zero_le _⟩ dX6_yearOf_17 ?_
      refine mj_if_eq C dX6_yearOf_20 rfl hF (fun hc3 hF => ?_) (fun hc3 hF => ?_)
      · refine mj_iload_n C dX6_yearOf_58 rfl ?_
        have hF := mj_oi hF; subst hF
        exact mj_iret C hr hlk dX6_yearOf_59
      · refine mj_iload_n C dX6_yearOf_23 rfl ?_
        refine mj_bipushV (v := (-2)) C dX6_yearOf_24 mc_b_m2 ?_
        refine mj_ic_eq C dX6_yearOf_26 rfl hF (fun hc4 hF => ?_) (fun hc4 hF => ?_)
        · refine mj_iload C dX6_yearOf_49 rfl ?_
          refine mj_istore_n C dX6_yearOf_51 (by decide) ?_
          refine mj_iinc (v := v4 + 1) C dX6_yearOf_52 rfl rfl (by decide) ?_
          refine mj_goto C dX6_yearOf_55 rfl ?_
          refine mj_to ?_ (ih v1 v2 v4 (v4 + 1) R hF)
          exact ⟨rfl, rfl, rfl, rfl, rfl, trivial⟩
        · refine mj_aload_n C dX6_yearOf_29 rfl ?_
          refine mj_iload_n C dX6_yearOf_30 rfl ?_
          refine mj_iload C dX6_yearOf_31 rfl ?_
          obtain ⟨r5, hq5, hF⟩ := mj_ob hF
          refine mj_callVi C (c_X6_growthInYear σ v1 v4 r5 hq5) yv_X6_growthInYear kl_X6_44 (mo_44 G _) rfl rfl rfl rfl (Nat.le_of_ble_eq_true rfl) (mj_roomC (by decide) (by decide)) ⟨Nat.zero_le _, Nat.zero_le _⟩ dX6_yearOf_33 ?_
          refine mj_aload_n C dX6_yearOf_36 rfl ?_
          refine mj_iload_n C dX6_yearOf_37 rfl ?_
          refine mj_iload_n C dX6_yearOf_38 rfl ?_
          obtain ⟨r6, hq6, hF⟩ := mj_ob hF
          refine mj_callVi C (c_X6_growthInYear σ v1 v3 r6 hq6) yv_X6_growthInYear kl_X6_44 (mo_44 G _) rfl rfl rfl rfl (Nat.le_of_ble_eq_true rfl) (mj_roomC (by decide) (by decide)) ⟨Nat.zero_le _, Nat.zero_le _⟩ dX6_yearOf_39 ?_
          refine mj_iload_n C dX6_yearOf_42 rfl ?_
          refine mj_callSi C (c_X6_isBetter σ r5 r6 v2) ys_X6_isBetter kl_X6_47 rfl rfl (Nat.le_of_ble_eq_true rfl) (mj_roomC (by decide) (by decide)) ⟨Nat.zero_le _, Nat.zero_le _⟩ dX6_yearOf_43 ?_
          refine mj_if_eq C dX6_yearOf_46 rfl hF (fun hc7 hF => ?_) (fun hc7 hF => ?_)
          · refine mj_iinc (v := v4 + 1) C dX6_yearOf_52 rfl rfl (by decide) ?_
            refine mj_goto C dX6_yearOf_55 rfl ?_
            refine mj_to ?_ (ih v1 v2 v3 (v4 + 1) R hF)
            exact ⟨rfl, rfl, rfl, rfl, rfl, trivial⟩
          · refine mj_iload C dX6_yearOf_49 rfl ?_
            refine mj_istore_n C dX6_yearOf_51 (by decide) ?_
            refine mj_iinc (v := v4 + 1) C dX6_yearOf_52 rfl rfl (by decide) ?_
            refine mj_goto C dX6_yearOf_55 rfl ?_
            refine mj_to ?_ (ih v1 v2 v4 (v4 + 1) R hF)
            exact ⟨rfl, rfl, rfl, rfl, rfl, trivial⟩
set_option maxRecDepth 100000 in
set_option maxHeartbeats 4000000 in
theorem c_X6_yearOf {G : mj_G} {l : Launch} (σ : mj_S) (p1 : Int32) (p2 : Int32) (R : Int32) (hF : f_X6_yearOf σ p1 p2 = some R) : mj_C G l yX6_yearOf cX6_yearOf 5 (some .int) 4 [.ref (G.2.1 44), .int p1, .int p2] σ (some (.int R)) σ := by
  unfold f_X6_yearOf at hF
  refine mj_of (ls := [(0, .ref (G.2.1 44)), (1, .int p1), (2, .int p2)]) (by decide) (Nat.le_of_ble_eq_true rfl) rfl (fun p e s m args below meth c C hr hlk => ?_)
  refine mj_bipushV (v := (-2)) C dX6_yearOf_0 mc_b_m2 ?_
  refine mj_istore_n C dX6_yearOf_2 (by decide) ?_
  refine mj_iconstV (v := 0) C dX6_yearOf_3 mc_i_0 ?_
  refine mj_istore C dX6_yearOf_4 (by decide) ?_
  refine mj_to ?_ (w_X6_yearOf_6 C hr hlk mj_fu p1 p2 (-2) 0 R hF)
  exact ⟨rfl, rfl, rfl, rfl, rfl, trivial⟩
set_option maxRecDepth 100000 in
set_option maxHeartbeats 4000000 in
theorem c_J0_isLatin1_aae02 {G : mj_G} {l : Launch} (σ : mj_S) : mj_C G l yJ0_isLatin1_aae02 cJ0_isLatin1_aae02 1 (some .boolean) 1 [.ref (G.2.1 1002)] σ (some (.int (f_J0_isLatin1_aae02 σ))) σ := by
  generalize hF : f_J0_isLatin1_aae02 σ = R
  unfold f_J0_isLatin1_aae02 at hF
  refine mj_of (ls := [(0, .ref (G.2.1 1002))]) (by decide) (Nat.le_of_ble_eq_true rfl) rfl (fun p e s m args below meth c C hr hlk => ?_)
  refine mj_cps C dJ0_isLatin1_aae02_0 ?_
  refine mj_if_eq C dJ0_isLatin1_aae02_3 rfl ((ite_self _).trans hF) (fun hc hF => ?_) (fun hc hF => ?_)
  · exact absurd hc (show ¬ ((1 : Int32) = 0) by decide)
  · refine mj_aload_n C dJ0_isLatin1_aae02_6 rfl ?_
    refine mj_sc C dJ0_isLatin1_aae02_7 ?_
    refine mj_if_ne C dJ0_isLatin1_aae02_10 rfl ((ite_self _).trans hF) (fun hc hF => ?_) (fun hc hF => ?_)
    · exact absurd (show (0 : Int32) = 0 by decide) hc
    · refine mj_iconstV (v := 1) C dJ0_isLatin1_aae02_13 mc_i_1 ?_
      refine mj_goto C dJ0_isLatin1_aae02_14 rfl ?_
      subst hF
      exact mj_zret (v := 1) rfl C hr hlk dJ0_isLatin1_aae02_18
set_option maxRecDepth 100000 in
set_option maxHeartbeats 4000000 in
theorem c_J0_coder_7d493 {G : mj_G} {l : Launch} (σ : mj_S) : mj_C G l yJ0_coder_7d493 cJ0_coder_7d493 1 (some .byte) 1 [.ref (G.2.1 1002)] σ (some (.int (f_J0_coder_7d493 σ))) σ := by
  generalize hF : f_J0_coder_7d493 σ = R
  unfold f_J0_coder_7d493 at hF
  refine mj_of (ls := [(0, .ref (G.2.1 1002))]) (by decide) (Nat.le_of_ble_eq_true rfl) rfl (fun p e s m args below meth c C hr hlk => ?_)
  refine mj_cps C dJ0_coder_7d493_0 ?_
  refine mj_if_eq C dJ0_coder_7d493_3 rfl ((ite_self _).trans hF) (fun hc hF => ?_) (fun hc hF => ?_)
  · exact absurd hc (show ¬ ((1 : Int32) = 0) by decide)
  · refine mj_aload_n C dJ0_coder_7d493_6 rfl ?_
    refine mj_sc C dJ0_coder_7d493_7 ?_
    refine mj_goto C dJ0_coder_7d493_10 rfl ?_
    subst hF
    exact mj_bret (v := 0) rfl C hr hlk dJ0_coder_7d493_14
set_option maxRecDepth 100000 in
set_option maxHeartbeats 4000000 in
theorem c_J0_length_8abf5 {G : mj_G} {l : Launch} (σ : mj_S) : mj_C G l yJ0_length_8abf5 cJ0_length_8abf5 1 (some .int) 2 [.ref (G.2.1 1002)] σ (some (.int (f_J0_length_8abf5 σ))) σ := by
  generalize hF : f_J0_length_8abf5 σ = R
  unfold f_J0_length_8abf5 at hF
  refine mj_of (ls := [(0, .ref (G.2.1 1002))]) (by decide) (Nat.le_of_ble_eq_true rfl) rfl (fun p e s m args below meth c C hr hlk => ?_)
  refine mj_aload_n C dJ0_length_8abf5_0 rfl ?_
  refine mj_sv C dJ0_length_8abf5_1 ?_
  refine mj_sbl C dJ0_length_8abf5_4 ?_
  refine mj_aload_n C dJ0_length_8abf5_5 rfl ?_
  refine mj_callTi C (c_J0_coder_7d493 σ) yv_J0_coder_7d493 kl_J0_335 rfl rfl rfl (Nat.le_of_ble_eq_true rfl) (mj_roomC (by decide) (by decide)) ⟨Nat.zero_le _, Nat.zero_le _⟩ dJ0_length_8abf5_6 ?_
  refine mj_ishr C dJ0_length_8abf5_9 rfl ?_
  subst hF
  exact mj_iret C hr hlk dJ0_length_8abf5_10
set_option maxRecDepth 100000 in
set_option maxHeartbeats 4000000 in
theorem c_J1_canEncode_9a6ad {G : mj_G} {l : Launch} (σ : mj_S) (p0 : Int32) : mj_C G l yJ1_canEncode_9a6ad cJ1_canEncode_9a6ad 1 (some .boolean) 1 [.int p0] σ (some (.int (f_J1_canEncode_9a6ad σ p0))) σ := by
  generalize hF : f_J1_canEncode_9a6ad σ p0 = R
  unfold f_J1_canEncode_9a6ad at hF
  refine mj_of (ls := [(0, .int p0)]) (by decide) (Nat.le_of_ble_eq_true rfl) rfl (fun p e s m args below meth c C hr hlk => ?_)
  refine mj_iload_n C dJ1_canEncode_9a6ad_0 rfl ?_
  refine mj_if_lt C dJ1_canEncode_9a6ad_1 rfl hF (fun hc1 hF => ?_) (fun hc1 hF => ?_)
  · refine mj_iconstV (v := 0) C dJ1_canEncode_9a6ad_15 mc_i_0 ?_
    subst hF
    exact mj_zret (v := 0) rfl C hr hlk dJ1_canEncode_9a6ad_16
  · refine mj_iload_n C dJ1_canEncode_9a6ad_4 rfl ?_
    refine mj_sipushV (v := 255) C dJ1_canEncode_9a6ad_5 mc_s_255 ?_
    refine mj_ic_gt C dJ1_canEncode_9a6ad_8 rfl hF (fun hc2 hF => ?_) (fun hc2 hF => ?_)
    · refine mj_iconstV (v := 0) C dJ1_canEncode_9a6ad_15 mc_i_0 ?_
      subst hF
      exact mj_zret (v := 0) rfl C hr hlk dJ1_canEncode_9a6ad_16
    · refine mj_iconstV (v := 1) C dJ1_canEncode_9a6ad_11 mc_i_1 ?_
      refine mj_goto C dJ1_canEncode_9a6ad_12 rfl ?_
      subst hF
      exact mj_zret (v := 1) rfl C hr hlk dJ1_canEncode_9a6ad_16
set_option maxRecDepth 100000 in
set_option maxHeartbeats 4000000 in
theorem w_J1_indexOfChar_4cfef_7 {p : Program} {l : Launch} {e : Env} {s : State} {m : MethodId} {args : Array Value} {below : List Frame} {meth : Method} {c : Code} {G : mj_G} {σ : mj_S} (C : mj_X p s m args meth c G cJ1_indexOfChar_4cfef 6 RJ1) (hr : meth.sig.returnType = some .int) (hlk : meth.locks = false) : ∀ (n : Nat) (v3 : Int32) (v4 : Int32) (v5 : Int32) (R : Int32), b_J1_indexOfChar_4cfef_7 σ n v3 v4 v5 = some R → mj_W p l e (mj_rm 1) s m args below meth c G 0 0 6 (MQ below (mj_Q G (some (.int R)) σ) args s 0 0 G.2.2.2) 7 [(0, .ref (G.2.1 1003)), (3, .int v3), (4, .int v4), (5, .int v5)] [] σ := by
  intro n
  induction n with
  | zero =>
    intro v3 v4 v5 R hF
    cases hF
  | succ n ih =>
    intro v3 v4 v5 R hF
    rw [b_J1_indexOfChar_4cfef_7] at hF
    refine mj_iload C dJ1_indexOfChar_4cfef_7 rfl ?_
    refine mj_iload_n C dJ1_indexOfChar_4cfef_9 rfl ?_
    refine mj_ic_ge C dJ1_indexOfChar_4cfef_10 rfl hF (fun hc1 hF => ?_) (fun hc1 hF => ?_)
    · refine mj_iconstV (v := (-1)) C dJ1_indexOfChar_4cfef_31 mc_i_m1 ?_
      have hF := mj_oi hF; subst hF
      exact mj_iret C hr hlk dJ1_indexOfChar_4cfef_32
    · refine mj_aload_n C dJ1_indexOfChar_4cfef_13 rfl ?_
      refine mj_iload C dJ1_indexOfChar_4cfef_14 rfl ?_
      obtain ⟨hg2, hF⟩ := mj_og hF
      refine mj_sb C hg2 dJ1_indexOfChar_4cfef_16 ?_
      refine mj_iload C dJ1_indexOfChar_4cfef_17 rfl ?_
      refine mj_ic_ne C dJ1_indexOfChar_4cfef_19 rfl hF (fun hc3 hF => ?_) (fun hc3 hF => ?_)
      · refine mj_iinc (v := v5 + 1) C dJ1_indexOfChar_4cfef_25 rfl rfl (by decide) ?_
        refine mj_goto C dJ1_indexOfChar_4cfef_28 rfl ?_
        refine mj_to ?_ (ih v3 v4 (v5 + 1) R hF)
        exact ⟨rfl, rfl, rfl, rfl, trivial⟩
      · refine mj_iload C dJ1_indexOfChar_4cfef_22 rfl ?_
        have hF := mj_oi hF; subst hF
        exact mj_iret C hr hlk dJ1_indexOfChar_4cfef_24
set_option maxRecDepth 100000 in
set_option maxHeartbeats 4000000 in
theorem c_J1_indexOfChar_4cfef {G : mj_G} {l : Launch} (σ : mj_S) (p1 : Int32) (p2 : Int32) (p3 : Int32) (R : Int32) (hF : f_J1_indexOfChar_4cfef σ p1 p2 p3 = some R) : mj_C G l yJ1_indexOfChar_4cfef cJ1_indexOfChar_4cfef 6 (some .int) 1 [.ref (G.2.1 1003), .int p1, .int p2, .int p3] σ (some (.int R)) σ := by
  unfold f_J1_indexOfChar_4cfef at hF
  refine mj_of (ls := [(0, .ref (G.2.1 1003)), (1, .int p1), (2, .int p2), (3, .int p3)]) (by decide) (Nat.le_of_ble_eq_true rfl) rfl (fun p e s m args below meth c C hr hlk => ?_)
  refine mj_iload_n C dJ1_indexOfChar_4cfef_0 rfl ?_
  refine mj_i2b C dJ1_indexOfChar_4cfef_1 ?_
  refine mj_istore C dJ1_indexOfChar_4cfef_2 (by decide) ?_
  refine mj_iload_n C dJ1_indexOfChar_4cfef_4 rfl ?_
  refine mj_istore C dJ1_indexOfChar_4cfef_5 (by decide) ?_
  refine mj_to ?_ (w_J1_indexOfChar_4cfef_7 C hr hlk mj_fu p3 p1.toInt8.toInt32 p2 R hF)
  exact ⟨rfl, rfl, rfl, rfl, trivial⟩
set_option maxRecDepth 100000 in
set_option maxHeartbeats 4000000 in
theorem c_J1_indexOf_4cfef {G : mj_G} {l : Launch} (σ : mj_S) (p1 : Int32) (p2 : Int32) (p3 : Int32) (R : Int32) (hF : f_J1_indexOf_4cfef σ p1 p2 p3 = some R) : mj_C G l yJ1_indexOf_4cfef cJ1_indexOf_4cfef 4 (some .int) 2 [.ref (G.2.1 1003), .int p1, .int p2, .int p3] σ (some (.int R)) σ := by
  unfold f_J1_indexOf_4cfef at hF
  refine mj_of (ls := [(0, .ref (G.2.1 1003)), (1, .int p1), (2, .int p2), (3, .int p3)]) (by decide) (Nat.le_of_ble_eq_true rfl) rfl (fun p e s m args below meth c C hr hlk => ?_)
  refine mj_iload_n C dJ1_indexOf_4cfef_0 rfl ?_
  refine mj_callSi C (c_J1_canEncode_9a6ad σ p1) ys_J1_canEncode_9a6ad kl_J1_88 rfl rfl (Nat.le_of_ble_eq_true rfl) (mj_roomC (by decide) (by decide)) ⟨Nat.zero_le _, Nat.zero_le _⟩ dJ1_indexOf_4cfef_1 ?_
  refine mj_if_ne C dJ1_indexOf_4cfef_4 rfl hF (fun hc1 hF => ?_) (fun hc1 hF => ?_)
  · refine mj_iload_n C dJ1_indexOf_4cfef_9 rfl ?_
    refine mj_iconstV (v := 0) C dJ1_indexOf_4cfef_10 mc_i_0 ?_
    refine mj_mmax C kl_J1_92 (mj_room13 (by decide) (Nat.le_of_ble_eq_true rfl)) ⟨Nat.zero_le _, Nat.zero_le _⟩ dJ1_indexOf_4cfef_11 ?_
    refine mj_istore_n C dJ1_indexOf_4cfef_14 (by decide) ?_
    refine mj_iload_n C dJ1_indexOf_4cfef_15 rfl ?_
    refine mj_aload_n C dJ1_indexOf_4cfef_16 rfl ?_
    refine mj_sbl C dJ1_indexOf_4cfef_17 ?_
    refine mj_mmin C kl_J1_38 (mj_room13 (by decide) (Nat.le_of_ble_eq_true rfl)) ⟨Nat.zero_le _, Nat.zero_le _⟩ dJ1_indexOf_4cfef_18 ?_
    refine mj_istore_n C dJ1_indexOf_4cfef_21 (by decide) ?_
    refine mj_iload_n C dJ1_indexOf_4cfef_22 rfl ?_
    refine mj_iload_n C dJ1_indexOf_4cfef_23 rfl ?_
    refine mj_ic_lt C dJ1_indexOf_4cfef_24 rfl hF (fun hc2 hF => ?_) (fun hc2 hF => ?_)
    · refine mj_aload_n C dJ1_indexOf_4cfef_29 rfl ?_
      refine mj_iload_n C dJ1_indexOf_4cfef_30 rfl ?_
      refine mj_iload_n C dJ1_indexOf_4cfef_31 rfl ?_
      refine mj_iload_n C dJ1_indexOf_4cfef_32 rfl ?_
      obtain ⟨r3, hq3, hF⟩ := mj_ob hF
      refine mj_callSi C (c_J1_indexOfChar_4cfef σ p1 (mj_max p2 0) (mj_min p3 7) r3 hq3) ys_J1_indexOfChar_4cfef kl_J1_95 rfl rfl (Nat.le_of_ble_eq_true rfl) (mj_roomC (by decide) (by decide)) ⟨Nat.zero_le _, Nat.zero_le _⟩ dJ1_indexOf_4cfef_33 ?_
      have hF := mj_oi hF; subst hF
      exact mj_iret C hr hlk dJ1_indexOf_4cfef_36
    · refine mj_iconstV (v := (-1)) C dJ1_indexOf_4cfef_27 mc_i_m1 ?_
      have hF := mj_oi hF; subst hF
      exact mj_iret C hr hlk dJ1_indexOf_4cfef_28
  · refine mj_iconstV (v := (-1)) C dJ1_indexOf_4cfef_7 mc_i_m1 ?_
    have hF := mj_oi hF; subst hF
    exact mj_iret C hr hlk dJ1_indexOf_4cfef_8
set_option maxRecDepth 100000 in
set_option maxHeartbeats 4000000 in
theorem c_X9_tall {G : mj_G} {l : Launch} (σ : mj_S) (p1 : Int32) (p2 : Int32) (R : Int32) (hF : f_X9_tall σ p1 p2 = some R) : mj_C G l yX9_tall cX9_tall 4 (some .int) 5 [.ref (G.2.1 0), .int p1, .int p2] σ (some (.int R)) σ := by
  unfold f_X9_tall at hF
  refine mj_of (ls := [(0, .ref (G.2.1 0)), (1, .int p1), (2, .int p2)]) (by decide) (Nat.le_of_ble_eq_true rfl) rfl (fun p e s m args below meth c C hr hlk => ?_)
  refine mj_aload_n C dX9_tall_0 rfl ?_
  refine mg_X9_28 C dX9_tall_1 ?_
  refine mj_iload_n C dX9_tall_4 rfl ?_
  refine mj_callVi C (c_X2_has σ p1) yv_X2_has kl_X9_132 (mo_9 G _) rfl rfl rfl rfl (Nat.le_of_ble_eq_true rfl) (mj_roomC (by decide) (by decide)) ⟨Nat.zero_le _, Nat.zero_le _⟩ dX9_tall_5 ?_
  refine mj_if_ne C dX9_tall_8 rfl hF (fun hc1 hF => ?_) (fun hc1 hF => ?_)
  · refine mj_iload_n C dX9_tall_14 rfl ?_
    by_cases hw2_0 : p2 = 0
    · rw [if_pos hw2_0] at hF
      refine mj_tsIn (off := 33) C dX9_tall_15 (by rw [hw2_0]; decide) (by rw [hw2_0]; decide) (by rw [hw2_0]; rfl) rfl ?_
      refine mj_aload_n C dX9_tall_48 rfl ?_
      refine mg_X9_53 C dX9_tall_49 ?_
      refine mj_iload_n C dX9_tall_52 rfl ?_
      obtain ⟨r3, hq3, hF⟩ := mj_ob hF
      refine mj_callVi C (c_X6_endOf σ p1 r3 hq3) yv_X6_endOf kl_X9_231 (mo_44 G _) rfl rfl rfl rfl (Nat.le_of_ble_eq_true rfl) (mj_roomC (by decide) (by decide)) ⟨Nat.zero_le _, Nat.zero_le _⟩ dX9_tall_53 ?_
      have hF := mj_oi hF; subst hF
      exact mj_iret C hr hlk dX9_tall_56
    rw [if_neg hw2_0] at hF
    by_cases hw2_1 : p2 = 1
    · rw [if_pos hw2_1] at hF
      refine mj_tsIn (off := 42) C dX9_tall_15 (by rw [hw2_1]; decide) (by rw [hw2_1]; decide) (by rw [hw2_1]; rfl) rfl ?_
      refine mj_aload_n C dX9_tall_57 rfl ?_
      refine mg_X9_53 C dX9_tall_58 ?_
      refine mj_iload_n C dX9_tall_61 rfl ?_
      obtain ⟨r4, hq4, hF⟩ := mj_ob hF
      refine mj_callVi C (c_X6_twiceAtTwo σ p1 r4 hq4) yv_X6_twiceAtTwo kl_X9_234 (mo_44 G _) rfl rfl rfl rfl (Nat.le_of_ble_eq_true rfl) (mj_roomC (by decide) (by decide)) ⟨Nat.zero_le _, Nat.zero_le _⟩ dX9_tall_62 ?_
      have hF := mj_oi hF; subst hF
      exact mj_iret C hr hlk dX9_tall_65
    rw [if_neg hw2_1] at hF
    by_cases hw2_2 : p2 = 2
    · rw [if_pos hw2_2] at hF
      refine mj_tsIn (off := 51) C dX9_tall_15 (by rw [hw2_2]; decide) (by rw [hw2_2]; decide) (by rw [hw2_2]; rfl) rfl ?_
      refine mj_aload_n C dX9_tall_66 rfl ?_
      refine mg_X9_53 C dX9_tall_67 ?_
      refine mj_iload_n C dX9_tall_70 rfl ?_
      obtain ⟨r5, hq5, hF⟩ := mj_ob hF
      refine mj_callVi C (c_X6_byParents σ p1 r5 hq5) yv_X6_byParents kl_X9_237 (mo_44 G _) rfl rfl rfl rfl (Nat.le_of_ble_eq_true rfl) (mj_roomC (by decide) (by decide)) ⟨Nat.zero_le _, Nat.zero_le _⟩ dX9_tall_71 ?_
      have hF := mj_oi hF; subst hF
      exact mj_iret C hr hlk dX9_tall_74
    rw [if_neg hw2_2] at hF
    by_cases hw2_3 : p2 = 3
    · rw [if_pos hw2_3] at hF
      refine mj_tsIn (off := 60) C dX9_tall_15 (by rw [hw2_3]; decide) (by rw [hw2_3]; decide) (by rw [hw2_3]; rfl) rfl ?_
      refine mj_aload_n C dX9_tall_75 rfl ?_
      refine mg_X9_53 C dX9_tall_76 ?_
      refine mj_iload_n C dX9_tall_79 rfl ?_
      obtain ⟨r6, hq6, hF⟩ := mj_ob hF
      refine mj_callVi C (c_X6_twiceAtTwo σ p1 r6 hq6) yv_X6_twiceAtTwo kl_X9_234 (mo_44 G _) rfl rfl rfl rfl (Nat.le_of_ble_eq_true rfl) (mj_roomC (by decide) (by decide)) ⟨Nat.zero_le _, Nat.zero_le _⟩ dX9_tall_80 ?_
      refine mj_istore_n C dX9_tall_83 (by decide) ?_
      refine mj_iload_n C dX9_tall_84 rfl ?_
      refine mj_bipushV (v := (-2)) C dX9_tall_85 mc_b_m2 ?_
      refine mj_ic_ne C dX9_tall_87 rfl hF (fun hc7 hF => ?_) (fun hc7 hF => ?_)
      · refine mj_aload_n C dX9_tall_95 rfl ?_
        refine mg_X9_53 C dX9_tall_96 ?_
        refine mj_iload_n C dX9_tall_99 rfl ?_
        obtain ⟨r8, hq8, hF⟩ := mj_ob hF
        refine mj_callVi C (c_X6_endOf σ p1 r8 hq8) yv_X6_endOf kl_X9_231 (mo_44 G _) rfl rfl rfl rfl (Nat.le_of_ble_eq_true rfl) (mj_roomC (by decide) (by decide)) ⟨Nat.zero_le _, Nat.zero_le _⟩ dX9_tall_100 ?_
        refine mj_iload_n C dX9_tall_103 rfl ?_
        refine mj_isub C dX9_tall_104 ?_
        have hF := mj_oi hF; subst hF
        exact mj_iret C hr hlk dX9_tall_105
      · refine mj_ldc C dX9_tall_90 kc_X9_173 ?_
        refine mj_goto C dX9_tall_92 rfl ?_
        have hF := mj_oi hF; subst hF
        exact mj_iret C hr hlk dX9_tall_105
    rw [if_neg hw2_3] at hF
    by_cases hw2_4 : p2 = 4
    · rw [if_pos hw2_4] at hF
      refine mj_tsIn (off := 91) C dX9_tall_15 (by rw [hw2_4]; decide) (by rw [hw2_4]; decide) (by rw [hw2_4]; rfl) rfl ?_
      refine mj_aload_n C dX9_tall_106 rfl ?_
      refine mg_X9_53 C dX9_tall_107 ?_
      refine mj_iload_n C dX9_tall_110 rfl ?_
      obtain ⟨r9, hq9, hF⟩ := mj_ob hF
      refine mj_callVi C (c_X6_endOf σ p1 r9 hq9) yv_X6_endOf kl_X9_231 (mo_44 G _) rfl rfl rfl rfl (Nat.le_of_ble_eq_true rfl) (mj_roomC (by decide) (by decide)) ⟨Nat.zero_le _, Nat.zero_le _⟩ dX9_tall_111 ?_
      refine mj_aload_n C dX9_tall_114 rfl ?_
      refine mg_X9_53 C dX9_tall_115 ?_
      refine mj_iload_n C dX9_tall_118 rfl ?_
      obtain ⟨r10, hq10, hF⟩ := mj_ob hF
      refine mj_callVi C (c_X6_byParents σ p1 r10 hq10) yv_X6_byParents kl_X9_237 (mo_44 G _) rfl rfl rfl rfl (Nat.le_of_ble_eq_true rfl) (mj_roomC (by decide) (by decide)) ⟨Nat.zero_le _, Nat.zero_le _⟩ dX9_tall_119 ?_
      refine mj_isub C dX9_tall_122 ?_
      have hF := mj_oi hF; subst hF
      exact mj_iret C hr hlk dX9_tall_123
    rw [if_neg hw2_4] at hF
    refine mj_tsOut C dX9_tall_15 (mj_sw_0_5 hw2_0 hw2_1 hw2_2 hw2_3 hw2_4) rfl ?_
    refine mj_ldc C dX9_tall_124 kc_X9_173 ?_
    have hF := mj_oi hF; subst hF
    exact mj_iret C hr hlk dX9_tall_126
  · refine mj_ldc C dX9_tall_11 kc_X9_173 ?_
    have hF := mj_oi hF; subst hF
    exact mj_iret C hr hlk dX9_tall_13
set_option maxRecDepth 100000 in
set_option maxHeartbeats 4000000 in
theorem w_X9_year_37 {p : Program} {l : Launch} {e : Env} {s : State} {m : MethodId} {args : Array Value} {below : List Frame} {meth : Method} {c : Code} {G : mj_G} {σ : mj_S} (C : mj_X p s m args meth c G cX9_year 4 RX9) (hr : meth.sig.returnType = some .int) (hlk : meth.locks = false) : ∀ (v1 : Int32) (v2 : Int32) (t1 : Int32) (t2 : Int32) (R : Int32), b_X9_year_37 σ v1 v2 t1 t2 = some R → mj_W p l e (mj_rm 5) s m args below meth c G 0 0 4 (MQ below (mj_Q G (some (.int R)) σ) args s 0 0 G.2.2.2) 37 [(0, .ref (G.2.1 0)), (1, .int v1), (2, .int v2)] [.int t2, .int t1, .ref (G.2.1 44)] σ := by
  intro v1 v2 t1 t2 R hF
  unfold b_X9_year_37 at hF
  obtain ⟨r4, hq4, hF⟩ := mj_ob hF
  refine mj_callVi C (c_X6_yearOf σ t1 t2 r4 hq4) yv_X6_yearOf kl_X9_240 (mo_44 G _) rfl rfl rfl rfl (Nat.le_of_ble_eq_true rfl) (mj_roomC (by decide) (by decide)) ⟨Nat.zero_le _, Nat.zero_le _⟩ dX9_year_37 ?_
  refine mj_istore_n C dX9_year_40 (by decide) ?_
  refine mj_iload_n C dX9_year_41 rfl ?_
  refine mj_bipushV (v := (-2)) C dX9_year_42 mc_b_m2 ?_
  refine mj_ic_ne C dX9_year_44 rfl hF (fun hc5 hF => ?_) (fun hc5 hF => ?_)
  · refine mj_iload_n C dX9_year_50 rfl ?_
    refine mj_iconstV (v := 2) C dX9_year_51 mc_i_2 ?_
    refine mj_irem C dX9_year_52 (by decide) ?_
    refine mj_if_ne C dX9_year_53 rfl hF (fun hc6 hF => ?_) (fun hc6 hF => ?_)
    · refine mj_aload_n C dX9_year_60 rfl ?_
      refine mg_X9_53 C dX9_year_61 ?_
      refine mj_iload_n C dX9_year_64 rfl ?_
      refine mj_iload_n C dX9_year_65 rfl ?_
      obtain ⟨r7, hq7, hF⟩ := mj_ob hF
      refine mj_callVi C (c_X6_growthInYear σ v1 r4 r7 hq7) yv_X6_growthInYear kl_X9_244 (mo_44 G _) rfl rfl rfl rfl (Nat.le_of_ble_eq_true rfl) (mj_roomC (by decide) (by decide)) ⟨Nat.zero_le _, Nat.zero_le _⟩ dX9_year_66 ?_
      have hF := mj_oi hF; subst hF
      exact mj_iret C hr hlk dX9_year_69
    · refine mj_iload_n C dX9_year_56 rfl ?_
      refine mj_goto C dX9_year_57 rfl ?_
      have hF := mj_oi hF; subst hF
      exact mj_iret C hr hlk dX9_year_69
  · refine mj_bipushV (v := (-2)) C dX9_year_47 mc_b_m2 ?_
    have hF := mj_oi hF; subst hF
    exact mj_iret C hr hlk dX9_year_49
set_option maxRecDepth 100000 in
set_option maxHeartbeats 4000000 in
theorem c_X9_year {G : mj_G} {l : Launch} (σ : mj_S) (p1 : Int32) (p2 : Int32) (R : Int32) (hF : f_X9_year σ p1 p2 = some R) : mj_C G l yX9_year cX9_year 4 (some .int) 5 [.ref (G.2.1 0), .int p1, .int p2] σ (some (.int R)) σ := by
  unfold f_X9_year at hF
  refine mj_of (ls := [(0, .ref (G.2.1 0)), (1, .int p1), (2, .int p2)]) (by decide) (Nat.le_of_ble_eq_true rfl) rfl (fun p e s m args below meth c C hr hlk => ?_)
  refine mj_aload_n C dX9_year_0 rfl ?_
  refine mg_X9_28 C dX9_year_1 ?_
  refine mj_iload_n C dX9_year_4 rfl ?_
  refine mj_callVi C (c_X2_has σ p1) yv_X2_has kl_X9_132 (mo_9 G _) rfl rfl rfl rfl (Nat.le_of_ble_eq_true rfl) (mj_roomC (by decide) (by decide)) ⟨Nat.zero_le _, Nat.zero_le _⟩ dX9_year_5 ?_
  refine mj_if_eq C dX9_year_8 rfl hF (fun hc1 hF => ?_) (fun hc1 hF => ?_)
  · refine mj_iconstV (v := (-1)) C dX9_year_20 mc_i_m1 ?_
    have hF := mj_oi hF; subst hF
    exact mj_iret C hr hlk dX9_year_21
  · refine mj_iload_n C dX9_year_11 rfl ?_
    refine mj_iconstV (v := 0) C dX9_year_12 mc_i_0 ?_
    refine mj_iconstV (v := 3) C dX9_year_13 mc_i_3 ?_
    refine mj_callSi C (c_X9_within σ p2 0 3) ys_X9_within kl_X9_82 rfl rfl (Nat.le_of_ble_eq_true rfl) (mj_roomC (by decide) (by decide)) ⟨Nat.zero_le _, Nat.zero_le _⟩ dX9_year_14 ?_
    refine mj_if_ne C dX9_year_17 rfl hF (fun hc2 hF => ?_) (fun hc2 hF => ?_)
    · refine mj_aload_n C dX9_year_22 rfl ?_
      refine mg_X9_53 C dX9_year_23 ?_
      refine mj_iload_n C dX9_year_26 rfl ?_
      refine mj_iload_n C dX9_year_27 rfl ?_
      refine mj_iconstV (v := 2) C dX9_year_28 mc_i_2 ?_
      refine mj_ic_ge C dX9_year_29 rfl hF (fun hc3 hF => ?_) (fun hc3 hF => ?_)
      · refine mj_iconstV (v := 0) C dX9_year_36 mc_i_0 ?_
        refine mj_to ?_ (w_X9_year_37 C hr hlk p1 p2 p1 0 R hF)
        exact ⟨rfl, rfl, rfl, trivial⟩
      · refine mj_iconstV (v := 1) C dX9_year_32 mc_i_1 ?_
        refine mj_goto C dX9_year_33 rfl ?_
        refine mj_to ?_ (w_X9_year_37 C hr hlk p1 p2 p1 1 R hF)
        exact ⟨rfl, rfl, rfl, trivial⟩
    · refine mj_iconstV (v := (-1)) C dX9_year_20 mc_i_m1 ?_
      have hF := mj_oi hF; subst hF
      exact mj_iret C hr hlk dX9_year_21
set_option maxRecDepth 100000 in
set_option maxHeartbeats 4000000 in
theorem c_X0_isKind {G : mj_G} {l : Launch} (σ : mj_S) (p0 : Int32) : mj_C G l yX0_isKind cX0_isKind 1 (some .boolean) 2 [.int p0] σ (some (.int (f_X0_isKind σ p0))) σ := by
  generalize hF : f_X0_isKind σ p0 = R
  unfold f_X0_isKind at hF
  refine mj_of (ls := [(0, .int p0)]) (by decide) (Nat.le_of_ble_eq_true rfl) rfl (fun p e s m args below meth c C hr hlk => ?_)
  refine mj_iload_n C dX0_isKind_0 rfl ?_
  refine mj_iconstV (v := 0) C dX0_isKind_1 mc_i_0 ?_
  refine mj_bipushV (v := 7) C dX0_isKind_2 mc_b_7 ?_
  refine mj_callNi C (c_X9_within σ p0 0 7) ys_X9_within kn_X0_31 rfl rfl (Nat.le_of_ble_eq_true rfl) (mj_roomC (by decide) (by decide)) ⟨Nat.zero_le _, Nat.zero_le _⟩ dX0_isKind_4 ?_
  subst hF
  exact mj_zbret C hr hlk dX0_isKind_7
set_option maxRecDepth 100000 in
set_option maxHeartbeats 4000000 in
theorem w_X0_isUnder_4 {p : Program} {l : Launch} {e : Env} {s : State} {m : MethodId} {args : Array Value} {below : List Frame} {meth : Method} {c : Code} {G : mj_G} {σ : mj_S} (C : mj_X p s m args meth c G cX0_isUnder 4 RX0) (hr : meth.sig.returnType = some .boolean) (hlk : meth.locks = false) : ∀ (n : Nat) (v1 : Int32) (v2 : Int32) (v3 : Int32) (R : Int32), b_X0_isUnder_4 σ n v1 v2 v3 = some R → mj_W p l e (mj_rm 3) s m args below meth c G 0 0 4 (MQ below (mj_Q G (some (.int R)) σ) args s 0 0 G.2.2.2) 4 [(1, .int v1), (2, .int v2), (3, .int v3)] [] σ := by
  intro n
  induction n with
  | zero =>
    intro v1 v2 v3 R hF
    cases hF
  | succ n ih =>
    intro v1 v2 v3 R hF
    rw [b_X0_isUnder_4] at hF
    refine mj_iload_n C dX0_isUnder_4 rfl ?_
    refine mj_bipushV (v := 8) C dX0_isUnder_5 mc_b_8 ?_
    refine mj_ic_ge C dX0_isUnder_7 rfl hF (fun hc1 hF => ?_) (fun hc1 hF => ?_)
    · refine mj_iconstV (v := 0) C dX0_isUnder_36 mc_i_0 ?_
      have hF := mj_oi hF; subst hF
      exact mj_zret (v := 0) rfl C hr hlk dX0_isUnder_37
    · refine mj_iload_n C dX0_isUnder_10 rfl ?_
      refine mj_callSi C (c_X0_isKind σ v2) ys_X0_isKind kl_X0_35 rfl rfl (Nat.le_of_ble_eq_true rfl) (mj_roomC (by decide) (by decide)) ⟨Nat.zero_le _, Nat.zero_le _⟩ dX0_isUnder_11 ?_
      refine mj_if_eq C dX0_isUnder_14 rfl hF (fun hc2 hF => ?_) (fun hc2 hF => ?_)
      · refine mj_iconstV (v := 0) C dX0_isUnder_36 mc_i_0 ?_
        have hF := mj_oi hF; subst hF
        exact mj_zret (v := 0) rfl C hr hlk dX0_isUnder_37
      · refine mj_iload_n C dX0_isUnder_17 rfl ?_
        refine mj_iload_n C dX0_isUnder_18 rfl ?_
        refine mj_ic_ne C dX0_isUnder_19 rfl hF (fun hc3 hF => ?_) (fun hc3 hF => ?_)
        · refine mj_st_ABOVE C dX0_isUnder_24 ?_
          refine mj_iload_n C dX0_isUnder_27 rfl ?_
          obtain ⟨hg4, hF⟩ := mj_og hF
          refine mj_sa_ABOVE C hg4 dX0_isUnder_28 ?_
          refine mj_istore_n C dX0_isUnder_29 (by decide) ?_
          refine mj_iinc (v := v3 + 1) C dX0_isUnder_30 rfl rfl (by decide) ?_
          refine mj_goto C dX0_isUnder_33 rfl ?_
          refine mj_to ?_ (ih v1 (mj_above v2.toNatClampNeg) (v3 + 1) R hF)
          exact ⟨rfl, rfl, rfl, trivial⟩
        · refine mj_iconstV (v := 1) C dX0_isUnder_22 mc_i_1 ?_
          have hF := mj_oi hF; subst hF
          exact mj_zret (v := 1) rfl C hr hlk dX0_isUnder_23
set_option maxRecDepth 100000 in
set_option maxHeartbeats 4000000 in
theorem c_X0_isUnder {G : mj_G} {l : Launch} (σ : mj_S) (p0 : Int32) (p1 : Int32) (R : Int32) (hF : f_X0_isUnder σ p0 p1 = some R) : mj_C G l yX0_isUnder cX0_isUnder 4 (some .boolean) 3 [.int p0, .int p1] σ (some (.int R)) σ := by
  unfold f_X0_isUnder at hF
  refine mj_of (ls := [(0, .int p0), (1, .int p1)]) (by decide) (Nat.le_of_ble_eq_true rfl) rfl (fun p e s m args below meth c C hr hlk => ?_)
  refine mj_iload_n C dX0_isUnder_0 rfl ?_
  refine mj_istore_n C dX0_isUnder_1 (by decide) ?_
  refine mj_iconstV (v := 0) C dX0_isUnder_2 mc_i_0 ?_
  refine mj_istore_n C dX0_isUnder_3 (by decide) ?_
  refine mj_to ?_ (w_X0_isUnder_4 C hr hlk mj_fu p1 p0 0 R hF)
  exact ⟨rfl, rfl, rfl, trivial⟩
set_option maxRecDepth 100000 in
set_option maxHeartbeats 4000000 in
theorem w_X0_ownerOf_37 {p : Program} {l : Launch} {e : Env} {s : State} {m : MethodId} {args : Array Value} {below : List Frame} {meth : Method} {c : Code} {G : mj_G} {σ : mj_S} (C : mj_X p s m args meth c G cX0_ownerOf 4 RX0) (hr : meth.sig.returnType = some .int) (hlk : meth.locks = false) : ∀ (v2 : Int32) (R : Int32), b_X0_ownerOf_37 σ v2 = some R → mj_W p l e (mj_rm 3) s m args below meth c G 0 0 4 (MQ below (mj_Q G (some (.int R)) σ) args s 0 0 G.2.2.2) 37 [(2, .int v2)] [] σ := by
  intro v2 R hF
  unfold b_X0_ownerOf_37 at hF
  refine mj_iload_n C dX0_ownerOf_37 rfl ?_
  refine mj_callSi C (c_X0_isKind σ v2) ys_X0_isKind kl_X0_35 rfl rfl (Nat.le_of_ble_eq_true rfl) (mj_roomC (by decide) (by decide)) ⟨Nat.zero_le _, Nat.zero_le _⟩ dX0_ownerOf_38 ?_
  refine mj_if_eq C dX0_ownerOf_41 rfl hF (fun hc2 hF => ?_) (fun hc2 hF => ?_)
  · refine mj_iconstV (v := (-1)) C dX0_ownerOf_48 mc_i_m1 ?_
    have hF := mj_oi hF; subst hF
    exact mj_iret C hr hlk dX0_ownerOf_49
  · refine mj_iload_n C dX0_ownerOf_44 rfl ?_
    refine mj_goto C dX0_ownerOf_45 rfl ?_
    have hF := mj_oi hF; subst hF
    exact mj_iret C hr hlk dX0_ownerOf_49
set_option maxRecDepth 100000 in
set_option maxHeartbeats 4000000 in
theorem w_X0_ownerOf_4 {p : Program} {l : Launch} {e : Env} {s : State} {m : MethodId} {args : Array Value} {below : List Frame} {meth : Method} {c : Code} {G : mj_G} {σ : mj_S} (C : mj_X p s m args meth c G cX0_ownerOf 4 RX0) (hr : meth.sig.returnType = some .int) (hlk : meth.locks = false) : ∀ (n : Nat) (v0 : Int32) (v2 : Int32) (v3 : Int32) (R : Int32), b_X0_ownerOf_4 σ n v0 v2 v3 = some R → mj_W p l e (mj_rm 3) s m args below meth c G 0 0 4 (MQ below (mj_Q G (some (.int R)) σ) args s 0 0 G.2.2.2) 4 [(0, .int v0), (2, .int v2), (3, .int v3)] [] σ := by
  intro n
  induction n with
  | zero =>
    intro v0 v2 v3 R hF
    cases hF
  | succ n ih =>
    intro v0 v2 v3 R hF
    rw [b_X0_ownerOf_4] at hF
    refine mj_iload_n C dX0_ownerOf_4 rfl ?_
    refine mj_bipushV (v := 8) C dX0_ownerOf_5 mc_b_8 ?_
    refine mj_ic_ge C dX0_ownerOf_7 rfl hF (fun hc1 hF => ?_) (fun hc1 hF => ?_)
    · refine mj_to ?_ (w_X0_ownerOf_37 C hr hlk v2 R hF)
      exact ⟨rfl, trivial⟩
    · refine mj_iload_n C dX0_ownerOf_10 rfl ?_
      refine mj_callSi C (c_X0_isKind σ v2) ys_X0_isKind kl_X0_35 rfl rfl (Nat.le_of_ble_eq_true rfl) (mj_roomC (by decide) (by decide)) ⟨Nat.zero_le _, Nat.zero_le _⟩ dX0_ownerOf_11 ?_
      refine mj_if_eq C dX0_ownerOf_14 rfl hF (fun hc3 hF => ?_) (fun hc3 hF => ?_)
      · refine mj_to ?_ (w_X0_ownerOf_37 C hr hlk v2 R hF)
        exact ⟨rfl, trivial⟩
      · refine mj_iload_n C dX0_ownerOf_17 rfl ?_
        refine mj_iload_n C dX0_ownerOf_18 rfl ?_
        obtain ⟨r4, hq4, hF⟩ := mj_ob hF
        refine mj_callSi C (c_X0_ownBody σ v0 v2 r4 hq4) ys_X0_ownBody kl_X0_57 rfl rfl (Nat.le_of_ble_eq_true rfl) (mj_roomC (by decide) (by decide)) ⟨Nat.zero_le _, Nat.zero_le _⟩ dX0_ownerOf_19 ?_
        refine mj_if_ne C dX0_ownerOf_22 rfl hF (fun hc5 hF => ?_) (fun hc5 hF => ?_)
        · refine mj_to ?_ (w_X0_ownerOf_37 C hr hlk v2 R hF)
          exact ⟨rfl, trivial⟩
        · refine mj_st_ABOVE C dX0_ownerOf_25 ?_
          refine mj_iload_n C dX0_ownerOf_28 rfl ?_
          obtain ⟨hg6, hF⟩ := mj_og hF
          refine mj_sa_ABOVE C hg6 dX0_ownerOf_29 ?_
          refine mj_istore_n C dX0_ownerOf_30 (by decide) ?_
          refine mj_iinc (v := v3 + 1) C dX0_ownerOf_31 rfl rfl (by decide) ?_
          refine mj_goto C dX0_ownerOf_34 rfl ?_
          refine mj_to ?_ (ih v0 (mj_above v2.toNatClampNeg) (v3 + 1) R hF)
          exact ⟨rfl, rfl, rfl, trivial⟩
set_option maxRecDepth 100000 in
set_option maxHeartbeats 4000000 in
theorem c_X0_ownerOf {G : mj_G} {l : Launch} (σ : mj_S) (p0 : Int32) (p1 : Int32) (R : Int32) (hF : f_X0_ownerOf σ p0 p1 = some R) : mj_C G l yX0_ownerOf cX0_ownerOf 4 (some .int) 3 [.int p0, .int p1] σ (some (.int R)) σ := by
  unfold f_X0_ownerOf at hF
  refine mj_of (ls := [(0, .int p0), (1, .int p1)]) (by decide) (Nat.le_of_ble_eq_true rfl) rfl (fun p e s m args below meth c C hr hlk => ?_)
  refine mj_iload_n C dX0_ownerOf_0 rfl ?_
  refine mj_istore_n C dX0_ownerOf_1 (by decide) ?_
  refine mj_iconstV (v := 0) C dX0_ownerOf_2 mc_i_0 ?_
  refine mj_istore_n C dX0_ownerOf_3 (by decide) ?_
  refine mj_to ?_ (w_X0_ownerOf_4 C hr hlk mj_fu p0 p1 0 R hF)
  exact ⟨rfl, rfl, rfl, trivial⟩
set_option maxRecDepth 100000 in
set_option maxHeartbeats 4000000 in
theorem cF_X0_run {G : mj_G} {l : Launch} {k : Nat} {rec : Nat → Int32 → Int32 → Int32 → Int32 → mj_S → Option (Int32 × mj_S)} (hr0 : ∀ (x0 x1 x2 x3 : Int32) (σ : mj_S) (R : (Int32 × mj_S)), rec 0 x0 x1 x2 x3 σ = some R → mj_C G l yX0_run cX0_run 7 (some .int) (4 + k) [.ref (G.2.1 50), .int x0, .int x1, .int x2, .int x3] σ (some (.int R.1)) R.2) (hr1 : ∀ (x0 x1 x2 x3 : Int32) (σ : mj_S) (R : (Int32 × mj_S)), rec 1 x0 x1 x2 x3 σ = some R → mj_C G l yX0_perform cX0_perform 5 (some .int) (4 + k) [.ref (G.2.1 50), .int x0, .int x1, .int x2, .int x3] σ (some (.int R.1)) R.2) (σ : mj_S) (p1 : Int32) (p2 : Int32) (p3 : Int32) (p4 : Int32) (R : (Int32 × mj_S)) (hF : F_X0_run rec σ p1 p2 p3 p4 = some R) : mj_C G l yX0_run cX0_run 7 (some .int) (4 + (k + 1)) [.ref (G.2.1 50), .int p1, .int p2, .int p3, .int p4] σ (some (.int R.1)) R.2 := by
  unfold F_X0_run at hF
  refine mj_of (ls := [(0, .ref (G.2.1 50)), (1, .int p1), (2, .int p2), (3, .int p3), (4, .int p4)]) (by decide) (Nat.le_of_ble_eq_true rfl) rfl (fun p e s m args below meth c C hr hlk => ?_)
  refine mj_iload_n C dX0_run_0 rfl ?_
  refine mj_iload_n C dX0_run_1 rfl ?_
  obtain ⟨r1, hq1, hF⟩ := mj_ob hF
  refine mj_callSi C (c_X0_ownerOf σ p1 p2 r1 hq1) ys_X0_ownerOf kl_X0_53 rfl rfl (Nat.le_of_ble_eq_true rfl) (mj_roomR (by decide) (by decide)) ⟨Nat.zero_le _, Nat.zero_le _⟩ dX0_run_2 ?_
  refine mj_istore C dX0_run_5 (by decide) ?_
  refine mj_iload C dX0_run_7 rfl ?_
  refine mj_if_lt C dX0_run_9 rfl hF (fun hc2 hF => ?_) (fun hc2 hF => ?_)
  · refine mj_iconstV (v := 0) C dX0_run_19 mc_i_0 ?_
    have hF := mj_oi hF; subst hF
    exact mj_iret C hr hlk dX0_run_20
  · refine mj_iload C dX0_run_12 rfl ?_
    refine mj_bipushV (v := 40) C dX0_run_14 mc_b_40 ?_
    refine mj_ic_le C dX0_run_16 rfl hF (fun hc3 hF => ?_) (fun hc3 hF => ?_)
    · refine mj_iload_n C dX0_run_21 rfl ?_
      refine mj_iload C dX0_run_22 rfl ?_
      obtain ⟨r4, hq4, hF⟩ := mj_ob hF
      refine mj_callSi C (c_X0_ownBody σ p1 r1 r4 hq4) ys_X0_ownBody kl_X0_57 rfl rfl (Nat.le_of_ble_eq_true rfl) (mj_roomR (by decide) (by decide)) ⟨Nat.zero_le _, Nat.zero_le _⟩ dX0_run_24 ?_
      refine mj_istore C dX0_run_27 (by decide) ?_
      refine mj_aload_n C dX0_run_29 rfl ?_
      refine mj_iload C dX0_run_30 rfl ?_
      obtain ⟨r5, hq5, hF⟩ := mj_ob hF
      refine mj_callVv C (c_X0_note σ r4 r5 hq5) yv_X0_note kl_X0_60 (mo_50 G _) rfl rfl rfl rfl (Nat.le_of_ble_eq_true rfl) (mj_roomR (by decide) (by decide)) ⟨Nat.zero_le _, Nat.zero_le _⟩ dX0_run_32 ?_
      refine mj_aload_n C dX0_run_35 rfl ?_
      refine mj_iload C dX0_run_36 rfl ?_
      refine mj_st_ABOVE C dX0_run_38 ?_
      refine mj_iload C dX0_run_41 rfl ?_
      obtain ⟨hg6, hF⟩ := mj_og hF
      refine mj_sa_ABOVE C hg6 dX0_run_43 ?_
      refine mj_iload_n C dX0_run_44 rfl ?_
      refine mj_iload C dX0_run_45 rfl ?_
      refine mj_iconstV (v := 1) C dX0_run_47 mc_i_1 ?_
      refine mj_iadd C dX0_run_48 ?_
      obtain ⟨r7, hq7, hF⟩ := mj_ob hF
      refine mj_callVi C (hr1 r4 (mj_above r1.toNatClampNeg) p3 (p4 + 1) r5 r7 hq7) yv_X0_perform kl_X0_64 (mo_50 G _) rfl rfl rfl rfl (Nat.le_of_ble_eq_true rfl) (mj_roomK (by decide)) ⟨Nat.zero_le _, Nat.zero_le _⟩ dX0_run_49 ?_
      have hF := mj_oi hF; subst hF
      exact mj_iret C hr hlk dX0_run_52
    · refine mj_iconstV (v := 0) C dX0_run_19 mc_i_0 ?_
      have hF := mj_oi hF; subst hF
      exact mj_iret C hr hlk dX0_run_20
set_option maxRecDepth 100000 in
set_option maxHeartbeats 4000000 in
theorem cF_X0_perform {G : mj_G} {l : Launch} {k : Nat} {rec : Nat → Int32 → Int32 → Int32 → Int32 → mj_S → Option (Int32 × mj_S)} (hr0 : ∀ (x0 x1 x2 x3 : Int32) (σ : mj_S) (R : (Int32 × mj_S)), rec 0 x0 x1 x2 x3 σ = some R → mj_C G l yX0_run cX0_run 7 (some .int) (4 + k) [.ref (G.2.1 50), .int x0, .int x1, .int x2, .int x3] σ (some (.int R.1)) R.2) (hr1 : ∀ (x0 x1 x2 x3 : Int32) (σ : mj_S) (R : (Int32 × mj_S)), rec 1 x0 x1 x2 x3 σ = some R → mj_C G l yX0_perform cX0_perform 5 (some .int) (4 + k) [.ref (G.2.1 50), .int x0, .int x1, .int x2, .int x3] σ (some (.int R.1)) R.2) (σ : mj_S) (p1 : Int32) (p2 : Int32) (p3 : Int32) (p4 : Int32) (R : (Int32 × mj_S)) (hF : F_X0_perform rec σ p1 p2 p3 p4 = some R) : mj_C G l yX0_perform cX0_perform 5 (some .int) (4 + (k + 1)) [.ref (G.2.1 50), .int p1, .int p2, .int p3, .int p4] σ (some (.int R.1)) R.2 := by
  unfold F_X0_perform at hF
  refine mj_of (ls := [(0, .ref (G.2.1 50)), (1, .int p1), (2, .int p2), (3, .int p3), (4, .int p4)]) (by decide) (Nat.le_of_ble_eq_true rfl) rfl (fun p e s m args below meth c C hr hlk => ?_)
  refine mj_iload_n C dX0_perform_0 rfl ?_
  by_cases hw1_0 : p1 = 1
  · rw [if_pos hw1_0] at hF
    refine mj_lsw (off := 115) C dX0_perform_1 rfl (by rw [hw1_0]; rfl) rfl ?_
    refine mj_iload_n C dX0_perform_116 rfl ?_
    refine mj_aload_n C dX0_perform_117 rfl ?_
    refine mg_X0_25 C dX0_perform_118 ?_
    refine mj_iadd C dX0_perform_121 ?_
    have hF := mj_oi hF; subst hF
    exact mj_iret C hr hlk dX0_perform_122
  rw [if_neg hw1_0] at hF
  by_cases hw1_1 : p1 = 2
  · rw [if_pos hw1_1] at hF
    refine mj_lsw (off := 122) C dX0_perform_1 rfl (by rw [hw1_1]; rfl) rfl ?_
    refine mj_aload_n C dX0_perform_123 rfl ?_
    refine mj_iconstV (v := 1) C dX0_perform_124 mc_i_1 ?_
    refine mj_aload_n C dX0_perform_125 rfl ?_
    refine mg_X0_28 C dX0_perform_126 ?_
    refine mj_iload_n C dX0_perform_129 rfl ?_
    refine mj_iload C dX0_perform_130 rfl ?_
    obtain ⟨r2, hq2, hF⟩ := mj_ob hF
    refine mj_callVi C (hr0 1 (σ.1 50 5) p3 p4 σ r2 hq2) yv_X0_run kl_X0_49 (mo_50 G _) rfl rfl rfl rfl (Nat.le_of_ble_eq_true rfl) (mj_roomK (by decide)) ⟨Nat.zero_le _, Nat.zero_le _⟩ dX0_perform_132 ?_
    refine mj_aload_n C dX0_perform_135 rfl ?_
    refine mj_iconstV (v := 2) C dX0_perform_136 mc_i_2 ?_
    refine mj_aload_n C dX0_perform_137 rfl ?_
    refine mg_X0_28 C dX0_perform_138 ?_
    refine mj_iconstV (v := 1) C dX0_perform_141 mc_i_1 ?_
    refine mj_iload C dX0_perform_142 rfl ?_
    obtain ⟨r3, hq3, hF⟩ := mj_ob hF
    refine mj_callVi C (hr0 2 (r2.2.1 50 5) 1 p4 r2.2 r3 hq3) yv_X0_run kl_X0_49 (mo_50 G _) rfl rfl rfl rfl (Nat.le_of_ble_eq_true rfl) (mj_roomK (by decide)) ⟨Nat.zero_le _, Nat.zero_le _⟩ dX0_perform_144 ?_
    refine mj_isub C dX0_perform_147 ?_
    have hF := mj_oi hF; subst hF
    exact mj_iret C hr hlk dX0_perform_148
  rw [if_neg hw1_1] at hF
  by_cases hw1_2 : p1 = 10
  · rw [if_pos hw1_2] at hF
    refine mj_lsw (off := 148) C dX0_perform_1 rfl (by rw [hw1_2]; rfl) rfl ?_
    refine mj_aload_n C dX0_perform_149 rfl ?_
    refine mj_iconstV (v := 0) C dX0_perform_150 mc_i_0 ?_
    refine mj_aload_n C dX0_perform_151 rfl ?_
    refine mg_X0_28 C dX0_perform_152 ?_
    refine mj_iload_n C dX0_perform_155 rfl ?_
    refine mj_iload C dX0_perform_156 rfl ?_
    obtain ⟨r4, hq4, hF⟩ := mj_ob hF
    refine mj_callVi C (hr0 0 (σ.1 50 5) p3 p4 σ r4 hq4) yv_X0_run kl_X0_49 (mo_50 G _) rfl rfl rfl rfl (Nat.le_of_ble_eq_true rfl) (mj_roomK (by decide)) ⟨Nat.zero_le _, Nat.zero_le _⟩ dX0_perform_158 ?_
    refine mj_iconstV (v := 2) C dX0_perform_161 mc_i_2 ?_
    refine mj_imul C dX0_perform_162 ?_
    have hF := mj_oi hF; subst hF
    exact mj_iret C hr hlk dX0_perform_163
  rw [if_neg hw1_2] at hF
  by_cases hw1_3 : p1 = 11
  · rw [if_pos hw1_3] at hF
    refine mj_lsw (off := 163) C dX0_perform_1 rfl (by rw [hw1_3]; rfl) rfl ?_
    refine mj_iload_n C dX0_perform_164 rfl ?_
    refine mj_aload_n C dX0_perform_165 rfl ?_
    refine mg_X0_25 C dX0_perform_166 ?_
    refine mj_ixor C dX0_perform_169 ?_
    have hF := mj_oi hF; subst hF
    exact mj_iret C hr hlk dX0_perform_170
  rw [if_neg hw1_3] at hF
  by_cases hw1_4 : p1 = 20
  · rw [if_pos hw1_4] at hF
    refine mj_lsw (off := 170) C dX0_perform_1 rfl (by rw [hw1_4]; rfl) rfl ?_
    refine mj_aload_n C dX0_perform_171 rfl ?_
    refine mj_iconstV (v := 0) C dX0_perform_172 mc_i_0 ?_
    refine mj_iload_n C dX0_perform_173 rfl ?_
    refine mj_iload_n C dX0_perform_174 rfl ?_
    refine mj_iload C dX0_perform_175 rfl ?_
    obtain ⟨r5, hq5, hF⟩ := mj_ob hF
    refine mj_callVi C (hr0 0 p2 p3 p4 σ r5 hq5) yv_X0_run kl_X0_49 (mo_50 G _) rfl rfl rfl rfl (Nat.le_of_ble_eq_true rfl) (mj_roomK (by decide)) ⟨Nat.zero_le _, Nat.zero_le _⟩ dX0_perform_177 ?_
    refine mj_iconstV (v := 3) C dX0_perform_180 mc_i_3 ?_
    refine mj_iadd C dX0_perform_181 ?_
    have hF := mj_oi hF; subst hF
    exact mj_iret C hr hlk dX0_perform_182
  rw [if_neg hw1_4] at hF
  by_cases hw1_5 : p1 = 30
  · rw [if_pos hw1_5] at hF
    refine mj_lsw (off := 182) C dX0_perform_1 rfl (by rw [hw1_5]; rfl) rfl ?_
    refine mj_aload_n C dX0_perform_183 rfl ?_
    refine mj_iconstV (v := 1) C dX0_perform_184 mc_i_1 ?_
    refine mj_iload_n C dX0_perform_185 rfl ?_
    refine mj_iload_n C dX0_perform_186 rfl ?_
    refine mj_iload C dX0_perform_187 rfl ?_
    obtain ⟨r6, hq6, hF⟩ := mj_ob hF
    refine mj_callVi C (hr0 1 p2 p3 p4 σ r6 hq6) yv_X0_run kl_X0_49 (mo_50 G _) rfl rfl rfl rfl (Nat.le_of_ble_eq_true rfl) (mj_roomK (by decide)) ⟨Nat.zero_le _, Nat.zero_le _⟩ dX0_perform_189 ?_
    refine mj_ineg C dX0_perform_192 ?_
    have hF := mj_oi hF; subst hF
    exact mj_iret C hr hlk dX0_perform_193
  rw [if_neg hw1_5] at hF
  by_cases hw1_6 : p1 = 40
  · rw [if_pos hw1_6] at hF
    refine mj_lsw (off := 193) C dX0_perform_1 rfl (by rw [hw1_6]; rfl) rfl ?_
    refine mj_aload_n C dX0_perform_194 rfl ?_
    refine mj_iconstV (v := 2) C dX0_perform_195 mc_i_2 ?_
    refine mj_iload_n C dX0_perform_196 rfl ?_
    refine mj_iload_n C dX0_perform_197 rfl ?_
    refine mj_iload C dX0_perform_198 rfl ?_
    obtain ⟨r7, hq7, hF⟩ := mj_ob hF
    refine mj_callVi C (hr0 2 p2 p3 p4 σ r7 hq7) yv_X0_run kl_X0_49 (mo_50 G _) rfl rfl rfl rfl (Nat.le_of_ble_eq_true rfl) (mj_roomK (by decide)) ⟨Nat.zero_le _, Nat.zero_le _⟩ dX0_perform_200 ?_
    refine mj_iconstV (v := 3) C dX0_perform_203 mc_i_3 ?_
    refine mj_imul C dX0_perform_204 ?_
    have hF := mj_oi hF; subst hF
    exact mj_iret C hr hlk dX0_perform_205
  rw [if_neg hw1_6] at hF
  by_cases hw1_7 : p1 = 41
  · rw [if_pos hw1_7] at hF
    refine mj_lsw (off := 205) C dX0_perform_1 rfl (by rw [hw1_7]; rfl) rfl ?_
    refine mj_aload_n C dX0_perform_206 rfl ?_
    refine mj_iconstV (v := 1) C dX0_perform_207 mc_i_1 ?_
    refine mj_iload_n C dX0_perform_208 rfl ?_
    refine mj_iload_n C dX0_perform_209 rfl ?_
    refine mj_iconstV (v := 1) C dX0_perform_210 mc_i_1 ?_
    refine mj_iadd C dX0_perform_211 ?_
    refine mj_iload C dX0_perform_212 rfl ?_
    obtain ⟨r8, hq8, hF⟩ := mj_ob hF
    refine mj_callVi C (hr0 1 p2 (p3 + 1) p4 σ r8 hq8) yv_X0_run kl_X0_49 (mo_50 G _) rfl rfl rfl rfl (Nat.le_of_ble_eq_true rfl) (mj_roomK (by decide)) ⟨Nat.zero_le _, Nat.zero_le _⟩ dX0_perform_214 ?_
    have hF := mj_oi hF; subst hF
    exact mj_iret C hr hlk dX0_perform_217
  rw [if_neg hw1_7] at hF
  by_cases hw1_8 : p1 = 50
  · rw [if_pos hw1_8] at hF
    refine mj_lsw (off := 217) C dX0_perform_1 rfl (by rw [hw1_8]; rfl) rfl ?_
    refine mj_aload_n C dX0_perform_218 rfl ?_
    refine mj_iconstV (v := 2) C dX0_perform_219 mc_i_2 ?_
    refine mj_iload_n C dX0_perform_220 rfl ?_
    refine mj_iload_n C dX0_perform_221 rfl ?_
    refine mj_iload C dX0_perform_222 rfl ?_
    obtain ⟨r9, hq9, hF⟩ := mj_ob hF
    refine mj_callVi C (hr0 2 p2 p3 p4 σ r9 hq9) yv_X0_run kl_X0_49 (mo_50 G _) rfl rfl rfl rfl (Nat.le_of_ble_eq_true rfl) (mj_roomK (by decide)) ⟨Nat.zero_le _, Nat.zero_le _⟩ dX0_perform_224 ?_
    refine mj_aload_n C dX0_perform_227 rfl ?_
    refine mj_iconstV (v := 0) C dX0_perform_228 mc_i_0 ?_
    refine mj_aload_n C dX0_perform_229 rfl ?_
    refine mg_X0_28 C dX0_perform_230 ?_
    refine mj_iconstV (v := 2) C dX0_perform_233 mc_i_2 ?_
    refine mj_iload C dX0_perform_234 rfl ?_
    obtain ⟨r10, hq10, hF⟩ := mj_ob hF
    refine mj_callVi C (hr0 0 (r9.2.1 50 5) 2 p4 r9.2 r10 hq10) yv_X0_run kl_X0_49 (mo_50 G _) rfl rfl rfl rfl (Nat.le_of_ble_eq_true rfl) (mj_roomK (by decide)) ⟨Nat.zero_le _, Nat.zero_le _⟩ dX0_perform_236 ?_
    refine mj_isub C dX0_perform_239 ?_
    have hF := mj_oi hF; subst hF
    exact mj_iret C hr hlk dX0_perform_240
  rw [if_neg hw1_8] at hF
  by_cases hw1_9 : p1 = 60
  · rw [if_pos hw1_9] at hF
    refine mj_lsw (off := 240) C dX0_perform_1 rfl (by rw [hw1_9]; rfl) rfl ?_
    refine mj_aload_n C dX0_perform_241 rfl ?_
    refine mj_iconstV (v := 3) C dX0_perform_242 mc_i_3 ?_
    refine mj_iload_n C dX0_perform_243 rfl ?_
    refine mj_iload_n C dX0_perform_244 rfl ?_
    refine mj_iload C dX0_perform_245 rfl ?_
    obtain ⟨r11, hq11, hF⟩ := mj_ob hF
    refine mj_callVi C (hr0 3 p2 p3 p4 σ r11 hq11) yv_X0_run kl_X0_49 (mo_50 G _) rfl rfl rfl rfl (Nat.le_of_ble_eq_true rfl) (mj_roomK (by decide)) ⟨Nat.zero_le _, Nat.zero_le _⟩ dX0_perform_247 ?_
    refine mj_iconstV (v := 5) C dX0_perform_250 mc_i_5 ?_
    refine mj_ixor C dX0_perform_251 ?_
    have hF := mj_oi hF; subst hF
    exact mj_iret C hr hlk dX0_perform_252
  rw [if_neg hw1_9] at hF
  by_cases hw1_10 : p1 = 70
  · rw [if_pos hw1_10] at hF
    refine mj_lsw (off := 252) C dX0_perform_1 rfl (by rw [hw1_10]; rfl) rfl ?_
    refine mj_aload_n C dX0_perform_253 rfl ?_
    refine mj_iconstV (v := 0) C dX0_perform_254 mc_i_0 ?_
    refine mj_iload_n C dX0_perform_255 rfl ?_
    refine mj_iload_n C dX0_perform_256 rfl ?_
    refine mj_iload C dX0_perform_257 rfl ?_
    obtain ⟨r12, hq12, hF⟩ := mj_ob hF
    refine mj_callVi C (hr0 0 p2 p3 p4 σ r12 hq12) yv_X0_run kl_X0_49 (mo_50 G _) rfl rfl rfl rfl (Nat.le_of_ble_eq_true rfl) (mj_roomK (by decide)) ⟨Nat.zero_le _, Nat.zero_le _⟩ dX0_perform_259 ?_
    refine mj_iconstV (v := 2) C dX0_perform_262 mc_i_2 ?_
    refine mj_imul C dX0_perform_263 ?_
    have hF := mj_oi hF; subst hF
    exact mj_iret C hr hlk dX0_perform_264
  rw [if_neg hw1_10] at hF
  by_cases hw1_11 : p1 = 80
  · rw [if_pos hw1_11] at hF
    refine mj_lsw (off := 264) C dX0_perform_1 rfl (by rw [hw1_11]; rfl) rfl ?_
    refine mj_aload_n C dX0_perform_265 rfl ?_
    refine mj_iconstV (v := 1) C dX0_perform_266 mc_i_1 ?_
    refine mj_iload_n C dX0_perform_267 rfl ?_
    refine mj_iload_n C dX0_perform_268 rfl ?_
    refine mj_iload C dX0_perform_269 rfl ?_
    obtain ⟨r13, hq13, hF⟩ := mj_ob hF
    refine mj_callVi C (hr0 1 p2 p3 p4 σ r13 hq13) yv_X0_run kl_X0_49 (mo_50 G _) rfl rfl rfl rfl (Nat.le_of_ble_eq_true rfl) (mj_roomK (by decide)) ⟨Nat.zero_le _, Nat.zero_le _⟩ dX0_perform_271 ?_
    refine mj_aload_n C dX0_perform_274 rfl ?_
    refine mj_iconstV (v := 2) C dX0_perform_275 mc_i_2 ?_
    refine mj_aload_n C dX0_perform_276 rfl ?_
    refine mg_X0_28 C dX0_perform_277 ?_
    refine mj_iconstV (v := 2) C dX0_perform_280 mc_i_2 ?_
    refine mj_iload C dX0_perform_281 rfl ?_
    obtain ⟨r14, hq14, hF⟩ := mj_ob hF
    refine mj_callVi C (hr0 2 (r13.2.1 50 5) 2 p4 r13.2 r14 hq14) yv_X0_run kl_X0_49 (mo_50 G _) rfl rfl rfl rfl (Nat.le_of_ble_eq_true rfl) (mj_roomK (by decide)) ⟨Nat.zero_le _, Nat.zero_le _⟩ dX0_perform_283 ?_
    refine mj_iadd C dX0_perform_286 ?_
    have hF := mj_oi hF; subst hF
    exact mj_iret C hr hlk dX0_perform_287
  rw [if_neg hw1_11] at hF
  by_cases hw1_12 : p1 = 81
  · rw [if_pos hw1_12] at hF
    refine mj_lsw (off := 287) C dX0_perform_1 rfl (by rw [hw1_12]; rfl) rfl ?_
    refine mj_aload_n C dX0_perform_288 rfl ?_
    refine mj_iconstV (v := 3) C dX0_perform_289 mc_i_3 ?_
    refine mj_iload_n C dX0_perform_290 rfl ?_
    refine mj_iload_n C dX0_perform_291 rfl ?_
    refine mj_iload C dX0_perform_292 rfl ?_
    obtain ⟨r15, hq15, hF⟩ := mj_ob hF
    refine mj_callVi C (hr0 3 p2 p3 p4 σ r15 hq15) yv_X0_run kl_X0_49 (mo_50 G _) rfl rfl rfl rfl (Nat.le_of_ble_eq_true rfl) (mj_roomK (by decide)) ⟨Nat.zero_le _, Nat.zero_le _⟩ dX0_perform_294 ?_
    refine mj_iconstV (v := 1) C dX0_perform_297 mc_i_1 ?_
    refine mj_isub C dX0_perform_298 ?_
    have hF := mj_oi hF; subst hF
    exact mj_iret C hr hlk dX0_perform_299
  rw [if_neg hw1_12] at hF
  refine mj_lsw (off := 299) C dX0_perform_1 rfl (by refine (lv_osw hw1_0 rfl).trans ?_; refine (lv_osw hw1_1 rfl).trans ?_; refine (lv_osw hw1_2 rfl).trans ?_; refine (lv_osw hw1_3 rfl).trans ?_; refine (lv_osw hw1_4 rfl).trans ?_; refine (lv_osw hw1_5 rfl).trans ?_; refine (lv_osw hw1_6 rfl).trans ?_; refine (lv_osw hw1_7 rfl).trans ?_; refine (lv_osw hw1_8 rfl).trans ?_; refine (lv_osw hw1_9 rfl).trans ?_; refine (lv_osw hw1_10 rfl).trans ?_; refine (lv_osw hw1_11 rfl).trans ?_; refine (lv_osw hw1_12 rfl).trans ?_; rfl) rfl ?_
  refine mj_iconstV (v := 0) C dX0_perform_300 mc_i_0 ?_
  have hF := mj_oi hF; subst hF
  exact mj_iret C hr hlk dX0_perform_301
theorem cr_X0_run {G : mj_G} {l : Launch} : ∀ k : Nat, (∀ (x0 x1 x2 x3 : Int32) (σ : mj_S) (R : (Int32 × mj_S)), rc_X0_run k 0 x0 x1 x2 x3 σ = some R → mj_C G l yX0_run cX0_run 7 (some .int) (4 + k) [.ref (G.2.1 50), .int x0, .int x1, .int x2, .int x3] σ (some (.int R.1)) R.2) ∧ (∀ (x0 x1 x2 x3 : Int32) (σ : mj_S) (R : (Int32 × mj_S)), rc_X0_run k 1 x0 x1 x2 x3 σ = some R → mj_C G l yX0_perform cX0_perform 5 (some .int) (4 + k) [.ref (G.2.1 50), .int x0, .int x1, .int x2, .int x3] σ (some (.int R.1)) R.2) := by
  intro k
  induction k with
  | zero =>
    refine ⟨?_, ?_⟩ <;> (intros; rename_i h; cases h)
  | succ k ih =>
    exact ⟨fun x0 x1 x2 x3 σ R h => cF_X0_run (ih.1) (ih.2) σ x0 x1 x2 x3 R (by rw [rc_X0_run] at h; exact h),
      fun x0 x1 x2 x3 σ R h => cF_X0_perform (ih.1) (ih.2) σ x0 x1 x2 x3 R (by rw [rc_X0_run] at h; exact h)⟩
theorem c_X0_run {G : mj_G} {l : Launch} (σ : mj_S) (p1 : Int32) (p2 : Int32) (p3 : Int32) (p4 : Int32) (R : (Int32 × mj_S)) (hF : f_X0_run σ p1 p2 p3 p4 = some R) : mj_C G l yX0_run cX0_run 7 (some .int) 104 [.ref (G.2.1 50), .int p1, .int p2, .int p3, .int p4] σ (some (.int R.1)) R.2 := (cr_X0_run 100).1 p1 p2 p3 p4 σ R hF
theorem c_X0_perform {G : mj_G} {l : Launch} (σ : mj_S) (p1 : Int32) (p2 : Int32) (p3 : Int32) (p4 : Int32) (R : (Int32 × mj_S)) (hF : f_X0_perform σ p1 p2 p3 p4 = some R) : mj_C G l yX0_perform cX0_perform 5 (some .int) 104 [.ref (G.2.1 50), .int p1, .int p2, .int p3, .int p4] σ (some (.int R.1)) R.2 := (cr_X0_run 100).2 p1 p2 p3 p4 σ R hF
set_option maxRecDepth 100000 in
set_option maxHeartbeats 4000000 in
theorem c_X0_start {G : mj_G} {l : Launch} (σ : mj_S) (p1 : Int32) (p2 : Int32) (p3 : Int32) (R : (Int32 × mj_S)) (hF : f_X0_start σ p1 p2 p3 = some R) : mj_C G l yX0_start cX0_start 4 (some .int) 105 [.ref (G.2.1 50), .int p1, .int p2, .int p3] σ (some (.int R.1)) R.2 := by
  unfold f_X0_start at hF
  refine mj_of (ls := [(0, .ref (G.2.1 50)), (1, .int p1), (2, .int p2), (3, .int p3)]) (by decide) (Nat.le_of_ble_eq_true rfl) rfl (fun p e s m args below meth c C hr hlk => ?_)
  refine mj_aload_n C dX0_start_0 rfl ?_
  refine mj_iconstV (v := 0) C dX0_start_1 mc_i_0 ?_
  refine mp_X0_22 C dX0_start_2 ?_
  refine mj_aload_n C dX0_start_5 rfl ?_
  refine mj_iload_n C dX0_start_6 rfl ?_
  refine mj_callVi C (c_X0_has (mj_sI σ 50 3 0) p1) yv_X0_has kl_X0_42 (mo_50 G _) rfl rfl rfl rfl (Nat.le_of_ble_eq_true rfl) (mj_roomC (by decide) (by decide)) ⟨Nat.zero_le _, Nat.zero_le _⟩ dX0_start_7 ?_
  refine mj_if_eq C dX0_start_10 rfl hF (fun hc1 hF => ?_) (fun hc1 hF => ?_)
  · refine mj_iconstV (v := 0) C dX0_start_22 mc_i_0 ?_
    have hF := mj_oi hF; subst hF
    exact mj_iret C hr hlk dX0_start_23
  · refine mj_iload_n C dX0_start_13 rfl ?_
    refine mj_iconstV (v := 0) C dX0_start_14 mc_i_0 ?_
    refine mj_iconstV (v := 3) C dX0_start_15 mc_i_3 ?_
    refine mj_callNi C (c_X9_within (mj_sI σ 50 3 0) p2 0 3) ys_X9_within kn_X0_31 rfl rfl (Nat.le_of_ble_eq_true rfl) (mj_roomC (by decide) (by decide)) ⟨Nat.zero_le _, Nat.zero_le _⟩ dX0_start_16 ?_
    refine mj_if_ne C dX0_start_19 rfl hF (fun hc2 hF => ?_) (fun hc2 hF => ?_)
    · refine mj_aload_n C dX0_start_24 rfl ?_
      refine mj_iload_n C dX0_start_25 rfl ?_
      refine mp_X0_25 C dX0_start_26 ?_
      refine mj_aload_n C dX0_start_29 rfl ?_
      refine mj_aload_n C dX0_start_30 rfl ?_
      refine mj_iload_n C dX0_start_31 rfl ?_
      obtain ⟨r3, hq3, hF⟩ := mj_ob hF
      refine mj_callVi C (c_X0_kindOf (mj_sI (mj_sI σ 50 3 0) 50 4 p1) p1 r3 hq3) yv_X0_kindOf kl_X0_45 (mo_50 G _) rfl rfl rfl rfl (Nat.le_of_ble_eq_true rfl) (mj_roomC (by decide) (by decide)) ⟨Nat.zero_le _, Nat.zero_le _⟩ dX0_start_32 ?_
      refine mp_X0_28 C dX0_start_35 ?_
      refine mj_aload_n C dX0_start_38 rfl ?_
      refine mj_iload_n C dX0_start_39 rfl ?_
      refine mj_aload_n C dX0_start_40 rfl ?_
      refine mg_X0_28 C dX0_start_41 ?_
      refine mj_iload_n C dX0_start_44 rfl ?_
      refine mj_iconstV (v := 0) C dX0_start_45 mc_i_0 ?_
      obtain ⟨r4, hq4, hF⟩ := mj_ob hF
      refine mj_callVi C (c_X0_run (mj_sI (mj_sI (mj_sI σ 50 3 0) 50 4 p1) 50 5 r3) p2 r3 p3 0 r4 hq4) yv_X0_run kl_X0_49 (mo_50 G _) rfl rfl rfl rfl (Nat.le_of_ble_eq_true rfl) (mj_roomC (by decide) (by decide)) ⟨Nat.zero_le _, Nat.zero_le _⟩ dX0_start_46 ?_
      have hF := mj_oi hF; subst hF
      exact mj_iret C hr hlk dX0_start_49
    · refine mj_iconstV (v := 0) C dX0_start_22 mc_i_0 ?_
      have hF := mj_oi hF; subst hF
      exact mj_iret C hr hlk dX0_start_23
set_option maxRecDepth 100000 in
set_option maxHeartbeats 4000000 in
theorem c_X9_body {G : mj_G} {l : Launch} (σ : mj_S) (p1 : Int32) (R : (Int32 × mj_S)) (hF : f_X9_body σ p1 = some R) : mj_C G l yX9_body cX9_body 2 (some .int) 3 [.ref (G.2.1 0), .int p1] σ (some (.int R.1)) R.2 := by
  unfold f_X9_body at hF
  refine mj_of (ls := [(0, .ref (G.2.1 0)), (1, .int p1)]) (by decide) (Nat.le_of_ble_eq_true rfl) rfl (fun p e s m args below meth c C hr hlk => ?_)
  refine mj_iload_n C dX9_body_0 rfl ?_
  refine mj_callSi C (c_X0_isKind σ p1) ys_X0_isKind kl_X9_284 rfl rfl (Nat.le_of_ble_eq_true rfl) (mj_roomC (by decide) (by decide)) ⟨Nat.zero_le _, Nat.zero_le _⟩ dX9_body_1 ?_
  refine mj_if_ne C dX9_body_4 rfl hF (fun hc1 hF => ?_) (fun hc1 hF => ?_)
  · refine mj_aload_n C dX9_body_9 rfl ?_
    refine mg_X9_67 C dX9_body_10 ?_
    refine mj_callVi C (c_X0_size σ) yv_X0_size kl_X9_287 (mo_50 G _) rfl rfl rfl rfl (Nat.le_of_ble_eq_true rfl) (mj_roomC (by decide) (by decide)) ⟨Nat.zero_le _, Nat.zero_le _⟩ dX9_body_13 ?_
    refine mj_bipushV (v := 50) C dX9_body_16 mc_b_50 ?_
    refine mj_ic_ge C dX9_body_18 rfl hF (fun hc2 hF => ?_) (fun hc2 hF => ?_)
    · refine mj_bipushV (v := (-3)) C dX9_body_32 mc_b_m3 ?_
      have hF := mj_oi hF; subst hF
      exact mj_iret C hr hlk dX9_body_34
    · refine mj_aload_n C dX9_body_21 rfl ?_
      refine mg_X9_67 C dX9_body_22 ?_
      refine mj_iload_n C dX9_body_25 rfl ?_
      obtain ⟨r3, hq3, hF⟩ := mj_ob hF
      refine mj_callVi C (c_X0_add σ p1 r3 hq3) yv_X0_add kl_X9_288 (mo_50 G _) rfl rfl rfl rfl (Nat.le_of_ble_eq_true rfl) (mj_roomC (by decide) (by decide)) ⟨Nat.zero_le _, Nat.zero_le _⟩ dX9_body_26 ?_
      refine mj_goto C dX9_body_29 rfl ?_
      have hF := mj_oi hF; subst hF
      exact mj_iret C hr hlk dX9_body_34
  · refine mj_iconstV (v := (-1)) C dX9_body_7 mc_i_m1 ?_
    have hF := mj_oi hF; subst hF
    exact mj_iret C hr hlk dX9_body_8
set_option maxRecDepth 100000 in
set_option maxHeartbeats 4000000 in
theorem c_X9_act {G : mj_G} {l : Launch} (σ : mj_S) (p1 : Int32) (p2 : Int32) (p3 : Int32) (R : (Int32 × mj_S)) (hF : f_X9_act σ p1 p2 p3 = some R) : mj_C G l yX9_act cX9_act 4 (some .int) 106 [.ref (G.2.1 0), .int p1, .int p2, .int p3] σ (some (.int R.1)) R.2 := by
  unfold f_X9_act at hF
  refine mj_of (ls := [(0, .ref (G.2.1 0)), (1, .int p1), (2, .int p2), (3, .int p3)]) (by decide) (Nat.le_of_ble_eq_true rfl) rfl (fun p e s m args below meth c C hr hlk => ?_)
  refine mj_aload_n C dX9_act_0 rfl ?_
  refine mg_X9_67 C dX9_act_1 ?_
  refine mj_iload_n C dX9_act_4 rfl ?_
  refine mj_iload_n C dX9_act_5 rfl ?_
  refine mj_iload_n C dX9_act_6 rfl ?_
  obtain ⟨r1, hq1, hF⟩ := mj_ob hF
  refine mj_callVi C (c_X0_start σ p1 p2 p3 r1 hq1) yv_X0_start kl_X9_290 (mo_50 G _) rfl rfl rfl rfl (Nat.le_of_ble_eq_true rfl) (mj_roomC (by decide) (by decide)) ⟨Nat.zero_le _, Nat.zero_le _⟩ dX9_act_7 ?_
  have hF := mj_oi hF; subst hF
  exact mj_iret C hr hlk dX9_act_10
set_option maxRecDepth 100000 in
set_option maxHeartbeats 4000000 in
theorem c_X9_taken {G : mj_G} {l : Launch} (σ : mj_S) (p1 : Int32) (p2 : Int32) (R : Int32) (hF : f_X9_taken σ p1 p2 = some R) : mj_C G l yX9_taken cX9_taken 4 (some .int) 4 [.ref (G.2.1 0), .int p1, .int p2] σ (some (.int R)) σ := by
  unfold f_X9_taken at hF
  refine mj_of (ls := [(0, .ref (G.2.1 0)), (1, .int p1), (2, .int p2)]) (by decide) (Nat.le_of_ble_eq_true rfl) rfl (fun p e s m args below meth c C hr hlk => ?_)
  refine mj_aload_n C dX9_taken_0 rfl ?_
  refine mg_X9_74 C dX9_taken_1 ?_
  refine mj_iload_n C dX9_taken_4 rfl ?_
  refine mj_callVi C (c_X8_has σ p1) yv_X8_has kl_X9_150 (mo_53 G _) rfl rfl rfl rfl (Nat.le_of_ble_eq_true rfl) (mj_roomC (by decide) (by decide)) ⟨Nat.zero_le _, Nat.zero_le _⟩ dX9_taken_5 ?_
  refine mj_if_eq C dX9_taken_8 rfl hF (fun hc1 hF => ?_) (fun hc1 hF => ?_)
  · refine mj_iconstV (v := (-1)) C dX9_taken_18 mc_i_m1 ?_
    have hF := mj_oi hF; subst hF
    exact mj_iret C hr hlk dX9_taken_19
  · refine mj_iload_n C dX9_taken_11 rfl ?_
    refine mj_callSi C (c_X0_isKind σ p2) ys_X0_isKind kl_X9_284 rfl rfl (Nat.le_of_ble_eq_true rfl) (mj_roomC (by decide) (by decide)) ⟨Nat.zero_le _, Nat.zero_le _⟩ dX9_taken_12 ?_
    refine mj_if_ne C dX9_taken_15 rfl hF (fun hc2 hF => ?_) (fun hc2 hF => ?_)
    · refine mj_aload_n C dX9_taken_20 rfl ?_
      refine mg_X9_74 C dX9_taken_21 ?_
      refine mj_iload_n C dX9_taken_24 rfl ?_
      obtain ⟨r3, hq3, hF⟩ := mj_ob hF
      refine mj_callVi C (c_X8_holdsNothing σ p1 r3 hq3) yv_X8_holdsNothing kl_X9_151 (mo_53 G _) rfl rfl rfl rfl (Nat.le_of_ble_eq_true rfl) (mj_roomC (by decide) (by decide)) ⟨Nat.zero_le _, Nat.zero_le _⟩ dX9_taken_25 ?_
      refine mj_if_eq C dX9_taken_28 rfl hF (fun hc4 hF => ?_) (fun hc4 hF => ?_)
      · refine mj_aload_n C dX9_taken_34 rfl ?_
        refine mg_X9_74 C dX9_taken_35 ?_
        refine mj_iload_n C dX9_taken_38 rfl ?_
        obtain ⟨r5, hq5, hF⟩ := mj_ob hF
        refine mj_callVi C (c_X8_holdsRow σ p1 r5 hq5) yv_X8_holdsRow kl_X9_323 (mo_53 G _) rfl rfl rfl rfl (Nat.le_of_ble_eq_true rfl) (mj_roomC (by decide) (by decide)) ⟨Nat.zero_le _, Nat.zero_le _⟩ dX9_taken_39 ?_
        refine mj_if_eq C dX9_taken_42 rfl hF (fun hc6 hF => ?_) (fun hc6 hF => ?_)
        · refine mj_aload_n C dX9_taken_48 rfl ?_
          refine mg_X9_67 C dX9_taken_49 ?_
          refine mj_aload_n C dX9_taken_52 rfl ?_
          refine mg_X9_74 C dX9_taken_53 ?_
          refine mj_iload_n C dX9_taken_56 rfl ?_
          obtain ⟨r7, hq7, hF⟩ := mj_ob hF
          refine mj_callVi C (c_X8_bodyOn σ p1 r7 hq7) yv_X8_bodyOn kl_X9_336 (mo_53 G _) rfl rfl rfl rfl (Nat.le_of_ble_eq_true rfl) (mj_roomC (by decide) (by decide)) ⟨Nat.zero_le _, Nat.zero_le _⟩ dX9_taken_57 ?_
          obtain ⟨r8, hq8, hF⟩ := mj_ob hF
          refine mj_callVi C (c_X0_kindOf σ r7 r8 hq8) yv_X0_kindOf kl_X9_339 (mo_50 G _) rfl rfl rfl rfl (Nat.le_of_ble_eq_true rfl) (mj_roomC (by decide) (by decide)) ⟨Nat.zero_le _, Nat.zero_le _⟩ dX9_taken_60 ?_
          refine mj_istore_n C dX9_taken_63 (by decide) ?_
          refine mj_iload_n C dX9_taken_64 rfl ?_
          refine mj_iload_n C dX9_taken_65 rfl ?_
          obtain ⟨r9, hq9, hF⟩ := mj_ob hF
          refine mj_callSi C (c_X0_isUnder σ r8 p2 r9 hq9) ys_X0_isUnder kl_X9_342 rfl rfl (Nat.le_of_ble_eq_true rfl) (mj_roomC (by decide) (by decide)) ⟨Nat.zero_le _, Nat.zero_le _⟩ dX9_taken_66 ?_
          refine mj_if_eq C dX9_taken_69 rfl hF (fun hc10 hF => ?_) (fun hc10 hF => ?_)
          · refine mj_bipushV (v := (-12)) C dX9_taken_76 mc_b_m12 ?_
            have hF := mj_oi hF; subst hF
            exact mj_iret C hr hlk dX9_taken_78
          · refine mj_iload_n C dX9_taken_72 rfl ?_
            refine mj_goto C dX9_taken_73 rfl ?_
            have hF := mj_oi hF; subst hF
            exact mj_iret C hr hlk dX9_taken_78
        · refine mj_bipushV (v := (-12)) C dX9_taken_45 mc_b_m12 ?_
          have hF := mj_oi hF; subst hF
          exact mj_iret C hr hlk dX9_taken_47
      · refine mj_bipushV (v := (-11)) C dX9_taken_31 mc_b_m11 ?_
        have hF := mj_oi hF; subst hF
        exact mj_iret C hr hlk dX9_taken_33
    · refine mj_iconstV (v := (-1)) C dX9_taken_18 mc_i_m1 ?_
      have hF := mj_oi hF; subst hF
      exact mj_iret C hr hlk dX9_taken_19
set_option maxRecDepth 100000 in
set_option maxHeartbeats 4000000 in
theorem c_X7_giveTo {G : mj_G} {l : Launch} (σ : mj_S) (R : mj_S) (hF : f_X7_giveTo σ = some R) : mj_C G l yX7_giveTo cX7_giveTo 2 (none) 2 [.ref (G.2.1 5), .ref (G.2.1 1)] σ none R := by
  unfold f_X7_giveTo at hF
  refine mj_of (ls := [(0, .ref (G.2.1 5)), (1, .ref (G.2.1 1))]) (by decide) (Nat.le_of_ble_eq_true rfl) rfl (fun p e s m args below meth c C hr hlk => ?_)
  refine mj_aload_n C dX7_giveTo_0 rfl ?_
  refine mj_aload_n C dX7_giveTo_1 rfl ?_
  refine mg_X7_15 C dX7_giveTo_2 ?_
  refine mj_aload_n C dX7_giveTo_5 rfl ?_
  refine mg_X7_18 C dX7_giveTo_6 ?_
  refine mj_aload_n C dX7_giveTo_9 rfl ?_
  refine mg_X7_28 C dX7_giveTo_10 ?_
  obtain ⟨r1, hq1, hF⟩ := mj_ob hF
  refine mj_callVv C (c_X4_become σ 7 121 rfl 8 121 rfl (σ.1 5 5) r1 hq1) yv_X4_become kl_X7_31 (mo_1 G _) rfl rfl rfl rfl (Nat.le_of_ble_eq_true rfl) (mj_roomC (by decide) (by decide)) ⟨Nat.zero_le _, Nat.zero_le _⟩ dX7_giveTo_13 ?_
  have hF := mj_oi hF; subst hF
  exact mj_vret C hr hlk dX7_giveTo_16
set_option maxRecDepth 100000 in
set_option maxHeartbeats 4000000 in
theorem c_J0_indexOf_7cf53 {G : mj_G} {l : Launch} (σ : mj_S) (p1 : Int32) (p2 : Int32) (R : Int32) (hF : f_J0_indexOf_7cf53 σ p1 p2 = some R) : mj_C G l yJ0_indexOf_7cf53 cJ0_indexOf_7cf53 3 (some .int) 3 [.ref (G.2.1 1002), .int p1, .int p2] σ (some (.int R)) σ := by
  unfold f_J0_indexOf_7cf53 at hF
  refine mj_of (ls := [(0, .ref (G.2.1 1002)), (1, .int p1), (2, .int p2)]) (by decide) (Nat.le_of_ble_eq_true rfl) rfl (fun p e s m args below meth c C hr hlk => ?_)
  refine mj_aload_n C dJ0_indexOf_7cf53_0 rfl ?_
  refine mj_callTi C (c_J0_isLatin1_aae02 σ) yv_J0_isLatin1_aae02 kl_J0_492 rfl rfl rfl (Nat.le_of_ble_eq_true rfl) (mj_roomC (by decide) (by decide)) ⟨Nat.zero_le _, Nat.zero_le _⟩ dJ0_indexOf_7cf53_1 ?_
  refine mj_if_eq C dJ0_indexOf_7cf53_4 rfl ((ite_self _).trans hF) (fun hc hF => ?_) (fun hc hF => ?_)
  · exact absurd hc (show ¬ ((1 : Int32) = 0) by decide)
  · refine mj_aload_n C dJ0_indexOf_7cf53_7 rfl ?_
    refine mj_sv C dJ0_indexOf_7cf53_8 ?_
    refine mj_iload_n C dJ0_indexOf_7cf53_11 rfl ?_
    refine mj_iload_n C dJ0_indexOf_7cf53_12 rfl ?_
    refine mj_aload_n C dJ0_indexOf_7cf53_13 rfl ?_
    refine mj_callTi C (c_J0_length_8abf5 σ) yv_J0_length_8abf5 kl_J0_505 rfl rfl rfl (Nat.le_of_ble_eq_true rfl) (mj_roomC (by decide) (by decide)) ⟨Nat.zero_le _, Nat.zero_le _⟩ dJ0_indexOf_7cf53_14 ?_
    obtain ⟨r1, hq1, hF⟩ := mj_ob hF
    refine mj_callSi C (c_J1_indexOf_4cfef σ p1 p2 (f_J0_length_8abf5 σ) r1 hq1) ys_J1_indexOf_4cfef kl_J0_637 rfl rfl (Nat.le_of_ble_eq_true rfl) (mj_roomC (by decide) (by decide)) ⟨Nat.zero_le _, Nat.zero_le _⟩ dJ0_indexOf_7cf53_17 ?_
    refine mj_goto C dJ0_indexOf_7cf53_20 rfl ?_
    have hF := mj_oi hF; subst hF
    exact mj_iret C hr hlk dJ0_indexOf_7cf53_36
set_option maxRecDepth 100000 in
set_option maxHeartbeats 4000000 in
theorem c_J0_indexOf_0f7a4 {G : mj_G} {l : Launch} (σ : mj_S) (p1 : Int32) (R : Int32) (hF : f_J0_indexOf_0f7a4 σ p1 = some R) : mj_C G l yJ0_indexOf_0f7a4 cJ0_indexOf_0f7a4 2 (some .int) 4 [.ref (G.2.1 1002), .int p1] σ (some (.int R)) σ := by
  unfold f_J0_indexOf_0f7a4 at hF
  refine mj_of (ls := [(0, .ref (G.2.1 1002)), (1, .int p1)]) (by decide) (Nat.le_of_ble_eq_true rfl) rfl (fun p e s m args below meth c C hr hlk => ?_)
  refine mj_aload_n C dJ0_indexOf_0f7a4_0 rfl ?_
  refine mj_iload_n C dJ0_indexOf_0f7a4_1 rfl ?_
  refine mj_iconstV (v := 0) C dJ0_indexOf_0f7a4_2 mc_i_0 ?_
  obtain ⟨r1, hq1, hF⟩ := mj_ob hF
  refine mj_callTi C (c_J0_indexOf_7cf53 σ p1 0 r1 hq1) yv_J0_indexOf_7cf53 kl_J0_633 rfl rfl rfl (Nat.le_of_ble_eq_true rfl) (mj_roomC (by decide) (by decide)) ⟨Nat.zero_le _, Nat.zero_le _⟩ dJ0_indexOf_0f7a4_3 ?_
  have hF := mj_oi hF; subst hF
  exact mj_iret C hr hlk dJ0_indexOf_0f7a4_6
set_option maxRecDepth 100000 in
set_option maxHeartbeats 4000000 in
theorem w_X7_readJoined_23 {p : Program} {l : Launch} {e : Env} {s : State} {m : MethodId} {args : Array Value} {below : List Frame} {meth : Method} {c : Code} {G : mj_G} {k : Nat} {rec : Nat → Int32 → Int32 → mj_S → Option (Int32 × mj_S)} (C : mj_X p s m args meth c G cX7_readJoined 7 RX7) (hr : meth.sig.returnType = some .boolean) (hlk : meth.locks = false) (hr0 : ∀ (x0 x1 : Int32) (σ : mj_S) (R : (Int32 × mj_S)), rec 0 x0 x1 σ = some R → mj_C G l yX7_readJoined cX7_readJoined 7 (some .boolean) (5 + k) [.ref (G.2.1 5), .int x0, .int x1] σ (some (.int R.1)) R.2) (hr1 : ∀ (x0 x1 : Int32) (σ : mj_S) (R : (Int32 × mj_S)), rec 1 x0 x1 σ = some R → mj_C G l yX7_readTighter cX7_readTighter 3 (some .boolean) (5 + k) [.ref (G.2.1 5), .int x0, .int x1] σ (some (.int R.1)) R.2) (hr2 : ∀ (x0 x1 : Int32) (σ : mj_S) (R : (Int32 × mj_S)), rec 2 x0 x1 σ = some R → mj_C G l yX7_readOperand cX7_readOperand 4 (some .boolean) (5 + k) [.ref (G.2.1 5), .int x0] σ (some (.int R.1)) R.2) (hr3 : ∀ (x0 x1 : Int32) (σ : mj_S) (R : (Int32 × mj_S)), rec 3 x0 x1 σ = some R → mj_C G l yX7_readOpened cX7_readOpened 4 (some .boolean) (5 + k) [.ref (G.2.1 5), .int x0, .int x1] σ (some (.int R.1)) R.2) : ∀ (n : Nat) (v1 : Int32) (v2 : Int32) (v3 : Int32) (v4 : Int32) (v5 : Int32) (σ : mj_S) (R : (Int32 × mj_S)), b_X7_readJoined_23 rec n v1 v2 v3 v4 v5 σ = some R → mj_W p l e (mj_rm (5 + (k + 1))) s m args below meth c G 0 0 7 (MQ below (mj_Q G (some (.int R.1)) R.2) args s 0 0 G.2.2.2) 23 [(0, .ref (G.2.1 5)), (1, .int v1), (2, .int v2), (3, .int v3), (4, .int v4), (5, .int v5)] [] σ := by
  intro n
  induction n with
  | zero =>
    intro v1 v2 v3 v4 v5 σ R hF
    cases hF
  | succ n ih =>
    intro v1 v2 v3 v4 v5 σ R hF
    rw [b_X7_readJoined_23] at hF
    refine mj_iload C dX7_readJoined_23 rfl ?_
    refine mj_iload C dX7_readJoined_25 rfl ?_
    refine mj_ic_ge C dX7_readJoined_27 rfl hF (fun hc3 hF => ?_) (fun hc3 hF => ?_)
    · refine mj_iload_n C dX7_readJoined_81 rfl ?_
      have hF := mj_oi hF; subst hF
      exact mj_zbret C hr hlk dX7_readJoined_82
    · refine mj_iload_n C dX7_readJoined_30 rfl ?_
      refine mj_if_eq C dX7_readJoined_31 rfl hF (fun hc4 hF => ?_) (fun hc4 hF => ?_)
      · refine mj_iload_n C dX7_readJoined_81 rfl ?_
        have hF := mj_oi hF; subst hF
        exact mj_zbret C hr hlk dX7_readJoined_82
      · refine mj_iload_n C dX7_readJoined_34 rfl ?_
        refine mj_aload_n C dX7_readJoined_35 rfl ?_
        obtain ⟨r5, hq5, hF⟩ := mj_ob hF
        refine mj_callVi C (c_X7_seen σ r5 hq5) yv_X7_seen kl_X7_54 (mo_5 G _) rfl rfl rfl rfl (Nat.le_of_ble_eq_true rfl) (mj_roomR (by decide) (by decide)) ⟨Nat.zero_le _, Nat.zero_le _⟩ dX7_readJoined_36 ?_
        refine mj_callSi C (c_X7_isOperator σ v1 r5) ys_X7_isOperator kl_X7_58 rfl rfl (Nat.le_of_ble_eq_true rfl) (mj_roomR (by decide) (by decide)) ⟨Nat.zero_le _, Nat.zero_le _⟩ dX7_readJoined_39 ?_
        refine mj_if_eq C dX7_readJoined_42 rfl hF (fun hc6 hF => ?_) (fun hc6 hF => ?_)
        · refine mj_iload_n C dX7_readJoined_81 rfl ?_
          have hF := mj_oi hF; subst hF
          exact mj_zbret C hr hlk dX7_readJoined_82
        · refine mj_aload_n C dX7_readJoined_45 rfl ?_
          obtain ⟨r7, hq7, hF⟩ := mj_ob hF
          refine mj_callVi C (c_X7_seen σ r7 hq7) yv_X7_seen kl_X7_54 (mo_5 G _) rfl rfl rfl rfl (Nat.le_of_ble_eq_true rfl) (mj_roomR (by decide) (by decide)) ⟨Nat.zero_le _, Nat.zero_le _⟩ dX7_readJoined_46 ?_
          refine mj_istore C dX7_readJoined_49 (by decide) ?_
          refine mj_aload_n C dX7_readJoined_51 rfl ?_
          refine mj_dup C dX7_readJoined_52 rfl ?_
          refine mg_X7_25 C dX7_readJoined_53 ?_
          refine mj_iconstV (v := 1) C dX7_readJoined_56 mc_i_1 ?_
          refine mj_iadd C dX7_readJoined_57 ?_
          refine mp_X7_25 C dX7_readJoined_58 ?_
          refine mj_aload_n C dX7_readJoined_61 rfl ?_
          refine mj_iload_n C dX7_readJoined_62 rfl ?_
          refine mj_iload_n C dX7_readJoined_63 rfl ?_
          obtain ⟨r8, hq8, hF⟩ := mj_ob hF
          refine mj_callVi C (hr1 v1 v2 (mj_sI σ 5 4 ((σ.1 5 4) + 1)) r8 hq8) yv_X7_readTighter kl_X7_51 (mo_5 G _) rfl rfl rfl rfl (Nat.le_of_ble_eq_true rfl) (mj_roomK (by decide)) ⟨Nat.zero_le _, Nat.zero_le _⟩ dX7_readJoined_64 ?_
          refine mj_istore_n C dX7_readJoined_67 (by decide) ?_
          refine mj_aload_n C dX7_readJoined_68 rfl ?_
          refine mj_iload C dX7_readJoined_69 rfl ?_
          refine mj_iconstV (v := 0) C dX7_readJoined_71 mc_i_0 ?_
          obtain ⟨r9, hq9, hF⟩ := mj_ob hF
          refine mj_callVv C (c_X7_write r8.2 r7 0 r9 hq9) yv_X7_write kl_X7_47 (mo_5 G _) rfl rfl rfl rfl (Nat.le_of_ble_eq_true rfl) (mj_roomR (by decide) (by decide)) ⟨Nat.zero_le _, Nat.zero_le _⟩ dX7_readJoined_72 ?_
          refine mj_iinc (v := v5 + 1) C dX7_readJoined_75 rfl rfl (by decide) ?_
          refine mj_goto C dX7_readJoined_78 rfl ?_
          refine mj_to ?_ (ih v1 v2 r8.1 v4 (v5 + 1) r9 R hF)
          exact ⟨rfl, rfl, rfl, rfl, rfl, rfl, trivial⟩
set_option maxRecDepth 100000 in
set_option maxHeartbeats 4000000 in
theorem cF_X7_readJoined {G : mj_G} {l : Launch} {k : Nat} {rec : Nat → Int32 → Int32 → mj_S → Option (Int32 × mj_S)} (hr0 : ∀ (x0 x1 : Int32) (σ : mj_S) (R : (Int32 × mj_S)), rec 0 x0 x1 σ = some R → mj_C G l yX7_readJoined cX7_readJoined 7 (some .boolean) (5 + k) [.ref (G.2.1 5), .int x0, .int x1] σ (some (.int R.1)) R.2) (hr1 : ∀ (x0 x1 : Int32) (σ : mj_S) (R : (Int32 × mj_S)), rec 1 x0 x1 σ = some R → mj_C G l yX7_readTighter cX7_readTighter 3 (some .boolean) (5 + k) [.ref (G.2.1 5), .int x0, .int x1] σ (some (.int R.1)) R.2) (hr2 : ∀ (x0 x1 : Int32) (σ : mj_S) (R : (Int32 × mj_S)), rec 2 x0 x1 σ = some R → mj_C G l yX7_readOperand cX7_readOperand 4 (some .boolean) (5 + k) [.ref (G.2.1 5), .int x0] σ (some (.int R.1)) R.2) (hr3 : ∀ (x0 x1 : Int32) (σ : mj_S) (R : (Int32 × mj_S)), rec 3 x0 x1 σ = some R → mj_C G l yX7_readOpened cX7_readOpened 4 (some .boolean) (5 + k) [.ref (G.2.1 5), .int x0, .int x1] σ (some (.int R.1)) R.2) (σ : mj_S) (p1 : Int32) (p2 : Int32) (R : (Int32 × mj_S)) (hF : F_X7_readJoined rec σ p1 p2 = some R) : mj_C G l yX7_readJoined cX7_readJoined 7 (some .boolean) (5 + (k + 1)) [.ref (G.2.1 5), .int p1, .int p2] σ (some (.int R.1)) R.2 := by
  unfold F_X7_readJoined at hF
  refine mj_of (ls := [(0, .ref (G.2.1 5)), (1, .int p1), (2, .int p2)]) (by decide) (Nat.le_of_ble_eq_true rfl) rfl (fun p e s m args below meth c C hr hlk => ?_)
  refine mj_aload_n C dX7_readJoined_0 rfl ?_
  refine mj_iload_n C dX7_readJoined_1 rfl ?_
  refine mj_iload_n C dX7_readJoined_2 rfl ?_
  obtain ⟨r1, hq1, hF⟩ := mj_ob hF
  refine mj_callVi C (hr1 p1 p2 σ r1 hq1) yv_X7_readTighter kl_X7_51 (mo_5 G _) rfl rfl rfl rfl (Nat.le_of_ble_eq_true rfl) (mj_roomK (by decide)) ⟨Nat.zero_le _, Nat.zero_le _⟩ dX7_readJoined_3 ?_
  refine mj_istore_n C dX7_readJoined_6 (by decide) ?_
  refine mj_iload_n C dX7_readJoined_7 rfl ?_
  refine mj_iconstV (v := 2) C dX7_readJoined_8 mc_i_2 ?_
  refine mj_ic_ne C dX7_readJoined_9 rfl hF (fun hc2 hF => ?_) (fun hc2 hF => ?_)
  · refine mj_bipushV (v := 120) C dX7_readJoined_16 mc_b_120 ?_
    refine mj_istore C dX7_readJoined_18 (by decide) ?_
    refine mj_iconstV (v := 0) C dX7_readJoined_20 mc_i_0 ?_
    refine mj_istore C dX7_readJoined_21 (by decide) ?_
    refine mj_to ?_ (w_X7_readJoined_23 C hr hlk hr0 hr1 hr2 hr3 mj_fu p1 p2 r1.1 120 0 r1.2 R hF)
    exact ⟨rfl, rfl, rfl, rfl, rfl, rfl, trivial⟩
  · refine mj_iconstV (v := 1) C dX7_readJoined_12 mc_i_1 ?_
    refine mj_goto C dX7_readJoined_13 rfl ?_
    refine mj_istore C dX7_readJoined_18 (by decide) ?_
    refine mj_iconstV (v := 0) C dX7_readJoined_20 mc_i_0 ?_
    refine mj_istore C dX7_readJoined_21 (by decide) ?_
    refine mj_to ?_ (w_X7_readJoined_23 C hr hlk hr0 hr1 hr2 hr3 mj_fu p1 p2 r1.1 1 0 r1.2 R hF)
    exact ⟨rfl, rfl, rfl, rfl, rfl, rfl, trivial⟩
set_option maxRecDepth 100000 in
set_option maxHeartbeats 4000000 in
theorem cF_X7_readTighter {G : mj_G} {l : Launch} {k : Nat} {rec : Nat → Int32 → Int32 → mj_S → Option (Int32 × mj_S)} (hr0 : ∀ (x0 x1 : Int32) (σ : mj_S) (R : (Int32 × mj_S)), rec 0 x0 x1 σ = some R → mj_C G l yX7_readJoined cX7_readJoined 7 (some .boolean) (5 + k) [.ref (G.2.1 5), .int x0, .int x1] σ (some (.int R.1)) R.2) (hr1 : ∀ (x0 x1 : Int32) (σ : mj_S) (R : (Int32 × mj_S)), rec 1 x0 x1 σ = some R → mj_C G l yX7_readTighter cX7_readTighter 3 (some .boolean) (5 + k) [.ref (G.2.1 5), .int x0, .int x1] σ (some (.int R.1)) R.2) (hr2 : ∀ (x0 x1 : Int32) (σ : mj_S) (R : (Int32 × mj_S)), rec 2 x0 x1 σ = some R → mj_C G l yX7_readOperand cX7_readOperand 4 (some .boolean) (5 + k) [.ref (G.2.1 5), .int x0] σ (some (.int R.1)) R.2) (hr3 : ∀ (x0 x1 : Int32) (σ : mj_S) (R : (Int32 × mj_S)), rec 3 x0 x1 σ = some R → mj_C G l yX7_readOpened cX7_readOpened 4 (some .boolean) (5 + k) [.ref (G.2.1 5), .int x0, .int x1] σ (some (.int R.1)) R.2) (σ : mj_S) (p1 : Int32) (p2 : Int32) (R : (Int32 × mj_S)) (hF : F_X7_readTighter rec σ p1 p2 = some R) : mj_C G l yX7_readTighter cX7_readTighter 3 (some .boolean) (5 + (k + 1)) [.ref (G.2.1 5), .int p1, .int p2] σ (some (.int R.1)) R.2 := by
  unfold F_X7_readTighter at hF
  refine mj_of (ls := [(0, .ref (G.2.1 5)), (1, .int p1), (2, .int p2)]) (by decide) (Nat.le_of_ble_eq_true rfl) rfl (fun p e s m args below meth c C hr hlk => ?_)
  refine mj_iload_n C dX7_readTighter_0 rfl ?_
  refine mj_iconstV (v := 4) C dX7_readTighter_1 mc_i_4 ?_
  refine mj_ic_ge C dX7_readTighter_2 rfl hF (fun hc1 hF => ?_) (fun hc1 hF => ?_)
  · refine mj_aload_n C dX7_readTighter_16 rfl ?_
    refine mj_iload_n C dX7_readTighter_17 rfl ?_
    obtain ⟨r2, hq2, hF⟩ := mj_ob hF
    refine mj_callVi C (hr2 p2 0 σ r2 hq2) yv_X7_readOperand kl_X7_61 (mo_5 G _) rfl rfl rfl rfl (Nat.le_of_ble_eq_true rfl) (mj_roomK (by decide)) ⟨Nat.zero_le _, Nat.zero_le _⟩ dX7_readTighter_18 ?_
    have hF := mj_oi hF; subst hF
    exact mj_zbret C hr hlk dX7_readTighter_21
  · refine mj_aload_n C dX7_readTighter_5 rfl ?_
    refine mj_iload_n C dX7_readTighter_6 rfl ?_
    refine mj_iconstV (v := 1) C dX7_readTighter_7 mc_i_1 ?_
    refine mj_iadd C dX7_readTighter_8 ?_
    refine mj_iload_n C dX7_readTighter_9 rfl ?_
    obtain ⟨r3, hq3, hF⟩ := mj_ob hF
    refine mj_callVi C (hr0 (p1 + 1) p2 σ r3 hq3) yv_X7_readJoined kl_X7_43 (mo_5 G _) rfl rfl rfl rfl (Nat.le_of_ble_eq_true rfl) (mj_roomK (by decide)) ⟨Nat.zero_le _, Nat.zero_le _⟩ dX7_readTighter_10 ?_
    refine mj_goto C dX7_readTighter_13 rfl ?_
    have hF := mj_oi hF; subst hF
    exact mj_zbret C hr hlk dX7_readTighter_21
set_option maxRecDepth 100000 in
set_option maxHeartbeats 4000000 in
theorem w_X7_readOperand_23 {p : Program} {l : Launch} {e : Env} {s : State} {m : MethodId} {args : Array Value} {below : List Frame} {meth : Method} {c : Code} {G : mj_G} {k : Nat} {rec : Nat → Int32 → Int32 → mj_S → Option (Int32 × mj_S)} (C : mj_X p s m args meth c G cX7_readOperand 4 RX7) (hr : meth.sig.returnType = some .boolean) (hlk : meth.locks = false) (hr0 : ∀ (x0 x1 : Int32) (σ : mj_S) (R : (Int32 × mj_S)), rec 0 x0 x1 σ = some R → mj_C G l yX7_readJoined cX7_readJoined 7 (some .boolean) (5 + k) [.ref (G.2.1 5), .int x0, .int x1] σ (some (.int R.1)) R.2) (hr1 : ∀ (x0 x1 : Int32) (σ : mj_S) (R : (Int32 × mj_S)), rec 1 x0 x1 σ = some R → mj_C G l yX7_readTighter cX7_readTighter 3 (some .boolean) (5 + k) [.ref (G.2.1 5), .int x0, .int x1] σ (some (.int R.1)) R.2) (hr2 : ∀ (x0 x1 : Int32) (σ : mj_S) (R : (Int32 × mj_S)), rec 2 x0 x1 σ = some R → mj_C G l yX7_readOperand cX7_readOperand 4 (some .boolean) (5 + k) [.ref (G.2.1 5), .int x0] σ (some (.int R.1)) R.2) (hr3 : ∀ (x0 x1 : Int32) (σ : mj_S) (R : (Int32 × mj_S)), rec 3 x0 x1 σ = some R → mj_C G l yX7_readOpened cX7_readOpened 4 (some .boolean) (5 + k) [.ref (G.2.1 5), .int x0, .int x1] σ (some (.int R.1)) R.2) : ∀ (v1 : Int32) (v2 : Int32) (σ : mj_S) (R : (Int32 × mj_S)), b_X7_readOperand_23 rec v1 v2 σ = some R → mj_W p l e (mj_rm (5 + (k + 1))) s m args below meth c G 0 0 4 (MQ below (mj_Q G (some (.int R.1)) R.2) args s 0 0 G.2.2.2) 23 [(0, .ref (G.2.1 5)), (1, .int v1), (2, .int v2)] [] σ := by
  intro v1 v2 σ R hF
  unfold b_X7_readOperand_23 at hF
  refine mj_iload_n C dX7_readOperand_23 rfl ?_
  refine mj_bipushV (v := 6) C dX7_readOperand_24 mc_b_6 ?_
  refine mj_ic_ge C dX7_readOperand_26 rfl hF (fun hc3 hF => ?_) (fun hc3 hF => ?_)
  · refine mj_iconstV (v := 0) C dX7_readOperand_44 mc_i_0 ?_
    have hF := mj_oi hF; subst hF
    exact mj_zret (v := 0) rfl C hr hlk dX7_readOperand_45
  · refine mj_aload_n C dX7_readOperand_29 rfl ?_
    refine mj_iload_n C dX7_readOperand_30 rfl ?_
    refine mj_iload_n C dX7_readOperand_31 rfl ?_
    refine mj_iconstV (v := 1) C dX7_readOperand_32 mc_i_1 ?_
    refine mj_iadd C dX7_readOperand_33 ?_
    obtain ⟨r4, hq4, hF⟩ := mj_ob hF
    refine mj_callVi C (hr3 v2 (v1 + 1) σ r4 hq4) yv_X7_readOpened kl_X7_64 (mo_5 G _) rfl rfl rfl rfl (Nat.le_of_ble_eq_true rfl) (mj_roomK (by decide)) ⟨Nat.zero_le _, Nat.zero_le _⟩ dX7_readOperand_34 ?_
    refine mj_if_eq C dX7_readOperand_37 rfl hF (fun hc5 hF => ?_) (fun hc5 hF => ?_)
    · refine mj_iconstV (v := 0) C dX7_readOperand_44 mc_i_0 ?_
      have hF := mj_oi hF; subst hF
      exact mj_zret (v := 0) rfl C hr hlk dX7_readOperand_45
    · refine mj_iconstV (v := 1) C dX7_readOperand_40 mc_i_1 ?_
      refine mj_goto C dX7_readOperand_41 rfl ?_
      have hF := mj_oi hF; subst hF
      exact mj_zret (v := 1) rfl C hr hlk dX7_readOperand_45
set_option maxRecDepth 100000 in
set_option maxHeartbeats 4000000 in
theorem w_X7_readOperand_74 {p : Program} {l : Launch} {e : Env} {s : State} {m : MethodId} {args : Array Value} {below : List Frame} {meth : Method} {c : Code} {G : mj_G} {k : Nat} {rec : Nat → Int32 → Int32 → mj_S → Option (Int32 × mj_S)} (C : mj_X p s m args meth c G cX7_readOperand 4 RX7) (hr : meth.sig.returnType = some .boolean) (hlk : meth.locks = false) (hr0 : ∀ (x0 x1 : Int32) (σ : mj_S) (R : (Int32 × mj_S)), rec 0 x0 x1 σ = some R → mj_C G l yX7_readJoined cX7_readJoined 7 (some .boolean) (5 + k) [.ref (G.2.1 5), .int x0, .int x1] σ (some (.int R.1)) R.2) (hr1 : ∀ (x0 x1 : Int32) (σ : mj_S) (R : (Int32 × mj_S)), rec 1 x0 x1 σ = some R → mj_C G l yX7_readTighter cX7_readTighter 3 (some .boolean) (5 + k) [.ref (G.2.1 5), .int x0, .int x1] σ (some (.int R.1)) R.2) (hr2 : ∀ (x0 x1 : Int32) (σ : mj_S) (R : (Int32 × mj_S)), rec 2 x0 x1 σ = some R → mj_C G l yX7_readOperand cX7_readOperand 4 (some .boolean) (5 + k) [.ref (G.2.1 5), .int x0] σ (some (.int R.1)) R.2) (hr3 : ∀ (x0 x1 : Int32) (σ : mj_S) (R : (Int32 × mj_S)), rec 3 x0 x1 σ = some R → mj_C G l yX7_readOpened cX7_readOpened 4 (some .boolean) (5 + k) [.ref (G.2.1 5), .int x0, .int x1] σ (some (.int R.1)) R.2) : ∀ (t0 : Int32) (σ : mj_S) (R : (Int32 × mj_S)), b_X7_readOperand_74 rec t0 σ = some R → mj_W p l e (mj_rm (5 + (k + 1))) s m args below meth c G 0 0 4 (MQ below (mj_Q G (some (.int R.1)) R.2) args s 0 0 G.2.2.2) 74 [(0, .ref (G.2.1 5))] [.int t0] σ := by
  intro t0 σ R hF
  unfold b_X7_readOperand_74 at hF
  refine mj_istore_n C dX7_readOperand_74 (by decide) ?_
  refine mj_iload_n C dX7_readOperand_75 rfl ?_
  refine mj_if_ge C dX7_readOperand_76 rfl hF (fun hc11 hF => ?_) (fun hc11 hF => ?_)
  · refine mj_aload_n C dX7_readOperand_81 rfl ?_
    refine mj_dup C dX7_readOperand_82 rfl ?_
    refine mg_X7_25 C dX7_readOperand_83 ?_
    refine mj_iconstV (v := 1) C dX7_readOperand_86 mc_i_1 ?_
    refine mj_iadd C dX7_readOperand_87 ?_
    refine mp_X7_25 C dX7_readOperand_88 ?_
    refine mj_aload_n C dX7_readOperand_91 rfl ?_
    refine mj_bipushV (v := 97) C dX7_readOperand_92 mc_b_97 ?_
    refine mj_iload_n C dX7_readOperand_94 rfl ?_
    obtain ⟨r12, hq12, hF⟩ := mj_ob hF
    refine mj_callVv C (c_X7_write (mj_sI σ 5 4 ((σ.1 5 4) + 1)) 97 t0 r12 hq12) yv_X7_write kl_X7_47 (mo_5 G _) rfl rfl rfl rfl (Nat.le_of_ble_eq_true rfl) (mj_roomR (by decide) (by decide)) ⟨Nat.zero_le _, Nat.zero_le _⟩ dX7_readOperand_95 ?_
    refine mj_iconstV (v := 1) C dX7_readOperand_98 mc_i_1 ?_
    have hF := mj_oi hF; subst hF
    exact mj_zret (v := 1) rfl C hr hlk dX7_readOperand_99
  · refine mj_iconstV (v := 0) C dX7_readOperand_79 mc_i_0 ?_
    have hF := mj_oi hF; subst hF
    exact mj_zret (v := 0) rfl C hr hlk dX7_readOperand_80
set_option maxRecDepth 100000 in
set_option maxHeartbeats 4000000 in
theorem cF_X7_readOperand {G : mj_G} {l : Launch} {k : Nat} {rec : Nat → Int32 → Int32 → mj_S → Option (Int32 × mj_S)} (hr0 : ∀ (x0 x1 : Int32) (σ : mj_S) (R : (Int32 × mj_S)), rec 0 x0 x1 σ = some R → mj_C G l yX7_readJoined cX7_readJoined 7 (some .boolean) (5 + k) [.ref (G.2.1 5), .int x0, .int x1] σ (some (.int R.1)) R.2) (hr1 : ∀ (x0 x1 : Int32) (σ : mj_S) (R : (Int32 × mj_S)), rec 1 x0 x1 σ = some R → mj_C G l yX7_readTighter cX7_readTighter 3 (some .boolean) (5 + k) [.ref (G.2.1 5), .int x0, .int x1] σ (some (.int R.1)) R.2) (hr2 : ∀ (x0 x1 : Int32) (σ : mj_S) (R : (Int32 × mj_S)), rec 2 x0 x1 σ = some R → mj_C G l yX7_readOperand cX7_readOperand 4 (some .boolean) (5 + k) [.ref (G.2.1 5), .int x0] σ (some (.int R.1)) R.2) (hr3 : ∀ (x0 x1 : Int32) (σ : mj_S) (R : (Int32 × mj_S)), rec 3 x0 x1 σ = some R → mj_C G l yX7_readOpened cX7_readOpened 4 (some .boolean) (5 + k) [.ref (G.2.1 5), .int x0, .int x1] σ (some (.int R.1)) R.2) (σ : mj_S) (p1 : Int32) (R : (Int32 × mj_S)) (hF : F_X7_readOperand rec σ p1 = some R) : mj_C G l yX7_readOperand cX7_readOperand 4 (some .boolean) (5 + (k + 1)) [.ref (G.2.1 5), .int p1] σ (some (.int R.1)) R.2 := by
  unfold F_X7_readOperand at hF
  refine mj_of (ls := [(0, .ref (G.2.1 5)), (1, .int p1)]) (by decide) (Nat.le_of_ble_eq_true rfl) rfl (fun p e s m args below meth c C hr hlk => ?_)
  refine mj_aload_n C dX7_readOperand_0 rfl ?_
  obtain ⟨r1, hq1, hF⟩ := mj_ob hF
  refine mj_callVi C (c_X7_seen σ r1 hq1) yv_X7_seen kl_X7_54 (mo_5 G _) rfl rfl rfl rfl (Nat.le_of_ble_eq_true rfl) (mj_roomR (by decide) (by decide)) ⟨Nat.zero_le _, Nat.zero_le _⟩ dX7_readOperand_1 ?_
  refine mj_istore_n C dX7_readOperand_4 (by decide) ?_
  refine mj_iload_n C dX7_readOperand_5 rfl ?_
  refine mj_bipushV (v := 40) C dX7_readOperand_6 mc_b_40 ?_
  refine mj_ic_eq C dX7_readOperand_8 rfl hF (fun hc2 hF => ?_) (fun hc2 hF => ?_)
  · refine mj_to ?_ (w_X7_readOperand_23 C hr hlk hr0 hr1 hr2 hr3 p1 r1 σ R hF)
    exact ⟨rfl, rfl, rfl, trivial⟩
  · refine mj_iload_n C dX7_readOperand_11 rfl ?_
    refine mj_bipushV (v := 33) C dX7_readOperand_12 mc_b_33 ?_
    refine mj_ic_eq C dX7_readOperand_14 rfl hF (fun hc6 hF => ?_) (fun hc6 hF => ?_)
    · refine mj_to ?_ (w_X7_readOperand_23 C hr hlk hr0 hr1 hr2 hr3 p1 r1 σ R hF)
      exact ⟨rfl, rfl, rfl, trivial⟩
    · refine mj_iload_n C dX7_readOperand_17 rfl ?_
      refine mj_bipushV (v := 45) C dX7_readOperand_18 mc_b_45 ?_
      refine mj_ic_ne C dX7_readOperand_20 rfl hF (fun hc7 hF => ?_) (fun hc7 hF => ?_)
      · refine mj_iload_n C dX7_readOperand_46 rfl ?_
        refine mj_callSi C (c_X7_isDigit σ r1) ys_X7_isDigit kl_X7_67 rfl rfl (Nat.le_of_ble_eq_true rfl) (mj_roomR (by decide) (by decide)) ⟨Nat.zero_le _, Nat.zero_le _⟩ dX7_readOperand_47 ?_
        refine mj_if_eq C dX7_readOperand_50 rfl hF (fun hc8 hF => ?_) (fun hc8 hF => ?_)
        · refine mj_iload_n C dX7_readOperand_59 rfl ?_
          refine mj_if_ge C dX7_readOperand_60 rfl hF (fun hc9 hF => ?_) (fun hc9 hF => ?_)
          · refine mj_ldcS C dX7_readOperand_67 ?_
            refine mj_iload_n C dX7_readOperand_69 rfl ?_
            refine mj_i2c C dX7_readOperand_70 ?_
            obtain ⟨r10, hq10, hF⟩ := mj_ob hF
            refine mj_callTi C (c_J0_indexOf_0f7a4 σ ((r1.toUInt32 % 65536).toInt32) r10 hq10) yv_J0_indexOf_0f7a4 kl_X7_75 rfl rfl rfl (Nat.le_of_ble_eq_true rfl) (mj_roomR (by decide) (by decide)) ⟨Nat.zero_le _, Nat.zero_le _⟩ dX7_readOperand_71 ?_
            refine mj_to ?_ (w_X7_readOperand_74 C hr hlk hr0 hr1 hr2 hr3 r10 σ R hF)
            exact ⟨rfl, trivial⟩
          · refine mj_iconstV (v := (-1)) C dX7_readOperand_63 mc_i_m1 ?_
            refine mj_goto C dX7_readOperand_64 rfl ?_
            refine mj_to ?_ (w_X7_readOperand_74 C hr hlk hr0 hr1 hr2 hr3 (-1) σ R hF)
            exact ⟨rfl, trivial⟩
        · refine mj_aload_n C dX7_readOperand_53 rfl ?_
          obtain ⟨r13, hq13, hF⟩ := mj_ob hF
          refine mj_callVv C (c_X7_readNumber σ r13 hq13) yv_X7_readNumber kl_X7_70 (mo_5 G _) rfl rfl rfl rfl (Nat.le_of_ble_eq_true rfl) (mj_roomR (by decide) (by decide)) ⟨Nat.zero_le _, Nat.zero_le _⟩ dX7_readOperand_54 ?_
          refine mj_iconstV (v := 1) C dX7_readOperand_57 mc_i_1 ?_
          have hF := mj_oi hF; subst hF
          exact mj_zret (v := 1) rfl C hr hlk dX7_readOperand_58
      · refine mj_to ?_ (w_X7_readOperand_23 C hr hlk hr0 hr1 hr2 hr3 p1 r1 σ R hF)
        exact ⟨rfl, rfl, rfl, trivial⟩
set_option maxRecDepth 100000 in
set_option maxHeartbeats 4000000 in
theorem w_X7_readOpened_59 {p : Program} {l : Launch} {e : Env} {s : State} {m : MethodId} {args : Array Value} {below : List Frame} {meth : Method} {c : Code} {G : mj_G} {k : Nat} {rec : Nat → Int32 → Int32 → mj_S → Option (Int32 × mj_S)} (C : mj_X p s m args meth c G cX7_readOpened 4 RX7) (hr : meth.sig.returnType = some .boolean) (hlk : meth.locks = false) (hr0 : ∀ (x0 x1 : Int32) (σ : mj_S) (R : (Int32 × mj_S)), rec 0 x0 x1 σ = some R → mj_C G l yX7_readJoined cX7_readJoined 7 (some .boolean) (5 + k) [.ref (G.2.1 5), .int x0, .int x1] σ (some (.int R.1)) R.2) (hr1 : ∀ (x0 x1 : Int32) (σ : mj_S) (R : (Int32 × mj_S)), rec 1 x0 x1 σ = some R → mj_C G l yX7_readTighter cX7_readTighter 3 (some .boolean) (5 + k) [.ref (G.2.1 5), .int x0, .int x1] σ (some (.int R.1)) R.2) (hr2 : ∀ (x0 x1 : Int32) (σ : mj_S) (R : (Int32 × mj_S)), rec 2 x0 x1 σ = some R → mj_C G l yX7_readOperand cX7_readOperand 4 (some .boolean) (5 + k) [.ref (G.2.1 5), .int x0] σ (some (.int R.1)) R.2) (hr3 : ∀ (x0 x1 : Int32) (σ : mj_S) (R : (Int32 × mj_S)), rec 3 x0 x1 σ = some R → mj_C G l yX7_readOpened cX7_readOpened 4 (some .boolean) (5 + k) [.ref (G.2.1 5), .int x0, .int x1] σ (some (.int R.1)) R.2) : ∀ (v3 : Int32) (t1 : Int32) (σ : mj_S) (R : (Int32 × mj_S)), b_X7_readOpened_59 rec v3 t1 σ = some R → mj_W p l e (mj_rm (5 + (k + 1))) s m args below meth c G 0 0 4 (MQ below (mj_Q G (some (.int R.1)) R.2) args s 0 0 G.2.2.2) 59 [(3, .int v3)] [.int t1, .ref (G.2.1 5)] σ := by
  intro v3 t1 σ R hF
  unfold b_X7_readOpened_59 at hF
  refine mj_iconstV (v := 0) C dX7_readOpened_59 mc_i_0 ?_
  obtain ⟨r4, hq4, hF⟩ := mj_ob hF
  refine mj_callVv C (c_X7_write σ t1 0 r4 hq4) yv_X7_write kl_X7_47 (mo_5 G _) rfl rfl rfl rfl (Nat.le_of_ble_eq_true rfl) (mj_roomR (by decide) (by decide)) ⟨Nat.zero_le _, Nat.zero_le _⟩ dX7_readOpened_60 ?_
  refine mj_iload_n C dX7_readOpened_63 rfl ?_
  have hF := mj_oi hF; subst hF
  exact mj_zbret C hr hlk dX7_readOpened_64
set_option maxRecDepth 100000 in
set_option maxHeartbeats 4000000 in
theorem cF_X7_readOpened {G : mj_G} {l : Launch} {k : Nat} {rec : Nat → Int32 → Int32 → mj_S → Option (Int32 × mj_S)} (hr0 : ∀ (x0 x1 : Int32) (σ : mj_S) (R : (Int32 × mj_S)), rec 0 x0 x1 σ = some R → mj_C G l yX7_readJoined cX7_readJoined 7 (some .boolean) (5 + k) [.ref (G.2.1 5), .int x0, .int x1] σ (some (.int R.1)) R.2) (hr1 : ∀ (x0 x1 : Int32) (σ : mj_S) (R : (Int32 × mj_S)), rec 1 x0 x1 σ = some R → mj_C G l yX7_readTighter cX7_readTighter 3 (some .boolean) (5 + k) [.ref (G.2.1 5), .int x0, .int x1] σ (some (.int R.1)) R.2) (hr2 : ∀ (x0 x1 : Int32) (σ : mj_S) (R : (Int32 × mj_S)), rec 2 x0 x1 σ = some R → mj_C G l yX7_readOperand cX7_readOperand 4 (some .boolean) (5 + k) [.ref (G.2.1 5), .int x0] σ (some (.int R.1)) R.2) (hr3 : ∀ (x0 x1 : Int32) (σ : mj_S) (R : (Int32 × mj_S)), rec 3 x0 x1 σ = some R → mj_C G l yX7_readOpened cX7_readOpened 4 (some .boolean) (5 + k) [.ref (G.2.1 5), .int x0, .int x1] σ (some (.int R.1)) R.2) (σ : mj_S) (p1 : Int32) (p2 : Int32) (R : (Int32 × mj_S)) (hF : F_X7_readOpened rec σ p1 p2 = some R) : mj_C G l yX7_readOpened cX7_readOpened 4 (some .boolean) (5 + (k + 1)) [.ref (G.2.1 5), .int p1, .int p2] σ (some (.int R.1)) R.2 := by
  unfold F_X7_readOpened at hF
  refine mj_of (ls := [(0, .ref (G.2.1 5)), (1, .int p1), (2, .int p2)]) (by decide) (Nat.le_of_ble_eq_true rfl) rfl (fun p e s m args below meth c C hr hlk => ?_)
  refine mj_aload_n C dX7_readOpened_0 rfl ?_
  refine mj_dup C dX7_readOpened_1 rfl ?_
  refine mg_X7_25 C dX7_readOpened_2 ?_
  refine mj_iconstV (v := 1) C dX7_readOpened_5 mc_i_1 ?_
  refine mj_iadd C dX7_readOpened_6 ?_
  refine mp_X7_25 C dX7_readOpened_7 ?_
  refine mj_iload_n C dX7_readOpened_10 rfl ?_
  refine mj_bipushV (v := 40) C dX7_readOpened_11 mc_b_40 ?_
  refine mj_ic_ne C dX7_readOpened_13 rfl hF (fun hc1 hF => ?_) (fun hc1 hF => ?_)
  · refine mj_aload_n C dX7_readOpened_40 rfl ?_
    refine mj_iload_n C dX7_readOpened_41 rfl ?_
    obtain ⟨r2, hq2, hF⟩ := mj_ob hF
    refine mj_callVi C (hr2 p2 0 (mj_sI σ 5 4 ((σ.1 5 4) + 1)) r2 hq2) yv_X7_readOperand kl_X7_61 (mo_5 G _) rfl rfl rfl rfl (Nat.le_of_ble_eq_true rfl) (mj_roomK (by decide)) ⟨Nat.zero_le _, Nat.zero_le _⟩ dX7_readOpened_42 ?_
    refine mj_istore_n C dX7_readOpened_45 (by decide) ?_
    refine mj_aload_n C dX7_readOpened_46 rfl ?_
    refine mj_iload_n C dX7_readOpened_47 rfl ?_
    refine mj_bipushV (v := 45) C dX7_readOpened_48 mc_b_45 ?_
    refine mj_ic_ne C dX7_readOpened_50 rfl hF (fun hc3 hF => ?_) (fun hc3 hF => ?_)
    · refine mj_iload_n C dX7_readOpened_58 rfl ?_
      refine mj_to ?_ (w_X7_readOpened_59 C hr hlk hr0 hr1 hr2 hr3 r2.1 p1 r2.2 R hF)
      exact ⟨rfl, trivial⟩
    · refine mj_bipushV (v := 110) C dX7_readOpened_53 mc_b_110 ?_
      refine mj_goto C dX7_readOpened_55 rfl ?_
      refine mj_to ?_ (w_X7_readOpened_59 C hr hlk hr0 hr1 hr2 hr3 r2.1 110 r2.2 R hF)
      exact ⟨rfl, trivial⟩
  · refine mj_aload_n C dX7_readOpened_16 rfl ?_
    refine mj_iconstV (v := 0) C dX7_readOpened_17 mc_i_0 ?_
    refine mj_iload_n C dX7_readOpened_18 rfl ?_
    obtain ⟨r5, hq5, hF⟩ := mj_ob hF
    refine mj_callVi C (hr0 0 p2 (mj_sI σ 5 4 ((σ.1 5 4) + 1)) r5 hq5) yv_X7_readJoined kl_X7_43 (mo_5 G _) rfl rfl rfl rfl (Nat.le_of_ble_eq_true rfl) (mj_roomK (by decide)) ⟨Nat.zero_le _, Nat.zero_le _⟩ dX7_readOpened_19 ?_
    refine mj_if_eq C dX7_readOpened_22 rfl hF (fun hc6 hF => ?_) (fun hc6 hF => ?_)
    · refine mj_iconstV (v := 0) C dX7_readOpened_38 mc_i_0 ?_
      have hF := mj_oi hF; subst hF
      exact mj_zret (v := 0) rfl C hr hlk dX7_readOpened_39
    · refine mj_aload_n C dX7_readOpened_25 rfl ?_
      refine mj_bipushV (v := 41) C dX7_readOpened_26 mc_b_41 ?_
      obtain ⟨r7, hq7, hF⟩ := mj_ob hF
      refine mj_callVi C (c_X7_skip r5.2 41 r7 hq7) yv_X7_skip kl_X7_39 (mo_5 G _) rfl rfl rfl rfl (Nat.le_of_ble_eq_true rfl) (mj_roomR (by decide) (by decide)) ⟨Nat.zero_le _, Nat.zero_le _⟩ dX7_readOpened_28 ?_
      refine mj_if_eq C dX7_readOpened_31 rfl hF (fun hc8 hF => ?_) (fun hc8 hF => ?_)
      · refine mj_iconstV (v := 0) C dX7_readOpened_38 mc_i_0 ?_
        have hF := mj_oi hF; subst hF
        exact mj_zret (v := 0) rfl C hr hlk dX7_readOpened_39
      · refine mj_iconstV (v := 1) C dX7_readOpened_34 mc_i_1 ?_
        refine mj_goto C dX7_readOpened_35 rfl ?_
        have hF := mj_oi hF; subst hF
        exact mj_zret (v := 1) rfl C hr hlk dX7_readOpened_39
theorem cr_X7_readJoined {G : mj_G} {l : Launch} : ∀ k : Nat, (∀ (x0 x1 : Int32) (σ : mj_S) (R : (Int32 × mj_S)), rc_X7_readJoined k 0 x0 x1 σ = some R → mj_C G l yX7_readJoined cX7_readJoined 7 (some .boolean) (5 + k) [.ref (G.2.1 5), .int x0, .int x1] σ (some (.int R.1)) R.2) ∧ (∀ (x0 x1 : Int32) (σ : mj_S) (R : (Int32 × mj_S)), rc_X7_readJoined k 1 x0 x1 σ = some R → mj_C G l yX7_readTighter cX7_readTighter 3 (some .boolean) (5 + k) [.ref (G.2.1 5), .int x0, .int x1] σ (some (.int R.1)) R.2) ∧ (∀ (x0 x1 : Int32) (σ : mj_S) (R : (Int32 × mj_S)), rc_X7_readJoined k 2 x0 x1 σ = some R → mj_C G l yX7_readOperand cX7_readOperand 4 (some .boolean) (5 + k) [.ref (G.2.1 5), .int x0] σ (some (.int R.1)) R.2) ∧ (∀ (x0 x1 : Int32) (σ : mj_S) (R : (Int32 × mj_S)), rc_X7_readJoined k 3 x0 x1 σ = some R → mj_C G l yX7_readOpened cX7_readOpened 4 (some .boolean) (5 + k) [.ref (G.2.1 5), .int x0, .int x1] σ (some (.int R.1)) R.2) := by
  intro k
  induction k with
  | zero =>
    refine ⟨?_, ?_, ?_, ?_⟩ <;> (intros; rename_i h; cases h)
  | succ k ih =>
    exact ⟨fun x0 x1 σ R h => cF_X7_readJoined (ih.1) (ih.2.1) (ih.2.2.1) (ih.2.2.2) σ x0 x1 R (by rw [rc_X7_readJoined] at h; exact h),
      fun x0 x1 σ R h => cF_X7_readTighter (ih.1) (ih.2.1) (ih.2.2.1) (ih.2.2.2) σ x0 x1 R (by rw [rc_X7_readJoined] at h; exact h),
      fun x0 x1 σ R h => cF_X7_readOperand (ih.1) (ih.2.1) (ih.2.2.1) (ih.2.2.2) σ x0 R (by rw [rc_X7_readJoined] at h; exact h),
      fun x0 x1 σ R h => cF_X7_readOpened (ih.1) (ih.2.1) (ih.2.2.1) (ih.2.2.2) σ x0 x1 R (by rw [rc_X7_readJoined] at h; exact h)⟩
theorem c_X7_readJoined {G : mj_G} {l : Launch} (σ : mj_S) (p1 : Int32) (p2 : Int32) (R : (Int32 × mj_S)) (hF : f_X7_readJoined σ p1 p2 = some R) : mj_C G l yX7_readJoined cX7_readJoined 7 (some .boolean) 105 [.ref (G.2.1 5), .int p1, .int p2] σ (some (.int R.1)) R.2 := (cr_X7_readJoined 100).1 p1 p2 σ R hF
theorem c_X7_readTighter {G : mj_G} {l : Launch} (σ : mj_S) (p1 : Int32) (p2 : Int32) (R : (Int32 × mj_S)) (hF : f_X7_readTighter σ p1 p2 = some R) : mj_C G l yX7_readTighter cX7_readTighter 3 (some .boolean) 105 [.ref (G.2.1 5), .int p1, .int p2] σ (some (.int R.1)) R.2 := (cr_X7_readJoined 100).2.1 p1 p2 σ R hF
theorem c_X7_readOperand {G : mj_G} {l : Launch} (σ : mj_S) (p1 : Int32) (R : (Int32 × mj_S)) (hF : f_X7_readOperand σ p1 = some R) : mj_C G l yX7_readOperand cX7_readOperand 4 (some .boolean) 105 [.ref (G.2.1 5), .int p1] σ (some (.int R.1)) R.2 := (cr_X7_readJoined 100).2.2.1 p1 0 σ R hF
theorem c_X7_readOpened {G : mj_G} {l : Launch} (σ : mj_S) (p1 : Int32) (p2 : Int32) (R : (Int32 × mj_S)) (hF : f_X7_readOpened σ p1 p2 = some R) : mj_C G l yX7_readOpened cX7_readOpened 4 (some .boolean) 105 [.ref (G.2.1 5), .int p1, .int p2] σ (some (.int R.1)) R.2 := (cr_X7_readJoined 100).2.2.2 p1 p2 σ R hF
set_option maxRecDepth 100000 in
set_option maxHeartbeats 4000000 in
theorem w_X7_readLine_64 {p : Program} {l : Launch} {e : Env} {s : State} {m : MethodId} {args : Array Value} {below : List Frame} {meth : Method} {c : Code} {G : mj_G} (C : mj_X p s m args meth c G cX7_readLine 2 RX7) (hr : meth.sig.returnType = some .boolean) (hlk : meth.locks = false) : ∀ (σ : mj_S) (R : (Int32 × mj_S)), b_X7_readLine_64 σ = some R → mj_W p l e (mj_rm 106) s m args below meth c G 0 0 2 (MQ below (mj_Q G (some (.int R.1)) R.2) args s 0 0 G.2.2.2) 64 [(0, .ref (G.2.1 5))] [] σ := by
  intro σ R hF
  unfold b_X7_readLine_64 at hF
  refine mj_aload_n C dX7_readLine_64 rfl ?_
  refine mj_bipushV (v := 59) C dX7_readLine_65 mc_b_59 ?_
  refine mj_iconstV (v := 0) C dX7_readLine_67 mc_i_0 ?_
  obtain ⟨r5, hq5, hF⟩ := mj_ob hF
  refine mj_callVv C (c_X7_write σ 59 0 r5 hq5) yv_X7_write kl_X7_47 (mo_5 G _) rfl rfl rfl rfl (Nat.le_of_ble_eq_true rfl) (mj_roomC (by decide) (by decide)) ⟨Nat.zero_le _, Nat.zero_le _⟩ dX7_readLine_68 ?_
  refine mj_iconstV (v := 1) C dX7_readLine_71 mc_i_1 ?_
  have hF := mj_oi hF; subst hF
  exact mj_zret (v := 1) rfl C hr hlk dX7_readLine_72
set_option maxRecDepth 100000 in
set_option maxHeartbeats 4000000 in
theorem c_X7_readLine {G : mj_G} {l : Launch} (σ : mj_S) (R : (Int32 × mj_S)) (hF : f_X7_readLine σ = some R) : mj_C G l yX7_readLine cX7_readLine 2 (some .boolean) 106 [.ref (G.2.1 5)] σ (some (.int R.1)) R.2 := by
  unfold f_X7_readLine at hF
  refine mj_of (ls := [(0, .ref (G.2.1 5))]) (by decide) (Nat.le_of_ble_eq_true rfl) rfl (fun p e s m args below meth c C hr hlk => ?_)
  refine mj_aload_n C dX7_readLine_0 rfl ?_
  refine mj_iconstV (v := 0) C dX7_readLine_1 mc_i_0 ?_
  refine mj_iconstV (v := 0) C dX7_readLine_2 mc_i_0 ?_
  obtain ⟨r1, hq1, hF⟩ := mj_ob hF
  refine mj_callVi C (c_X7_readJoined σ 0 0 r1 hq1) yv_X7_readJoined kl_X7_43 (mo_5 G _) rfl rfl rfl rfl (Nat.le_of_ble_eq_true rfl) (mj_roomC (by decide) (by decide)) ⟨Nat.zero_le _, Nat.zero_le _⟩ dX7_readLine_3 ?_
  refine mj_if_ne C dX7_readLine_6 rfl hF (fun hc2 hF => ?_) (fun hc2 hF => ?_)
  · refine mj_aload_n C dX7_readLine_11 rfl ?_
    refine mj_bipushV (v := 63) C dX7_readLine_12 mc_b_63 ?_
    obtain ⟨r3, hq3, hF⟩ := mj_ob hF
    refine mj_callVi C (c_X7_skip r1.2 63 r3 hq3) yv_X7_skip kl_X7_39 (mo_5 G _) rfl rfl rfl rfl (Nat.le_of_ble_eq_true rfl) (mj_roomC (by decide) (by decide)) ⟨Nat.zero_le _, Nat.zero_le _⟩ dX7_readLine_14 ?_
    refine mj_if_eq C dX7_readLine_17 rfl hF (fun hc4 hF => ?_) (fun hc4 hF => ?_)
    · refine mj_to ?_ (w_X7_readLine_64 C hr hlk r3.2 R hF)
      exact ⟨rfl, trivial⟩
    · refine mj_aload_n C dX7_readLine_20 rfl ?_
      refine mg_X7_28 C dX7_readLine_21 ?_
      refine mj_istore_n C dX7_readLine_24 (by decide) ?_
      refine mj_aload_n C dX7_readLine_25 rfl ?_
      refine mj_bipushV (v := 63) C dX7_readLine_26 mc_b_63 ?_
      refine mj_iconstV (v := 0) C dX7_readLine_28 mc_i_0 ?_
      obtain ⟨r6, hq6, hF⟩ := mj_ob hF
      refine mj_callVv C (c_X7_write r3.2 63 0 r6 hq6) yv_X7_write kl_X7_47 (mo_5 G _) rfl rfl rfl rfl (Nat.le_of_ble_eq_true rfl) (mj_roomC (by decide) (by decide)) ⟨Nat.zero_le _, Nat.zero_le _⟩ dX7_readLine_29 ?_
      refine mj_aload_n C dX7_readLine_32 rfl ?_
      refine mj_iconstV (v := 0) C dX7_readLine_33 mc_i_0 ?_
      refine mj_iconstV (v := 0) C dX7_readLine_34 mc_i_0 ?_
      obtain ⟨r7, hq7, hF⟩ := mj_ob hF
      refine mj_callVi C (c_X7_readJoined r6 0 0 r7 hq7) yv_X7_readJoined kl_X7_43 (mo_5 G _) rfl rfl rfl rfl (Nat.le_of_ble_eq_true rfl) (mj_roomC (by decide) (by decide)) ⟨Nat.zero_le _, Nat.zero_le _⟩ dX7_readLine_35 ?_
      refine mj_if_ne C dX7_readLine_38 rfl hF (fun hc8 hF => ?_) (fun hc8 hF => ?_)
      · refine mj_iload_n C dX7_readLine_43 rfl ?_
        refine mj_aload_n C dX7_readLine_44 rfl ?_
        refine mg_X7_18 C dX7_readLine_45 ?_
        refine mj_alen (v := 121) C dX7_readLine_48 rfl rfl ?_
        refine mj_ic_ge C dX7_readLine_49 rfl hF (fun hc9 hF => ?_) (fun hc9 hF => ?_)
        · refine mj_to ?_ (w_X7_readLine_64 C hr hlk r7.2 R hF)
          exact ⟨rfl, trivial⟩
        · refine mj_aload_n C dX7_readLine_52 rfl ?_
          refine mg_X7_18 C dX7_readLine_53 ?_
          refine mj_iload_n C dX7_readLine_56 rfl ?_
          refine mj_aload_n C dX7_readLine_57 rfl ?_
          refine mg_X7_28 C dX7_readLine_58 ?_
          refine mj_iconstV (v := 1) C dX7_readLine_61 mc_i_1 ?_
          refine mj_iadd C dX7_readLine_62 ?_
          obtain ⟨hg10, hF⟩ := mj_og hF
          refine mj_iastore C dX7_readLine_63 rfl hg10 ?_
          refine mj_to ?_ (w_X7_readLine_64 C hr hlk (mj_sI r7.2 8 (r3.2.1 5 5).toNatClampNeg ((r7.2.1 5 5) + 1)) R hF)
          exact ⟨rfl, trivial⟩
      · refine mj_iconstV (v := 0) C dX7_readLine_41 mc_i_0 ?_
        have hF := mj_oi hF; subst hF
        exact mj_zret (v := 0) rfl C hr hlk dX7_readLine_42
  · refine mj_iconstV (v := 0) C dX7_readLine_9 mc_i_0 ?_
    have hF := mj_oi hF; subst hF
    exact mj_zret (v := 0) rfl C hr hlk dX7_readLine_10
set_option maxRecDepth 100000 in
set_option maxHeartbeats 4000000 in
theorem w_X7_read_66 {p : Program} {l : Launch} {e : Env} {s : State} {m : MethodId} {args : Array Value} {below : List Frame} {meth : Method} {c : Code} {G : mj_G} (C : mj_X p s m args meth c G cX7_read 3 RX7) (hr : meth.sig.returnType = some .int) (hlk : meth.locks = false) : ∀ (v1 : Int32) (σ : mj_S) (R : (Int32 × mj_S)), b_X7_read_66 v1 σ = some R → mj_W p l e (mj_rm 107) s m args below meth c G 0 0 3 (MQ below (mj_Q G (some (.int R.1)) R.2) args s 0 0 G.2.2.2) 66 [(0, .ref (G.2.1 5)), (1, .int v1)] [] σ := by
  intro v1 σ R hF
  unfold b_X7_read_66 at hF
  refine mj_iload_n C dX7_read_66 rfl ?_
  refine mj_if_eq C dX7_read_67 rfl hF (fun hc3 hF => ?_) (fun hc3 hF => ?_)
  · refine mj_aload_n C dX7_read_74 rfl ?_
    refine mg_X7_25 C dX7_read_75 ?_
    have hF := mj_oi hF; subst hF
    exact mj_iret C hr hlk dX7_read_78
  · refine mj_iconstV (v := (-1)) C dX7_read_70 mc_i_m1 ?_
    refine mj_goto C dX7_read_71 rfl ?_
    have hF := mj_oi hF; subst hF
    exact mj_iret C hr hlk dX7_read_78
set_option maxRecDepth 100000 in
set_option maxHeartbeats 4000000 in
theorem w_X7_read_17 {p : Program} {l : Launch} {e : Env} {s : State} {m : MethodId} {args : Array Value} {below : List Frame} {meth : Method} {c : Code} {G : mj_G} (C : mj_X p s m args meth c G cX7_read 3 RX7) (hr : meth.sig.returnType = some .int) (hlk : meth.locks = false) : ∀ (n : Nat) (v1 : Int32) (v2 : Int32) (σ : mj_S) (R : (Int32 × mj_S)), b_X7_read_17 n v1 v2 σ = some R → mj_W p l e (mj_rm 107) s m args below meth c G 0 0 3 (MQ below (mj_Q G (some (.int R.1)) R.2) args s 0 0 G.2.2.2) 17 [(0, .ref (G.2.1 5)), (1, .int v1), (2, .int v2)] [] σ := by
  intro n
  induction n with
  | zero =>
    intro v1 v2 σ R hF
    cases hF
  | succ n ih =>
    intro v1 v2 σ R hF
    rw [b_X7_read_17] at hF
    refine mj_iload_n C dX7_read_17 rfl ?_
    refine mj_bipushV (v := 120) C dX7_read_18 mc_b_120 ?_
    refine mj_ic_ge C dX7_read_20 rfl hF (fun hc2 hF => ?_) (fun hc2 hF => ?_)
    · refine mj_to ?_ (w_X7_read_66 C hr hlk v1 σ R hF)
      exact ⟨rfl, rfl, trivial⟩
    · refine mj_iload_n C dX7_read_23 rfl ?_
      refine mj_if_eq C dX7_read_24 rfl hF (fun hc4 hF => ?_) (fun hc4 hF => ?_)
      · refine mj_to ?_ (w_X7_read_66 C hr hlk v1 σ R hF)
        exact ⟨rfl, rfl, trivial⟩
      · refine mj_aload_n C dX7_read_27 rfl ?_
        refine mg_X7_25 C dX7_read_28 ?_
        refine mj_aload_n C dX7_read_31 rfl ?_
        refine mg_X7_21 C dX7_read_32 ?_
        refine mj_ic_ge C dX7_read_35 rfl hF (fun hc5 hF => ?_) (fun hc5 hF => ?_)
        · refine mj_to ?_ (w_X7_read_66 C hr hlk v1 σ R hF)
          exact ⟨rfl, rfl, trivial⟩
        · refine mj_aload_n C dX7_read_38 rfl ?_
          refine mj_bipushV (v := 59) C dX7_read_39 mc_b_59 ?_
          obtain ⟨r6, hq6, hF⟩ := mj_ob hF
          refine mj_callVi C (c_X7_skip σ 59 r6 hq6) yv_X7_skip kl_X7_39 (mo_5 G _) rfl rfl rfl rfl (Nat.le_of_ble_eq_true rfl) (mj_roomC (by decide) (by decide)) ⟨Nat.zero_le _, Nat.zero_le _⟩ dX7_read_41 ?_
          refine mj_if_eq C dX7_read_44 rfl hF (fun hc7 hF => ?_) (fun hc7 hF => ?_)
          · refine mj_iconstV (v := 0) C dX7_read_58 mc_i_0 ?_
            refine mj_istore_n C dX7_read_59 (by decide) ?_
            refine mj_iinc (v := v2 + 1) C dX7_read_60 rfl rfl (by decide) ?_
            refine mj_goto C dX7_read_63 rfl ?_
            refine mj_to ?_ (ih 0 (v2 + 1) r6.2 R hF)
            exact ⟨rfl, rfl, rfl, trivial⟩
          · refine mj_aload_n C dX7_read_47 rfl ?_
            obtain ⟨r8, hq8, hF⟩ := mj_ob hF
            refine mj_callVi C (c_X7_readLine r6.2 r8 hq8) yv_X7_readLine kl_X7_35 (mo_5 G _) rfl rfl rfl rfl (Nat.le_of_ble_eq_true rfl) (mj_roomC (by decide) (by decide)) ⟨Nat.zero_le _, Nat.zero_le _⟩ dX7_read_48 ?_
            refine mj_if_eq C dX7_read_51 rfl hF (fun hc9 hF => ?_) (fun hc9 hF => ?_)
            · refine mj_iconstV (v := 0) C dX7_read_58 mc_i_0 ?_
              refine mj_istore_n C dX7_read_59 (by decide) ?_
              refine mj_iinc (v := v2 + 1) C dX7_read_60 rfl rfl (by decide) ?_
              refine mj_goto C dX7_read_63 rfl ?_
              refine mj_to ?_ (ih 0 (v2 + 1) r8.2 R hF)
              exact ⟨rfl, rfl, rfl, trivial⟩
            · refine mj_iconstV (v := 1) C dX7_read_54 mc_i_1 ?_
              refine mj_goto C dX7_read_55 rfl ?_
              refine mj_istore_n C dX7_read_59 (by decide) ?_
              refine mj_iinc (v := v2 + 1) C dX7_read_60 rfl rfl (by decide) ?_
              refine mj_goto C dX7_read_63 rfl ?_
              refine mj_to ?_ (ih 1 (v2 + 1) r8.2 R hF)
              exact ⟨rfl, rfl, rfl, trivial⟩
set_option maxRecDepth 100000 in
set_option maxHeartbeats 4000000 in
theorem c_X7_read {G : mj_G} {l : Launch} (σ : mj_S) (R : (Int32 × mj_S)) (hF : f_X7_read σ = some R) : mj_C G l yX7_read cX7_read 3 (some .int) 107 [.ref (G.2.1 5)] σ (some (.int R.1)) R.2 := by
  unfold f_X7_read at hF
  refine mj_of (ls := [(0, .ref (G.2.1 5))]) (by decide) (Nat.le_of_ble_eq_true rfl) rfl (fun p e s m args below meth c C hr hlk => ?_)
  refine mj_aload_n C dX7_read_0 rfl ?_
  refine mj_iconstV (v := 0) C dX7_read_1 mc_i_0 ?_
  refine mp_X7_25 C dX7_read_2 ?_
  refine mj_aload_n C dX7_read_5 rfl ?_
  refine mj_iconstV (v := 0) C dX7_read_6 mc_i_0 ?_
  refine mp_X7_28 C dX7_read_7 ?_
  refine mj_aload_n C dX7_read_10 rfl ?_
  obtain ⟨r1, hq1, hF⟩ := mj_ob hF
  refine mj_callVi C (c_X7_readLine (mj_sI (mj_sI σ 5 4 0) 5 5 0) r1 hq1) yv_X7_readLine kl_X7_35 (mo_5 G _) rfl rfl rfl rfl (Nat.le_of_ble_eq_true rfl) (mj_roomC (by decide) (by decide)) ⟨Nat.zero_le _, Nat.zero_le _⟩ dX7_read_11 ?_
  refine mj_istore_n C dX7_read_14 (by decide) ?_
  refine mj_iconstV (v := 0) C dX7_read_15 mc_i_0 ?_
  refine mj_istore_n C dX7_read_16 (by decide) ?_
  refine mj_to ?_ (w_X7_read_17 C hr hlk mj_fu r1.1 0 r1.2 R hF)
  exact ⟨rfl, rfl, rfl, trivial⟩
set_option maxRecDepth 100000 in
set_option maxHeartbeats 4000000 in
theorem w_X9_law_37 {p : Program} {l : Launch} {e : Env} {s : State} {m : MethodId} {args : Array Value} {below : List Frame} {meth : Method} {c : Code} {G : mj_G} (C : mj_X p s m args meth c G cX9_law 2 RX9) (hr : meth.sig.returnType = some .int) (hlk : meth.locks = false) : ∀ (v1 : Int32) (σ : mj_S) (R : (Int32 × mj_S)), b_X9_law_37 v1 σ = some R → mj_W p l e (mj_rm 108) s m args below meth c G 0 0 2 (MQ below (mj_Q G (some (.int R.1)) R.2) args s 0 0 G.2.2.2) 37 [(0, .ref (G.2.1 0)), (1, .int v1)] [] σ := by
  intro v1 σ R hF
  unfold b_X9_law_37 at hF
  refine mj_aload_n C dX9_law_37 rfl ?_
  refine mg_X9_19 C dX9_law_38 ?_
  refine mj_callVv C (c_X7_emptyTape σ) yv_X7_emptyTape kl_X9_129 (mo_5 G _) rfl rfl rfl rfl (Nat.le_of_ble_eq_true rfl) (mj_roomC (by decide) (by decide)) ⟨Nat.zero_le _, Nat.zero_le _⟩ dX9_law_41 ?_
  replace hF := mj_letE hF
  generalize f_X7_emptyTape σ = r3 at hF ⊢
  refine mj_iload_n C dX9_law_44 rfl ?_
  refine mj_if_ge C dX9_law_45 rfl hF (fun hc4 hF => ?_) (fun hc4 hF => ?_)
  · refine mj_bipushV (v := (-100)) C dX9_law_52 mc_b_m100 ?_
    refine mj_iload_n C dX9_law_54 rfl ?_
    refine mj_isub C dX9_law_55 ?_
    have hF := mj_oi hF; subst hF
    exact mj_iret C hr hlk dX9_law_56
  · refine mj_iconstV (v := 1) C dX9_law_48 mc_i_1 ?_
    refine mj_goto C dX9_law_49 rfl ?_
    have hF := mj_oi hF; subst hF
    exact mj_iret C hr hlk dX9_law_56
set_option maxRecDepth 100000 in
set_option maxHeartbeats 4000000 in
theorem c_X9_law {G : mj_G} {l : Launch} (σ : mj_S) (R : (Int32 × mj_S)) (hF : f_X9_law σ = some R) : mj_C G l yX9_law cX9_law 2 (some .int) 108 [.ref (G.2.1 0)] σ (some (.int R.1)) R.2 := by
  unfold f_X9_law at hF
  refine mj_of (ls := [(0, .ref (G.2.1 0))]) (by decide) (Nat.le_of_ble_eq_true rfl) rfl (fun p e s m args below meth c C hr hlk => ?_)
  refine mj_aload_n C dX9_law_0 rfl ?_
  refine mg_X9_19 C dX9_law_1 ?_
  obtain ⟨r1, hq1, hF⟩ := mj_ob hF
  refine mj_callVi C (c_X7_read σ r1 hq1) yv_X7_read kl_X9_120 (mo_5 G _) rfl rfl rfl rfl (Nat.le_of_ble_eq_true rfl) (mj_roomC (by decide) (by decide)) ⟨Nat.zero_le _, Nat.zero_le _⟩ dX9_law_4 ?_
  refine mj_istore_n C dX9_law_7 (by decide) ?_
  refine mj_iload_n C dX9_law_8 rfl ?_
  refine mj_if_ge C dX9_law_9 rfl hF (fun hc2 hF => ?_) (fun hc2 hF => ?_)
  · refine mj_to ?_ (w_X9_law_37 C hr hlk r1.1 r1.2 R hF)
    exact ⟨rfl, rfl, trivial⟩
  · refine mj_aload_n C dX9_law_12 rfl ?_
    refine mg_X9_19 C dX9_law_13 ?_
    refine mj_aload_n C dX9_law_16 rfl ?_
    refine mg_X9_10 C dX9_law_17 ?_
    obtain ⟨r5, hq5, hF⟩ := mj_ob hF
    refine mj_callVv C (c_X7_giveTo r1.2 r5 hq5) yv_X7_giveTo kl_X9_123 (mo_5 G _) rfl rfl rfl rfl (Nat.le_of_ble_eq_true rfl) (mj_roomC (by decide) (by decide)) ⟨Nat.zero_le _, Nat.zero_le _⟩ dX9_law_20 ?_
    refine mj_aload_n C dX9_law_23 rfl ?_
    refine mg_X9_28 C dX9_law_24 ?_
    obtain ⟨r6, hq6, hF⟩ := mj_ob hF
    refine mj_callVv C (c_X2_forgetHeights r5 r6 hq6) yv_X2_forgetHeights kl_X9_126 (mo_9 G _) rfl rfl rfl rfl (Nat.le_of_ble_eq_true rfl) (mj_roomC (by decide) (by decide)) ⟨Nat.zero_le _, Nat.zero_le _⟩ dX9_law_27 ?_
    refine mj_aload_n C dX9_law_30 rfl ?_
    refine mg_X9_28 C dX9_law_31 ?_
    obtain ⟨r7, hq7, hF⟩ := mj_ob hF
    refine mj_callVv C (c_X2_refresh r6 r7 hq7) yv_X2_refresh kl_X9_100 (mo_9 G _) rfl rfl rfl rfl (Nat.le_of_ble_eq_true rfl) (mj_roomC (by decide) (by decide)) ⟨Nat.zero_le _, Nat.zero_le _⟩ dX9_law_34 ?_
    refine mj_to ?_ (w_X9_law_37 C hr hlk r1.1 r7 R hF)
    exact ⟨rfl, rfl, trivial⟩
