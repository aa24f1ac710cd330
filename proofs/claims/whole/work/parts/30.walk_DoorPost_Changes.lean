set_option maxRecDepth 100000 in
set_option maxHeartbeats 4000000 in
theorem c_X1_toUndo {G : mj_G} {l : Launch} (σ : mj_S) : mj_C G l yX1_toUndo cX1_toUndo 1 (some .int) 1 [.ref (G.2.1 45)] σ (some (.int (f_X1_toUndo σ))) σ := by
  generalize hF : f_X1_toUndo σ = R
  unfold f_X1_toUndo at hF
  refine mj_of (ls := [(0, .ref (G.2.1 45))]) (by decide) (Nat.le_of_ble_eq_true rfl) rfl (fun p e s m args below meth c C hr hlk => ?_)
  refine mj_aload_n C dX1_toUndo_0 rfl ?_
  refine mg_X1_24 C dX1_toUndo_1 ?_
  subst hF
  exact mj_iret C hr hlk dX1_toUndo_4
set_option maxRecDepth 100000 in
set_option maxHeartbeats 4000000 in
theorem c_X1_toRedo {G : mj_G} {l : Launch} (σ : mj_S) : mj_C G l yX1_toRedo cX1_toRedo 1 (some .int) 1 [.ref (G.2.1 45)] σ (some (.int (f_X1_toRedo σ))) σ := by
  generalize hF : f_X1_toRedo σ = R
  unfold f_X1_toRedo at hF
  refine mj_of (ls := [(0, .ref (G.2.1 45))]) (by decide) (Nat.le_of_ble_eq_true rfl) rfl (fun p e s m args below meth c C hr hlk => ?_)
  refine mj_aload_n C dX1_toRedo_0 rfl ?_
  refine mg_X1_28 C dX1_toRedo_1 ?_
  refine mj_aload_n C dX1_toRedo_4 rfl ?_
  refine mg_X1_24 C dX1_toRedo_5 ?_
  refine mj_isub C dX1_toRedo_8 ?_
  subst hF
  exact mj_iret C hr hlk dX1_toRedo_9
set_option maxRecDepth 100000 in
set_option maxHeartbeats 4000000 in
theorem c_X1_become {G : mj_G} {l : Launch} (σ : mj_S) (p1 : Int32) (p2 : Int32) (p3 : Int32) (R : mj_S) (hF : f_X1_become σ p1 p2 p3 = some R) : mj_C G l yX1_become cX1_become 4 (none) 3 [.ref (G.2.1 45), .int p1, .int p2, .int p3] σ none R := by
  unfold f_X1_become at hF
  refine mj_of (ls := [(0, .ref (G.2.1 45)), (1, .int p1), (2, .int p2), (3, .int p3)]) (by decide) (Nat.le_of_ble_eq_true rfl) rfl (fun p e s m args below meth c C hr hlk => ?_)
  refine mj_iload_n C dX1_become_0 rfl ?_
  by_cases hw1_0 : p2 = 0
  · rw [if_pos hw1_0] at hF
    refine mj_tsIn (off := 31) C dX1_become_1 (by rw [hw1_0]; decide) (by rw [hw1_0]; decide) (by rw [hw1_0]; rfl) rfl ?_
    refine mj_aload_n C dX1_become_32 rfl ?_
    refine mg_X1_35 C dX1_become_33 ?_
    refine mj_iload_n C dX1_become_36 rfl ?_
    refine mj_iload_n C dX1_become_37 rfl ?_
    obtain ⟨r2, hq2, hF⟩ := mj_ob hF
    refine mj_callVv C (c_X5_becomeHeight σ p1 p3 r2 hq2) yv_X5_becomeHeight kl_X1_66 (mo_35 G _) rfl rfl rfl rfl (Nat.le_of_ble_eq_true rfl) (mj_roomC (by decide) (by decide)) ⟨Nat.zero_le _, Nat.zero_le _⟩ dX1_become_38 ?_
    refine mj_goto C dX1_become_41 rfl ?_
    have hF := mj_oi hF; subst hF
    exact mj_vret C hr hlk dX1_become_80
  rw [if_neg hw1_0] at hF
  by_cases hw1_1 : p2 = 1
  · rw [if_pos hw1_1] at hF
    refine mj_tsIn (off := 43) C dX1_become_1 (by rw [hw1_1]; decide) (by rw [hw1_1]; decide) (by rw [hw1_1]; rfl) rfl ?_
    refine mj_aload_n C dX1_become_44 rfl ?_
    refine mg_X1_35 C dX1_become_45 ?_
    refine mj_iload_n C dX1_become_48 rfl ?_
    refine mj_iload_n C dX1_become_49 rfl ?_
    obtain ⟨r3, hq3, hF⟩ := mj_ob hF
    refine mj_callVv C (c_X5_becomeWay σ p1 p3 r3 hq3) yv_X5_becomeWay kl_X1_70 (mo_35 G _) rfl rfl rfl rfl (Nat.le_of_ble_eq_true rfl) (mj_roomC (by decide) (by decide)) ⟨Nat.zero_le _, Nat.zero_le _⟩ dX1_become_50 ?_
    refine mj_goto C dX1_become_53 rfl ?_
    have hF := mj_oi hF; subst hF
    exact mj_vret C hr hlk dX1_become_80
  rw [if_neg hw1_1] at hF
  by_cases hw1_2 : p2 = 2
  · rw [if_pos hw1_2] at hF
    refine mj_tsIn (off := 55) C dX1_become_1 (by rw [hw1_2]; decide) (by rw [hw1_2]; decide) (by rw [hw1_2]; rfl) rfl ?_
    refine mj_aload_n C dX1_become_56 rfl ?_
    refine mg_X1_31 C dX1_become_57 ?_
    refine mj_iload_n C dX1_become_60 rfl ?_
    refine mj_iload_n C dX1_become_61 rfl ?_
    obtain ⟨r4, hq4, hF⟩ := mj_ob hF
    refine mj_callVv C (c_X2_becomeLate σ p1 p3 r4 hq4) yv_X2_becomeLate kl_X1_73 (mo_9 G _) rfl rfl rfl rfl (Nat.le_of_ble_eq_true rfl) (mj_roomC (by decide) (by decide)) ⟨Nat.zero_le _, Nat.zero_le _⟩ dX1_become_62 ?_
    refine mj_goto C dX1_become_65 rfl ?_
    have hF := mj_oi hF; subst hF
    exact mj_vret C hr hlk dX1_become_80
  rw [if_neg hw1_2] at hF
  by_cases hw1_3 : p2 = 3
  · rw [if_pos hw1_3] at hF
    refine mj_tsIn (off := 67) C dX1_become_1 (by rw [hw1_3]; decide) (by rw [hw1_3]; decide) (by rw [hw1_3]; rfl) rfl ?_
    refine mj_aload_n C dX1_become_68 rfl ?_
    refine mg_X1_31 C dX1_become_69 ?_
    refine mj_iload_n C dX1_become_72 rfl ?_
    refine mj_iload_n C dX1_become_73 rfl ?_
    obtain ⟨r5, hq5, hF⟩ := mj_ob hF
    refine mj_callVv C (c_X2_becomeParents σ p1 p3 r5 hq5) yv_X2_becomeParents kl_X1_76 (mo_9 G _) rfl rfl rfl rfl (Nat.le_of_ble_eq_true rfl) (mj_roomC (by decide) (by decide)) ⟨Nat.zero_le _, Nat.zero_le _⟩ dX1_become_74 ?_
    refine mj_goto C dX1_become_77 rfl ?_
    have hF := mj_oi hF; subst hF
    exact mj_vret C hr hlk dX1_become_80
  rw [if_neg hw1_3] at hF
  refine mj_tsOut C dX1_become_1 (mj_sw_0_4 hw1_0 hw1_1 hw1_2 hw1_3) rfl ?_
  have hF := mj_oi hF; subst hF
  exact mj_vret C hr hlk dX1_become_80
set_option maxRecDepth 100000 in
set_option maxHeartbeats 4000000 in
theorem c_X1_dropOldest {G : mj_G} {l : Launch} (σ : mj_S) (R : mj_S) (hF : f_X1_dropOldest σ = some R) : mj_C G l yX1_dropOldest cX1_dropOldest 1 (none) 1 [.ref (G.2.1 45)] σ none R := by
  unfold f_X1_dropOldest at hF
  refine mj_of (ls := [(0, .ref (G.2.1 45))]) (by decide) (Nat.le_of_ble_eq_true rfl) rfl (fun p e s m args below meth c C hr hlk => ?_)
  refine mj_aload_n C dX1_dropOldest_0 rfl ?_
  refine mj_bipushV (v := 39) C dX1_dropOldest_1 mc_b_39 ?_
  refine mp_X1_24 C dX1_dropOldest_3 ?_
  refine mj_aload_n C dX1_dropOldest_6 rfl ?_
  refine mg_X1_11 C dX1_dropOldest_7 ?_
  refine mj_iconstV (v := 1) C dX1_dropOldest_10 mc_i_1 ?_
  refine mj_aload_n C dX1_dropOldest_11 rfl ?_
  refine mg_X1_11 C dX1_dropOldest_12 ?_
  refine mj_iconstV (v := 0) C dX1_dropOldest_15 mc_i_0 ?_
  refine mj_aload_n C dX1_dropOldest_16 rfl ?_
  refine mg_X1_24 C dX1_dropOldest_17 ?_
  obtain ⟨hg1, hF⟩ := mj_og hF
  refine mj_copyI C kl_X1_82 rfl rfl hg1 (mj_roomCp (by decide) (Nat.le_of_ble_eq_true rfl)) dX1_dropOldest_20 ?_
  refine mj_aload_n C dX1_dropOldest_23 rfl ?_
  refine mg_X1_15 C dX1_dropOldest_24 ?_
  refine mj_iconstV (v := 1) C dX1_dropOldest_27 mc_i_1 ?_
  refine mj_aload_n C dX1_dropOldest_28 rfl ?_
  refine mg_X1_15 C dX1_dropOldest_29 ?_
  refine mj_iconstV (v := 0) C dX1_dropOldest_32 mc_i_0 ?_
  refine mj_aload_n C dX1_dropOldest_33 rfl ?_
  refine mg_X1_24 C dX1_dropOldest_34 ?_
  obtain ⟨hg2, hF⟩ := mj_og hF
  refine mj_copyI C kl_X1_82 rfl rfl hg2 (mj_roomCp (by decide) (Nat.le_of_ble_eq_true rfl)) dX1_dropOldest_37 ?_
  refine mj_aload_n C dX1_dropOldest_40 rfl ?_
  refine mg_X1_18 C dX1_dropOldest_41 ?_
  refine mj_iconstV (v := 1) C dX1_dropOldest_44 mc_i_1 ?_
  refine mj_aload_n C dX1_dropOldest_45 rfl ?_
  refine mg_X1_18 C dX1_dropOldest_46 ?_
  refine mj_iconstV (v := 0) C dX1_dropOldest_49 mc_i_0 ?_
  refine mj_aload_n C dX1_dropOldest_50 rfl ?_
  refine mg_X1_24 C dX1_dropOldest_51 ?_
  obtain ⟨hg3, hF⟩ := mj_og hF
  refine mj_copyI C kl_X1_82 rfl rfl hg3 (mj_roomCp (by decide) (Nat.le_of_ble_eq_true rfl)) dX1_dropOldest_54 ?_
  refine mj_aload_n C dX1_dropOldest_57 rfl ?_
  refine mg_X1_21 C dX1_dropOldest_58 ?_
  refine mj_iconstV (v := 1) C dX1_dropOldest_61 mc_i_1 ?_
  refine mj_aload_n C dX1_dropOldest_62 rfl ?_
  refine mg_X1_21 C dX1_dropOldest_63 ?_
  refine mj_iconstV (v := 0) C dX1_dropOldest_66 mc_i_0 ?_
  refine mj_aload_n C dX1_dropOldest_67 rfl ?_
  refine mg_X1_24 C dX1_dropOldest_68 ?_
  obtain ⟨hg4, hF⟩ := mj_og hF
  refine mj_copyI C kl_X1_82 rfl rfl hg4 (mj_roomCp (by decide) (Nat.le_of_ble_eq_true rfl)) dX1_dropOldest_71 ?_
  have hF := mj_oi hF; subst hF
  exact mj_vret C hr hlk dX1_dropOldest_74
set_option maxRecDepth 100000 in
set_option maxHeartbeats 4000000 in
theorem w_X1_remember_13 {p : Program} {l : Launch} {e : Env} {s : State} {m : MethodId} {args : Array Value} {below : List Frame} {meth : Method} {c : Code} {G : mj_G} (C : mj_X p s m args meth c G cX1_remember 5 RX1) (hr : meth.sig.returnType = none) (hlk : meth.locks = false) : ∀ (v1 : Int32) (v2 : Int32) (v3 : Int32) (v4 : Int32) (σ : mj_S) (R : mj_S), b_X1_remember_13 v1 v2 v3 v4 σ = some R → mj_W p l e (mj_rm 2) s m args below meth c G 0 0 5 (MQ below (mj_Q G none R) args s 0 0 G.2.2.2) 13 [(0, .ref (G.2.1 45)), (1, .int v1), (2, .int v2), (3, .int v3), (4, .int v4)] [] σ := by
  intro v1 v2 v3 v4 σ R hF
  unfold b_X1_remember_13 at hF
  refine mj_aload_n C dX1_remember_13 rfl ?_
  refine mg_X1_11 C dX1_remember_14 ?_
  refine mj_aload_n C dX1_remember_17 rfl ?_
  refine mg_X1_24 C dX1_remember_18 ?_
  refine mj_iload_n C dX1_remember_21 rfl ?_
  obtain ⟨hg2, hF⟩ := mj_og hF
  refine mj_iastore C dX1_remember_22 rfl hg2 ?_
  refine mj_aload_n C dX1_remember_23 rfl ?_
  refine mg_X1_15 C dX1_remember_24 ?_
  refine mj_aload_n C dX1_remember_27 rfl ?_
  refine mg_X1_24 C dX1_remember_28 ?_
  refine mj_iload_n C dX1_remember_31 rfl ?_
  obtain ⟨hg3, hF⟩ := mj_og hF
  refine mj_iastore C dX1_remember_32 rfl hg3 ?_
  refine mj_aload_n C dX1_remember_33 rfl ?_
  refine mg_X1_18 C dX1_remember_34 ?_
  refine mj_aload_n C dX1_remember_37 rfl ?_
  refine mg_X1_24 C dX1_remember_38 ?_
  refine mj_iload_n C dX1_remember_41 rfl ?_
  obtain ⟨hg4, hF⟩ := mj_og hF
  refine mj_iastore C dX1_remember_42 rfl hg4 ?_
  refine mj_aload_n C dX1_remember_43 rfl ?_
  refine mg_X1_21 C dX1_remember_44 ?_
  refine mj_aload_n C dX1_remember_47 rfl ?_
  refine mg_X1_24 C dX1_remember_48 ?_
  refine mj_iload C dX1_remember_51 rfl ?_
  obtain ⟨hg5, hF⟩ := mj_og hF
  refine mj_iastore C dX1_remember_53 rfl hg5 ?_
  refine mj_aload_n C dX1_remember_54 rfl ?_
  refine mj_dup C dX1_remember_55 rfl ?_
  refine mg_X1_24 C dX1_remember_56 ?_
  refine mj_iconstV (v := 1) C dX1_remember_59 mc_i_1 ?_
  refine mj_iadd C dX1_remember_60 ?_
  refine mp_X1_24 C dX1_remember_61 ?_
  refine mj_aload_n C dX1_remember_64 rfl ?_
  refine mj_aload_n C dX1_remember_65 rfl ?_
  refine mg_X1_24 C dX1_remember_66 ?_
  refine mp_X1_28 C dX1_remember_69 ?_
  have hF := mj_oi hF; subst hF
  exact mj_vret C hr hlk dX1_remember_72
set_option maxRecDepth 100000 in
set_option maxHeartbeats 4000000 in
theorem c_X1_remember {G : mj_G} {l : Launch} (σ : mj_S) (p1 : Int32) (p2 : Int32) (p3 : Int32) (p4 : Int32) (R : mj_S) (hF : f_X1_remember σ p1 p2 p3 p4 = some R) : mj_C G l yX1_remember cX1_remember 5 (none) 2 [.ref (G.2.1 45), .int p1, .int p2, .int p3, .int p4] σ none R := by
  unfold f_X1_remember at hF
  refine mj_of (ls := [(0, .ref (G.2.1 45)), (1, .int p1), (2, .int p2), (3, .int p3), (4, .int p4)]) (by decide) (Nat.le_of_ble_eq_true rfl) rfl (fun p e s m args below meth c C hr hlk => ?_)
  refine mj_aload_n C dX1_remember_0 rfl ?_
  refine mg_X1_24 C dX1_remember_1 ?_
  refine mj_bipushV (v := 40) C dX1_remember_4 mc_b_40 ?_
  refine mj_ic_lt C dX1_remember_6 rfl hF (fun hc1 hF => ?_) (fun hc1 hF => ?_)
  · refine mj_to ?_ (w_X1_remember_13 C hr hlk p1 p2 p3 p4 σ R hF)
    exact ⟨rfl, rfl, rfl, rfl, rfl, trivial⟩
  · refine mj_aload_n C dX1_remember_9 rfl ?_
    obtain ⟨r6, hq6, hF⟩ := mj_ob hF
    refine mj_callVv C (c_X1_dropOldest σ r6 hq6) yv_X1_dropOldest kl_X1_79 (mo_45 G _) rfl rfl rfl rfl (Nat.le_of_ble_eq_true rfl) (mj_roomC (by decide) (by decide)) ⟨Nat.zero_le _, Nat.zero_le _⟩ dX1_remember_10 ?_
    refine mj_to ?_ (w_X1_remember_13 C hr hlk p1 p2 p3 p4 r6 R hF)
    exact ⟨rfl, rfl, rfl, rfl, rfl, trivial⟩
set_option maxRecDepth 100000 in
set_option maxHeartbeats 4000000 in
theorem c_X1_valueOf {G : mj_G} {l : Launch} (σ : mj_S) (p1 : Int32) (p2 : Int32) (R : Int32) (hF : f_X1_valueOf σ p1 p2 = some R) : mj_C G l yX1_valueOf cX1_valueOf 3 (some .int) 3 [.ref (G.2.1 45), .int p1, .int p2] σ (some (.int R)) σ := by
  unfold f_X1_valueOf at hF
  refine mj_of (ls := [(0, .ref (G.2.1 45)), (1, .int p1), (2, .int p2)]) (by decide) (Nat.le_of_ble_eq_true rfl) rfl (fun p e s m args below meth c C hr hlk => ?_)
  refine mj_iload_n C dX1_valueOf_0 rfl ?_
  by_cases hw1_0 : p2 = 0
  · rw [if_pos hw1_0] at hF
    refine mj_tsIn (off := 31) C dX1_valueOf_1 (by rw [hw1_0]; decide) (by rw [hw1_0]; decide) (by rw [hw1_0]; rfl) rfl ?_
    refine mj_aload_n C dX1_valueOf_32 rfl ?_
    refine mg_X1_35 C dX1_valueOf_33 ?_
    refine mj_iload_n C dX1_valueOf_36 rfl ?_
    obtain ⟨r2, hq2, hF⟩ := mj_ob hF
    refine mj_callVi C (c_X5_heightOf σ p1 r2 hq2) yv_X5_heightOf kl_X1_51 (mo_35 G _) rfl rfl rfl rfl (Nat.le_of_ble_eq_true rfl) (mj_roomC (by decide) (by decide)) ⟨Nat.zero_le _, Nat.zero_le _⟩ dX1_valueOf_37 ?_
    have hF := mj_oi hF; subst hF
    exact mj_iret C hr hlk dX1_valueOf_40
  rw [if_neg hw1_0] at hF
  by_cases hw1_1 : p2 = 1
  · rw [if_pos hw1_1] at hF
    refine mj_tsIn (off := 40) C dX1_valueOf_1 (by rw [hw1_1]; decide) (by rw [hw1_1]; decide) (by rw [hw1_1]; rfl) rfl ?_
    refine mj_aload_n C dX1_valueOf_41 rfl ?_
    refine mg_X1_35 C dX1_valueOf_42 ?_
    refine mj_iload_n C dX1_valueOf_45 rfl ?_
    obtain ⟨r3, hq3, hF⟩ := mj_ob hF
    refine mj_callVi C (c_X5_wayOf σ p1 r3 hq3) yv_X5_wayOf kl_X1_57 (mo_35 G _) rfl rfl rfl rfl (Nat.le_of_ble_eq_true rfl) (mj_roomC (by decide) (by decide)) ⟨Nat.zero_le _, Nat.zero_le _⟩ dX1_valueOf_46 ?_
    have hF := mj_oi hF; subst hF
    exact mj_iret C hr hlk dX1_valueOf_49
  rw [if_neg hw1_1] at hF
  by_cases hw1_2 : p2 = 2
  · rw [if_pos hw1_2] at hF
    refine mj_tsIn (off := 49) C dX1_valueOf_1 (by rw [hw1_2]; decide) (by rw [hw1_2]; decide) (by rw [hw1_2]; rfl) rfl ?_
    refine mj_aload_n C dX1_valueOf_50 rfl ?_
    refine mg_X1_31 C dX1_valueOf_51 ?_
    refine mj_iload_n C dX1_valueOf_54 rfl ?_
    refine mj_iconstV (v := 3) C dX1_valueOf_55 mc_i_3 ?_
    obtain ⟨r4, hq4, hF⟩ := mj_ob hF
    refine mj_callVi C (c_X2_told σ p1 3 r4 hq4) yv_X2_told kl_X1_60 (mo_9 G _) rfl rfl rfl rfl (Nat.le_of_ble_eq_true rfl) (mj_roomC (by decide) (by decide)) ⟨Nat.zero_le _, Nat.zero_le _⟩ dX1_valueOf_56 ?_
    have hF := mj_oi hF; subst hF
    exact mj_iret C hr hlk dX1_valueOf_59
  rw [if_neg hw1_2] at hF
  by_cases hw1_3 : p2 = 3
  · rw [if_pos hw1_3] at hF
    refine mj_tsIn (off := 59) C dX1_valueOf_1 (by rw [hw1_3]; decide) (by rw [hw1_3]; decide) (by rw [hw1_3]; rfl) rfl ?_
    refine mj_aload_n C dX1_valueOf_60 rfl ?_
    refine mg_X1_31 C dX1_valueOf_61 ?_
    refine mj_iload_n C dX1_valueOf_64 rfl ?_
    refine mj_iconstV (v := 4) C dX1_valueOf_65 mc_i_4 ?_
    obtain ⟨r5, hq5, hF⟩ := mj_ob hF
    refine mj_callVi C (c_X2_told σ p1 4 r5 hq5) yv_X2_told kl_X1_60 (mo_9 G _) rfl rfl rfl rfl (Nat.le_of_ble_eq_true rfl) (mj_roomC (by decide) (by decide)) ⟨Nat.zero_le _, Nat.zero_le _⟩ dX1_valueOf_66 ?_
    have hF := mj_oi hF; subst hF
    exact mj_iret C hr hlk dX1_valueOf_69
  rw [if_neg hw1_3] at hF
  refine mj_tsOut C dX1_valueOf_1 (mj_sw_0_4 hw1_0 hw1_1 hw1_2 hw1_3) rfl ?_
  refine mj_ldc C dX1_valueOf_70 kc_X1_65 ?_
  have hF := mj_oi hF; subst hF
  exact mj_iret C hr hlk dX1_valueOf_72
set_option maxRecDepth 100000 in
set_option maxHeartbeats 4000000 in
theorem c_X1_change {G : mj_G} {l : Launch} (σ : mj_S) (p1 : Int32) (p2 : Int32) (p3 : Int32) (R : (Int32 × mj_S)) (hF : f_X1_change σ p1 p2 p3 = some R) : mj_C G l yX1_change cX1_change 5 (some .int) 4 [.ref (G.2.1 45), .int p1, .int p2, .int p3] σ (some (.int R.1)) R.2 := by
  unfold f_X1_change at hF
  refine mj_of (ls := [(0, .ref (G.2.1 45)), (1, .int p1), (2, .int p2), (3, .int p3)]) (by decide) (Nat.le_of_ble_eq_true rfl) rfl (fun p e s m args below meth c C hr hlk => ?_)
  refine mj_aload_n C dX1_change_0 rfl ?_
  refine mj_iload_n C dX1_change_1 rfl ?_
  refine mj_iload_n C dX1_change_2 rfl ?_
  obtain ⟨r1, hq1, hF⟩ := mj_ob hF
  refine mj_callVi C (c_X1_valueOf σ p1 p2 r1 hq1) yv_X1_valueOf kl_X1_39 (mo_45 G _) rfl rfl rfl rfl (Nat.le_of_ble_eq_true rfl) (mj_roomC (by decide) (by decide)) ⟨Nat.zero_le _, Nat.zero_le _⟩ dX1_change_3 ?_
  refine mj_istore C dX1_change_6 (by decide) ?_
  refine mj_iload C dX1_change_8 rfl ?_
  refine mj_iload_n C dX1_change_10 rfl ?_
  refine mj_ic_eq C dX1_change_11 rfl hF (fun hc2 hF => ?_) (fun hc2 hF => ?_)
  · refine mj_iload C dX1_change_30 rfl ?_
    have hF := mj_oi hF; subst hF
    exact mj_iret C hr hlk dX1_change_32
  · refine mj_aload_n C dX1_change_14 rfl ?_
    refine mj_iload_n C dX1_change_15 rfl ?_
    refine mj_iload_n C dX1_change_16 rfl ?_
    refine mj_iload_n C dX1_change_17 rfl ?_
    obtain ⟨r3, hq3, hF⟩ := mj_ob hF
    refine mj_callVv C (c_X1_become σ p1 p2 p3 r3 hq3) yv_X1_become kl_X1_43 (mo_45 G _) rfl rfl rfl rfl (Nat.le_of_ble_eq_true rfl) (mj_roomC (by decide) (by decide)) ⟨Nat.zero_le _, Nat.zero_le _⟩ dX1_change_18 ?_
    refine mj_aload_n C dX1_change_21 rfl ?_
    refine mj_iload_n C dX1_change_22 rfl ?_
    refine mj_iload_n C dX1_change_23 rfl ?_
    refine mj_iload C dX1_change_24 rfl ?_
    refine mj_iload_n C dX1_change_26 rfl ?_
    obtain ⟨r4, hq4, hF⟩ := mj_ob hF
    refine mj_callVv C (c_X1_remember r3 p1 p2 r1 p3 r4 hq4) yv_X1_remember kl_X1_47 (mo_45 G _) rfl rfl rfl rfl (Nat.le_of_ble_eq_true rfl) (mj_roomC (by decide) (by decide)) ⟨Nat.zero_le _, Nat.zero_le _⟩ dX1_change_27 ?_
    refine mj_iload C dX1_change_30 rfl ?_
    have hF := mj_oi hF; subst hF
    exact mj_iret C hr hlk dX1_change_32
set_option maxRecDepth 100000 in
set_option maxHeartbeats 4000000 in
theorem c_X1_goBack {G : mj_G} {l : Launch} (σ : mj_S) (R : mj_S) (hF : f_X1_goBack σ = some R) : mj_C G l yX1_goBack cX1_goBack 1 (none) 4 [.ref (G.2.1 45)] σ none R := by
  unfold f_X1_goBack at hF
  refine mj_of (ls := [(0, .ref (G.2.1 45))]) (by decide) (Nat.le_of_ble_eq_true rfl) rfl (fun p e s m args below meth c C hr hlk => ?_)
  refine mj_aload_n C dX1_goBack_0 rfl ?_
  refine mg_X1_24 C dX1_goBack_1 ?_
  refine mj_if_le C dX1_goBack_4 rfl hF (fun hc1 hF => ?_) (fun hc1 hF => ?_)
  · have hF := mj_oi hF; subst hF
    exact mj_vret C hr hlk dX1_goBack_48
  · refine mj_aload_n C dX1_goBack_7 rfl ?_
    refine mj_dup C dX1_goBack_8 rfl ?_
    refine mg_X1_24 C dX1_goBack_9 ?_
    refine mj_iconstV (v := 1) C dX1_goBack_12 mc_i_1 ?_
    refine mj_isub C dX1_goBack_13 ?_
    refine mp_X1_24 C dX1_goBack_14 ?_
    refine mj_aload_n C dX1_goBack_17 rfl ?_
    refine mj_aload_n C dX1_goBack_18 rfl ?_
    refine mg_X1_11 C dX1_goBack_19 ?_
    refine mj_aload_n C dX1_goBack_22 rfl ?_
    refine mg_X1_24 C dX1_goBack_23 ?_
    obtain ⟨hg2, hF⟩ := mj_og hF
    refine mj_iaload C dX1_goBack_26 rfl hg2 ?_
    refine mj_aload_n C dX1_goBack_27 rfl ?_
    refine mg_X1_15 C dX1_goBack_28 ?_
    refine mj_aload_n C dX1_goBack_31 rfl ?_
    refine mg_X1_24 C dX1_goBack_32 ?_
    obtain ⟨hg3, hF⟩ := mj_og hF
    refine mj_iaload C dX1_goBack_35 rfl hg3 ?_
    refine mj_aload_n C dX1_goBack_36 rfl ?_
    refine mg_X1_18 C dX1_goBack_37 ?_
    refine mj_aload_n C dX1_goBack_40 rfl ?_
    refine mg_X1_24 C dX1_goBack_41 ?_
    obtain ⟨hg4, hF⟩ := mj_og hF
    refine mj_iaload C dX1_goBack_44 rfl hg4 ?_
    obtain ⟨r5, hq5, hF⟩ := mj_ob hF
    refine mj_callVv C (c_X1_become (mj_sI σ 45 6 ((σ.1 45 6) - 1)) (σ.1 46 ((σ.1 45 6) - 1).toNatClampNeg) (σ.1 47 ((σ.1 45 6) - 1).toNatClampNeg) (σ.1 48 ((σ.1 45 6) - 1).toNatClampNeg) r5 hq5) yv_X1_become kl_X1_43 (mo_45 G _) rfl rfl rfl rfl (Nat.le_of_ble_eq_true rfl) (mj_roomC (by decide) (by decide)) ⟨Nat.zero_le _, Nat.zero_le _⟩ dX1_goBack_45 ?_
    have hF := mj_oi hF; subst hF
    exact mj_vret C hr hlk dX1_goBack_48
set_option maxRecDepth 100000 in
set_option maxHeartbeats 4000000 in
theorem c_X1_goForward {G : mj_G} {l : Launch} (σ : mj_S) (R : mj_S) (hF : f_X1_goForward σ = some R) : mj_C G l yX1_goForward cX1_goForward 1 (none) 4 [.ref (G.2.1 45)] σ none R := by
  unfold f_X1_goForward at hF
  refine mj_of (ls := [(0, .ref (G.2.1 45))]) (by decide) (Nat.le_of_ble_eq_true rfl) rfl (fun p e s m args below meth c C hr hlk => ?_)
  refine mj_aload_n C dX1_goForward_0 rfl ?_
  refine mg_X1_24 C dX1_goForward_1 ?_
  refine mj_aload_n C dX1_goForward_4 rfl ?_
  refine mg_X1_28 C dX1_goForward_5 ?_
  refine mj_ic_ge C dX1_goForward_8 rfl hF (fun hc1 hF => ?_) (fun hc1 hF => ?_)
  · have hF := mj_oi hF; subst hF
    exact mj_vret C hr hlk dX1_goForward_61
  · refine mj_aload_n C dX1_goForward_11 rfl ?_
    refine mg_X1_24 C dX1_goForward_12 ?_
    refine mj_bipushV (v := 40) C dX1_goForward_15 mc_b_40 ?_
    refine mj_ic_ge C dX1_goForward_17 rfl hF (fun hc2 hF => ?_) (fun hc2 hF => ?_)
    · have hF := mj_oi hF; subst hF
      exact mj_vret C hr hlk dX1_goForward_61
    · refine mj_aload_n C dX1_goForward_20 rfl ?_
      refine mj_aload_n C dX1_goForward_21 rfl ?_
      refine mg_X1_11 C dX1_goForward_22 ?_
      refine mj_aload_n C dX1_goForward_25 rfl ?_
      refine mg_X1_24 C dX1_goForward_26 ?_
      obtain ⟨hg3, hF⟩ := mj_og hF
      refine mj_iaload C dX1_goForward_29 rfl hg3 ?_
      refine mj_aload_n C dX1_goForward_30 rfl ?_
      refine mg_X1_15 C dX1_goForward_31 ?_
      refine mj_aload_n C dX1_goForward_34 rfl ?_
      refine mg_X1_24 C dX1_goForward_35 ?_
      obtain ⟨hg4, hF⟩ := mj_og hF
      refine mj_iaload C dX1_goForward_38 rfl hg4 ?_
      refine mj_aload_n C dX1_goForward_39 rfl ?_
      refine mg_X1_21 C dX1_goForward_40 ?_
      refine mj_aload_n C dX1_goForward_43 rfl ?_
      refine mg_X1_24 C dX1_goForward_44 ?_
      obtain ⟨hg5, hF⟩ := mj_og hF
      refine mj_iaload C dX1_goForward_47 rfl hg5 ?_
      obtain ⟨r6, hq6, hF⟩ := mj_ob hF
      refine mj_callVv C (c_X1_become σ (σ.1 46 (σ.1 45 6).toNatClampNeg) (σ.1 47 (σ.1 45 6).toNatClampNeg) (σ.1 49 (σ.1 45 6).toNatClampNeg) r6 hq6) yv_X1_become kl_X1_43 (mo_45 G _) rfl rfl rfl rfl (Nat.le_of_ble_eq_true rfl) (mj_roomC (by decide) (by decide)) ⟨Nat.zero_le _, Nat.zero_le _⟩ dX1_goForward_48 ?_
      refine mj_aload_n C dX1_goForward_51 rfl ?_
      refine mj_dup C dX1_goForward_52 rfl ?_
      refine mg_X1_24 C dX1_goForward_53 ?_
      refine mj_iconstV (v := 1) C dX1_goForward_56 mc_i_1 ?_
      refine mj_iadd C dX1_goForward_57 ?_
      refine mp_X1_24 C dX1_goForward_58 ?_
      have hF := mj_oi hF; subst hF
      exact mj_vret C hr hlk dX1_goForward_61
