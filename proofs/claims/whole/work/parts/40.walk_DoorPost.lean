set_option maxRecDepth 100000 in
set_option maxHeartbeats 4000000 in
theorem c_X9_tall {G : mj_G} {l : Launch} (σ : mj_S) (p1 : Int32) (p2 : Int32) (R : Int32) (hF : f_X9_tall σ p1 p2 = some R) : mj_C G l yX9_tall cX9_tall 4 (some .int) 5 [.ref (G.2.1 0), .int p1, .int p2] σ (some (.int R)) σ := by
  unfold f_X9_tall at hF
  refine mj_of (ls := [(0, .ref (G.2.1 0)), (1, .int p1), (2, .int p2)]) (by decide) (Nat.le_of_ble_eq_true rfl) rfl (fun p e s m args below meth c C hr hlk => ?_)
  refine mj_aload_n C dX9_tall_0 rfl ?_
  refine mg_X9_28 C dX9_tall_1 ?_
  refine mj_iload_n C dX9_tall_4 rfl ?_
  refine mj_callVi C (c_X2_has σ p1) yv_X2_has kl_X9_132 (mo_9 G _) rfl rfl rfl rfl (Nat.le_of_ble_eq_true rfl) (mj_roomC (by decide) (by decide)) ⟨Nat.zero_le _, Nat.zero_le _⟩ dX9_tall_5 ?_
  refine mj_if_ne C dX9_tall_8 rfl hF (fun hc1 hF => ?_) (fun hc1 hF => ?_)
  · refine mj_iload_n C dX9_tall_14 rfl ?_
    by_cases hw2_0 : p2 = 0
    · rw [if_pos hw2_0] at hF
      refine mj_tsIn (off := 33) C dX9_tall_15 (by rw [hw2_0]; decide) (by rw [hw2_0]; decide) (by rw [hw2_0]; rfl) rfl ?_
      refine mj_aload_n C dX9_tall_48 rfl ?_
      refine mg_X9_53 C dX9_tall_49 ?_
      refine mj_iload_n C dX9_tall_52 rfl ?_
      obtain ⟨r3, hq3, hF⟩ := mj_ob hF
      refine mj_callVi C (c_X6_endOf σ p1 r3 hq3) yv_X6_endOf kl_X9_231 (mo_44 G _) rfl rfl rfl rfl (Nat.le_of_ble_eq_true rfl) (mj_roomC (by decide) (by decide)) ⟨Nat.zero_le _, Nat.zero_le _⟩ dX9_tall_53 ?_
      have hF := mj_oi hF; subst hF
      exact mj_iret C hr hlk dX9_tall_56
    rw [if_neg hw2_0] at hF
    by_cases hw2_1 : p2 = 1
    · rw [if_pos hw2_1] at hF
      refine mj_tsIn (off := 42) C dX9_tall_15 (by rw [hw2_1]; decide) (by rw [hw2_1]; decide) (by rw [hw2_1]; rfl) rfl ?_
      refine mj_aload_n C dX9_tall_57 rfl ?_
      refine mg_X9_53 C dX9_tall_58 ?_
      refine mj_iload_n C dX9_tall_61 rfl ?_
      obtain ⟨r4, hq4, hF⟩ := mj_ob hF
      refine mj_callVi C (c_X6_twiceAtTwo σ p1 r4 hq4) yv_X6_twiceAtTwo kl_X9_234 (mo_44 G _) rfl rfl rfl rfl (Nat.le_of_ble_eq_true rfl) (mj_roomC (by decide) (by decide)) ⟨Nat.zero_le _, Nat.zero_le _⟩ dX9_tall_62 ?_
      have hF := mj_oi hF; subst hF
      exact mj_iret C hr hlk dX9_tall_65
    rw [if_neg hw2_1] at hF
    by_cases hw2_2 : p2 = 2
    · rw [if_pos hw2_2] at hF
      refine mj_tsIn (off := 51) C dX9_tall_15 (by rw [hw2_2]; decide) (by rw [hw2_2]; decide) (by rw [hw2_2]; rfl) rfl ?_
      refine mj_aload_n C dX9_tall_66 rfl ?_
      refine mg_X9_53 C dX9_tall_67 ?_
      refine mj_iload_n C dX9_tall_70 rfl ?_
      obtain ⟨r5, hq5, hF⟩ := mj_ob hF
      refine mj_callVi C (c_X6_byParents σ p1 r5 hq5) yv_X6_byParents kl_X9_237 (mo_44 G _) rfl rfl rfl rfl (Nat.le_of_ble_eq_true rfl) (mj_roomC (by decide) (by decide)) ⟨Nat.zero_le _, Nat.zero_le _⟩ dX9_tall_71 ?_
      have hF := mj_oi hF; subst hF
      exact mj_iret C hr hlk dX9_tall_74
    rw [if_neg hw2_2] at hF
    by_cases hw2_3 : p2 = 3
    · rw [if_pos hw2_3] at hF
      refine mj_tsIn (off := 60) C dX9_tall_15 (by rw [hw2_3]; decide) (by rw [hw2_3]; decide) (by rw [hw2_3]; rfl) rfl ?_
      refine mj_aload_n C dX9_tall_75 rfl ?_
      refine mg_X9_53 C dX9_tall_76 ?_
      refine mj_iload_n C dX9_tall_79 rfl ?_
      obtain ⟨r6, hq6, hF⟩ := mj_ob hF
      refine mj_callVi C (c_X6_twiceAtTwo σ p1 r6 hq6) yv_X6_twiceAtTwo kl_X9_234 (mo_44 G _) rfl rfl rfl rfl (Nat.le_of_ble_eq_true rfl) (mj_roomC (by decide) (by decide)) ⟨Nat.zero_le _, Nat.zero_le _⟩ dX9_tall_80 ?_
      refine mj_istore_n C dX9_tall_83 (by decide) ?_
      refine mj_iload_n C dX9_tall_84 rfl ?_
      refine mj_bipushV (v := (-2)) C dX9_tall_85 mc_b_m2 ?_
      refine mj_ic_ne C dX9_tall_87 rfl hF (fun hc7 hF => ?_) (fun hc7 hF => ?_)
      · refine mj_aload_n C dX9_tall_95 rfl ?_
        refine mg_X9_53 C dX9_tall_96 ?_
        refine mj_iload_n C dX9_tall_99 rfl ?_
        obtain ⟨r8, hq8, hF⟩ := mj_ob hF
        refine mj_callVi C (c_X6_endOf σ p1 r8 hq8) yv_X6_endOf kl_X9_231 (mo_44 G _) rfl rfl rfl rfl (Nat.le_of_ble_eq_true rfl) (mj_roomC (by decide) (by decide)) ⟨Nat.zero_le _, Nat.zero_le _⟩ dX9_tall_100 ?_
        refine mj_iload_n C dX9_tall_103 rfl ?_
        refine mj_isub C dX9_tall_104 ?_
        have hF := mj_oi hF; subst hF
        exact mj_iret C hr hlk dX9_tall_105
      · refine mj_ldc C dX9_tall_90 kc_X9_173 ?_
        refine mj_goto C dX9_tall_92 rfl ?_
        have hF := mj_oi hF; subst hF
        exact mj_iret C hr hlk dX9_tall_105
    rw [if_neg hw2_3] at hF
    by_cases hw2_4 : p2 = 4
    · rw [if_pos hw2_4] at hF
      refine mj_tsIn (off := 91) C dX9_tall_15 (by rw [hw2_4]; decide) (by rw [hw2_4]; decide) (by rw [hw2_4]; rfl) rfl ?_
      refine mj_aload_n C dX9_tall_106 rfl ?_
      refine mg_X9_53 C dX9_tall_107 ?_
      refine mj_iload_n C dX9_tall_110 rfl ?_
      obtain ⟨r9, hq9, hF⟩ := mj_ob hF
      refine mj_callVi C (c_X6_endOf σ p1 r9 hq9) yv_X6_endOf kl_X9_231 (mo_44 G _) rfl rfl rfl rfl (Nat.le_of_ble_eq_true rfl) (mj_roomC (by decide) (by decide)) ⟨Nat.zero_le _, Nat.zero_le _⟩ dX9_tall_111 ?_
      refine mj_aload_n C dX9_tall_114 rfl ?_
      refine mg_X9_53 C dX9_tall_115 ?_
      refine mj_iload_n C dX9_tall_118 rfl ?_
      obtain ⟨r10, hq10, hF⟩ := mj_ob hF
      refine mj_callVi C (c_X6_byParents σ p1 r10 hq10) yv_X6_byParents kl_X9_237 (mo_44 G _) rfl rfl rfl rfl (Nat.le_of_ble_eq_true rfl) (mj_roomC (by decide) (by decide)) ⟨Nat.zero_le _, Nat.zero_le _⟩ dX9_tall_119 ?_
      refine mj_isub C dX9_tall_122 ?_
      have hF := mj_oi hF; subst hF
      exact mj_iret C hr hlk dX9_tall_123
    rw [if_neg hw2_4] at hF
    refine mj_tsOut C dX9_tall_15 (mj_sw_0_5 hw2_0 hw2_1 hw2_2 hw2_3 hw2_4) rfl ?_
    refine mj_ldc C dX9_tall_124 kc_X9_173 ?_
    have hF := mj_oi hF; subst hF
    exact mj_iret C hr hlk dX9_tall_126
  · refine mj_ldc C dX9_tall_11 kc_X9_173 ?_
    have hF := mj_oi hF; subst hF
    exact mj_iret C hr hlk dX9_tall_13
set_option maxRecDepth 100000 in
set_option maxHeartbeats 4000000 in
theorem w_X9_year_37 {p : Program} {l : Launch} {e : Env} {s : State} {m : MethodId} {args : Array Value} {below : List Frame} {meth : Method} {c : Code} {G : mj_G} {σ : mj_S} (C : mj_X p s m args meth c G cX9_year 4 RX9) (hr : meth.sig.returnType = some .int) (hlk : meth.locks = false) : ∀ (v1 : Int32) (v2 : Int32) (t1 : Int32) (t2 : Int32) (R : Int32), b_X9_year_37 σ v1 v2 t1 t2 = some R → mj_W p l e (mj_rm 5) s m args below meth c G 0 0 4 (MQ below (mj_Q G (some (.int R)) σ) args s 0 0 G.2.2.2) 37 [(0, .ref (G.2.1 0)), (1, .int v1), (2, .int v2)] [.int t2, .int t1, .ref (G.2.1 44)] σ := by
  intro v1 v2 t1 t2 R hF
  unfold b_X9_year_37 at hF
  obtain ⟨r4, hq4, hF⟩ := mj_ob hF
  refine mj_callVi C (c_X6_yearOf σ t1 t2 r4 hq4) yv_X6_yearOf kl_X9_240 (mo_44 G _) rfl rfl rfl rfl (Nat.le_of_ble_eq_true rfl) (mj_roomC (by decide) (by decide)) ⟨Nat.zero_le _, Nat.zero_le _⟩ dX9_year_37 ?_
  refine mj_istore_n C dX9_year_40 (by decide) ?_
  refine mj_iload_n C dX9_year_41 rfl ?_
  refine mj_bipushV (v := (-2)) C dX9_year_42 mc_b_m2 ?_
  refine mj_ic_ne C dX9_year_44 rfl hF (fun hc5 hF => ?_) (fun hc5 hF => ?_)
  · refine mj_iload_n C dX9_year_50 rfl ?_
    refine mj_iconstV (v := 2) C dX9_year_51 mc_i_2 ?_
    refine mj_irem C dX9_year_52 (by decide) ?_
    refine mj_if_ne C dX9_year_53 rfl hF (fun hc6 hF => ?_) (fun hc6 hF => ?_)
    · refine mj_aload_n C dX9_year_60 rfl ?_
      refine mg_X9_53 C dX9_year_61 ?_
      refine mj_iload_n C dX9_year_64 rfl ?_
      refine mj_iload_n C dX9_year_65 rfl ?_
      obtain ⟨r7, hq7, hF⟩ := mj_ob hF
      refine mj_callVi C (c_X6_growthInYear σ v1 r4 r7 hq7) yv_X6_growthInYear kl_X9_244 (mo_44 G _) rfl rfl rfl rfl (Nat.le_of_ble_eq_true rfl) (mj_roomC (by decide) (by decide)) ⟨Nat.zero_le _, Nat.zero_le _⟩ dX9_year_66 ?_
      have hF := mj_oi hF; subst hF
      exact mj_iret C hr hlk dX9_year_69
    · refine mj_iload_n C dX9_year_56 rfl ?_
      refine mj_goto C dX9_year_57 rfl ?_
      have hF := mj_oi hF; subst hF
      exact mj_iret C hr hlk dX9_year_69
  · refine mj_bipushV (v := (-2)) C dX9_year_47 mc_b_m2 ?_
    have hF := mj_oi hF; subst hF
    exact mj_iret C hr hlk dX9_year_49
set_option maxRecDepth 100000 in
set_option maxHeartbeats 4000000 in
theorem c_X9_year {G : mj_G} {l : Launch} (σ : mj_S) (p1 : Int32) (p2 : Int32) (R : Int32) (hF : f_X9_year σ p1 p2 = some R) : mj_C G l yX9_year cX9_year 4 (some .int) 5 [.ref (G.2.1 0), .int p1, .int p2] σ (some (.int R)) σ := by
  unfold f_X9_year at hF
  refine mj_of (ls := [(0, .ref (G.2.1 0)), (1, .int p1), (2, .int p2)]) (by decide) (Nat.le_of_ble_eq_true rfl) rfl (fun p e s m args below meth c C hr hlk => ?_)
  refine mj_aload_n C dX9_year_0 rfl ?_
  refine mg_X9_28 C dX9_year_1 ?_
  refine mj_iload_n C dX9_year_4 rfl ?_
  refine mj_callVi C (c_X2_has σ p1) yv_X2_has kl_X9_132 (mo_9 G _) rfl rfl rfl rfl (Nat.le_of_ble_eq_true rfl) (mj_roomC (by decide) (by decide)) ⟨Nat.zero_le _, Nat.zero_le _⟩ dX9_year_5 ?_
  refine mj_if_eq C dX9_year_8 rfl hF (fun hc1 hF => ?_) (fun hc1 hF => ?_)
  · refine mj_iconstV (v := (-1)) C dX9_year_20 mc_i_m1 ?_
    have hF := mj_oi hF; subst hF
    exact mj_iret C hr hlk dX9_year_21
  · refine mj_iload_n C dX9_year_11 rfl ?_
    refine mj_iconstV (v := 0) C dX9_year_12 mc_i_0 ?_
    refine mj_iconstV (v := 3) C dX9_year_13 mc_i_3 ?_
    refine mj_callSi C (c_X9_within σ p2 0 3) ys_X9_within kl_X9_82 rfl rfl (Nat.le_of_ble_eq_true rfl) (mj_roomC (by decide) (by decide)) ⟨Nat.zero_le _, Nat.zero_le _⟩ dX9_year_14 ?_
    refine mj_if_ne C dX9_year_17 rfl hF (fun hc2 hF => ?_) (fun hc2 hF => ?_)
    · refine mj_aload_n C dX9_year_22 rfl ?_
      refine mg_X9_53 C dX9_year_23 ?_
      refine mj_iload_n C dX9_year_26 rfl ?_
      refine mj_iload_n C dX9_year_27 rfl ?_
      refine mj_iconstV (v := 2) C dX9_year_28 mc_i_2 ?_
      refine mj_ic_ge C dX9_year_29 rfl hF (fun hc3 hF => ?_) (fun hc3 hF => ?_)
      · refine mj_iconstV (v := 0) C dX9_year_36 mc_i_0 ?_
        refine mj_to ?_ (w_X9_year_37 C hr hlk p1 p2 p1 0 R hF)
        exact ⟨rfl, rfl, rfl, trivial⟩
      · refine mj_iconstV (v := 1) C dX9_year_32 mc_i_1 ?_
        refine mj_goto C dX9_year_33 rfl ?_
        refine mj_to ?_ (w_X9_year_37 C hr hlk p1 p2 p1 1 R hF)
        exact ⟨rfl, rfl, rfl, trivial⟩
    · refine mj_iconstV (v := (-1)) C dX9_year_20 mc_i_m1 ?_
      have hF := mj_oi hF; subst hF
      exact mj_iret C hr hlk dX9_year_21
