set_option maxRecDepth 100000 in
set_option maxHeartbeats 4000000 in
theorem c_X7_tapeLength {G : mj_G} {l : Launch} (σ : mj_S) : mj_C G l yX7_tapeLength cX7_tapeLength 1 (some .int) 1 [.ref (G.2.1 5)] σ (some (.int (f_X7_tapeLength σ))) σ := by
  generalize hF : f_X7_tapeLength σ = R
  unfold f_X7_tapeLength at hF
  refine mj_of (ls := [(0, .ref (G.2.1 5))]) (by decide) (Nat.le_of_ble_eq_true rfl) rfl (fun p e s m args below meth c C hr hlk => ?_)
  refine mj_aload_n C dX7_tapeLength_0 rfl ?_
  refine mg_X7_21 C dX7_tapeLength_1 ?_
  subst hF
  exact mj_iret C hr hlk dX7_tapeLength_4
set_option maxRecDepth 100000 in
set_option maxHeartbeats 4000000 in
theorem c_X7_take {G : mj_G} {l : Launch} (σ : mj_S) (p1 : Int32) (R : (Int32 × mj_S)) (hF : f_X7_take σ p1 = some R) : mj_C G l yX7_take cX7_take 2 (some .int) 1 [.ref (G.2.1 5), .int p1] σ (some (.int R.1)) R.2 := by
  unfold f_X7_take at hF
  refine mj_of (ls := [(0, .ref (G.2.1 5)), (1, .int p1)]) (by decide) (Nat.le_of_ble_eq_true rfl) rfl (fun p e s m args below meth c C hr hlk => ?_)
  refine mj_aload_n C dX7_take_0 rfl ?_
  refine mg_X7_21 C dX7_take_1 ?_
  refine mj_bipushV (v := 120) C dX7_take_4 mc_b_120 ?_
  refine mj_ic_ge C dX7_take_6 rfl hF (fun hc1 hF => ?_) (fun hc1 hF => ?_)
  · refine mj_aload_n C dX7_take_29 rfl ?_
    refine mg_X7_21 C dX7_take_30 ?_
    have hF := mj_oi hF; subst hF
    exact mj_iret C hr hlk dX7_take_33
  · refine mj_aload_n C dX7_take_9 rfl ?_
    refine mg_X7_9 C dX7_take_10 ?_
    refine mj_aload_n C dX7_take_13 rfl ?_
    refine mg_X7_21 C dX7_take_14 ?_
    refine mj_iload_n C dX7_take_17 rfl ?_
    obtain ⟨hg2, hF⟩ := mj_og hF
    refine mj_iastore C dX7_take_18 rfl hg2 ?_
    refine mj_aload_n C dX7_take_19 rfl ?_
    refine mj_dup C dX7_take_20 rfl ?_
    refine mg_X7_21 C dX7_take_21 ?_
    refine mj_iconstV (v := 1) C dX7_take_24 mc_i_1 ?_
    refine mj_iadd C dX7_take_25 ?_
    refine mp_X7_21 C dX7_take_26 ?_
    refine mj_aload_n C dX7_take_29 rfl ?_
    refine mg_X7_21 C dX7_take_30 ?_
    have hF := mj_oi hF; subst hF
    exact mj_iret C hr hlk dX7_take_33
set_option maxRecDepth 100000 in
set_option maxHeartbeats 4000000 in
theorem c_X7_emptyTape {G : mj_G} {l : Launch} (σ : mj_S) : mj_C G l yX7_emptyTape cX7_emptyTape 1 (none) 1 [.ref (G.2.1 5)] σ none (f_X7_emptyTape σ) := by
  generalize hF : f_X7_emptyTape σ = R
  unfold f_X7_emptyTape at hF
  refine mj_of (ls := [(0, .ref (G.2.1 5))]) (by decide) (Nat.le_of_ble_eq_true rfl) rfl (fun p e s m args below meth c C hr hlk => ?_)
  refine mj_aload_n C dX7_emptyTape_0 rfl ?_
  refine mj_iconstV (v := 0) C dX7_emptyTape_1 mc_i_0 ?_
  refine mp_X7_21 C dX7_emptyTape_2 ?_
  subst hF
  exact mj_vret C hr hlk dX7_emptyTape_5
set_option maxRecDepth 100000 in
set_option maxHeartbeats 4000000 in
theorem c_X7_isOperator {G : mj_G} {l : Launch} (σ : mj_S) (p0 : Int32) (p1 : Int32) : mj_C G l yX7_isOperator cX7_isOperator 2 (some .boolean) 1 [.int p0, .int p1] σ (some (.int (f_X7_isOperator σ p0 p1))) σ := by
  generalize hF : f_X7_isOperator σ p0 p1 = R
  unfold f_X7_isOperator at hF
  refine mj_of (ls := [(0, .int p0), (1, .int p1)]) (by decide) (Nat.le_of_ble_eq_true rfl) rfl (fun p e s m args below meth c C hr hlk => ?_)
  refine mj_iload_n C dX7_isOperator_0 rfl ?_
  by_cases hw1_0 : p0 = 0
  · rw [if_pos hw1_0] at hF
    refine mj_tsIn (off := 35) C dX7_isOperator_1 (by rw [hw1_0]; decide) (by rw [hw1_0]; decide) (by rw [hw1_0]; rfl) rfl ?_
    refine mj_iload_n C dX7_isOperator_36 rfl ?_
    refine mj_bipushV (v := 124) C dX7_isOperator_37 mc_b_124 ?_
    refine mj_ic_ne C dX7_isOperator_39 rfl hF (fun hc2 hF => ?_) (fun hc2 hF => ?_)
    · refine mj_iconstV (v := 0) C dX7_isOperator_46 mc_i_0 ?_
      subst hF
      exact mj_zret (v := 0) rfl C hr hlk dX7_isOperator_47
    · refine mj_iconstV (v := 1) C dX7_isOperator_42 mc_i_1 ?_
      refine mj_goto C dX7_isOperator_43 rfl ?_
      subst hF
      exact mj_zret (v := 1) rfl C hr hlk dX7_isOperator_47
  rw [if_neg hw1_0] at hF
  by_cases hw1_1 : p0 = 1
  · rw [if_pos hw1_1] at hF
    refine mj_tsIn (off := 47) C dX7_isOperator_1 (by rw [hw1_1]; decide) (by rw [hw1_1]; decide) (by rw [hw1_1]; rfl) rfl ?_
    refine mj_iload_n C dX7_isOperator_48 rfl ?_
    refine mj_bipushV (v := 38) C dX7_isOperator_49 mc_b_38 ?_
    refine mj_ic_ne C dX7_isOperator_51 rfl hF (fun hc3 hF => ?_) (fun hc3 hF => ?_)
    · refine mj_iconstV (v := 0) C dX7_isOperator_58 mc_i_0 ?_
      subst hF
      exact mj_zret (v := 0) rfl C hr hlk dX7_isOperator_59
    · refine mj_iconstV (v := 1) C dX7_isOperator_54 mc_i_1 ?_
      refine mj_goto C dX7_isOperator_55 rfl ?_
      subst hF
      exact mj_zret (v := 1) rfl C hr hlk dX7_isOperator_59
  rw [if_neg hw1_1] at hF
  by_cases hw1_2 : p0 = 2
  · rw [if_pos hw1_2] at hF
    refine mj_tsIn (off := 59) C dX7_isOperator_1 (by rw [hw1_2]; decide) (by rw [hw1_2]; decide) (by rw [hw1_2]; rfl) rfl ?_
    refine mj_iload_n C dX7_isOperator_60 rfl ?_
    refine mj_bipushV (v := 60) C dX7_isOperator_61 mc_b_60 ?_
    refine mj_ic_eq C dX7_isOperator_63 rfl hF (fun hc4 hF => ?_) (fun hc4 hF => ?_)
    · refine mj_iconstV (v := 1) C dX7_isOperator_78 mc_i_1 ?_
      refine mj_goto C dX7_isOperator_79 rfl ?_
      subst hF
      exact mj_zret (v := 1) rfl C hr hlk dX7_isOperator_83
    · refine mj_iload_n C dX7_isOperator_66 rfl ?_
      refine mj_bipushV (v := 61) C dX7_isOperator_67 mc_b_61 ?_
      refine mj_ic_eq C dX7_isOperator_69 rfl hF (fun hc5 hF => ?_) (fun hc5 hF => ?_)
      · refine mj_iconstV (v := 1) C dX7_isOperator_78 mc_i_1 ?_
        refine mj_goto C dX7_isOperator_79 rfl ?_
        subst hF
        exact mj_zret (v := 1) rfl C hr hlk dX7_isOperator_83
      · refine mj_iload_n C dX7_isOperator_72 rfl ?_
        refine mj_bipushV (v := 62) C dX7_isOperator_73 mc_b_62 ?_
        refine mj_ic_ne C dX7_isOperator_75 rfl hF (fun hc6 hF => ?_) (fun hc6 hF => ?_)
        · refine mj_iconstV (v := 0) C dX7_isOperator_82 mc_i_0 ?_
          subst hF
          exact mj_zret (v := 0) rfl C hr hlk dX7_isOperator_83
        · refine mj_iconstV (v := 1) C dX7_isOperator_78 mc_i_1 ?_
          refine mj_goto C dX7_isOperator_79 rfl ?_
          subst hF
          exact mj_zret (v := 1) rfl C hr hlk dX7_isOperator_83
  rw [if_neg hw1_2] at hF
  by_cases hw1_3 : p0 = 3
  · rw [if_pos hw1_3] at hF
    refine mj_tsIn (off := 83) C dX7_isOperator_1 (by rw [hw1_3]; decide) (by rw [hw1_3]; decide) (by rw [hw1_3]; rfl) rfl ?_
    refine mj_iload_n C dX7_isOperator_84 rfl ?_
    refine mj_bipushV (v := 43) C dX7_isOperator_85 mc_b_43 ?_
    refine mj_ic_eq C dX7_isOperator_87 rfl hF (fun hc7 hF => ?_) (fun hc7 hF => ?_)
    · refine mj_iconstV (v := 1) C dX7_isOperator_96 mc_i_1 ?_
      refine mj_goto C dX7_isOperator_97 rfl ?_
      subst hF
      exact mj_zret (v := 1) rfl C hr hlk dX7_isOperator_101
    · refine mj_iload_n C dX7_isOperator_90 rfl ?_
      refine mj_bipushV (v := 45) C dX7_isOperator_91 mc_b_45 ?_
      refine mj_ic_ne C dX7_isOperator_93 rfl hF (fun hc8 hF => ?_) (fun hc8 hF => ?_)
      · refine mj_iconstV (v := 0) C dX7_isOperator_100 mc_i_0 ?_
        subst hF
        exact mj_zret (v := 0) rfl C hr hlk dX7_isOperator_101
      · refine mj_iconstV (v := 1) C dX7_isOperator_96 mc_i_1 ?_
        refine mj_goto C dX7_isOperator_97 rfl ?_
        subst hF
        exact mj_zret (v := 1) rfl C hr hlk dX7_isOperator_101
  rw [if_neg hw1_3] at hF
  by_cases hw1_4 : p0 = 4
  · rw [if_pos hw1_4] at hF
    refine mj_tsIn (off := 101) C dX7_isOperator_1 (by rw [hw1_4]; decide) (by rw [hw1_4]; decide) (by rw [hw1_4]; rfl) rfl ?_
    refine mj_iload_n C dX7_isOperator_102 rfl ?_
    refine mj_bipushV (v := 42) C dX7_isOperator_103 mc_b_42 ?_
    refine mj_ic_eq C dX7_isOperator_105 rfl hF (fun hc9 hF => ?_) (fun hc9 hF => ?_)
    · refine mj_iconstV (v := 1) C dX7_isOperator_120 mc_i_1 ?_
      refine mj_goto C dX7_isOperator_121 rfl ?_
      subst hF
      exact mj_zret (v := 1) rfl C hr hlk dX7_isOperator_125
    · refine mj_iload_n C dX7_isOperator_108 rfl ?_
      refine mj_bipushV (v := 47) C dX7_isOperator_109 mc_b_47 ?_
      refine mj_ic_eq C dX7_isOperator_111 rfl hF (fun hc10 hF => ?_) (fun hc10 hF => ?_)
      · refine mj_iconstV (v := 1) C dX7_isOperator_120 mc_i_1 ?_
        refine mj_goto C dX7_isOperator_121 rfl ?_
        subst hF
        exact mj_zret (v := 1) rfl C hr hlk dX7_isOperator_125
      · refine mj_iload_n C dX7_isOperator_114 rfl ?_
        refine mj_bipushV (v := 37) C dX7_isOperator_115 mc_b_37 ?_
        refine mj_ic_ne C dX7_isOperator_117 rfl hF (fun hc11 hF => ?_) (fun hc11 hF => ?_)
        · refine mj_iconstV (v := 0) C dX7_isOperator_124 mc_i_0 ?_
          subst hF
          exact mj_zret (v := 0) rfl C hr hlk dX7_isOperator_125
        · refine mj_iconstV (v := 1) C dX7_isOperator_120 mc_i_1 ?_
          refine mj_goto C dX7_isOperator_121 rfl ?_
          subst hF
          exact mj_zret (v := 1) rfl C hr hlk dX7_isOperator_125
  rw [if_neg hw1_4] at hF
  refine mj_tsOut C dX7_isOperator_1 (mj_sw_0_5 hw1_0 hw1_1 hw1_2 hw1_3 hw1_4) rfl ?_
  refine mj_iconstV (v := 0) C dX7_isOperator_126 mc_i_0 ?_
  subst hF
  exact mj_zret (v := 0) rfl C hr hlk dX7_isOperator_127
set_option maxRecDepth 100000 in
set_option maxHeartbeats 4000000 in
theorem c_X7_isDigit {G : mj_G} {l : Launch} (σ : mj_S) (p0 : Int32) : mj_C G l yX7_isDigit cX7_isDigit 1 (some .boolean) 1 [.int p0] σ (some (.int (f_X7_isDigit σ p0))) σ := by
  generalize hF : f_X7_isDigit σ p0 = R
  unfold f_X7_isDigit at hF
  refine mj_of (ls := [(0, .int p0)]) (by decide) (Nat.le_of_ble_eq_true rfl) rfl (fun p e s m args below meth c C hr hlk => ?_)
  refine mj_bipushV (v := 48) C dX7_isDigit_0 mc_b_48 ?_
  refine mj_iload_n C dX7_isDigit_2 rfl ?_
  refine mj_ic_gt C dX7_isDigit_3 rfl hF (fun hc1 hF => ?_) (fun hc1 hF => ?_)
  · refine mj_iconstV (v := 0) C dX7_isDigit_16 mc_i_0 ?_
    subst hF
    exact mj_zret (v := 0) rfl C hr hlk dX7_isDigit_17
  · refine mj_iload_n C dX7_isDigit_6 rfl ?_
    refine mj_bipushV (v := 57) C dX7_isDigit_7 mc_b_57 ?_
    refine mj_ic_gt C dX7_isDigit_9 rfl hF (fun hc2 hF => ?_) (fun hc2 hF => ?_)
    · refine mj_iconstV (v := 0) C dX7_isDigit_16 mc_i_0 ?_
      subst hF
      exact mj_zret (v := 0) rfl C hr hlk dX7_isDigit_17
    · refine mj_iconstV (v := 1) C dX7_isDigit_12 mc_i_1 ?_
      refine mj_goto C dX7_isDigit_13 rfl ?_
      subst hF
      exact mj_zret (v := 1) rfl C hr hlk dX7_isDigit_17
set_option maxRecDepth 100000 in
set_option maxHeartbeats 4000000 in
theorem c_X7_seen {G : mj_G} {l : Launch} (σ : mj_S) (R : Int32) (hF : f_X7_seen σ = some R) : mj_C G l yX7_seen cX7_seen 1 (some .int) 1 [.ref (G.2.1 5)] σ (some (.int R)) σ := by
  unfold f_X7_seen at hF
  refine mj_of (ls := [(0, .ref (G.2.1 5))]) (by decide) (Nat.le_of_ble_eq_true rfl) rfl (fun p e s m args below meth c C hr hlk => ?_)
  refine mj_iconstV (v := 0) C dX7_seen_0 mc_i_0 ?_
  refine mj_aload_n C dX7_seen_1 rfl ?_
  refine mg_X7_25 C dX7_seen_2 ?_
  refine mj_ic_gt C dX7_seen_5 rfl hF (fun hc1 hF => ?_) (fun hc1 hF => ?_)
  · refine mj_iconstV (v := (-1)) C dX7_seen_40 mc_i_m1 ?_
    have hF := mj_oi hF; subst hF
    exact mj_iret C hr hlk dX7_seen_41
  · refine mj_aload_n C dX7_seen_8 rfl ?_
    refine mg_X7_25 C dX7_seen_9 ?_
    refine mj_aload_n C dX7_seen_12 rfl ?_
    refine mg_X7_21 C dX7_seen_13 ?_
    refine mj_ic_ge C dX7_seen_16 rfl hF (fun hc2 hF => ?_) (fun hc2 hF => ?_)
    · refine mj_iconstV (v := (-1)) C dX7_seen_40 mc_i_m1 ?_
      have hF := mj_oi hF; subst hF
      exact mj_iret C hr hlk dX7_seen_41
    · refine mj_aload_n C dX7_seen_19 rfl ?_
      refine mg_X7_25 C dX7_seen_20 ?_
      refine mj_bipushV (v := 120) C dX7_seen_23 mc_b_120 ?_
      refine mj_ic_ge C dX7_seen_25 rfl hF (fun hc3 hF => ?_) (fun hc3 hF => ?_)
      · refine mj_iconstV (v := (-1)) C dX7_seen_40 mc_i_m1 ?_
        have hF := mj_oi hF; subst hF
        exact mj_iret C hr hlk dX7_seen_41
      · refine mj_aload_n C dX7_seen_28 rfl ?_
        refine mg_X7_9 C dX7_seen_29 ?_
        refine mj_aload_n C dX7_seen_32 rfl ?_
        refine mg_X7_25 C dX7_seen_33 ?_
        obtain ⟨hg4, hF⟩ := mj_og hF
        refine mj_iaload C dX7_seen_36 rfl hg4 ?_
        refine mj_goto C dX7_seen_37 rfl ?_
        have hF := mj_oi hF; subst hF
        exact mj_iret C hr hlk dX7_seen_41
set_option maxRecDepth 100000 in
set_option maxHeartbeats 4000000 in
theorem c_X7_write {G : mj_G} {l : Launch} (σ : mj_S) (p1 : Int32) (p2 : Int32) (R : mj_S) (hF : f_X7_write σ p1 p2 = some R) : mj_C G l yX7_write cX7_write 3 (none) 1 [.ref (G.2.1 5), .int p1, .int p2] σ none R := by
  unfold f_X7_write at hF
  refine mj_of (ls := [(0, .ref (G.2.1 5)), (1, .int p1), (2, .int p2)]) (by decide) (Nat.le_of_ble_eq_true rfl) rfl (fun p e s m args below meth c C hr hlk => ?_)
  refine mj_aload_n C dX7_write_0 rfl ?_
  refine mg_X7_28 C dX7_write_1 ?_
  refine mj_aload_n C dX7_write_4 rfl ?_
  refine mg_X7_15 C dX7_write_5 ?_
  refine mj_alen (v := 121) C dX7_write_8 rfl rfl ?_
  refine mj_ic_ge C dX7_write_9 rfl hF (fun hc1 hF => ?_) (fun hc1 hF => ?_)
  · have hF := mj_oi hF; subst hF
    exact mj_vret C hr hlk dX7_write_54
  · refine mj_aload_n C dX7_write_12 rfl ?_
    refine mg_X7_28 C dX7_write_13 ?_
    refine mj_aload_n C dX7_write_16 rfl ?_
    refine mg_X7_18 C dX7_write_17 ?_
    refine mj_alen (v := 121) C dX7_write_20 rfl rfl ?_
    refine mj_ic_ge C dX7_write_21 rfl hF (fun hc2 hF => ?_) (fun hc2 hF => ?_)
    · have hF := mj_oi hF; subst hF
      exact mj_vret C hr hlk dX7_write_54
    · refine mj_aload_n C dX7_write_24 rfl ?_
      refine mg_X7_15 C dX7_write_25 ?_
      refine mj_aload_n C dX7_write_28 rfl ?_
      refine mg_X7_28 C dX7_write_29 ?_
      refine mj_iload_n C dX7_write_32 rfl ?_
      obtain ⟨hg3, hF⟩ := mj_og hF
      refine mj_iastore C dX7_write_33 rfl hg3 ?_
      refine mj_aload_n C dX7_write_34 rfl ?_
      refine mg_X7_18 C dX7_write_35 ?_
      refine mj_aload_n C dX7_write_38 rfl ?_
      refine mg_X7_28 C dX7_write_39 ?_
      refine mj_iload_n C dX7_write_42 rfl ?_
      obtain ⟨hg4, hF⟩ := mj_og hF
      refine mj_iastore C dX7_write_43 rfl hg4 ?_
      refine mj_aload_n C dX7_write_44 rfl ?_
      refine mj_dup C dX7_write_45 rfl ?_
      refine mg_X7_28 C dX7_write_46 ?_
      refine mj_iconstV (v := 1) C dX7_write_49 mc_i_1 ?_
      refine mj_iadd C dX7_write_50 ?_
      refine mp_X7_28 C dX7_write_51 ?_
      have hF := mj_oi hF; subst hF
      exact mj_vret C hr hlk dX7_write_54
set_option maxRecDepth 100000 in
set_option maxHeartbeats 4000000 in
theorem w_X7_readNumber_48 {p : Program} {l : Launch} {e : Env} {s : State} {m : MethodId} {args : Array Value} {below : List Frame} {meth : Method} {c : Code} {G : mj_G} (C : mj_X p s m args meth c G cX7_readNumber 3 RX7) (hr : meth.sig.returnType = none) (hlk : meth.locks = false) : ∀ (v1 : Int32) (σ : mj_S) (R : mj_S), b_X7_readNumber_48 v1 σ = some R → mj_W p l e (mj_rm 2) s m args below meth c G 0 0 3 (MQ below (mj_Q G none R) args s 0 0 G.2.2.2) 48 [(0, .ref (G.2.1 5)), (1, .int v1)] [] σ := by
  intro v1 σ R hF
  unfold b_X7_readNumber_48 at hF
  refine mj_aload_n C dX7_readNumber_48 rfl ?_
  refine mj_bipushV (v := 48) C dX7_readNumber_49 mc_b_48 ?_
  refine mj_iload_n C dX7_readNumber_51 rfl ?_
  obtain ⟨r2, hq2, hF⟩ := mj_ob hF
  refine mj_callVv C (c_X7_write σ 48 v1 r2 hq2) yv_X7_write kl_X7_47 (mo_5 G _) rfl rfl rfl rfl (Nat.le_of_ble_eq_true rfl) (mj_roomC (by decide) (by decide)) ⟨Nat.zero_le _, Nat.zero_le _⟩ dX7_readNumber_52 ?_
  have hF := mj_oi hF; subst hF
  exact mj_vret C hr hlk dX7_readNumber_55
set_option maxRecDepth 100000 in
set_option maxHeartbeats 4000000 in
theorem w_X7_readNumber_4 {p : Program} {l : Launch} {e : Env} {s : State} {m : MethodId} {args : Array Value} {below : List Frame} {meth : Method} {c : Code} {G : mj_G} (C : mj_X p s m args meth c G cX7_readNumber 3 RX7) (hr : meth.sig.returnType = none) (hlk : meth.locks = false) : ∀ (n : Nat) (v1 : Int32) (v2 : Int32) (σ : mj_S) (R : mj_S), b_X7_readNumber_4 n v1 v2 σ = some R → mj_W p l e (mj_rm 2) s m args below meth c G 0 0 3 (MQ below (mj_Q G none R) args s 0 0 G.2.2.2) 4 [(0, .ref (G.2.1 5)), (1, .int v1), (2, .int v2)] [] σ := by
  intro n
  induction n with
  | zero =>
    intro v1 v2 σ R hF
    cases hF
  | succ n ih =>
    intro v1 v2 σ R hF
    rw [b_X7_readNumber_4] at hF
    refine mj_iload_n C dX7_readNumber_4 rfl ?_
    refine mj_iconstV (v := 4) C dX7_readNumber_5 mc_i_4 ?_
    refine mj_ic_ge C dX7_readNumber_6 rfl hF (fun hc1 hF => ?_) (fun hc1 hF => ?_)
    · refine mj_to ?_ (w_X7_readNumber_48 C hr hlk v1 σ R hF)
      exact ⟨rfl, rfl, trivial⟩
    · refine mj_aload_n C dX7_readNumber_9 rfl ?_
      obtain ⟨r3, hq3, hF⟩ := mj_ob hF
      refine mj_callVi C (c_X7_seen σ r3 hq3) yv_X7_seen kl_X7_54 (mo_5 G _) rfl rfl rfl rfl (Nat.le_of_ble_eq_true rfl) (mj_roomC (by decide) (by decide)) ⟨Nat.zero_le _, Nat.zero_le _⟩ dX7_readNumber_10 ?_
      refine mj_callSi C (c_X7_isDigit σ r3) ys_X7_isDigit kl_X7_67 rfl rfl (Nat.le_of_ble_eq_true rfl) (mj_roomC (by decide) (by decide)) ⟨Nat.zero_le _, Nat.zero_le _⟩ dX7_readNumber_13 ?_
      refine mj_if_eq C dX7_readNumber_16 rfl hF (fun hc4 hF => ?_) (fun hc4 hF => ?_)
      · refine mj_to ?_ (w_X7_readNumber_48 C hr hlk v1 σ R hF)
        exact ⟨rfl, rfl, trivial⟩
      · refine mj_iload_n C dX7_readNumber_19 rfl ?_
        refine mj_bipushV (v := 10) C dX7_readNumber_20 mc_b_10 ?_
        refine mj_imul C dX7_readNumber_22 ?_
        refine mj_aload_n C dX7_readNumber_23 rfl ?_
        obtain ⟨r5, hq5, hF⟩ := mj_ob hF
        refine mj_callVi C (c_X7_seen σ r5 hq5) yv_X7_seen kl_X7_54 (mo_5 G _) rfl rfl rfl rfl (Nat.le_of_ble_eq_true rfl) (mj_roomC (by decide) (by decide)) ⟨Nat.zero_le _, Nat.zero_le _⟩ dX7_readNumber_24 ?_
        refine mj_iadd C dX7_readNumber_27 ?_
        refine mj_bipushV (v := 48) C dX7_readNumber_28 mc_b_48 ?_
        refine mj_isub C dX7_readNumber_30 ?_
        refine mj_istore_n C dX7_readNumber_31 (by decide) ?_
        refine mj_aload_n C dX7_readNumber_32 rfl ?_
        refine mj_dup C dX7_readNumber_33 rfl ?_
        refine mg_X7_25 C dX7_readNumber_34 ?_
        refine mj_iconstV (v := 1) C dX7_readNumber_37 mc_i_1 ?_
        refine mj_iadd C dX7_readNumber_38 ?_
        refine mp_X7_25 C dX7_readNumber_39 ?_
        refine mj_iinc (v := v2 + 1) C dX7_readNumber_42 rfl rfl (by decide) ?_
        refine mj_goto C dX7_readNumber_45 rfl ?_
        refine mj_to ?_ (ih (((v1 * 10) + r5) - 48) (v2 + 1) (mj_sI σ 5 4 ((σ.1 5 4) + 1)) R hF)
        exact ⟨rfl, rfl, rfl, trivial⟩
set_option maxRecDepth 100000 in
set_option maxHeartbeats 4000000 in
theorem c_X7_readNumber {G : mj_G} {l : Launch} (σ : mj_S) (R : mj_S) (hF : f_X7_readNumber σ = some R) : mj_C G l yX7_readNumber cX7_readNumber 3 (none) 2 [.ref (G.2.1 5)] σ none R := by
  unfold f_X7_readNumber at hF
  refine mj_of (ls := [(0, .ref (G.2.1 5))]) (by decide) (Nat.le_of_ble_eq_true rfl) rfl (fun p e s m args below meth c C hr hlk => ?_)
  refine mj_iconstV (v := 0) C dX7_readNumber_0 mc_i_0 ?_
  refine mj_istore_n C dX7_readNumber_1 (by decide) ?_
  refine mj_iconstV (v := 0) C dX7_readNumber_2 mc_i_0 ?_
  refine mj_istore_n C dX7_readNumber_3 (by decide) ?_
  refine mj_to ?_ (w_X7_readNumber_4 C hr hlk mj_fu 0 0 σ R hF)
  exact ⟨rfl, rfl, rfl, trivial⟩
set_option maxRecDepth 100000 in
set_option maxHeartbeats 4000000 in
theorem c_X7_skip {G : mj_G} {l : Launch} (σ : mj_S) (p1 : Int32) (R : (Int32 × mj_S)) (hF : f_X7_skip σ p1 = some R) : mj_C G l yX7_skip cX7_skip 2 (some .boolean) 2 [.ref (G.2.1 5), .int p1] σ (some (.int R.1)) R.2 := by
  unfold f_X7_skip at hF
  refine mj_of (ls := [(0, .ref (G.2.1 5)), (1, .int p1)]) (by decide) (Nat.le_of_ble_eq_true rfl) rfl (fun p e s m args below meth c C hr hlk => ?_)
  refine mj_aload_n C dX7_skip_0 rfl ?_
  obtain ⟨r1, hq1, hF⟩ := mj_ob hF
  refine mj_callVi C (c_X7_seen σ r1 hq1) yv_X7_seen kl_X7_54 (mo_5 G _) rfl rfl rfl rfl (Nat.le_of_ble_eq_true rfl) (mj_roomC (by decide) (by decide)) ⟨Nat.zero_le _, Nat.zero_le _⟩ dX7_skip_1 ?_
  refine mj_iload_n C dX7_skip_4 rfl ?_
  refine mj_ic_eq C dX7_skip_5 rfl hF (fun hc2 hF => ?_) (fun hc2 hF => ?_)
  · refine mj_aload_n C dX7_skip_10 rfl ?_
    refine mj_dup C dX7_skip_11 rfl ?_
    refine mg_X7_25 C dX7_skip_12 ?_
    refine mj_iconstV (v := 1) C dX7_skip_15 mc_i_1 ?_
    refine mj_iadd C dX7_skip_16 ?_
    refine mp_X7_25 C dX7_skip_17 ?_
    refine mj_iconstV (v := 1) C dX7_skip_20 mc_i_1 ?_
    have hF := mj_oi hF; subst hF
    exact mj_zret (v := 1) rfl C hr hlk dX7_skip_21
  · refine mj_iconstV (v := 0) C dX7_skip_8 mc_i_0 ?_
    have hF := mj_oi hF; subst hF
    exact mj_zret (v := 0) rfl C hr hlk dX7_skip_9
