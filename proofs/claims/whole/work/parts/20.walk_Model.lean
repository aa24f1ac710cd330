set_option maxRecDepth 100000 in
set_option maxHeartbeats 4000000 in
theorem c_X10_within {G : mj_G} {l : Launch} (σ : mj_S) (p0 : Int64) (p2 : Int64) (p4 : Int64) : mj_C G l yX10_within cX10_within 6 (some .boolean) 1 [.long p0, .long p2, .long p4] σ (some (.int (f_X10_within σ p0 p2 p4))) σ := by
  generalize hF : f_X10_within σ p0 p2 p4 = R
  unfold f_X10_within at hF
  refine mj_of (ls := [(0, .long p0), (2, .long p2), (4, .long p4)]) (by decide) (Nat.le_of_ble_eq_true rfl) rfl (fun p e s m args below meth c C hr hlk => ?_)
  refine mj_lload_n C dX10_within_0 rfl ?_
  refine mj_lload_n C dX10_within_1 rfl ?_
  refine mj_lcmp C dX10_within_2 ?_
  refine mj_if_lt C dX10_within_3 rfl hF (fun hc1 hF => ?_) (fun hc1 hF => ?_)
  · refine mj_iconstV (v := 0) C dX10_within_17 mc_i_0 ?_
    subst hF
    exact mj_zret (v := 0) rfl C hr hlk dX10_within_18
  · refine mj_lload_n C dX10_within_6 rfl ?_
    refine mj_lload C dX10_within_7 rfl ?_
    refine mj_lcmp C dX10_within_9 ?_
    refine mj_if_gt C dX10_within_10 rfl hF (fun hc2 hF => ?_) (fun hc2 hF => ?_)
    · refine mj_iconstV (v := 0) C dX10_within_17 mc_i_0 ?_
      subst hF
      exact mj_zret (v := 0) rfl C hr hlk dX10_within_18
    · refine mj_iconstV (v := 1) C dX10_within_13 mc_i_1 ?_
      refine mj_goto C dX10_within_14 rfl ?_
      subst hF
      exact mj_zret (v := 1) rfl C hr hlk dX10_within_18
set_option maxRecDepth 100000 in
set_option maxHeartbeats 4000000 in
theorem c_X10_size {G : mj_G} {l : Launch} (σ : mj_S) (p0 : Int32) : mj_C G l yX10_size cX10_size 1 (some .int) 1 [.int p0] σ (some (.int (f_X10_size σ p0))) σ := by
  generalize hF : f_X10_size σ p0 = R
  unfold f_X10_size at hF
  refine mj_of (ls := [(0, .int p0)]) (by decide) (Nat.le_of_ble_eq_true rfl) rfl (fun p e s m args below meth c C hr hlk => ?_)
  refine mj_iload_n C dX10_size_0 rfl ?_
  refine mj_if_ge C dX10_size_1 rfl hF (fun hc1 hF => ?_) (fun hc1 hF => ?_)
  · refine mj_iload_n C dX10_size_9 rfl ?_
    subst hF
    exact mj_iret C hr hlk dX10_size_10
  · refine mj_iload_n C dX10_size_4 rfl ?_
    refine mj_ineg C dX10_size_5 ?_
    refine mj_goto C dX10_size_6 rfl ?_
    subst hF
    exact mj_iret C hr hlk dX10_size_10
set_option maxRecDepth 100000 in
set_option maxHeartbeats 4000000 in
theorem w_X10_becomes_97 {p : Program} {l : Launch} {e : Env} {s : State} {m : MethodId} {args : Array Value} {below : List Frame} {meth : Method} {c : Code} {G : mj_G} (C : mj_X p s m args meth c G cX10_becomes 5 RX10) (hr : meth.sig.returnType = some .int) (hlk : meth.locks = false) : ∀ (v1 : Int32) (v2 : Int32) (v3 : Int32) (σ : mj_S) (R : (Int32 × mj_S)), b_X10_becomes_97 v1 v2 v3 σ = some R → mj_W p l e (mj_rm 1) s m args below meth c G 0 0 5 (MQ below (mj_Q G (some (.int R.1)) R.2) args s 0 0 G.2.2.2) 97 [(0, .ref (G.2.1 64)), (1, .int v1), (2, .int v2), (3, .int v3)] [] σ := by
  intro v1 v2 v3 σ R hF
  unfold b_X10_becomes_97 at hF
  refine mj_aload_n C dX10_becomes_97 rfl ?_
  refine mg_X10_13 C dX10_becomes_98 ?_
  refine mj_aload_n C dX10_becomes_101 rfl ?_
  refine mg_X10_97 C dX10_becomes_102 ?_
  refine mj_iload_n C dX10_becomes_105 rfl ?_
  obtain ⟨hg4, hF⟩ := mj_og hF
  refine mj_iastore C dX10_becomes_106 rfl hg4 ?_
  refine mj_aload_n C dX10_becomes_107 rfl ?_
  refine mg_X10_16 C dX10_becomes_108 ?_
  refine mj_aload_n C dX10_becomes_111 rfl ?_
  refine mg_X10_97 C dX10_becomes_112 ?_
  refine mj_iload_n C dX10_becomes_115 rfl ?_
  obtain ⟨hg5, hF⟩ := mj_og hF
  refine mj_iastore C dX10_becomes_116 rfl hg5 ?_
  refine mj_aload_n C dX10_becomes_117 rfl ?_
  refine mg_X10_19 C dX10_becomes_118 ?_
  refine mj_aload_n C dX10_becomes_121 rfl ?_
  refine mg_X10_97 C dX10_becomes_122 ?_
  refine mj_iload_n C dX10_becomes_125 rfl ?_
  obtain ⟨hg6, hF⟩ := mj_og hF
  refine mj_iastore C dX10_becomes_126 rfl hg6 ?_
  refine mj_aload_n C dX10_becomes_127 rfl ?_
  refine mj_dup C dX10_becomes_128 rfl ?_
  refine mg_X10_97 C dX10_becomes_129 ?_
  refine mj_iconstV (v := 1) C dX10_becomes_132 mc_i_1 ?_
  refine mj_iadd C dX10_becomes_133 ?_
  refine mp_X10_97 C dX10_becomes_134 ?_
  refine mj_aload_n C dX10_becomes_137 rfl ?_
  refine mj_aload_n C dX10_becomes_138 rfl ?_
  refine mg_X10_97 C dX10_becomes_139 ?_
  refine mp_X10_100 C dX10_becomes_142 ?_
  refine mj_aload_n C dX10_becomes_145 rfl ?_
  refine mg_X10_9 C dX10_becomes_146 ?_
  refine mj_iload_n C dX10_becomes_149 rfl ?_
  refine mj_iload_n C dX10_becomes_150 rfl ?_
  obtain ⟨hg7, hF⟩ := mj_og hF
  refine mj_iastore C dX10_becomes_151 rfl hg7 ?_
  refine mj_aload_n C dX10_becomes_152 rfl ?_
  refine mj_iconstV (v := 0) C dX10_becomes_153 mc_i_0 ?_
  refine mp_X10_103 C rfl rfl dX10_becomes_154 ?_
  refine mj_iload_n C dX10_becomes_157 rfl ?_
  have hF := mj_oi hF; subst hF
  exact mj_iret C hr hlk dX10_becomes_158
set_option maxRecDepth 100000 in
set_option maxHeartbeats 4000000 in
theorem w_X10_becomes_26 {p : Program} {l : Launch} {e : Env} {s : State} {m : MethodId} {args : Array Value} {below : List Frame} {meth : Method} {c : Code} {G : mj_G} (C : mj_X p s m args meth c G cX10_becomes 5 RX10) (hr : meth.sig.returnType = some .int) (hlk : meth.locks = false) : ∀ (n : Nat) (v1 : Int32) (v2 : Int32) (v3 : Int32) (v4 : Int32) (σ : mj_S) (R : (Int32 × mj_S)), b_X10_becomes_26 n v1 v2 v3 v4 σ = some R → mj_W p l e (mj_rm 1) s m args below meth c G 0 0 5 (MQ below (mj_Q G (some (.int R.1)) R.2) args s 0 0 G.2.2.2) 26 [(0, .ref (G.2.1 64)), (1, .int v1), (2, .int v2), (3, .int v3), (4, .int v4)] [] σ := by
  intro n
  induction n with
  | zero =>
    intro v1 v2 v3 v4 σ R hF
    cases hF
  | succ n ih =>
    intro v1 v2 v3 v4 σ R hF
    rw [b_X10_becomes_26] at hF
    refine mj_iload C dX10_becomes_26 rfl ?_
    refine mj_bipushV (v := 40) C dX10_becomes_28 mc_b_40 ?_
    refine mj_ic_ge C dX10_becomes_30 rfl hF (fun hc8 hF => ?_) (fun hc8 hF => ?_)
    · refine mj_aload_n C dX10_becomes_87 rfl ?_
      refine mj_dup C dX10_becomes_88 rfl ?_
      refine mg_X10_97 C dX10_becomes_89 ?_
      refine mj_iconstV (v := 1) C dX10_becomes_92 mc_i_1 ?_
      refine mj_isub C dX10_becomes_93 ?_
      refine mp_X10_97 C dX10_becomes_94 ?_
      refine mj_to ?_ (w_X10_becomes_97 C hr hlk v1 v2 v3 (mj_sI σ 64 5 ((σ.1 64 5) - 1)) R hF)
      exact ⟨rfl, rfl, rfl, rfl, trivial⟩
    · refine mj_aload_n C dX10_becomes_33 rfl ?_
      refine mg_X10_13 C dX10_becomes_34 ?_
      refine mj_iload C dX10_becomes_37 rfl ?_
      refine mj_iconstV (v := 1) C dX10_becomes_39 mc_i_1 ?_
      refine mj_isub C dX10_becomes_40 ?_
      refine mj_aload_n C dX10_becomes_41 rfl ?_
      refine mg_X10_13 C dX10_becomes_42 ?_
      refine mj_iload C dX10_becomes_45 rfl ?_
      obtain ⟨hg9, hF⟩ := mj_og hF
      refine mj_iaload C dX10_becomes_47 rfl hg9 ?_
      obtain ⟨hg10, hF⟩ := mj_og hF
      refine mj_iastore C dX10_becomes_48 rfl hg10 ?_
      refine mj_aload_n C dX10_becomes_49 rfl ?_
      refine mg_X10_16 C dX10_becomes_50 ?_
      refine mj_iload C dX10_becomes_53 rfl ?_
      refine mj_iconstV (v := 1) C dX10_becomes_55 mc_i_1 ?_
      refine mj_isub C dX10_becomes_56 ?_
      refine mj_aload_n C dX10_becomes_57 rfl ?_
      refine mg_X10_16 C dX10_becomes_58 ?_
      refine mj_iload C dX10_becomes_61 rfl ?_
      obtain ⟨hg11, hF⟩ := mj_og hF
      refine mj_iaload C dX10_becomes_63 rfl hg11 ?_
      obtain ⟨hg12, hF⟩ := mj_og hF
      refine mj_iastore C dX10_becomes_64 rfl hg12 ?_
      refine mj_aload_n C dX10_becomes_65 rfl ?_
      refine mg_X10_19 C dX10_becomes_66 ?_
      refine mj_iload C dX10_becomes_69 rfl ?_
      refine mj_iconstV (v := 1) C dX10_becomes_71 mc_i_1 ?_
      refine mj_isub C dX10_becomes_72 ?_
      refine mj_aload_n C dX10_becomes_73 rfl ?_
      refine mg_X10_19 C dX10_becomes_74 ?_
      refine mj_iload C dX10_becomes_77 rfl ?_
      obtain ⟨hg13, hF⟩ := mj_og hF
      refine mj_iaload C dX10_becomes_79 rfl hg13 ?_
      obtain ⟨hg14, hF⟩ := mj_og hF
      refine mj_iastore C dX10_becomes_80 rfl hg14 ?_
      refine mj_iinc (v := v4 + 1) C dX10_becomes_81 rfl rfl (by decide) ?_
      refine mj_goto C dX10_becomes_84 rfl ?_
      refine mj_to ?_ (ih v1 v2 v3 (v4 + 1) (mj_sI (mj_sI (mj_sI σ 66 (v4 - 1).toNatClampNeg (σ.1 66 v4.toNatClampNeg)) 67 (v4 - 1).toNatClampNeg (σ.1 67 v4.toNatClampNeg)) 68 (v4 - 1).toNatClampNeg (σ.1 68 v4.toNatClampNeg)) R hF)
      exact ⟨rfl, rfl, rfl, rfl, rfl, trivial⟩
set_option maxRecDepth 100000 in
set_option maxHeartbeats 4000000 in
theorem c_X10_becomes {G : mj_G} {l : Launch} (σ : mj_S) (p1 : Int32) (p2 : Int32) (R : (Int32 × mj_S)) (hF : f_X10_becomes σ p1 p2 = some R) : mj_C G l yX10_becomes cX10_becomes 5 (some .int) 1 [.ref (G.2.1 64), .int p1, .int p2] σ (some (.int R.1)) R.2 := by
  unfold f_X10_becomes at hF
  refine mj_of (ls := [(0, .ref (G.2.1 64)), (1, .int p1), (2, .int p2)]) (by decide) (Nat.le_of_ble_eq_true rfl) rfl (fun p e s m args below meth c C hr hlk => ?_)
  refine mj_aload_n C dX10_becomes_0 rfl ?_
  refine mg_X10_9 C dX10_becomes_1 ?_
  refine mj_iload_n C dX10_becomes_4 rfl ?_
  obtain ⟨hg1, hF⟩ := mj_og hF
  refine mj_iaload C dX10_becomes_5 rfl hg1 ?_
  refine mj_istore_n C dX10_becomes_6 (by decide) ?_
  refine mj_iload_n C dX10_becomes_7 rfl ?_
  refine mj_iload_n C dX10_becomes_8 rfl ?_
  refine mj_ic_ne C dX10_becomes_9 rfl hF (fun hc2 hF => ?_) (fun hc2 hF => ?_)
  · refine mj_aload_n C dX10_becomes_14 rfl ?_
    refine mg_X10_97 C dX10_becomes_15 ?_
    refine mj_bipushV (v := 40) C dX10_becomes_18 mc_b_40 ?_
    refine mj_ic_ne C dX10_becomes_20 rfl hF (fun hc3 hF => ?_) (fun hc3 hF => ?_)
    · refine mj_to ?_ (w_X10_becomes_97 C hr hlk p1 p2 (σ.1 65 p1.toNatClampNeg) σ R hF)
      exact ⟨rfl, rfl, rfl, rfl, trivial⟩
    · refine mj_iconstV (v := 1) C dX10_becomes_23 mc_i_1 ?_
      refine mj_istore C dX10_becomes_24 (by decide) ?_
      refine mj_to ?_ (w_X10_becomes_26 C hr hlk mj_fu p1 p2 (σ.1 65 p1.toNatClampNeg) 1 σ R hF)
      exact ⟨rfl, rfl, rfl, rfl, rfl, trivial⟩
  · refine mj_iload_n C dX10_becomes_12 rfl ?_
    have hF := mj_oi hF; subst hF
    exact mj_iret C hr hlk dX10_becomes_13
set_option maxRecDepth 100000 in
set_option maxHeartbeats 4000000 in
theorem c_X10_undo {G : mj_G} {l : Launch} (σ : mj_S) (R : (Int32 × mj_S)) (hF : f_X10_undo σ = some R) : mj_C G l yX10_undo cX10_undo 1 (some .int) 1 [.ref (G.2.1 64)] σ (some (.int R.1)) R.2 := by
  unfold f_X10_undo at hF
  refine mj_of (ls := [(0, .ref (G.2.1 64))]) (by decide) (Nat.le_of_ble_eq_true rfl) rfl (fun p e s m args below meth c C hr hlk => ?_)
  refine mj_aload_n C dX10_undo_0 rfl ?_
  refine mg_X10_97 C dX10_undo_1 ?_
  refine mj_if_ne C dX10_undo_4 rfl hF (fun hc1 hF => ?_) (fun hc1 hF => ?_)
  · refine mj_aload_n C dX10_undo_10 rfl ?_
    refine mj_dup C dX10_undo_11 rfl ?_
    refine mg_X10_97 C dX10_undo_12 ?_
    refine mj_iconstV (v := 1) C dX10_undo_15 mc_i_1 ?_
    refine mj_isub C dX10_undo_16 ?_
    refine mp_X10_97 C dX10_undo_17 ?_
    refine mj_aload_n C dX10_undo_20 rfl ?_
    refine mg_X10_9 C dX10_undo_21 ?_
    refine mj_aload_n C dX10_undo_24 rfl ?_
    refine mg_X10_13 C dX10_undo_25 ?_
    refine mj_aload_n C dX10_undo_28 rfl ?_
    refine mg_X10_97 C dX10_undo_29 ?_
    obtain ⟨hg2, hF⟩ := mj_og hF
    refine mj_iaload C dX10_undo_32 rfl hg2 ?_
    refine mj_aload_n C dX10_undo_33 rfl ?_
    refine mg_X10_16 C dX10_undo_34 ?_
    refine mj_aload_n C dX10_undo_37 rfl ?_
    refine mg_X10_97 C dX10_undo_38 ?_
    obtain ⟨hg3, hF⟩ := mj_og hF
    refine mj_iaload C dX10_undo_41 rfl hg3 ?_
    obtain ⟨hg4, hF⟩ := mj_og hF
    refine mj_iastore C dX10_undo_42 rfl hg4 ?_
    refine mj_aload_n C dX10_undo_43 rfl ?_
    refine mj_iconstV (v := 0) C dX10_undo_44 mc_i_0 ?_
    refine mp_X10_103 C rfl rfl dX10_undo_45 ?_
    refine mj_aload_n C dX10_undo_48 rfl ?_
    refine mg_X10_97 C dX10_undo_49 ?_
    have hF := mj_oi hF; subst hF
    exact mj_iret C hr hlk dX10_undo_52
  · refine mj_bipushV (v := (-5)) C dX10_undo_7 mc_b_m5 ?_
    have hF := mj_oi hF; subst hF
    exact mj_iret C hr hlk dX10_undo_9
set_option maxRecDepth 100000 in
set_option maxHeartbeats 4000000 in
theorem c_X10_redo {G : mj_G} {l : Launch} (σ : mj_S) (R : (Int32 × mj_S)) (hF : f_X10_redo σ = some R) : mj_C G l yX10_redo cX10_redo 1 (some .int) 1 [.ref (G.2.1 64)] σ (some (.int R.1)) R.2 := by
  unfold f_X10_redo at hF
  refine mj_of (ls := [(0, .ref (G.2.1 64))]) (by decide) (Nat.le_of_ble_eq_true rfl) rfl (fun p e s m args below meth c C hr hlk => ?_)
  refine mj_aload_n C dX10_redo_0 rfl ?_
  refine mg_X10_97 C dX10_redo_1 ?_
  refine mj_aload_n C dX10_redo_4 rfl ?_
  refine mg_X10_100 C dX10_redo_5 ?_
  refine mj_ic_ne C dX10_redo_8 rfl hF (fun hc1 hF => ?_) (fun hc1 hF => ?_)
  · refine mj_aload_n C dX10_redo_14 rfl ?_
    refine mg_X10_9 C dX10_redo_15 ?_
    refine mj_aload_n C dX10_redo_18 rfl ?_
    refine mg_X10_13 C dX10_redo_19 ?_
    refine mj_aload_n C dX10_redo_22 rfl ?_
    refine mg_X10_97 C dX10_redo_23 ?_
    obtain ⟨hg2, hF⟩ := mj_og hF
    refine mj_iaload C dX10_redo_26 rfl hg2 ?_
    refine mj_aload_n C dX10_redo_27 rfl ?_
    refine mg_X10_19 C dX10_redo_28 ?_
    refine mj_aload_n C dX10_redo_31 rfl ?_
    refine mg_X10_97 C dX10_redo_32 ?_
    obtain ⟨hg3, hF⟩ := mj_og hF
    refine mj_iaload C dX10_redo_35 rfl hg3 ?_
    obtain ⟨hg4, hF⟩ := mj_og hF
    refine mj_iastore C dX10_redo_36 rfl hg4 ?_
    refine mj_aload_n C dX10_redo_37 rfl ?_
    refine mj_dup C dX10_redo_38 rfl ?_
    refine mg_X10_97 C dX10_redo_39 ?_
    refine mj_iconstV (v := 1) C dX10_redo_42 mc_i_1 ?_
    refine mj_iadd C dX10_redo_43 ?_
    refine mp_X10_97 C dX10_redo_44 ?_
    refine mj_aload_n C dX10_redo_47 rfl ?_
    refine mj_iconstV (v := 0) C dX10_redo_48 mc_i_0 ?_
    refine mp_X10_103 C rfl rfl dX10_redo_49 ?_
    refine mj_aload_n C dX10_redo_52 rfl ?_
    refine mg_X10_100 C dX10_redo_53 ?_
    refine mj_aload_n C dX10_redo_56 rfl ?_
    refine mg_X10_97 C dX10_redo_57 ?_
    refine mj_isub C dX10_redo_60 ?_
    have hF := mj_oi hF; subst hF
    exact mj_iret C hr hlk dX10_redo_61
  · refine mj_bipushV (v := (-5)) C dX10_redo_11 mc_b_m5 ?_
    have hF := mj_oi hF; subst hF
    exact mj_iret C hr hlk dX10_redo_13
set_option maxRecDepth 100000 in
set_option maxHeartbeats 4000000 in
theorem c_X10_isChild {G : mj_G} {l : Launch} (σ : mj_S) (p1 : Int32) : mj_C G l yX10_isChild cX10_isChild 2 (some .boolean) 2 [.ref (G.2.1 64), .int p1] σ (some (.int (f_X10_isChild σ p1))) σ := by
  generalize hF : f_X10_isChild σ p1 = R
  unfold f_X10_isChild at hF
  refine mj_of (ls := [(0, .ref (G.2.1 64)), (1, .int p1)]) (by decide) (Nat.le_of_ble_eq_true rfl) rfl (fun p e s m args below meth c C hr hlk => ?_)
  refine mj_iload_n C dX10_isChild_0 rfl ?_
  refine mj_i2l C dX10_isChild_1 ?_
  refine mj_lconstV (v := 0) C dX10_isChild_2 mc_l_0 ?_
  refine mj_aload_n C dX10_isChild_3 rfl ?_
  refine mg_X10_107 C dX10_isChild_4 ?_
  refine mj_iconstV (v := 1) C dX10_isChild_7 mc_i_1 ?_
  refine mj_isub C dX10_isChild_8 ?_
  refine mj_i2l C dX10_isChild_9 ?_
  refine mj_callSi C (c_X10_within σ p1.toInt64 0 (((σ.1 64 7) - 1).toInt64)) ys_X10_within kl_X10_110 rfl rfl (Nat.le_of_ble_eq_true rfl) (mj_roomC (by decide) (by decide)) ⟨Nat.zero_le _, Nat.zero_le _⟩ dX10_isChild_10 ?_
  subst hF
  exact mj_zbret C hr hlk dX10_isChild_13
set_option maxRecDepth 100000 in
set_option maxHeartbeats 4000000 in
theorem c_X10_isMonth {G : mj_G} {l : Launch} (σ : mj_S) (p0 : Int32) : mj_C G l yX10_isMonth cX10_isMonth 1 (some .boolean) 2 [.int p0] σ (some (.int (f_X10_isMonth σ p0))) σ := by
  generalize hF : f_X10_isMonth σ p0 = R
  unfold f_X10_isMonth at hF
  refine mj_of (ls := [(0, .int p0)]) (by decide) (Nat.le_of_ble_eq_true rfl) rfl (fun p e s m args below meth c C hr hlk => ?_)
  refine mj_iload_n C dX10_isMonth_0 rfl ?_
  refine mj_i2l C dX10_isMonth_1 ?_
  refine mj_lconstV (v := 0) C dX10_isMonth_2 mc_l_0 ?_
  refine mj_ldc2 C dX10_isMonth_3 kc_X10_114 ?_
  refine mj_callSi C (c_X10_within σ p0.toInt64 0 599) ys_X10_within kl_X10_110 rfl rfl (Nat.le_of_ble_eq_true rfl) (mj_roomC (by decide) (by decide)) ⟨Nat.zero_le _, Nat.zero_le _⟩ dX10_isMonth_6 ?_
  subst hF
  exact mj_zbret C hr hlk dX10_isMonth_9
set_option maxRecDepth 100000 in
set_option maxHeartbeats 4000000 in
theorem c_X10_isLate {G : mj_G} {l : Launch} (σ : mj_S) (p0 : Int32) : mj_C G l yX10_isLate cX10_isLate 1 (some .boolean) 2 [.int p0] σ (some (.int (f_X10_isLate σ p0))) σ := by
  generalize hF : f_X10_isLate σ p0 = R
  unfold f_X10_isLate at hF
  refine mj_of (ls := [(0, .int p0)]) (by decide) (Nat.le_of_ble_eq_true rfl) rfl (fun p e s m args below meth c C hr hlk => ?_)
  refine mj_iload_n C dX10_isLate_0 rfl ?_
  refine mj_i2l C dX10_isLate_1 ?_
  refine mj_ldc2 C dX10_isLate_2 kc_X10_116 ?_
  refine mj_ldc2 C dX10_isLate_5 kc_X10_118 ?_
  refine mj_callSi C (c_X10_within σ p0.toInt64 (-24) 24) ys_X10_within kl_X10_110 rfl rfl (Nat.le_of_ble_eq_true rfl) (mj_roomC (by decide) (by decide)) ⟨Nat.zero_le _, Nat.zero_le _⟩ dX10_isLate_8 ?_
  subst hF
  exact mj_zbret C hr hlk dX10_isLate_11
set_option maxRecDepth 100000 in
set_option maxHeartbeats 4000000 in
theorem c_X10_areParents {G : mj_G} {l : Launch} (σ : mj_S) (p0 : Int32) : mj_C G l yX10_areParents cX10_areParents 1 (some .boolean) 2 [.int p0] σ (some (.int (f_X10_areParents σ p0))) σ := by
  generalize hF : f_X10_areParents σ p0 = R
  unfold f_X10_areParents at hF
  refine mj_of (ls := [(0, .int p0)]) (by decide) (Nat.le_of_ble_eq_true rfl) rfl (fun p e s m args below meth c C hr hlk => ?_)
  refine mj_iload_n C dX10_areParents_0 rfl ?_
  refine mj_i2l C dX10_areParents_1 ?_
  refine mj_ldc2 C dX10_areParents_2 kc_X10_120 ?_
  refine mj_ldc2 C dX10_areParents_5 kc_X10_122 ?_
  refine mj_callSi C (c_X10_within σ p0.toInt64 3000 6000) ys_X10_within kl_X10_110 rfl rfl (Nat.le_of_ble_eq_true rfl) (mj_roomC (by decide) (by decide)) ⟨Nat.zero_le _, Nat.zero_le _⟩ dX10_areParents_8 ?_
  subst hF
  exact mj_zbret C hr hlk dX10_areParents_11
set_option maxRecDepth 100000 in
set_option maxHeartbeats 4000000 in
theorem c_X10_child {G : mj_G} {l : Launch} (σ : mj_S) (p1 : Int32) (p2 : Int32) (p3 : Int32) (R : (Int32 × mj_S)) (hF : f_X10_child σ p1 p2 p3 = some R) : mj_C G l yX10_child cX10_child 4 (some .int) 3 [.ref (G.2.1 64), .int p1, .int p2, .int p3] σ (some (.int R.1)) R.2 := by
  unfold f_X10_child at hF
  refine mj_of (ls := [(0, .ref (G.2.1 64)), (1, .int p1), (2, .int p2), (3, .int p3)]) (by decide) (Nat.le_of_ble_eq_true rfl) rfl (fun p e s m args below meth c C hr hlk => ?_)
  refine mj_iload_n C dX10_child_0 rfl ?_
  refine mj_if_lt C dX10_child_1 rfl hF (fun hc1 hF => ?_) (fun hc1 hF => ?_)
  · refine mj_iconstV (v := (-1)) C dX10_child_65 mc_i_m1 ?_
    have hF := mj_oi hF; subst hF
    exact mj_iret C hr hlk dX10_child_66
  · refine mj_iload_n C dX10_child_4 rfl ?_
    refine mj_bipushV (v := 10) C dX10_child_5 mc_b_10 ?_
    refine mj_idiv C dX10_child_7 (by decide) ?_
    refine mj_callSi C (c_X10_isMonth σ (p1 / 10)) ys_X10_isMonth kl_X10_124 rfl rfl (Nat.le_of_ble_eq_true rfl) (mj_roomC (by decide) (by decide)) ⟨Nat.zero_le _, Nat.zero_le _⟩ dX10_child_8 ?_
    refine mj_if_eq C dX10_child_11 rfl hF (fun hc2 hF => ?_) (fun hc2 hF => ?_)
    · refine mj_iconstV (v := (-1)) C dX10_child_65 mc_i_m1 ?_
      have hF := mj_oi hF; subst hF
      exact mj_iret C hr hlk dX10_child_66
    · refine mj_iload_n C dX10_child_14 rfl ?_
      refine mj_bipushV (v := 10) C dX10_child_15 mc_b_10 ?_
      refine mj_irem C dX10_child_17 (by decide) ?_
      refine mj_iconstV (v := 1) C dX10_child_18 mc_i_1 ?_
      refine mj_ic_gt C dX10_child_19 rfl hF (fun hc3 hF => ?_) (fun hc3 hF => ?_)
      · refine mj_iconstV (v := (-1)) C dX10_child_65 mc_i_m1 ?_
        have hF := mj_oi hF; subst hF
        exact mj_iret C hr hlk dX10_child_66
      · refine mj_iload_n C dX10_child_22 rfl ?_
        refine mj_i2l C dX10_child_23 ?_
        refine mj_ldc2 C dX10_child_24 kc_X10_128 ?_
        refine mj_ldc2 C dX10_child_27 kc_X10_130 ?_
        refine mj_callSi C (c_X10_within σ p2.toInt64 500 2000) ys_X10_within kl_X10_110 rfl rfl (Nat.le_of_ble_eq_true rfl) (mj_roomC (by decide) (by decide)) ⟨Nat.zero_le _, Nat.zero_le _⟩ dX10_child_30 ?_
        refine mj_if_eq C dX10_child_33 rfl hF (fun hc4 hF => ?_) (fun hc4 hF => ?_)
        · refine mj_iconstV (v := (-1)) C dX10_child_65 mc_i_m1 ?_
          have hF := mj_oi hF; subst hF
          exact mj_iret C hr hlk dX10_child_66
        · refine mj_iload_n C dX10_child_36 rfl ?_
          refine mj_if_lt C dX10_child_37 rfl hF (fun hc5 hF => ?_) (fun hc5 hF => ?_)
          · refine mj_iconstV (v := (-1)) C dX10_child_65 mc_i_m1 ?_
            have hF := mj_oi hF; subst hF
            exact mj_iret C hr hlk dX10_child_66
          · refine mj_iload_n C dX10_child_40 rfl ?_
            refine mj_sipushV (v := 10000) C dX10_child_41 mc_s_10000 ?_
            refine mj_idiv C dX10_child_44 (by decide) ?_
            refine mj_bipushV (v := 24) C dX10_child_45 mc_b_24 ?_
            refine mj_isub C dX10_child_47 ?_
            refine mj_callSi C (c_X10_isLate σ ((p3 / 10000) - 24)) ys_X10_isLate kl_X10_132 rfl rfl (Nat.le_of_ble_eq_true rfl) (mj_roomC (by decide) (by decide)) ⟨Nat.zero_le _, Nat.zero_le _⟩ dX10_child_48 ?_
            refine mj_if_eq C dX10_child_51 rfl hF (fun hc6 hF => ?_) (fun hc6 hF => ?_)
            · refine mj_iconstV (v := (-1)) C dX10_child_65 mc_i_m1 ?_
              have hF := mj_oi hF; subst hF
              exact mj_iret C hr hlk dX10_child_66
            · refine mj_iload_n C dX10_child_54 rfl ?_
              refine mj_sipushV (v := 10000) C dX10_child_55 mc_s_10000 ?_
              refine mj_irem C dX10_child_58 (by decide) ?_
              refine mj_callSi C (c_X10_areParents σ (mj_rem p3 10000)) ys_X10_areParents kl_X10_135 rfl rfl (Nat.le_of_ble_eq_true rfl) (mj_roomC (by decide) (by decide)) ⟨Nat.zero_le _, Nat.zero_le _⟩ dX10_child_59 ?_
              refine mj_if_ne C dX10_child_62 rfl hF (fun hc7 hF => ?_) (fun hc7 hF => ?_)
              · refine mj_aload_n C dX10_child_67 rfl ?_
                refine mg_X10_107 C dX10_child_68 ?_
                refine mj_bipushV (v := 6) C dX10_child_71 mc_b_6 ?_
                refine mj_ic_ne C dX10_child_73 rfl hF (fun hc8 hF => ?_) (fun hc8 hF => ?_)
                · refine mj_aload_n C dX10_child_79 rfl ?_
                  refine mg_X10_22 C dX10_child_80 ?_
                  refine mj_aload_n C dX10_child_83 rfl ?_
                  refine mg_X10_107 C dX10_child_84 ?_
                  refine mj_iload_n C dX10_child_87 rfl ?_
                  refine mj_bipushV (v := 10) C dX10_child_88 mc_b_10 ?_
                  refine mj_idiv C dX10_child_90 (by decide) ?_
                  obtain ⟨hg9, hF⟩ := mj_og hF
                  refine mj_iastore C dX10_child_91 rfl hg9 ?_
                  refine mj_aload_n C dX10_child_92 rfl ?_
                  refine mg_X10_25 C dX10_child_93 ?_
                  refine mj_aload_n C dX10_child_96 rfl ?_
                  refine mg_X10_107 C dX10_child_97 ?_
                  refine mj_iload_n C dX10_child_100 rfl ?_
                  refine mj_bipushV (v := 10) C dX10_child_101 mc_b_10 ?_
                  refine mj_irem C dX10_child_103 (by decide) ?_
                  obtain ⟨hg10, hF⟩ := mj_og hF
                  refine mj_iastore C dX10_child_104 rfl hg10 ?_
                  refine mj_aload_n C dX10_child_105 rfl ?_
                  refine mg_X10_28 C dX10_child_106 ?_
                  refine mj_aload_n C dX10_child_109 rfl ?_
                  refine mg_X10_107 C dX10_child_110 ?_
                  refine mj_iload_n C dX10_child_113 rfl ?_
                  obtain ⟨hg11, hF⟩ := mj_og hF
                  refine mj_iastore C dX10_child_114 rfl hg11 ?_
                  refine mj_aload_n C dX10_child_115 rfl ?_
                  refine mg_X10_9 C dX10_child_116 ?_
                  refine mj_aload_n C dX10_child_119 rfl ?_
                  refine mg_X10_107 C dX10_child_120 ?_
                  refine mj_iload_n C dX10_child_123 rfl ?_
                  refine mj_sipushV (v := 10000) C dX10_child_124 mc_s_10000 ?_
                  refine mj_idiv C dX10_child_127 (by decide) ?_
                  refine mj_bipushV (v := 24) C dX10_child_128 mc_b_24 ?_
                  refine mj_isub C dX10_child_130 ?_
                  obtain ⟨hg12, hF⟩ := mj_og hF
                  refine mj_iastore C dX10_child_131 rfl hg12 ?_
                  refine mj_aload_n C dX10_child_132 rfl ?_
                  refine mg_X10_9 C dX10_child_133 ?_
                  refine mj_bipushV (v := 6) C dX10_child_136 mc_b_6 ?_
                  refine mj_aload_n C dX10_child_138 rfl ?_
                  refine mg_X10_107 C dX10_child_139 ?_
                  refine mj_iadd C dX10_child_142 ?_
                  refine mj_iload_n C dX10_child_143 rfl ?_
                  refine mj_sipushV (v := 10000) C dX10_child_144 mc_s_10000 ?_
                  refine mj_irem C dX10_child_147 (by decide) ?_
                  obtain ⟨hg13, hF⟩ := mj_og hF
                  refine mj_iastore C dX10_child_148 rfl hg13 ?_
                  refine mj_aload_n C dX10_child_149 rfl ?_
                  refine mj_dup C dX10_child_150 rfl ?_
                  refine mg_X10_107 C dX10_child_151 ?_
                  refine mj_iconstV (v := 1) C dX10_child_154 mc_i_1 ?_
                  refine mj_iadd C dX10_child_155 ?_
                  refine mp_X10_107 C dX10_child_156 ?_
                  refine mj_aload_n C dX10_child_159 rfl ?_
                  refine mj_iconstV (v := 0) C dX10_child_160 mc_i_0 ?_
                  refine mp_X10_103 C rfl rfl dX10_child_161 ?_
                  refine mj_aload_n C dX10_child_164 rfl ?_
                  refine mg_X10_107 C dX10_child_165 ?_
                  refine mj_iconstV (v := 1) C dX10_child_168 mc_i_1 ?_
                  refine mj_isub C dX10_child_169 ?_
                  have hF := mj_oi hF; subst hF
                  exact mj_iret C hr hlk dX10_child_170
                · refine mj_bipushV (v := (-3)) C dX10_child_76 mc_b_m3 ?_
                  have hF := mj_oi hF; subst hF
                  exact mj_iret C hr hlk dX10_child_78
              · refine mj_iconstV (v := (-1)) C dX10_child_65 mc_i_m1 ?_
                have hF := mj_oi hF; subst hF
                exact mj_iret C hr hlk dX10_child_66
set_option maxRecDepth 100000 in
set_option maxHeartbeats 4000000 in
theorem c_X10_isSpan {G : mj_G} {l : Launch} (σ : mj_S) (p0 : Int32) : mj_C G l yX10_isSpan cX10_isSpan 1 (some .boolean) 3 [.int p0] σ (some (.int (f_X10_isSpan σ p0))) σ := by
  generalize hF : f_X10_isSpan σ p0 = R
  unfold f_X10_isSpan at hF
  refine mj_of (ls := [(0, .int p0)]) (by decide) (Nat.le_of_ble_eq_true rfl) rfl (fun p e s m args below meth c C hr hlk => ?_)
  refine mj_iload_n C dX10_isSpan_0 rfl ?_
  refine mj_if_lt C dX10_isSpan_1 rfl hF (fun hc1 hF => ?_) (fun hc1 hF => ?_)
  · refine mj_iconstV (v := 0) C dX10_isSpan_43 mc_i_0 ?_
    subst hF
    exact mj_zret (v := 0) rfl C hr hlk dX10_isSpan_44
  · refine mj_iload_n C dX10_isSpan_4 rfl ?_
    refine mj_sipushV (v := 1000) C dX10_isSpan_5 mc_s_1000 ?_
    refine mj_idiv C dX10_isSpan_8 (by decide) ?_
    refine mj_callSi C (c_X10_isMonth σ (p0 / 1000)) ys_X10_isMonth kl_X10_124 rfl rfl (Nat.le_of_ble_eq_true rfl) (mj_roomC (by decide) (by decide)) ⟨Nat.zero_le _, Nat.zero_le _⟩ dX10_isSpan_9 ?_
    refine mj_if_eq C dX10_isSpan_12 rfl hF (fun hc2 hF => ?_) (fun hc2 hF => ?_)
    · refine mj_iconstV (v := 0) C dX10_isSpan_43 mc_i_0 ?_
      subst hF
      exact mj_zret (v := 0) rfl C hr hlk dX10_isSpan_44
    · refine mj_iload_n C dX10_isSpan_15 rfl ?_
      refine mj_sipushV (v := 1000) C dX10_isSpan_16 mc_s_1000 ?_
      refine mj_irem C dX10_isSpan_19 (by decide) ?_
      refine mj_callSi C (c_X10_isMonth σ (mj_rem p0 1000)) ys_X10_isMonth kl_X10_124 rfl rfl (Nat.le_of_ble_eq_true rfl) (mj_roomC (by decide) (by decide)) ⟨Nat.zero_le _, Nat.zero_le _⟩ dX10_isSpan_20 ?_
      refine mj_if_eq C dX10_isSpan_23 rfl hF (fun hc3 hF => ?_) (fun hc3 hF => ?_)
      · refine mj_iconstV (v := 0) C dX10_isSpan_43 mc_i_0 ?_
        subst hF
        exact mj_zret (v := 0) rfl C hr hlk dX10_isSpan_44
      · refine mj_iload_n C dX10_isSpan_26 rfl ?_
        refine mj_sipushV (v := 1000) C dX10_isSpan_27 mc_s_1000 ?_
        refine mj_idiv C dX10_isSpan_30 (by decide) ?_
        refine mj_iload_n C dX10_isSpan_31 rfl ?_
        refine mj_sipushV (v := 1000) C dX10_isSpan_32 mc_s_1000 ?_
        refine mj_irem C dX10_isSpan_35 (by decide) ?_
        refine mj_ic_gt C dX10_isSpan_36 rfl hF (fun hc4 hF => ?_) (fun hc4 hF => ?_)
        · refine mj_iconstV (v := 0) C dX10_isSpan_43 mc_i_0 ?_
          subst hF
          exact mj_zret (v := 0) rfl C hr hlk dX10_isSpan_44
        · refine mj_iconstV (v := 1) C dX10_isSpan_39 mc_i_1 ?_
          refine mj_goto C dX10_isSpan_40 rfl ?_
          subst hF
          exact mj_zret (v := 1) rfl C hr hlk dX10_isSpan_44
set_option maxRecDepth 100000 in
set_option maxHeartbeats 4000000 in
theorem c_X10_tellsWant {G : mj_G} {l : Launch} (σ : mj_S) (p1 : Int32) (p2 : Int32) (R : mj_S) (hF : f_X10_tellsWant σ p1 p2 = some R) : mj_C G l yX10_tellsWant cX10_tellsWant 3 (none) 1 [.ref (G.2.1 64), .int p1, .int p2] σ none R := by
  unfold f_X10_tellsWant at hF
  refine mj_of (ls := [(0, .ref (G.2.1 64)), (1, .int p1), (2, .int p2)]) (by decide) (Nat.le_of_ble_eq_true rfl) rfl (fun p e s m args below meth c C hr hlk => ?_)
  refine mj_aload_n C dX10_tellsWant_0 rfl ?_
  refine mg_X10_31 C dX10_tellsWant_1 ?_
  refine mj_aload_n C dX10_tellsWant_4 rfl ?_
  refine mg_X10_143 C dX10_tellsWant_5 ?_
  refine mj_iload_n C dX10_tellsWant_8 rfl ?_
  refine mj_sipushV (v := 1000) C dX10_tellsWant_9 mc_s_1000 ?_
  refine mj_idiv C dX10_tellsWant_12 (by decide) ?_
  obtain ⟨hg1, hF⟩ := mj_og hF
  refine mj_iastore C dX10_tellsWant_13 rfl hg1 ?_
  refine mj_aload_n C dX10_tellsWant_14 rfl ?_
  refine mg_X10_34 C dX10_tellsWant_15 ?_
  refine mj_aload_n C dX10_tellsWant_18 rfl ?_
  refine mg_X10_143 C dX10_tellsWant_19 ?_
  refine mj_iload_n C dX10_tellsWant_22 rfl ?_
  refine mj_sipushV (v := 1000) C dX10_tellsWant_23 mc_s_1000 ?_
  refine mj_irem C dX10_tellsWant_26 (by decide) ?_
  obtain ⟨hg2, hF⟩ := mj_og hF
  refine mj_iastore C dX10_tellsWant_27 rfl hg2 ?_
  refine mj_aload_n C dX10_tellsWant_28 rfl ?_
  refine mg_X10_37 C dX10_tellsWant_29 ?_
  refine mj_aload_n C dX10_tellsWant_32 rfl ?_
  refine mg_X10_143 C dX10_tellsWant_33 ?_
  refine mj_iload_n C dX10_tellsWant_36 rfl ?_
  obtain ⟨hg3, hF⟩ := mj_og hF
  refine mj_iastore C dX10_tellsWant_37 rfl hg3 ?_
  refine mj_aload_n C dX10_tellsWant_38 rfl ?_
  refine mj_dup C dX10_tellsWant_39 rfl ?_
  refine mg_X10_143 C dX10_tellsWant_40 ?_
  refine mj_iconstV (v := 1) C dX10_tellsWant_43 mc_i_1 ?_
  refine mj_iadd C dX10_tellsWant_44 ?_
  refine mp_X10_143 C dX10_tellsWant_45 ?_
  refine mj_aload_n C dX10_tellsWant_48 rfl ?_
  refine mj_iconstV (v := 0) C dX10_tellsWant_49 mc_i_0 ?_
  refine mp_X10_103 C rfl rfl dX10_tellsWant_50 ?_
  have hF := mj_oi hF; subst hF
  exact mj_vret C hr hlk dX10_tellsWant_53
set_option maxRecDepth 100000 in
set_option maxHeartbeats 4000000 in
theorem c_X10_want {G : mj_G} {l : Launch} (σ : mj_S) (p1 : Int32) (p2 : Int32) (R : (Int32 × mj_S)) (hF : f_X10_want σ p1 p2 = some R) : mj_C G l yX10_want cX10_want 3 (some .int) 4 [.ref (G.2.1 64), .int p1, .int p2] σ (some (.int R.1)) R.2 := by
  unfold f_X10_want at hF
  refine mj_of (ls := [(0, .ref (G.2.1 64)), (1, .int p1), (2, .int p2)]) (by decide) (Nat.le_of_ble_eq_true rfl) rfl (fun p e s m args below meth c C hr hlk => ?_)
  refine mj_iload_n C dX10_want_0 rfl ?_
  refine mj_callSi C (c_X10_isSpan σ p1) ys_X10_isSpan kl_X10_138 rfl rfl (Nat.le_of_ble_eq_true rfl) (mj_roomC (by decide) (by decide)) ⟨Nat.zero_le _, Nat.zero_le _⟩ dX10_want_1 ?_
  refine mj_if_eq C dX10_want_4 rfl hF (fun hc1 hF => ?_) (fun hc1 hF => ?_)
  · refine mj_iconstV (v := (-1)) C dX10_want_19 mc_i_m1 ?_
    have hF := mj_oi hF; subst hF
    exact mj_iret C hr hlk dX10_want_20
  · refine mj_iload_n C dX10_want_7 rfl ?_
    refine mj_i2l C dX10_want_8 ?_
    refine mj_lconstV (v := 1) C dX10_want_9 mc_l_1 ?_
    refine mj_ldc2 C dX10_want_10 kc_X10_141 ?_
    refine mj_callSi C (c_X10_within σ p2.toInt64 1 9) ys_X10_within kl_X10_110 rfl rfl (Nat.le_of_ble_eq_true rfl) (mj_roomC (by decide) (by decide)) ⟨Nat.zero_le _, Nat.zero_le _⟩ dX10_want_13 ?_
    refine mj_if_ne C dX10_want_16 rfl hF (fun hc2 hF => ?_) (fun hc2 hF => ?_)
    · refine mj_aload_n C dX10_want_21 rfl ?_
      refine mg_X10_143 C dX10_want_22 ?_
      refine mj_bipushV (v := 10) C dX10_want_25 mc_b_10 ?_
      refine mj_ic_ne C dX10_want_27 rfl hF (fun hc3 hF => ?_) (fun hc3 hF => ?_)
      · refine mj_aload_n C dX10_want_33 rfl ?_
        refine mj_iload_n C dX10_want_34 rfl ?_
        refine mj_iload_n C dX10_want_35 rfl ?_
        obtain ⟨r4, hq4, hF⟩ := mj_ob hF
        refine mj_callVv C (c_X10_tellsWant σ p1 p2 r4 hq4) yv_X10_tellsWant kl_X10_146 (mo_64 G _) rfl rfl rfl rfl (Nat.le_of_ble_eq_true rfl) (mj_roomC (by decide) (by decide)) ⟨Nat.zero_le _, Nat.zero_le _⟩ dX10_want_36 ?_
        refine mj_aload_n C dX10_want_39 rfl ?_
        refine mg_X10_143 C dX10_want_40 ?_
        refine mj_iconstV (v := 1) C dX10_want_43 mc_i_1 ?_
        refine mj_isub C dX10_want_44 ?_
        have hF := mj_oi hF; subst hF
        exact mj_iret C hr hlk dX10_want_45
      · refine mj_bipushV (v := (-3)) C dX10_want_30 mc_b_m3 ?_
        have hF := mj_oi hF; subst hF
        exact mj_iret C hr hlk dX10_want_32
    · refine mj_iconstV (v := (-1)) C dX10_want_19 mc_i_m1 ?_
      have hF := mj_oi hF; subst hF
      exact mj_iret C hr hlk dX10_want_20
set_option maxRecDepth 100000 in
set_option maxHeartbeats 4000000 in
theorem w_X10_wantOf_4 {p : Program} {l : Launch} {e : Env} {s : State} {m : MethodId} {args : Array Value} {below : List Frame} {meth : Method} {c : Code} {G : mj_G} {σ : mj_S} (C : mj_X p s m args meth c G cX10_wantOf 4 RX10) (hr : meth.sig.returnType = some .int) (hlk : meth.locks = false) : ∀ (n : Nat) (v1 : Int32) (v2 : Int32) (v3 : Int32) (R : Int32), b_X10_wantOf_4 σ n v1 v2 v3 = some R → mj_W p l e (mj_rm 2) s m args below meth c G 0 0 4 (MQ below (mj_Q G (some (.int R)) σ) args s 0 0 G.2.2.2) 4 [(0, .ref (G.2.1 64)), (1, .int v1), (2, .int v2), (3, .int v3)] [] σ := by
  intro n
  induction n with
  | zero =>
    intro v1 v2 v3 R hF
    cases hF
  | succ n ih =>
    intro v1 v2 v3 R hF
    rw [b_X10_wantOf_4] at hF
    refine mj_iload_n C dX10_wantOf_4 rfl ?_
    refine mj_aload_n C dX10_wantOf_5 rfl ?_
    refine mg_X10_143 C dX10_wantOf_6 ?_
    refine mj_ic_ge C dX10_wantOf_9 rfl hF (fun hc1 hF => ?_) (fun hc1 hF => ?_)
    · refine mj_iload_n C dX10_wantOf_61 rfl ?_
      have hF := mj_oi hF; subst hF
      exact mj_iret C hr hlk dX10_wantOf_62
    · refine mj_iload_n C dX10_wantOf_12 rfl ?_
      refine mj_i2l C dX10_wantOf_13 ?_
      refine mj_aload_n C dX10_wantOf_14 rfl ?_
      refine mg_X10_31 C dX10_wantOf_15 ?_
      refine mj_iload_n C dX10_wantOf_18 rfl ?_
      obtain ⟨hg2, hF⟩ := mj_og hF
      refine mj_iaload C dX10_wantOf_19 rfl hg2 ?_
      refine mj_i2l C dX10_wantOf_20 ?_
      refine mj_aload_n C dX10_wantOf_21 rfl ?_
      refine mg_X10_34 C dX10_wantOf_22 ?_
      refine mj_iload_n C dX10_wantOf_25 rfl ?_
      obtain ⟨hg3, hF⟩ := mj_og hF
      refine mj_iaload C dX10_wantOf_26 rfl hg3 ?_
      refine mj_i2l C dX10_wantOf_27 ?_
      refine mj_callSi C (c_X10_within σ v1.toInt64 ((σ.1 72 v3.toNatClampNeg).toInt64) ((σ.1 73 v3.toNatClampNeg).toInt64)) ys_X10_within kl_X10_110 rfl rfl (Nat.le_of_ble_eq_true rfl) (mj_roomC (by decide) (by decide)) ⟨Nat.zero_le _, Nat.zero_le _⟩ dX10_wantOf_28 ?_
      refine mj_if_eq C dX10_wantOf_31 rfl hF (fun hc4 hF => ?_) (fun hc4 hF => ?_)
      · refine mj_iload_n C dX10_wantOf_53 rfl ?_
        refine mj_istore_n C dX10_wantOf_54 (by decide) ?_
        refine mj_iinc (v := v3 + 1) C dX10_wantOf_55 rfl rfl (by decide) ?_
        refine mj_goto C dX10_wantOf_58 rfl ?_
        refine mj_to ?_ (ih v1 v2 (v3 + 1) R hF)
        exact ⟨rfl, rfl, rfl, rfl, trivial⟩
      · refine mj_aload_n C dX10_wantOf_34 rfl ?_
        refine mg_X10_37 C dX10_wantOf_35 ?_
        refine mj_iload_n C dX10_wantOf_38 rfl ?_
        obtain ⟨hg5, hF⟩ := mj_og hF
        refine mj_iaload C dX10_wantOf_39 rfl hg5 ?_
        refine mj_iload_n C dX10_wantOf_40 rfl ?_
        refine mj_ic_le C dX10_wantOf_41 rfl hF (fun hc6 hF => ?_) (fun hc6 hF => ?_)
        · refine mj_iload_n C dX10_wantOf_53 rfl ?_
          refine mj_istore_n C dX10_wantOf_54 (by decide) ?_
          refine mj_iinc (v := v3 + 1) C dX10_wantOf_55 rfl rfl (by decide) ?_
          refine mj_goto C dX10_wantOf_58 rfl ?_
          refine mj_to ?_ (ih v1 v2 (v3 + 1) R hF)
          exact ⟨rfl, rfl, rfl, rfl, trivial⟩
        · refine mj_aload_n C dX10_wantOf_44 rfl ?_
          refine mg_X10_37 C dX10_wantOf_45 ?_
          refine mj_iload_n C dX10_wantOf_48 rfl ?_
          obtain ⟨hg7, hF⟩ := mj_og hF
          refine mj_iaload C dX10_wantOf_49 rfl hg7 ?_
          refine mj_goto C dX10_wantOf_50 rfl ?_
          refine mj_istore_n C dX10_wantOf_54 (by decide) ?_
          refine mj_iinc (v := v3 + 1) C dX10_wantOf_55 rfl rfl (by decide) ?_
          refine mj_goto C dX10_wantOf_58 rfl ?_
          refine mj_to ?_ (ih v1 (σ.1 74 v3.toNatClampNeg) (v3 + 1) R hF)
          exact ⟨rfl, rfl, rfl, rfl, trivial⟩
set_option maxRecDepth 100000 in
set_option maxHeartbeats 4000000 in
theorem c_X10_wantOf {G : mj_G} {l : Launch} (σ : mj_S) (p1 : Int32) (R : Int32) (hF : f_X10_wantOf σ p1 = some R) : mj_C G l yX10_wantOf cX10_wantOf 4 (some .int) 2 [.ref (G.2.1 64), .int p1] σ (some (.int R)) σ := by
  unfold f_X10_wantOf at hF
  refine mj_of (ls := [(0, .ref (G.2.1 64)), (1, .int p1)]) (by decide) (Nat.le_of_ble_eq_true rfl) rfl (fun p e s m args below meth c C hr hlk => ?_)
  refine mj_iconstV (v := 0) C dX10_wantOf_0 mc_i_0 ?_
  refine mj_istore_n C dX10_wantOf_1 (by decide) ?_
  refine mj_iconstV (v := 0) C dX10_wantOf_2 mc_i_0 ?_
  refine mj_istore_n C dX10_wantOf_3 (by decide) ?_
  refine mj_to ?_ (w_X10_wantOf_4 C hr hlk mj_fu p1 0 0 R hF)
  exact ⟨rfl, rfl, rfl, rfl, trivial⟩
set_option maxRecDepth 100000 in
set_option maxHeartbeats 4000000 in
theorem c_X10_wants {G : mj_G} {l : Launch} (σ : mj_S) (p1 : Int32) (R : Int32) (hF : f_X10_wants σ p1 = some R) : mj_C G l yX10_wants cX10_wants 2 (some .int) 3 [.ref (G.2.1 64), .int p1] σ (some (.int R)) σ := by
  unfold f_X10_wants at hF
  refine mj_of (ls := [(0, .ref (G.2.1 64)), (1, .int p1)]) (by decide) (Nat.le_of_ble_eq_true rfl) rfl (fun p e s m args below meth c C hr hlk => ?_)
  refine mj_iload_n C dX10_wants_0 rfl ?_
  refine mj_callSi C (c_X10_isMonth σ p1) ys_X10_isMonth kl_X10_124 rfl rfl (Nat.le_of_ble_eq_true rfl) (mj_roomC (by decide) (by decide)) ⟨Nat.zero_le _, Nat.zero_le _⟩ dX10_wants_1 ?_
  refine mj_if_eq C dX10_wants_4 rfl hF (fun hc1 hF => ?_) (fun hc1 hF => ?_)
  · refine mj_iconstV (v := (-1)) C dX10_wants_15 mc_i_m1 ?_
    have hF := mj_oi hF; subst hF
    exact mj_iret C hr hlk dX10_wants_16
  · refine mj_aload_n C dX10_wants_7 rfl ?_
    refine mj_iload_n C dX10_wants_8 rfl ?_
    obtain ⟨r2, hq2, hF⟩ := mj_ob hF
    refine mj_callVi C (c_X10_wantOf σ p1 r2 hq2) yv_X10_wantOf kl_X10_150 (mo_64 G _) rfl rfl rfl rfl (Nat.le_of_ble_eq_true rfl) (mj_roomC (by decide) (by decide)) ⟨Nat.zero_le _, Nat.zero_le _⟩ dX10_wants_9 ?_
    refine mj_goto C dX10_wants_12 rfl ?_
    have hF := mj_oi hF; subst hF
    exact mj_iret C hr hlk dX10_wants_16
set_option maxRecDepth 100000 in
set_option maxHeartbeats 4000000 in
theorem c_X10_feed {G : mj_G} {l : Launch} (σ : mj_S) (p1 : Int32) (R : (Int32 × mj_S)) (hF : f_X10_feed σ p1 = some R) : mj_C G l yX10_feed cX10_feed 2 (some .int) 2 [.ref (G.2.1 64), .int p1] σ (some (.int R.1)) R.2 := by
  unfold f_X10_feed at hF
  refine mj_of (ls := [(0, .ref (G.2.1 64)), (1, .int p1)]) (by decide) (Nat.le_of_ble_eq_true rfl) rfl (fun p e s m args below meth c C hr hlk => ?_)
  refine mj_iload_n C dX10_feed_0 rfl ?_
  refine mj_i2l C dX10_feed_1 ?_
  refine mj_lconstV (v := 0) C dX10_feed_2 mc_l_0 ?_
  refine mj_ldc2 C dX10_feed_3 kc_X10_154 ?_
  refine mj_callSi C (c_X10_within σ p1.toInt64 0 255) ys_X10_within kl_X10_110 rfl rfl (Nat.le_of_ble_eq_true rfl) (mj_roomC (by decide) (by decide)) ⟨Nat.zero_le _, Nat.zero_le _⟩ dX10_feed_6 ?_
  refine mj_if_ne C dX10_feed_9 rfl hF (fun hc1 hF => ?_) (fun hc1 hF => ?_)
  · refine mj_aload_n C dX10_feed_14 rfl ?_
    refine mg_X10_156 C dX10_feed_15 ?_
    refine mj_bipushV (v := 120) C dX10_feed_18 mc_b_120 ?_
    refine mj_ic_ne C dX10_feed_20 rfl hF (fun hc2 hF => ?_) (fun hc2 hF => ?_)
    · refine mj_aload_n C dX10_feed_26 rfl ?_
      refine mg_X10_40 C dX10_feed_27 ?_
      refine mj_aload_n C dX10_feed_30 rfl ?_
      refine mg_X10_156 C dX10_feed_31 ?_
      refine mj_iload_n C dX10_feed_34 rfl ?_
      obtain ⟨hg3, hF⟩ := mj_og hF
      refine mj_iastore C dX10_feed_35 rfl hg3 ?_
      refine mj_aload_n C dX10_feed_36 rfl ?_
      refine mj_dup C dX10_feed_37 rfl ?_
      refine mg_X10_156 C dX10_feed_38 ?_
      refine mj_iconstV (v := 1) C dX10_feed_41 mc_i_1 ?_
      refine mj_iadd C dX10_feed_42 ?_
      refine mp_X10_156 C dX10_feed_43 ?_
      refine mj_aload_n C dX10_feed_46 rfl ?_
      refine mg_X10_156 C dX10_feed_47 ?_
      have hF := mj_oi hF; subst hF
      exact mj_iret C hr hlk dX10_feed_50
    · refine mj_bipushV (v := (-3)) C dX10_feed_23 mc_b_m3 ?_
      have hF := mj_oi hF; subst hF
      exact mj_iret C hr hlk dX10_feed_25
  · refine mj_iconstV (v := (-1)) C dX10_feed_12 mc_i_m1 ?_
    have hF := mj_oi hF; subst hF
    exact mj_iret C hr hlk dX10_feed_13
set_option maxRecDepth 100000 in
set_option maxHeartbeats 4000000 in
theorem c_X10_byteAt {G : mj_G} {l : Launch} (σ : mj_S) (R : Int32) (hF : f_X10_byteAt σ = some R) : mj_C G l yX10_byteAt cX10_byteAt 1 (some .int) 1 [.ref (G.2.1 64)] σ (some (.int R)) σ := by
  unfold f_X10_byteAt at hF
  refine mj_of (ls := [(0, .ref (G.2.1 64))]) (by decide) (Nat.le_of_ble_eq_true rfl) rfl (fun p e s m args below meth c C hr hlk => ?_)
  refine mj_aload_n C dX10_byteAt_0 rfl ?_
  refine mg_X10_159 C dX10_byteAt_1 ?_
  refine mj_aload_n C dX10_byteAt_4 rfl ?_
  refine mg_X10_162 C dX10_byteAt_5 ?_
  refine mj_ic_ge C dX10_byteAt_8 rfl hF (fun hc1 hF => ?_) (fun hc1 hF => ?_)
  · refine mj_iconstV (v := 0) C dX10_byteAt_47 mc_i_0 ?_
    have hF := mj_oi hF; subst hF
    exact mj_iret C hr hlk dX10_byteAt_48
  · refine mj_aload_n C dX10_byteAt_11 rfl ?_
    refine mg_X10_165 C dX10_byteAt_12 ?_
    refine mj_if_ge C dX10_byteAt_15 rfl hF (fun hc2 hF => ?_) (fun hc2 hF => ?_)
    · refine mj_aload_n C dX10_byteAt_30 rfl ?_
      refine mg_X10_43 C dX10_byteAt_31 ?_
      refine mj_aload_n C dX10_byteAt_34 rfl ?_
      refine mg_X10_165 C dX10_byteAt_35 ?_
      refine mj_aload_n C dX10_byteAt_38 rfl ?_
      refine mg_X10_159 C dX10_byteAt_39 ?_
      refine mj_iadd C dX10_byteAt_42 ?_
      obtain ⟨hg3, hF⟩ := mj_og hF
      refine mj_iaload C dX10_byteAt_43 rfl hg3 ?_
      refine mj_goto C dX10_byteAt_44 rfl ?_
      have hF := mj_oi hF; subst hF
      exact mj_iret C hr hlk dX10_byteAt_48
    · refine mj_aload_n C dX10_byteAt_18 rfl ?_
      refine mg_X10_40 C dX10_byteAt_19 ?_
      refine mj_aload_n C dX10_byteAt_22 rfl ?_
      refine mg_X10_159 C dX10_byteAt_23 ?_
      obtain ⟨hg4, hF⟩ := mj_og hF
      refine mj_iaload C dX10_byteAt_26 rfl hg4 ?_
      refine mj_goto C dX10_byteAt_27 rfl ?_
      have hF := mj_oi hF; subst hF
      exact mj_iret C hr hlk dX10_byteAt_48
set_option maxRecDepth 100000 in
set_option maxHeartbeats 4000000 in
theorem w_X10_wrong_19 {p : Program} {l : Launch} {e : Env} {s : State} {m : MethodId} {args : Array Value} {below : List Frame} {meth : Method} {c : Code} {G : mj_G} (C : mj_X p s m args meth c G cX10_wrong 1 RX10) (hr : meth.sig.returnType = some .int) (hlk : meth.locks = false) : ∀ (t1 : Int32) (σ : mj_S) (R : (Int32 × mj_S)), b_X10_wrong_19 t1 σ = R → mj_W p l e (mj_rm 1) s m args below meth c G 0 0 1 (MQ below (mj_Q G (some (.int R.1)) R.2) args s 0 0 G.2.2.2) 19 [] [.int t1, .ref (G.2.1 64)] σ := by
  intro t1 σ R hF
  unfold b_X10_wrong_19 at hF
  refine mp_X10_168 C dX10_wrong_19 ?_
  refine mj_iconstV (v := 0) C dX10_wrong_22 mc_i_0 ?_
  subst hF
  exact mj_iret C hr hlk dX10_wrong_23
set_option maxRecDepth 100000 in
set_option maxHeartbeats 4000000 in
theorem c_X10_wrong {G : mj_G} {l : Launch} (σ : mj_S) : mj_C G l yX10_wrong cX10_wrong 1 (some .int) 1 [.ref (G.2.1 64)] σ (some (.int (f_X10_wrong σ).1)) (f_X10_wrong σ).2 := by
  generalize hF : f_X10_wrong σ = R
  unfold f_X10_wrong at hF
  refine mj_of (ls := [(0, .ref (G.2.1 64))]) (by decide) (Nat.le_of_ble_eq_true rfl) rfl (fun p e s m args below meth c C hr hlk => ?_)
  refine mj_aload_n C dX10_wrong_0 rfl ?_
  refine mj_aload_n C dX10_wrong_1 rfl ?_
  refine mg_X10_168 C dX10_wrong_2 ?_
  refine mj_if_ge C dX10_wrong_5 rfl hF (fun hc1 hF => ?_) (fun hc1 hF => ?_)
  · refine mj_aload_n C dX10_wrong_15 rfl ?_
    refine mg_X10_168 C dX10_wrong_16 ?_
    refine mj_to ?_ (w_X10_wrong_19 C hr hlk (σ.1 64 22) σ R hF)
    exact trivial
  · refine mj_aload_n C dX10_wrong_8 rfl ?_
    refine mg_X10_159 C dX10_wrong_9 ?_
    refine mj_goto C dX10_wrong_12 rfl ?_
    refine mj_to ?_ (w_X10_wrong_19 C hr hlk (σ.1 64 20) σ R hF)
    exact trivial
set_option maxRecDepth 100000 in
set_option maxHeartbeats 4000000 in
theorem c_X10_takes {G : mj_G} {l : Launch} (σ : mj_S) (p1 : Int32) (R : (Int32 × mj_S)) (hF : f_X10_takes σ p1 = some R) : mj_C G l yX10_takes cX10_takes 2 (some .boolean) 2 [.ref (G.2.1 64), .int p1] σ (some (.int R.1)) R.2 := by
  unfold f_X10_takes at hF
  refine mj_of (ls := [(0, .ref (G.2.1 64)), (1, .int p1)]) (by decide) (Nat.le_of_ble_eq_true rfl) rfl (fun p e s m args below meth c C hr hlk => ?_)
  refine mj_aload_n C dX10_takes_0 rfl ?_
  refine mg_X10_168 C dX10_takes_1 ?_
  refine mj_if_ge C dX10_takes_4 rfl hF (fun hc1 hF => ?_) (fun hc1 hF => ?_)
  · refine mj_iconstV (v := 0) C dX10_takes_15 mc_i_0 ?_
    have hF := mj_oi hF; subst hF
    exact mj_zret (v := 0) rfl C hr hlk dX10_takes_16
  · refine mj_aload_n C dX10_takes_7 rfl ?_
    obtain ⟨r2, hq2, hF⟩ := mj_ob hF
    refine mj_callVi C (c_X10_byteAt σ r2 hq2) yv_X10_byteAt kl_X10_171 (mo_64 G _) rfl rfl rfl rfl (Nat.le_of_ble_eq_true rfl) (mj_roomC (by decide) (by decide)) ⟨Nat.zero_le _, Nat.zero_le _⟩ dX10_takes_8 ?_
    refine mj_iload_n C dX10_takes_11 rfl ?_
    refine mj_ic_eq C dX10_takes_12 rfl hF (fun hc3 hF => ?_) (fun hc3 hF => ?_)
    · refine mj_aload_n C dX10_takes_17 rfl ?_
      refine mj_dup C dX10_takes_18 rfl ?_
      refine mg_X10_159 C dX10_takes_19 ?_
      refine mj_iconstV (v := 1) C dX10_takes_22 mc_i_1 ?_
      refine mj_iadd C dX10_takes_23 ?_
      refine mp_X10_159 C dX10_takes_24 ?_
      refine mj_iconstV (v := 1) C dX10_takes_27 mc_i_1 ?_
      have hF := mj_oi hF; subst hF
      exact mj_zret (v := 1) rfl C hr hlk dX10_takes_28
    · refine mj_iconstV (v := 0) C dX10_takes_15 mc_i_0 ?_
      have hF := mj_oi hF; subst hF
      exact mj_zret (v := 0) rfl C hr hlk dX10_takes_16
set_option maxRecDepth 100000 in
set_option maxHeartbeats 4000000 in
theorem c_X10_nameOf {G : mj_G} {l : Launch} (σ : mj_S) (p0 : Int32) : mj_C G l yX10_nameOf cX10_nameOf 1 (some .int) 1 [.int p0] σ (some (.int (f_X10_nameOf σ p0))) σ := by
  generalize hF : f_X10_nameOf σ p0 = R
  unfold f_X10_nameOf at hF
  refine mj_of (ls := [(0, .int p0)]) (by decide) (Nat.le_of_ble_eq_true rfl) rfl (fun p e s m args below meth c C hr hlk => ?_)
  refine mj_iload_n C dX10_nameOf_0 rfl ?_
  by_cases hw1_0 : p0 = 97
  · rw [if_pos hw1_0] at hF
    refine mj_tsIn (off := 107) C dX10_nameOf_1 (by rw [hw1_0]; decide) (by rw [hw1_0]; decide) (by rw [hw1_0]; rfl) rfl ?_
    refine mj_iconstV (v := 0) C dX10_nameOf_108 mc_i_0 ?_
    subst hF
    exact mj_iret C hr hlk dX10_nameOf_109
  rw [if_neg hw1_0] at hF
  by_cases hw1_1 : p0 = 98
  · rw [if_pos hw1_1] at hF
    refine mj_tsIn (off := 122) C dX10_nameOf_1 (by rw [hw1_1]; decide) (by rw [hw1_1]; decide) (by rw [hw1_1]; rfl) rfl ?_
    refine mj_iconstV (v := (-1)) C dX10_nameOf_123 mc_i_m1 ?_
    subst hF
    exact mj_iret C hr hlk dX10_nameOf_124
  rw [if_neg hw1_1] at hF
  by_cases hw1_2 : p0 = 99
  · rw [if_pos hw1_2] at hF
    refine mj_tsIn (off := 122) C dX10_nameOf_1 (by rw [hw1_2]; decide) (by rw [hw1_2]; decide) (by rw [hw1_2]; rfl) rfl ?_
    refine mj_iconstV (v := (-1)) C dX10_nameOf_123 mc_i_m1 ?_
    subst hF
    exact mj_iret C hr hlk dX10_nameOf_124
  rw [if_neg hw1_2] at hF
  by_cases hw1_3 : p0 = 100
  · rw [if_pos hw1_3] at hF
    refine mj_tsIn (off := 122) C dX10_nameOf_1 (by rw [hw1_3]; decide) (by rw [hw1_3]; decide) (by rw [hw1_3]; rfl) rfl ?_
    refine mj_iconstV (v := (-1)) C dX10_nameOf_123 mc_i_m1 ?_
    subst hF
    exact mj_iret C hr hlk dX10_nameOf_124
  rw [if_neg hw1_3] at hF
  by_cases hw1_4 : p0 = 101
  · rw [if_pos hw1_4] at hF
    refine mj_tsIn (off := 122) C dX10_nameOf_1 (by rw [hw1_4]; decide) (by rw [hw1_4]; decide) (by rw [hw1_4]; rfl) rfl ?_
    refine mj_iconstV (v := (-1)) C dX10_nameOf_123 mc_i_m1 ?_
    subst hF
    exact mj_iret C hr hlk dX10_nameOf_124
  rw [if_neg hw1_4] at hF
  by_cases hw1_5 : p0 = 102
  · rw [if_pos hw1_5] at hF
    refine mj_tsIn (off := 122) C dX10_nameOf_1 (by rw [hw1_5]; decide) (by rw [hw1_5]; decide) (by rw [hw1_5]; rfl) rfl ?_
    refine mj_iconstV (v := (-1)) C dX10_nameOf_123 mc_i_m1 ?_
    subst hF
    exact mj_iret C hr hlk dX10_nameOf_124
  rw [if_neg hw1_5] at hF
  by_cases hw1_6 : p0 = 103
  · rw [if_pos hw1_6] at hF
    refine mj_tsIn (off := 122) C dX10_nameOf_1 (by rw [hw1_6]; decide) (by rw [hw1_6]; decide) (by rw [hw1_6]; rfl) rfl ?_
    refine mj_iconstV (v := (-1)) C dX10_nameOf_123 mc_i_m1 ?_
    subst hF
    exact mj_iret C hr hlk dX10_nameOf_124
  rw [if_neg hw1_6] at hF
  by_cases hw1_7 : p0 = 104
  · rw [if_pos hw1_7] at hF
    refine mj_tsIn (off := 113) C dX10_nameOf_1 (by rw [hw1_7]; decide) (by rw [hw1_7]; decide) (by rw [hw1_7]; rfl) rfl ?_
    refine mj_iconstV (v := 3) C dX10_nameOf_114 mc_i_3 ?_
    subst hF
    exact mj_iret C hr hlk dX10_nameOf_115
  rw [if_neg hw1_7] at hF
  by_cases hw1_8 : p0 = 105
  · rw [if_pos hw1_8] at hF
    refine mj_tsIn (off := 122) C dX10_nameOf_1 (by rw [hw1_8]; decide) (by rw [hw1_8]; decide) (by rw [hw1_8]; rfl) rfl ?_
    refine mj_iconstV (v := (-1)) C dX10_nameOf_123 mc_i_m1 ?_
    subst hF
    exact mj_iret C hr hlk dX10_nameOf_124
  rw [if_neg hw1_8] at hF
  by_cases hw1_9 : p0 = 106
  · rw [if_pos hw1_9] at hF
    refine mj_tsIn (off := 122) C dX10_nameOf_1 (by rw [hw1_9]; decide) (by rw [hw1_9]; decide) (by rw [hw1_9]; rfl) rfl ?_
    refine mj_iconstV (v := (-1)) C dX10_nameOf_123 mc_i_m1 ?_
    subst hF
    exact mj_iret C hr hlk dX10_nameOf_124
  rw [if_neg hw1_9] at hF
  by_cases hw1_10 : p0 = 107
  · rw [if_pos hw1_10] at hF
    refine mj_tsIn (off := 119) C dX10_nameOf_1 (by rw [hw1_10]; decide) (by rw [hw1_10]; decide) (by rw [hw1_10]; rfl) rfl ?_
    refine mj_bipushV (v := 6) C dX10_nameOf_120 mc_b_6 ?_
    subst hF
    exact mj_iret C hr hlk dX10_nameOf_122
  rw [if_neg hw1_10] at hF
  by_cases hw1_11 : p0 = 108
  · rw [if_pos hw1_11] at hF
    refine mj_tsIn (off := 122) C dX10_nameOf_1 (by rw [hw1_11]; decide) (by rw [hw1_11]; decide) (by rw [hw1_11]; rfl) rfl ?_
    refine mj_iconstV (v := (-1)) C dX10_nameOf_123 mc_i_m1 ?_
    subst hF
    exact mj_iret C hr hlk dX10_nameOf_124
  rw [if_neg hw1_11] at hF
  by_cases hw1_12 : p0 = 109
  · rw [if_pos hw1_12] at hF
    refine mj_tsIn (off := 117) C dX10_nameOf_1 (by rw [hw1_12]; decide) (by rw [hw1_12]; decide) (by rw [hw1_12]; rfl) rfl ?_
    refine mj_iconstV (v := 5) C dX10_nameOf_118 mc_i_5 ?_
    subst hF
    exact mj_iret C hr hlk dX10_nameOf_119
  rw [if_neg hw1_12] at hF
  by_cases hw1_13 : p0 = 110
  · rw [if_pos hw1_13] at hF
    refine mj_tsIn (off := 122) C dX10_nameOf_1 (by rw [hw1_13]; decide) (by rw [hw1_13]; decide) (by rw [hw1_13]; rfl) rfl ?_
    refine mj_iconstV (v := (-1)) C dX10_nameOf_123 mc_i_m1 ?_
    subst hF
    exact mj_iret C hr hlk dX10_nameOf_124
  rw [if_neg hw1_13] at hF
  by_cases hw1_14 : p0 = 111
  · rw [if_pos hw1_14] at hF
    refine mj_tsIn (off := 122) C dX10_nameOf_1 (by rw [hw1_14]; decide) (by rw [hw1_14]; decide) (by rw [hw1_14]; rfl) rfl ?_
    refine mj_iconstV (v := (-1)) C dX10_nameOf_123 mc_i_m1 ?_
    subst hF
    exact mj_iret C hr hlk dX10_nameOf_124
  rw [if_neg hw1_14] at hF
  by_cases hw1_15 : p0 = 112
  · rw [if_pos hw1_15] at hF
    refine mj_tsIn (off := 115) C dX10_nameOf_1 (by rw [hw1_15]; decide) (by rw [hw1_15]; decide) (by rw [hw1_15]; rfl) rfl ?_
    refine mj_iconstV (v := 4) C dX10_nameOf_116 mc_i_4 ?_
    subst hF
    exact mj_iret C hr hlk dX10_nameOf_117
  rw [if_neg hw1_15] at hF
  by_cases hw1_16 : p0 = 113
  · rw [if_pos hw1_16] at hF
    refine mj_tsIn (off := 122) C dX10_nameOf_1 (by rw [hw1_16]; decide) (by rw [hw1_16]; decide) (by rw [hw1_16]; rfl) rfl ?_
    refine mj_iconstV (v := (-1)) C dX10_nameOf_123 mc_i_m1 ?_
    subst hF
    exact mj_iret C hr hlk dX10_nameOf_124
  rw [if_neg hw1_16] at hF
  by_cases hw1_17 : p0 = 114
  · rw [if_pos hw1_17] at hF
    refine mj_tsIn (off := 122) C dX10_nameOf_1 (by rw [hw1_17]; decide) (by rw [hw1_17]; decide) (by rw [hw1_17]; rfl) rfl ?_
    refine mj_iconstV (v := (-1)) C dX10_nameOf_123 mc_i_m1 ?_
    subst hF
    exact mj_iret C hr hlk dX10_nameOf_124
  rw [if_neg hw1_17] at hF
  by_cases hw1_18 : p0 = 115
  · rw [if_pos hw1_18] at hF
    refine mj_tsIn (off := 109) C dX10_nameOf_1 (by rw [hw1_18]; decide) (by rw [hw1_18]; decide) (by rw [hw1_18]; rfl) rfl ?_
    refine mj_iconstV (v := 1) C dX10_nameOf_110 mc_i_1 ?_
    subst hF
    exact mj_iret C hr hlk dX10_nameOf_111
  rw [if_neg hw1_18] at hF
  by_cases hw1_19 : p0 = 116
  · rw [if_pos hw1_19] at hF
    refine mj_tsIn (off := 122) C dX10_nameOf_1 (by rw [hw1_19]; decide) (by rw [hw1_19]; decide) (by rw [hw1_19]; rfl) rfl ?_
    refine mj_iconstV (v := (-1)) C dX10_nameOf_123 mc_i_m1 ?_
    subst hF
    exact mj_iret C hr hlk dX10_nameOf_124
  rw [if_neg hw1_19] at hF
  by_cases hw1_20 : p0 = 117
  · rw [if_pos hw1_20] at hF
    refine mj_tsIn (off := 122) C dX10_nameOf_1 (by rw [hw1_20]; decide) (by rw [hw1_20]; decide) (by rw [hw1_20]; rfl) rfl ?_
    refine mj_iconstV (v := (-1)) C dX10_nameOf_123 mc_i_m1 ?_
    subst hF
    exact mj_iret C hr hlk dX10_nameOf_124
  rw [if_neg hw1_20] at hF
  by_cases hw1_21 : p0 = 118
  · rw [if_pos hw1_21] at hF
    refine mj_tsIn (off := 122) C dX10_nameOf_1 (by rw [hw1_21]; decide) (by rw [hw1_21]; decide) (by rw [hw1_21]; rfl) rfl ?_
    refine mj_iconstV (v := (-1)) C dX10_nameOf_123 mc_i_m1 ?_
    subst hF
    exact mj_iret C hr hlk dX10_nameOf_124
  rw [if_neg hw1_21] at hF
  by_cases hw1_22 : p0 = 119
  · rw [if_pos hw1_22] at hF
    refine mj_tsIn (off := 111) C dX10_nameOf_1 (by rw [hw1_22]; decide) (by rw [hw1_22]; decide) (by rw [hw1_22]; rfl) rfl ?_
    refine mj_iconstV (v := 2) C dX10_nameOf_112 mc_i_2 ?_
    subst hF
    exact mj_iret C hr hlk dX10_nameOf_113
  rw [if_neg hw1_22] at hF
  refine mj_tsOut C dX10_nameOf_1 (mj_sw_97_23 hw1_0 hw1_1 hw1_2 hw1_3 hw1_4 hw1_5 hw1_6 hw1_7 hw1_8 hw1_9 hw1_10 hw1_11 hw1_12 hw1_13 hw1_14 hw1_15 hw1_16 hw1_17 hw1_18 hw1_19 hw1_20 hw1_21 hw1_22) rfl ?_
  refine mj_iconstV (v := (-1)) C dX10_nameOf_123 mc_i_m1 ?_
  subst hF
  exact mj_iret C hr hlk dX10_nameOf_124
set_option maxRecDepth 100000 in
set_option maxHeartbeats 4000000 in
theorem w_X10_either_5 {p : Program} {l : Launch} {e : Env} {s : State} {m : MethodId} {args : Array Value} {below : List Frame} {meth : Method} {c : Code} {G : mj_G} {k : Nat} {rec : Nat → mj_S → Option (Int32 × mj_S)} (C : mj_X p s m args meth c G cX10_either 3 RX10) (hr : meth.sig.returnType = some .int) (hlk : meth.locks = false) (hr0 : ∀ (σ : mj_S) (R : (Int32 × mj_S)), rec 0 σ = some R → mj_C G l yX10_either cX10_either 3 (some .int) (3 + k) [.ref (G.2.1 64)] σ (some (.int R.1)) R.2) (hr1 : ∀ (σ : mj_S) (R : (Int32 × mj_S)), rec 1 σ = some R → mj_C G l yX10_both cX10_both 3 (some .int) (3 + k) [.ref (G.2.1 64)] σ (some (.int R.1)) R.2) (hr2 : ∀ (σ : mj_S) (R : (Int32 × mj_S)), rec 2 σ = some R → mj_C G l yX10_compared cX10_compared 4 (some .int) (3 + k) [.ref (G.2.1 64)] σ (some (.int R.1)) R.2) (hr3 : ∀ (σ : mj_S) (R : (Int32 × mj_S)), rec 3 σ = some R → mj_C G l yX10_sums cX10_sums 4 (some .int) (3 + k) [.ref (G.2.1 64)] σ (some (.int R.1)) R.2) (hr4 : ∀ (σ : mj_S) (R : (Int32 × mj_S)), rec 4 σ = some R → mj_C G l yX10_product cX10_product 4 (some .int) (3 + k) [.ref (G.2.1 64)] σ (some (.int R.1)) R.2) (hr5 : ∀ (σ : mj_S) (R : (Int32 × mj_S)), rec 5 σ = some R → mj_C G l yX10_one cX10_one 5 (some .int) (3 + k) [.ref (G.2.1 64)] σ (some (.int R.1)) R.2) : ∀ (n : Nat) (v1 : Int32) (σ : mj_S) (R : (Int32 × mj_S)), b_X10_either_5 rec n v1 σ = some R → mj_W p l e (mj_rm (3 + (k + 1))) s m args below meth c G 0 0 3 (MQ below (mj_Q G (some (.int R.1)) R.2) args s 0 0 G.2.2.2) 5 [(0, .ref (G.2.1 64)), (1, .int v1)] [] σ := by
  intro n
  induction n with
  | zero =>
    intro v1 σ R hF
    cases hF
  | succ n ih =>
    intro v1 σ R hF
    rw [b_X10_either_5] at hF
    refine mj_aload_n C dX10_either_5 rfl ?_
    refine mj_bipushV (v := 124) C dX10_either_6 mc_b_124 ?_
    obtain ⟨r2, hq2, hF⟩ := mj_ob hF
    refine mj_callVi C (c_X10_takes σ 124 r2 hq2) yv_X10_takes kl_X10_178 (mo_64 G _) rfl rfl rfl rfl (Nat.le_of_ble_eq_true rfl) (mj_roomR (by decide) (by decide)) ⟨Nat.zero_le _, Nat.zero_le _⟩ dX10_either_8 ?_
    refine mj_if_eq C dX10_either_11 rfl hF (fun hc3 hF => ?_) (fun hc3 hF => ?_)
    · refine mj_iload_n C dX10_either_36 rfl ?_
      have hF := mj_oi hF; subst hF
      exact mj_iret C hr hlk dX10_either_37
    · refine mj_aload_n C dX10_either_14 rfl ?_
      obtain ⟨r4, hq4, hF⟩ := mj_ob hF
      refine mj_callVi C (hr1  r2.2 r4 hq4) yv_X10_both kl_X10_175 (mo_64 G _) rfl rfl rfl rfl (Nat.le_of_ble_eq_true rfl) (mj_roomK (by decide)) ⟨Nat.zero_le _, Nat.zero_le _⟩ dX10_either_15 ?_
      refine mj_istore_n C dX10_either_18 (by decide) ?_
      refine mj_iload_n C dX10_either_19 rfl ?_
      refine mj_if_ne C dX10_either_20 rfl hF (fun hc5 hF => ?_) (fun hc5 hF => ?_)
      · refine mj_iconstV (v := 1) C dX10_either_27 mc_i_1 ?_
        refine mj_goto C dX10_either_28 rfl ?_
        refine mj_istore_n C dX10_either_32 (by decide) ?_
        refine mj_goto C dX10_either_33 rfl ?_
        refine mj_to ?_ (ih 1 r4.2 R hF)
        exact ⟨rfl, rfl, trivial⟩
      · refine mj_iload_n C dX10_either_23 rfl ?_
        refine mj_if_eq C dX10_either_24 rfl hF (fun hc6 hF => ?_) (fun hc6 hF => ?_)
        · refine mj_iconstV (v := 0) C dX10_either_31 mc_i_0 ?_
          refine mj_istore_n C dX10_either_32 (by decide) ?_
          refine mj_goto C dX10_either_33 rfl ?_
          refine mj_to ?_ (ih 0 r4.2 R hF)
          exact ⟨rfl, rfl, trivial⟩
        · refine mj_iconstV (v := 1) C dX10_either_27 mc_i_1 ?_
          refine mj_goto C dX10_either_28 rfl ?_
          refine mj_istore_n C dX10_either_32 (by decide) ?_
          refine mj_goto C dX10_either_33 rfl ?_
          refine mj_to ?_ (ih 1 r4.2 R hF)
          exact ⟨rfl, rfl, trivial⟩
set_option maxRecDepth 100000 in
set_option maxHeartbeats 4000000 in
theorem cF_X10_either {G : mj_G} {l : Launch} {k : Nat} {rec : Nat → mj_S → Option (Int32 × mj_S)} (hr0 : ∀ (σ : mj_S) (R : (Int32 × mj_S)), rec 0 σ = some R → mj_C G l yX10_either cX10_either 3 (some .int) (3 + k) [.ref (G.2.1 64)] σ (some (.int R.1)) R.2) (hr1 : ∀ (σ : mj_S) (R : (Int32 × mj_S)), rec 1 σ = some R → mj_C G l yX10_both cX10_both 3 (some .int) (3 + k) [.ref (G.2.1 64)] σ (some (.int R.1)) R.2) (hr2 : ∀ (σ : mj_S) (R : (Int32 × mj_S)), rec 2 σ = some R → mj_C G l yX10_compared cX10_compared 4 (some .int) (3 + k) [.ref (G.2.1 64)] σ (some (.int R.1)) R.2) (hr3 : ∀ (σ : mj_S) (R : (Int32 × mj_S)), rec 3 σ = some R → mj_C G l yX10_sums cX10_sums 4 (some .int) (3 + k) [.ref (G.2.1 64)] σ (some (.int R.1)) R.2) (hr4 : ∀ (σ : mj_S) (R : (Int32 × mj_S)), rec 4 σ = some R → mj_C G l yX10_product cX10_product 4 (some .int) (3 + k) [.ref (G.2.1 64)] σ (some (.int R.1)) R.2) (hr5 : ∀ (σ : mj_S) (R : (Int32 × mj_S)), rec 5 σ = some R → mj_C G l yX10_one cX10_one 5 (some .int) (3 + k) [.ref (G.2.1 64)] σ (some (.int R.1)) R.2) (σ : mj_S) (R : (Int32 × mj_S)) (hF : F_X10_either rec σ = some R) : mj_C G l yX10_either cX10_either 3 (some .int) (3 + (k + 1)) [.ref (G.2.1 64)] σ (some (.int R.1)) R.2 := by
  unfold F_X10_either at hF
  refine mj_of (ls := [(0, .ref (G.2.1 64))]) (by decide) (Nat.le_of_ble_eq_true rfl) rfl (fun p e s m args below meth c C hr hlk => ?_)
  refine mj_aload_n C dX10_either_0 rfl ?_
  obtain ⟨r1, hq1, hF⟩ := mj_ob hF
  refine mj_callVi C (hr1  σ r1 hq1) yv_X10_both kl_X10_175 (mo_64 G _) rfl rfl rfl rfl (Nat.le_of_ble_eq_true rfl) (mj_roomK (by decide)) ⟨Nat.zero_le _, Nat.zero_le _⟩ dX10_either_1 ?_
  refine mj_istore_n C dX10_either_4 (by decide) ?_
  refine mj_to ?_ (w_X10_either_5 C hr hlk hr0 hr1 hr2 hr3 hr4 hr5 mj_fu r1.1 r1.2 R hF)
  exact ⟨rfl, rfl, trivial⟩
set_option maxRecDepth 100000 in
set_option maxHeartbeats 4000000 in
theorem w_X10_both_5 {p : Program} {l : Launch} {e : Env} {s : State} {m : MethodId} {args : Array Value} {below : List Frame} {meth : Method} {c : Code} {G : mj_G} {k : Nat} {rec : Nat → mj_S → Option (Int32 × mj_S)} (C : mj_X p s m args meth c G cX10_both 3 RX10) (hr : meth.sig.returnType = some .int) (hlk : meth.locks = false) (hr0 : ∀ (σ : mj_S) (R : (Int32 × mj_S)), rec 0 σ = some R → mj_C G l yX10_either cX10_either 3 (some .int) (3 + k) [.ref (G.2.1 64)] σ (some (.int R.1)) R.2) (hr1 : ∀ (σ : mj_S) (R : (Int32 × mj_S)), rec 1 σ = some R → mj_C G l yX10_both cX10_both 3 (some .int) (3 + k) [.ref (G.2.1 64)] σ (some (.int R.1)) R.2) (hr2 : ∀ (σ : mj_S) (R : (Int32 × mj_S)), rec 2 σ = some R → mj_C G l yX10_compared cX10_compared 4 (some .int) (3 + k) [.ref (G.2.1 64)] σ (some (.int R.1)) R.2) (hr3 : ∀ (σ : mj_S) (R : (Int32 × mj_S)), rec 3 σ = some R → mj_C G l yX10_sums cX10_sums 4 (some .int) (3 + k) [.ref (G.2.1 64)] σ (some (.int R.1)) R.2) (hr4 : ∀ (σ : mj_S) (R : (Int32 × mj_S)), rec 4 σ = some R → mj_C G l yX10_product cX10_product 4 (some .int) (3 + k) [.ref (G.2.1 64)] σ (some (.int R.1)) R.2) (hr5 : ∀ (σ : mj_S) (R : (Int32 × mj_S)), rec 5 σ = some R → mj_C G l yX10_one cX10_one 5 (some .int) (3 + k) [.ref (G.2.1 64)] σ (some (.int R.1)) R.2) : ∀ (n : Nat) (v1 : Int32) (σ : mj_S) (R : (Int32 × mj_S)), b_X10_both_5 rec n v1 σ = some R → mj_W p l e (mj_rm (3 + (k + 1))) s m args below meth c G 0 0 3 (MQ below (mj_Q G (some (.int R.1)) R.2) args s 0 0 G.2.2.2) 5 [(0, .ref (G.2.1 64)), (1, .int v1)] [] σ := by
  intro n
  induction n with
  | zero =>
    intro v1 σ R hF
    cases hF
  | succ n ih =>
    intro v1 σ R hF
    rw [b_X10_both_5] at hF
    refine mj_aload_n C dX10_both_5 rfl ?_
    refine mj_bipushV (v := 38) C dX10_both_6 mc_b_38 ?_
    obtain ⟨r2, hq2, hF⟩ := mj_ob hF
    refine mj_callVi C (c_X10_takes σ 38 r2 hq2) yv_X10_takes kl_X10_178 (mo_64 G _) rfl rfl rfl rfl (Nat.le_of_ble_eq_true rfl) (mj_roomR (by decide) (by decide)) ⟨Nat.zero_le _, Nat.zero_le _⟩ dX10_both_8 ?_
    refine mj_if_eq C dX10_both_11 rfl hF (fun hc3 hF => ?_) (fun hc3 hF => ?_)
    · refine mj_iload_n C dX10_both_36 rfl ?_
      have hF := mj_oi hF; subst hF
      exact mj_iret C hr hlk dX10_both_37
    · refine mj_aload_n C dX10_both_14 rfl ?_
      obtain ⟨r4, hq4, hF⟩ := mj_ob hF
      refine mj_callVi C (hr2  r2.2 r4 hq4) yv_X10_compared kl_X10_181 (mo_64 G _) rfl rfl rfl rfl (Nat.le_of_ble_eq_true rfl) (mj_roomK (by decide)) ⟨Nat.zero_le _, Nat.zero_le _⟩ dX10_both_15 ?_
      refine mj_istore_n C dX10_both_18 (by decide) ?_
      refine mj_iload_n C dX10_both_19 rfl ?_
      refine mj_if_eq C dX10_both_20 rfl hF (fun hc5 hF => ?_) (fun hc5 hF => ?_)
      · refine mj_iconstV (v := 0) C dX10_both_31 mc_i_0 ?_
        refine mj_istore_n C dX10_both_32 (by decide) ?_
        refine mj_goto C dX10_both_33 rfl ?_
        refine mj_to ?_ (ih 0 r4.2 R hF)
        exact ⟨rfl, rfl, trivial⟩
      · refine mj_iload_n C dX10_both_23 rfl ?_
        refine mj_if_eq C dX10_both_24 rfl hF (fun hc6 hF => ?_) (fun hc6 hF => ?_)
        · refine mj_iconstV (v := 0) C dX10_both_31 mc_i_0 ?_
          refine mj_istore_n C dX10_both_32 (by decide) ?_
          refine mj_goto C dX10_both_33 rfl ?_
          refine mj_to ?_ (ih 0 r4.2 R hF)
          exact ⟨rfl, rfl, trivial⟩
        · refine mj_iconstV (v := 1) C dX10_both_27 mc_i_1 ?_
          refine mj_goto C dX10_both_28 rfl ?_
          refine mj_istore_n C dX10_both_32 (by decide) ?_
          refine mj_goto C dX10_both_33 rfl ?_
          refine mj_to ?_ (ih 1 r4.2 R hF)
          exact ⟨rfl, rfl, trivial⟩
set_option maxRecDepth 100000 in
set_option maxHeartbeats 4000000 in
theorem cF_X10_both {G : mj_G} {l : Launch} {k : Nat} {rec : Nat → mj_S → Option (Int32 × mj_S)} (hr0 : ∀ (σ : mj_S) (R : (Int32 × mj_S)), rec 0 σ = some R → mj_C G l yX10_either cX10_either 3 (some .int) (3 + k) [.ref (G.2.1 64)] σ (some (.int R.1)) R.2) (hr1 : ∀ (σ : mj_S) (R : (Int32 × mj_S)), rec 1 σ = some R → mj_C G l yX10_both cX10_both 3 (some .int) (3 + k) [.ref (G.2.1 64)] σ (some (.int R.1)) R.2) (hr2 : ∀ (σ : mj_S) (R : (Int32 × mj_S)), rec 2 σ = some R → mj_C G l yX10_compared cX10_compared 4 (some .int) (3 + k) [.ref (G.2.1 64)] σ (some (.int R.1)) R.2) (hr3 : ∀ (σ : mj_S) (R : (Int32 × mj_S)), rec 3 σ = some R → mj_C G l yX10_sums cX10_sums 4 (some .int) (3 + k) [.ref (G.2.1 64)] σ (some (.int R.1)) R.2) (hr4 : ∀ (σ : mj_S) (R : (Int32 × mj_S)), rec 4 σ = some R → mj_C G l yX10_product cX10_product 4 (some .int) (3 + k) [.ref (G.2.1 64)] σ (some (.int R.1)) R.2) (hr5 : ∀ (σ : mj_S) (R : (Int32 × mj_S)), rec 5 σ = some R → mj_C G l yX10_one cX10_one 5 (some .int) (3 + k) [.ref (G.2.1 64)] σ (some (.int R.1)) R.2) (σ : mj_S) (R : (Int32 × mj_S)) (hF : F_X10_both rec σ = some R) : mj_C G l yX10_both cX10_both 3 (some .int) (3 + (k + 1)) [.ref (G.2.1 64)] σ (some (.int R.1)) R.2 := by
  unfold F_X10_both at hF
  refine mj_of (ls := [(0, .ref (G.2.1 64))]) (by decide) (Nat.le_of_ble_eq_true rfl) rfl (fun p e s m args below meth c C hr hlk => ?_)
  refine mj_aload_n C dX10_both_0 rfl ?_
  obtain ⟨r1, hq1, hF⟩ := mj_ob hF
  refine mj_callVi C (hr2  σ r1 hq1) yv_X10_compared kl_X10_181 (mo_64 G _) rfl rfl rfl rfl (Nat.le_of_ble_eq_true rfl) (mj_roomK (by decide)) ⟨Nat.zero_le _, Nat.zero_le _⟩ dX10_both_1 ?_
  refine mj_istore_n C dX10_both_4 (by decide) ?_
  refine mj_to ?_ (w_X10_both_5 C hr hlk hr0 hr1 hr2 hr3 hr4 hr5 mj_fu r1.1 r1.2 R hF)
  exact ⟨rfl, rfl, trivial⟩
set_option maxRecDepth 100000 in
set_option maxHeartbeats 4000000 in
theorem w_X10_compared_37 {p : Program} {l : Launch} {e : Env} {s : State} {m : MethodId} {args : Array Value} {below : List Frame} {meth : Method} {c : Code} {G : mj_G} {k : Nat} {rec : Nat → mj_S → Option (Int32 × mj_S)} (C : mj_X p s m args meth c G cX10_compared 4 RX10) (hr : meth.sig.returnType = some .int) (hlk : meth.locks = false) (hr0 : ∀ (σ : mj_S) (R : (Int32 × mj_S)), rec 0 σ = some R → mj_C G l yX10_either cX10_either 3 (some .int) (3 + k) [.ref (G.2.1 64)] σ (some (.int R.1)) R.2) (hr1 : ∀ (σ : mj_S) (R : (Int32 × mj_S)), rec 1 σ = some R → mj_C G l yX10_both cX10_both 3 (some .int) (3 + k) [.ref (G.2.1 64)] σ (some (.int R.1)) R.2) (hr2 : ∀ (σ : mj_S) (R : (Int32 × mj_S)), rec 2 σ = some R → mj_C G l yX10_compared cX10_compared 4 (some .int) (3 + k) [.ref (G.2.1 64)] σ (some (.int R.1)) R.2) (hr3 : ∀ (σ : mj_S) (R : (Int32 × mj_S)), rec 3 σ = some R → mj_C G l yX10_sums cX10_sums 4 (some .int) (3 + k) [.ref (G.2.1 64)] σ (some (.int R.1)) R.2) (hr4 : ∀ (σ : mj_S) (R : (Int32 × mj_S)), rec 4 σ = some R → mj_C G l yX10_product cX10_product 4 (some .int) (3 + k) [.ref (G.2.1 64)] σ (some (.int R.1)) R.2) (hr5 : ∀ (σ : mj_S) (R : (Int32 × mj_S)), rec 5 σ = some R → mj_C G l yX10_one cX10_one 5 (some .int) (3 + k) [.ref (G.2.1 64)] σ (some (.int R.1)) R.2) : ∀ (v1 : Int32) (v2 : Int32) (σ : mj_S) (R : (Int32 × mj_S)), b_X10_compared_37 rec v1 v2 σ = some R → mj_W p l e (mj_rm (3 + (k + 1))) s m args below meth c G 0 0 4 (MQ below (mj_Q G (some (.int R.1)) R.2) args s 0 0 G.2.2.2) 37 [(0, .ref (G.2.1 64)), (1, .int v1), (2, .int v2)] [] σ := by
  intro v1 v2 σ R hF
  unfold b_X10_compared_37 at hF
  refine mj_aload_n C dX10_compared_37 rfl ?_
  refine mj_dup C dX10_compared_38 rfl ?_
  refine mg_X10_159 C dX10_compared_39 ?_
  refine mj_iconstV (v := 1) C dX10_compared_42 mc_i_1 ?_
  refine mj_iadd C dX10_compared_43 ?_
  refine mp_X10_159 C dX10_compared_44 ?_
  refine mj_aload_n C dX10_compared_47 rfl ?_
  obtain ⟨r5, hq5, hF⟩ := mj_ob hF
  refine mj_callVi C (hr3  (mj_sI σ 64 20 ((σ.1 64 20) + 1)) r5 hq5) yv_X10_sums kl_X10_184 (mo_64 G _) rfl rfl rfl rfl (Nat.le_of_ble_eq_true rfl) (mj_roomK (by decide)) ⟨Nat.zero_le _, Nat.zero_le _⟩ dX10_compared_48 ?_
  refine mj_istore_n C dX10_compared_51 (by decide) ?_
  refine mj_iload_n C dX10_compared_52 rfl ?_
  refine mj_bipushV (v := 60) C dX10_compared_53 mc_b_60 ?_
  refine mj_ic_ne C dX10_compared_55 rfl hF (fun hc6 hF => ?_) (fun hc6 hF => ?_)
  · refine mj_iload_n C dX10_compared_66 rfl ?_
    refine mj_bipushV (v := 61) C dX10_compared_67 mc_b_61 ?_
    refine mj_ic_ne C dX10_compared_69 rfl hF (fun hc7 hF => ?_) (fun hc7 hF => ?_)
    · refine mj_iload_n C dX10_compared_80 rfl ?_
      refine mj_iload_n C dX10_compared_81 rfl ?_
      refine mj_ic_le C dX10_compared_82 rfl hF (fun hc8 hF => ?_) (fun hc8 hF => ?_)
      · refine mj_iconstV (v := 0) C dX10_compared_89 mc_i_0 ?_
        have hF := mj_oi hF; subst hF
        exact mj_iret C hr hlk dX10_compared_90
      · refine mj_iconstV (v := 1) C dX10_compared_85 mc_i_1 ?_
        refine mj_goto C dX10_compared_86 rfl ?_
        have hF := mj_oi hF; subst hF
        exact mj_iret C hr hlk dX10_compared_90
    · refine mj_iload_n C dX10_compared_72 rfl ?_
      refine mj_iload_n C dX10_compared_73 rfl ?_
      refine mj_ic_ne C dX10_compared_74 rfl hF (fun hc9 hF => ?_) (fun hc9 hF => ?_)
      · refine mj_iconstV (v := 0) C dX10_compared_89 mc_i_0 ?_
        have hF := mj_oi hF; subst hF
        exact mj_iret C hr hlk dX10_compared_90
      · refine mj_goto C dX10_compared_77 rfl ?_
        refine mj_iconstV (v := 1) C dX10_compared_85 mc_i_1 ?_
        refine mj_goto C dX10_compared_86 rfl ?_
        have hF := mj_oi hF; subst hF
        exact mj_iret C hr hlk dX10_compared_90
  · refine mj_iload_n C dX10_compared_58 rfl ?_
    refine mj_iload_n C dX10_compared_59 rfl ?_
    refine mj_ic_ge C dX10_compared_60 rfl hF (fun hc10 hF => ?_) (fun hc10 hF => ?_)
    · refine mj_iconstV (v := 0) C dX10_compared_89 mc_i_0 ?_
      have hF := mj_oi hF; subst hF
      exact mj_iret C hr hlk dX10_compared_90
    · refine mj_goto C dX10_compared_63 rfl ?_
      refine mj_iconstV (v := 1) C dX10_compared_85 mc_i_1 ?_
      refine mj_goto C dX10_compared_86 rfl ?_
      have hF := mj_oi hF; subst hF
      exact mj_iret C hr hlk dX10_compared_90
set_option maxRecDepth 100000 in
set_option maxHeartbeats 4000000 in
theorem cF_X10_compared {G : mj_G} {l : Launch} {k : Nat} {rec : Nat → mj_S → Option (Int32 × mj_S)} (hr0 : ∀ (σ : mj_S) (R : (Int32 × mj_S)), rec 0 σ = some R → mj_C G l yX10_either cX10_either 3 (some .int) (3 + k) [.ref (G.2.1 64)] σ (some (.int R.1)) R.2) (hr1 : ∀ (σ : mj_S) (R : (Int32 × mj_S)), rec 1 σ = some R → mj_C G l yX10_both cX10_both 3 (some .int) (3 + k) [.ref (G.2.1 64)] σ (some (.int R.1)) R.2) (hr2 : ∀ (σ : mj_S) (R : (Int32 × mj_S)), rec 2 σ = some R → mj_C G l yX10_compared cX10_compared 4 (some .int) (3 + k) [.ref (G.2.1 64)] σ (some (.int R.1)) R.2) (hr3 : ∀ (σ : mj_S) (R : (Int32 × mj_S)), rec 3 σ = some R → mj_C G l yX10_sums cX10_sums 4 (some .int) (3 + k) [.ref (G.2.1 64)] σ (some (.int R.1)) R.2) (hr4 : ∀ (σ : mj_S) (R : (Int32 × mj_S)), rec 4 σ = some R → mj_C G l yX10_product cX10_product 4 (some .int) (3 + k) [.ref (G.2.1 64)] σ (some (.int R.1)) R.2) (hr5 : ∀ (σ : mj_S) (R : (Int32 × mj_S)), rec 5 σ = some R → mj_C G l yX10_one cX10_one 5 (some .int) (3 + k) [.ref (G.2.1 64)] σ (some (.int R.1)) R.2) (σ : mj_S) (R : (Int32 × mj_S)) (hF : F_X10_compared rec σ = some R) : mj_C G l yX10_compared cX10_compared 4 (some .int) (3 + (k + 1)) [.ref (G.2.1 64)] σ (some (.int R.1)) R.2 := by
  unfold F_X10_compared at hF
  refine mj_of (ls := [(0, .ref (G.2.1 64))]) (by decide) (Nat.le_of_ble_eq_true rfl) rfl (fun p e s m args below meth c C hr hlk => ?_)
  refine mj_aload_n C dX10_compared_0 rfl ?_
  obtain ⟨r1, hq1, hF⟩ := mj_ob hF
  refine mj_callVi C (hr3  σ r1 hq1) yv_X10_sums kl_X10_184 (mo_64 G _) rfl rfl rfl rfl (Nat.le_of_ble_eq_true rfl) (mj_roomK (by decide)) ⟨Nat.zero_le _, Nat.zero_le _⟩ dX10_compared_1 ?_
  refine mj_istore_n C dX10_compared_4 (by decide) ?_
  refine mj_aload_n C dX10_compared_5 rfl ?_
  obtain ⟨r2, hq2, hF⟩ := mj_ob hF
  refine mj_callVi C (c_X10_byteAt r1.2 r2 hq2) yv_X10_byteAt kl_X10_171 (mo_64 G _) rfl rfl rfl rfl (Nat.le_of_ble_eq_true rfl) (mj_roomR (by decide) (by decide)) ⟨Nat.zero_le _, Nat.zero_le _⟩ dX10_compared_6 ?_
  refine mj_istore_n C dX10_compared_9 (by decide) ?_
  refine mj_aload_n C dX10_compared_10 rfl ?_
  refine mg_X10_168 C dX10_compared_11 ?_
  refine mj_if_ge C dX10_compared_14 rfl hF (fun hc3 hF => ?_) (fun hc3 hF => ?_)
  · refine mj_iload_n C dX10_compared_35 rfl ?_
    have hF := mj_oi hF; subst hF
    exact mj_iret C hr hlk dX10_compared_36
  · refine mj_iload_n C dX10_compared_17 rfl ?_
    refine mj_bipushV (v := 60) C dX10_compared_18 mc_b_60 ?_
    refine mj_ic_eq C dX10_compared_20 rfl hF (fun hc4 hF => ?_) (fun hc4 hF => ?_)
    · refine mj_to ?_ (w_X10_compared_37 C hr hlk hr0 hr1 hr2 hr3 hr4 hr5 r1.1 r2 r1.2 R hF)
      exact ⟨rfl, rfl, rfl, trivial⟩
    · refine mj_iload_n C dX10_compared_23 rfl ?_
      refine mj_bipushV (v := 61) C dX10_compared_24 mc_b_61 ?_
      refine mj_ic_eq C dX10_compared_26 rfl hF (fun hc11 hF => ?_) (fun hc11 hF => ?_)
      · refine mj_to ?_ (w_X10_compared_37 C hr hlk hr0 hr1 hr2 hr3 hr4 hr5 r1.1 r2 r1.2 R hF)
        exact ⟨rfl, rfl, rfl, trivial⟩
      · refine mj_iload_n C dX10_compared_29 rfl ?_
        refine mj_bipushV (v := 62) C dX10_compared_30 mc_b_62 ?_
        refine mj_ic_eq C dX10_compared_32 rfl hF (fun hc12 hF => ?_) (fun hc12 hF => ?_)
        · refine mj_to ?_ (w_X10_compared_37 C hr hlk hr0 hr1 hr2 hr3 hr4 hr5 r1.1 r2 r1.2 R hF)
          exact ⟨rfl, rfl, rfl, trivial⟩
        · refine mj_iload_n C dX10_compared_35 rfl ?_
          have hF := mj_oi hF; subst hF
          exact mj_iret C hr hlk dX10_compared_36
set_option maxRecDepth 100000 in
set_option maxHeartbeats 4000000 in
theorem w_X10_sums_44 {p : Program} {l : Launch} {e : Env} {s : State} {m : MethodId} {args : Array Value} {below : List Frame} {meth : Method} {c : Code} {G : mj_G} {k : Nat} {rec : Nat → mj_S → Option (Int32 × mj_S)} {K5 : Int32 → mj_S → Option (Int32 × mj_S)} (C : mj_X p s m args meth c G cX10_sums 4 RX10) (hr : meth.sig.returnType = some .int) (hlk : meth.locks = false) (hr0 : ∀ (σ : mj_S) (R : (Int32 × mj_S)), rec 0 σ = some R → mj_C G l yX10_either cX10_either 3 (some .int) (3 + k) [.ref (G.2.1 64)] σ (some (.int R.1)) R.2) (hr1 : ∀ (σ : mj_S) (R : (Int32 × mj_S)), rec 1 σ = some R → mj_C G l yX10_both cX10_both 3 (some .int) (3 + k) [.ref (G.2.1 64)] σ (some (.int R.1)) R.2) (hr2 : ∀ (σ : mj_S) (R : (Int32 × mj_S)), rec 2 σ = some R → mj_C G l yX10_compared cX10_compared 4 (some .int) (3 + k) [.ref (G.2.1 64)] σ (some (.int R.1)) R.2) (hr3 : ∀ (σ : mj_S) (R : (Int32 × mj_S)), rec 3 σ = some R → mj_C G l yX10_sums cX10_sums 4 (some .int) (3 + k) [.ref (G.2.1 64)] σ (some (.int R.1)) R.2) (hr4 : ∀ (σ : mj_S) (R : (Int32 × mj_S)), rec 4 σ = some R → mj_C G l yX10_product cX10_product 4 (some .int) (3 + k) [.ref (G.2.1 64)] σ (some (.int R.1)) R.2) (hr5 : ∀ (σ : mj_S) (R : (Int32 × mj_S)), rec 5 σ = some R → mj_C G l yX10_one cX10_one 5 (some .int) (3 + k) [.ref (G.2.1 64)] σ (some (.int R.1)) R.2) (hK5 : ∀ (v1 : Int32) (σ : mj_S) (R : (Int32 × mj_S)), K5 v1 σ = some R → mj_W p l e (mj_rm (3 + (k + 1))) s m args below meth c G 0 0 4 (MQ below (mj_Q G (some (.int R.1)) R.2) args s 0 0 G.2.2.2) 5 [(0, .ref (G.2.1 64)), (1, .int v1)] [] σ) : ∀ (v1 : Int32) (t0 : Int32) (σ : mj_S) (R : (Int32 × mj_S)), b_X10_sums_44 rec K5 v1 t0 σ = some R → mj_W p l e (mj_rm (3 + (k + 1))) s m args below meth c G 0 0 4 (MQ below (mj_Q G (some (.int R.1)) R.2) args s 0 0 G.2.2.2) 44 [(0, .ref (G.2.1 64)), (1, .int v1)] [.int t0] σ := by
  intro v1 t0 σ R hF
  unfold b_X10_sums_44 at hF
  refine mj_istore_n C dX10_sums_44 (by decide) ?_
  refine mj_aload_n C dX10_sums_45 rfl ?_
  refine mj_dup C dX10_sums_46 rfl ?_
  refine mg_X10_159 C dX10_sums_47 ?_
  refine mj_iconstV (v := 1) C dX10_sums_50 mc_i_1 ?_
  refine mj_iadd C dX10_sums_51 ?_
  refine mp_X10_159 C dX10_sums_52 ?_
  refine mj_aload_n C dX10_sums_55 rfl ?_
  obtain ⟨r7, hq7, hF⟩ := mj_ob hF
  refine mj_callVi C (hr4  (mj_sI σ 64 20 ((σ.1 64 20) + 1)) r7 hq7) yv_X10_product kl_X10_187 (mo_64 G _) rfl rfl rfl rfl (Nat.le_of_ble_eq_true rfl) (mj_roomK (by decide)) ⟨Nat.zero_le _, Nat.zero_le _⟩ dX10_sums_56 ?_
  refine mj_istore_n C dX10_sums_59 (by decide) ?_
  refine mj_iload_n C dX10_sums_60 rfl ?_
  refine mj_if_eq C dX10_sums_61 rfl hF (fun hc8 hF => ?_) (fun hc8 hF => ?_)
  · refine mj_iload_n C dX10_sums_70 rfl ?_
    refine mj_iload_n C dX10_sums_71 rfl ?_
    refine mj_isub C dX10_sums_72 ?_
    refine mj_istore_n C dX10_sums_73 (by decide) ?_
    refine mj_goto C dX10_sums_74 rfl ?_
    refine mj_to ?_ (hK5 (v1 - r7.1) r7.2 R hF)
    exact ⟨rfl, rfl, trivial⟩
  · refine mj_iload_n C dX10_sums_64 rfl ?_
    refine mj_iload_n C dX10_sums_65 rfl ?_
    refine mj_iadd C dX10_sums_66 ?_
    refine mj_goto C dX10_sums_67 rfl ?_
    refine mj_istore_n C dX10_sums_73 (by decide) ?_
    refine mj_goto C dX10_sums_74 rfl ?_
    refine mj_to ?_ (hK5 (v1 + r7.1) r7.2 R hF)
    exact ⟨rfl, rfl, trivial⟩
set_option maxRecDepth 100000 in
set_option maxHeartbeats 4000000 in
theorem w_X10_sums_30 {p : Program} {l : Launch} {e : Env} {s : State} {m : MethodId} {args : Array Value} {below : List Frame} {meth : Method} {c : Code} {G : mj_G} {k : Nat} {rec : Nat → mj_S → Option (Int32 × mj_S)} {K5 : Int32 → mj_S → Option (Int32 × mj_S)} (C : mj_X p s m args meth c G cX10_sums 4 RX10) (hr : meth.sig.returnType = some .int) (hlk : meth.locks = false) (hr0 : ∀ (σ : mj_S) (R : (Int32 × mj_S)), rec 0 σ = some R → mj_C G l yX10_either cX10_either 3 (some .int) (3 + k) [.ref (G.2.1 64)] σ (some (.int R.1)) R.2) (hr1 : ∀ (σ : mj_S) (R : (Int32 × mj_S)), rec 1 σ = some R → mj_C G l yX10_both cX10_both 3 (some .int) (3 + k) [.ref (G.2.1 64)] σ (some (.int R.1)) R.2) (hr2 : ∀ (σ : mj_S) (R : (Int32 × mj_S)), rec 2 σ = some R → mj_C G l yX10_compared cX10_compared 4 (some .int) (3 + k) [.ref (G.2.1 64)] σ (some (.int R.1)) R.2) (hr3 : ∀ (σ : mj_S) (R : (Int32 × mj_S)), rec 3 σ = some R → mj_C G l yX10_sums cX10_sums 4 (some .int) (3 + k) [.ref (G.2.1 64)] σ (some (.int R.1)) R.2) (hr4 : ∀ (σ : mj_S) (R : (Int32 × mj_S)), rec 4 σ = some R → mj_C G l yX10_product cX10_product 4 (some .int) (3 + k) [.ref (G.2.1 64)] σ (some (.int R.1)) R.2) (hr5 : ∀ (σ : mj_S) (R : (Int32 × mj_S)), rec 5 σ = some R → mj_C G l yX10_one cX10_one 5 (some .int) (3 + k) [.ref (G.2.1 64)] σ (some (.int R.1)) R.2) (hK5 : ∀ (v1 : Int32) (σ : mj_S) (R : (Int32 × mj_S)), K5 v1 σ = some R → mj_W p l e (mj_rm (3 + (k + 1))) s m args below meth c G 0 0 4 (MQ below (mj_Q G (some (.int R.1)) R.2) args s 0 0 G.2.2.2) 5 [(0, .ref (G.2.1 64)), (1, .int v1)] [] σ) : ∀ (v1 : Int32) (σ : mj_S) (R : (Int32 × mj_S)), b_X10_sums_30 rec K5 v1 σ = some R → mj_W p l e (mj_rm (3 + (k + 1))) s m args below meth c G 0 0 4 (MQ below (mj_Q G (some (.int R.1)) R.2) args s 0 0 G.2.2.2) 30 [(0, .ref (G.2.1 64)), (1, .int v1)] [] σ := by
  intro v1 σ R hF
  unfold b_X10_sums_30 at hF
  refine mj_aload_n C dX10_sums_30 rfl ?_
  obtain ⟨r5, hq5, hF⟩ := mj_ob hF
  refine mj_callVi C (c_X10_byteAt σ r5 hq5) yv_X10_byteAt kl_X10_171 (mo_64 G _) rfl rfl rfl rfl (Nat.le_of_ble_eq_true rfl) (mj_roomR (by decide) (by decide)) ⟨Nat.zero_le _, Nat.zero_le _⟩ dX10_sums_31 ?_
  refine mj_bipushV (v := 43) C dX10_sums_34 mc_b_43 ?_
  refine mj_ic_ne C dX10_sums_36 rfl hF (fun hc6 hF => ?_) (fun hc6 hF => ?_)
  · refine mj_iconstV (v := 0) C dX10_sums_43 mc_i_0 ?_
    refine mj_to ?_ (w_X10_sums_44 C hr hlk hr0 hr1 hr2 hr3 hr4 hr5 hK5 v1 0 σ R hF)
    exact ⟨rfl, rfl, trivial⟩
  · refine mj_iconstV (v := 1) C dX10_sums_39 mc_i_1 ?_
    refine mj_goto C dX10_sums_40 rfl ?_
    refine mj_to ?_ (w_X10_sums_44 C hr hlk hr0 hr1 hr2 hr3 hr4 hr5 hK5 v1 1 σ R hF)
    exact ⟨rfl, rfl, trivial⟩
set_option maxRecDepth 100000 in
set_option maxHeartbeats 4000000 in
theorem w_X10_sums_5 {p : Program} {l : Launch} {e : Env} {s : State} {m : MethodId} {args : Array Value} {below : List Frame} {meth : Method} {c : Code} {G : mj_G} {k : Nat} {rec : Nat → mj_S → Option (Int32 × mj_S)} (C : mj_X p s m args meth c G cX10_sums 4 RX10) (hr : meth.sig.returnType = some .int) (hlk : meth.locks = false) (hr0 : ∀ (σ : mj_S) (R : (Int32 × mj_S)), rec 0 σ = some R → mj_C G l yX10_either cX10_either 3 (some .int) (3 + k) [.ref (G.2.1 64)] σ (some (.int R.1)) R.2) (hr1 : ∀ (σ : mj_S) (R : (Int32 × mj_S)), rec 1 σ = some R → mj_C G l yX10_both cX10_both 3 (some .int) (3 + k) [.ref (G.2.1 64)] σ (some (.int R.1)) R.2) (hr2 : ∀ (σ : mj_S) (R : (Int32 × mj_S)), rec 2 σ = some R → mj_C G l yX10_compared cX10_compared 4 (some .int) (3 + k) [.ref (G.2.1 64)] σ (some (.int R.1)) R.2) (hr3 : ∀ (σ : mj_S) (R : (Int32 × mj_S)), rec 3 σ = some R → mj_C G l yX10_sums cX10_sums 4 (some .int) (3 + k) [.ref (G.2.1 64)] σ (some (.int R.1)) R.2) (hr4 : ∀ (σ : mj_S) (R : (Int32 × mj_S)), rec 4 σ = some R → mj_C G l yX10_product cX10_product 4 (some .int) (3 + k) [.ref (G.2.1 64)] σ (some (.int R.1)) R.2) (hr5 : ∀ (σ : mj_S) (R : (Int32 × mj_S)), rec 5 σ = some R → mj_C G l yX10_one cX10_one 5 (some .int) (3 + k) [.ref (G.2.1 64)] σ (some (.int R.1)) R.2) : ∀ (n : Nat) (v1 : Int32) (σ : mj_S) (R : (Int32 × mj_S)), b_X10_sums_5 rec n v1 σ = some R → mj_W p l e (mj_rm (3 + (k + 1))) s m args below meth c G 0 0 4 (MQ below (mj_Q G (some (.int R.1)) R.2) args s 0 0 G.2.2.2) 5 [(0, .ref (G.2.1 64)), (1, .int v1)] [] σ := by
  intro n
  induction n with
  | zero =>
    intro v1 σ R hF
    cases hF
  | succ n ih =>
    intro v1 σ R hF
    rw [b_X10_sums_5] at hF
    refine mj_aload_n C dX10_sums_5 rfl ?_
    refine mg_X10_168 C dX10_sums_6 ?_
    refine mj_if_ge C dX10_sums_9 rfl hF (fun hc2 hF => ?_) (fun hc2 hF => ?_)
    · refine mj_iload_n C dX10_sums_77 rfl ?_
      have hF := mj_oi hF; subst hF
      exact mj_iret C hr hlk dX10_sums_78
    · refine mj_aload_n C dX10_sums_12 rfl ?_
      obtain ⟨r3, hq3, hF⟩ := mj_ob hF
      refine mj_callVi C (c_X10_byteAt σ r3 hq3) yv_X10_byteAt kl_X10_171 (mo_64 G _) rfl rfl rfl rfl (Nat.le_of_ble_eq_true rfl) (mj_roomR (by decide) (by decide)) ⟨Nat.zero_le _, Nat.zero_le _⟩ dX10_sums_13 ?_
      refine mj_bipushV (v := 43) C dX10_sums_16 mc_b_43 ?_
      refine mj_ic_eq C dX10_sums_18 rfl hF (fun hc4 hF => ?_) (fun hc4 hF => ?_)
      · refine mj_to ?_ (w_X10_sums_30 C hr hlk hr0 hr1 hr2 hr3 hr4 hr5 ih v1 σ R hF)
        exact ⟨rfl, rfl, trivial⟩
      · refine mj_aload_n C dX10_sums_21 rfl ?_
        obtain ⟨r9, hq9, hF⟩ := mj_ob hF
        refine mj_callVi C (c_X10_byteAt σ r9 hq9) yv_X10_byteAt kl_X10_171 (mo_64 G _) rfl rfl rfl rfl (Nat.le_of_ble_eq_true rfl) (mj_roomR (by decide) (by decide)) ⟨Nat.zero_le _, Nat.zero_le _⟩ dX10_sums_22 ?_
        refine mj_bipushV (v := 45) C dX10_sums_25 mc_b_45 ?_
        refine mj_ic_ne C dX10_sums_27 rfl hF (fun hc10 hF => ?_) (fun hc10 hF => ?_)
        · refine mj_iload_n C dX10_sums_77 rfl ?_
          have hF := mj_oi hF; subst hF
          exact mj_iret C hr hlk dX10_sums_78
        · refine mj_to ?_ (w_X10_sums_30 C hr hlk hr0 hr1 hr2 hr3 hr4 hr5 ih v1 σ R hF)
          exact ⟨rfl, rfl, trivial⟩
set_option maxRecDepth 100000 in
set_option maxHeartbeats 4000000 in
theorem cF_X10_sums {G : mj_G} {l : Launch} {k : Nat} {rec : Nat → mj_S → Option (Int32 × mj_S)} (hr0 : ∀ (σ : mj_S) (R : (Int32 × mj_S)), rec 0 σ = some R → mj_C G l yX10_either cX10_either 3 (some .int) (3 + k) [.ref (G.2.1 64)] σ (some (.int R.1)) R.2) (hr1 : ∀ (σ : mj_S) (R : (Int32 × mj_S)), rec 1 σ = some R → mj_C G l yX10_both cX10_both 3 (some .int) (3 + k) [.ref (G.2.1 64)] σ (some (.int R.1)) R.2) (hr2 : ∀ (σ : mj_S) (R : (Int32 × mj_S)), rec 2 σ = some R → mj_C G l yX10_compared cX10_compared 4 (some .int) (3 + k) [.ref (G.2.1 64)] σ (some (.int R.1)) R.2) (hr3 : ∀ (σ : mj_S) (R : (Int32 × mj_S)), rec 3 σ = some R → mj_C G l yX10_sums cX10_sums 4 (some .int) (3 + k) [.ref (G.2.1 64)] σ (some (.int R.1)) R.2) (hr4 : ∀ (σ : mj_S) (R : (Int32 × mj_S)), rec 4 σ = some R → mj_C G l yX10_product cX10_product 4 (some .int) (3 + k) [.ref (G.2.1 64)] σ (some (.int R.1)) R.2) (hr5 : ∀ (σ : mj_S) (R : (Int32 × mj_S)), rec 5 σ = some R → mj_C G l yX10_one cX10_one 5 (some .int) (3 + k) [.ref (G.2.1 64)] σ (some (.int R.1)) R.2) (σ : mj_S) (R : (Int32 × mj_S)) (hF : F_X10_sums rec σ = some R) : mj_C G l yX10_sums cX10_sums 4 (some .int) (3 + (k + 1)) [.ref (G.2.1 64)] σ (some (.int R.1)) R.2 := by
  unfold F_X10_sums at hF
  refine mj_of (ls := [(0, .ref (G.2.1 64))]) (by decide) (Nat.le_of_ble_eq_true rfl) rfl (fun p e s m args below meth c C hr hlk => ?_)
  refine mj_aload_n C dX10_sums_0 rfl ?_
  obtain ⟨r1, hq1, hF⟩ := mj_ob hF
  refine mj_callVi C (hr4  σ r1 hq1) yv_X10_product kl_X10_187 (mo_64 G _) rfl rfl rfl rfl (Nat.le_of_ble_eq_true rfl) (mj_roomK (by decide)) ⟨Nat.zero_le _, Nat.zero_le _⟩ dX10_sums_1 ?_
  refine mj_istore_n C dX10_sums_4 (by decide) ?_
  refine mj_to ?_ (w_X10_sums_5 C hr hlk hr0 hr1 hr2 hr3 hr4 hr5 mj_fu r1.1 r1.2 R hF)
  exact ⟨rfl, rfl, trivial⟩
set_option maxRecDepth 100000 in
set_option maxHeartbeats 4000000 in
theorem w_X10_product_85 {p : Program} {l : Launch} {e : Env} {s : State} {m : MethodId} {args : Array Value} {below : List Frame} {meth : Method} {c : Code} {G : mj_G} {k : Nat} {rec : Nat → mj_S → Option (Int32 × mj_S)} {K10 : Int32 → Int32 → mj_S → Option (Int32 × mj_S)} (C : mj_X p s m args meth c G cX10_product 4 RX10) (hr : meth.sig.returnType = some .int) (hlk : meth.locks = false) (hr0 : ∀ (σ : mj_S) (R : (Int32 × mj_S)), rec 0 σ = some R → mj_C G l yX10_either cX10_either 3 (some .int) (3 + k) [.ref (G.2.1 64)] σ (some (.int R.1)) R.2) (hr1 : ∀ (σ : mj_S) (R : (Int32 × mj_S)), rec 1 σ = some R → mj_C G l yX10_both cX10_both 3 (some .int) (3 + k) [.ref (G.2.1 64)] σ (some (.int R.1)) R.2) (hr2 : ∀ (σ : mj_S) (R : (Int32 × mj_S)), rec 2 σ = some R → mj_C G l yX10_compared cX10_compared 4 (some .int) (3 + k) [.ref (G.2.1 64)] σ (some (.int R.1)) R.2) (hr3 : ∀ (σ : mj_S) (R : (Int32 × mj_S)), rec 3 σ = some R → mj_C G l yX10_sums cX10_sums 4 (some .int) (3 + k) [.ref (G.2.1 64)] σ (some (.int R.1)) R.2) (hr4 : ∀ (σ : mj_S) (R : (Int32 × mj_S)), rec 4 σ = some R → mj_C G l yX10_product cX10_product 4 (some .int) (3 + k) [.ref (G.2.1 64)] σ (some (.int R.1)) R.2) (hr5 : ∀ (σ : mj_S) (R : (Int32 × mj_S)), rec 5 σ = some R → mj_C G l yX10_one cX10_one 5 (some .int) (3 + k) [.ref (G.2.1 64)] σ (some (.int R.1)) R.2) (hK10 : ∀ (v1 : Int32) (v2 : Int32) (σ : mj_S) (R : (Int32 × mj_S)), K10 v1 v2 σ = some R → mj_W p l e (mj_rm (3 + (k + 1))) s m args below meth c G 0 0 4 (MQ below (mj_Q G (some (.int R.1)) R.2) args s 0 0 G.2.2.2) 10 [(0, .ref (G.2.1 64)), (1, .int v1), (2, .int v2)] [] σ) : ∀ (t0 : Int32) (σ : mj_S) (R : (Int32 × mj_S)), b_X10_product_85 rec K10 t0 σ = some R → mj_W p l e (mj_rm (3 + (k + 1))) s m args below meth c G 0 0 4 (MQ below (mj_Q G (some (.int R.1)) R.2) args s 0 0 G.2.2.2) 85 [(0, .ref (G.2.1 64))] [.int t0] σ := by
  intro t0 σ R hF
  unfold b_X10_product_85 at hF
  refine mj_istore_n C dX10_product_85 (by decide) ?_
  refine mj_aload_n C dX10_product_86 rfl ?_
  obtain ⟨r10, hq10, hF⟩ := mj_ob hF
  refine mj_callVi C (c_X10_byteAt σ r10 hq10) yv_X10_byteAt kl_X10_171 (mo_64 G _) rfl rfl rfl rfl (Nat.le_of_ble_eq_true rfl) (mj_roomR (by decide) (by decide)) ⟨Nat.zero_le _, Nat.zero_le _⟩ dX10_product_87 ?_
  refine mj_istore_n C dX10_product_90 (by decide) ?_
  refine mj_goto C dX10_product_91 rfl ?_
  refine mj_to ?_ (hK10 t0 r10 σ R hF)
  exact ⟨rfl, rfl, rfl, trivial⟩
set_option maxRecDepth 100000 in
set_option maxHeartbeats 4000000 in
theorem w_X10_product_35 {p : Program} {l : Launch} {e : Env} {s : State} {m : MethodId} {args : Array Value} {below : List Frame} {meth : Method} {c : Code} {G : mj_G} {k : Nat} {rec : Nat → mj_S → Option (Int32 × mj_S)} {K10 : Int32 → Int32 → mj_S → Option (Int32 × mj_S)} (C : mj_X p s m args meth c G cX10_product 4 RX10) (hr : meth.sig.returnType = some .int) (hlk : meth.locks = false) (hr0 : ∀ (σ : mj_S) (R : (Int32 × mj_S)), rec 0 σ = some R → mj_C G l yX10_either cX10_either 3 (some .int) (3 + k) [.ref (G.2.1 64)] σ (some (.int R.1)) R.2) (hr1 : ∀ (σ : mj_S) (R : (Int32 × mj_S)), rec 1 σ = some R → mj_C G l yX10_both cX10_both 3 (some .int) (3 + k) [.ref (G.2.1 64)] σ (some (.int R.1)) R.2) (hr2 : ∀ (σ : mj_S) (R : (Int32 × mj_S)), rec 2 σ = some R → mj_C G l yX10_compared cX10_compared 4 (some .int) (3 + k) [.ref (G.2.1 64)] σ (some (.int R.1)) R.2) (hr3 : ∀ (σ : mj_S) (R : (Int32 × mj_S)), rec 3 σ = some R → mj_C G l yX10_sums cX10_sums 4 (some .int) (3 + k) [.ref (G.2.1 64)] σ (some (.int R.1)) R.2) (hr4 : ∀ (σ : mj_S) (R : (Int32 × mj_S)), rec 4 σ = some R → mj_C G l yX10_product cX10_product 4 (some .int) (3 + k) [.ref (G.2.1 64)] σ (some (.int R.1)) R.2) (hr5 : ∀ (σ : mj_S) (R : (Int32 × mj_S)), rec 5 σ = some R → mj_C G l yX10_one cX10_one 5 (some .int) (3 + k) [.ref (G.2.1 64)] σ (some (.int R.1)) R.2) (hK10 : ∀ (v1 : Int32) (v2 : Int32) (σ : mj_S) (R : (Int32 × mj_S)), K10 v1 v2 σ = some R → mj_W p l e (mj_rm (3 + (k + 1))) s m args below meth c G 0 0 4 (MQ below (mj_Q G (some (.int R.1)) R.2) args s 0 0 G.2.2.2) 10 [(0, .ref (G.2.1 64)), (1, .int v1), (2, .int v2)] [] σ) : ∀ (v1 : Int32) (v2 : Int32) (σ : mj_S) (R : (Int32 × mj_S)), b_X10_product_35 rec K10 v1 v2 σ = some R → mj_W p l e (mj_rm (3 + (k + 1))) s m args below meth c G 0 0 4 (MQ below (mj_Q G (some (.int R.1)) R.2) args s 0 0 G.2.2.2) 35 [(0, .ref (G.2.1 64)), (1, .int v1), (2, .int v2)] [] σ := by
  intro v1 v2 σ R hF
  unfold b_X10_product_35 at hF
  refine mj_aload_n C dX10_product_35 rfl ?_
  refine mj_dup C dX10_product_36 rfl ?_
  refine mg_X10_159 C dX10_product_37 ?_
  refine mj_iconstV (v := 1) C dX10_product_40 mc_i_1 ?_
  refine mj_iadd C dX10_product_41 ?_
  refine mp_X10_159 C dX10_product_42 ?_
  refine mj_aload_n C dX10_product_45 rfl ?_
  obtain ⟨r5, hq5, hF⟩ := mj_ob hF
  refine mj_callVi C (hr5  (mj_sI σ 64 20 ((σ.1 64 20) + 1)) r5 hq5) yv_X10_one kl_X10_190 (mo_64 G _) rfl rfl rfl rfl (Nat.le_of_ble_eq_true rfl) (mj_roomK (by decide)) ⟨Nat.zero_le _, Nat.zero_le _⟩ dX10_product_46 ?_
  refine mj_istore_n C dX10_product_49 (by decide) ?_
  refine mj_iload_n C dX10_product_50 rfl ?_
  refine mj_bipushV (v := 42) C dX10_product_51 mc_b_42 ?_
  refine mj_ic_ne C dX10_product_53 rfl hF (fun hc6 hF => ?_) (fun hc6 hF => ?_)
  · refine mj_iload_n C dX10_product_62 rfl ?_
    refine mj_if_ne C dX10_product_63 rfl hF (fun hc7 hF => ?_) (fun hc7 hF => ?_)
    · refine mj_iload_n C dX10_product_70 rfl ?_
      refine mj_bipushV (v := 47) C dX10_product_71 mc_b_47 ?_
      refine mj_ic_ne C dX10_product_73 rfl hF (fun hc8 hF => ?_) (fun hc8 hF => ?_)
      · refine mj_iload_n C dX10_product_82 rfl ?_
        refine mj_iload_n C dX10_product_83 rfl ?_
        obtain ⟨hz9, hF⟩ := mj_oz hF
        refine mj_irem C dX10_product_84 hz9 ?_
        refine mj_to ?_ (w_X10_product_85 C hr hlk hr0 hr1 hr2 hr3 hr4 hr5 hK10 (mj_rem v1 r5.1) r5.2 R hF)
        exact ⟨rfl, trivial⟩
      · refine mj_iload_n C dX10_product_76 rfl ?_
        refine mj_iload_n C dX10_product_77 rfl ?_
        obtain ⟨hz11, hF⟩ := mj_oz hF
        refine mj_idiv C dX10_product_78 hz11 ?_
        refine mj_goto C dX10_product_79 rfl ?_
        refine mj_to ?_ (w_X10_product_85 C hr hlk hr0 hr1 hr2 hr3 hr4 hr5 hK10 (v1 / r5.1) r5.2 R hF)
        exact ⟨rfl, trivial⟩
    · refine mj_iconstV (v := 0) C dX10_product_66 mc_i_0 ?_
      refine mj_goto C dX10_product_67 rfl ?_
      refine mj_to ?_ (w_X10_product_85 C hr hlk hr0 hr1 hr2 hr3 hr4 hr5 hK10 0 r5.2 R hF)
      exact ⟨rfl, trivial⟩
  · refine mj_iload_n C dX10_product_56 rfl ?_
    refine mj_iload_n C dX10_product_57 rfl ?_
    refine mj_imul C dX10_product_58 ?_
    refine mj_goto C dX10_product_59 rfl ?_
    refine mj_to ?_ (w_X10_product_85 C hr hlk hr0 hr1 hr2 hr3 hr4 hr5 hK10 (v1 * r5.1) r5.2 R hF)
    exact ⟨rfl, trivial⟩
set_option maxRecDepth 100000 in
set_option maxHeartbeats 4000000 in
theorem w_X10_product_10 {p : Program} {l : Launch} {e : Env} {s : State} {m : MethodId} {args : Array Value} {below : List Frame} {meth : Method} {c : Code} {G : mj_G} {k : Nat} {rec : Nat → mj_S → Option (Int32 × mj_S)} (C : mj_X p s m args meth c G cX10_product 4 RX10) (hr : meth.sig.returnType = some .int) (hlk : meth.locks = false) (hr0 : ∀ (σ : mj_S) (R : (Int32 × mj_S)), rec 0 σ = some R → mj_C G l yX10_either cX10_either 3 (some .int) (3 + k) [.ref (G.2.1 64)] σ (some (.int R.1)) R.2) (hr1 : ∀ (σ : mj_S) (R : (Int32 × mj_S)), rec 1 σ = some R → mj_C G l yX10_both cX10_both 3 (some .int) (3 + k) [.ref (G.2.1 64)] σ (some (.int R.1)) R.2) (hr2 : ∀ (σ : mj_S) (R : (Int32 × mj_S)), rec 2 σ = some R → mj_C G l yX10_compared cX10_compared 4 (some .int) (3 + k) [.ref (G.2.1 64)] σ (some (.int R.1)) R.2) (hr3 : ∀ (σ : mj_S) (R : (Int32 × mj_S)), rec 3 σ = some R → mj_C G l yX10_sums cX10_sums 4 (some .int) (3 + k) [.ref (G.2.1 64)] σ (some (.int R.1)) R.2) (hr4 : ∀ (σ : mj_S) (R : (Int32 × mj_S)), rec 4 σ = some R → mj_C G l yX10_product cX10_product 4 (some .int) (3 + k) [.ref (G.2.1 64)] σ (some (.int R.1)) R.2) (hr5 : ∀ (σ : mj_S) (R : (Int32 × mj_S)), rec 5 σ = some R → mj_C G l yX10_one cX10_one 5 (some .int) (3 + k) [.ref (G.2.1 64)] σ (some (.int R.1)) R.2) : ∀ (n : Nat) (v1 : Int32) (v2 : Int32) (σ : mj_S) (R : (Int32 × mj_S)), b_X10_product_10 rec n v1 v2 σ = some R → mj_W p l e (mj_rm (3 + (k + 1))) s m args below meth c G 0 0 4 (MQ below (mj_Q G (some (.int R.1)) R.2) args s 0 0 G.2.2.2) 10 [(0, .ref (G.2.1 64)), (1, .int v1), (2, .int v2)] [] σ := by
  intro n
  induction n with
  | zero =>
    intro v1 v2 σ R hF
    cases hF
  | succ n ih =>
    intro v1 v2 σ R hF
    rw [b_X10_product_10] at hF
    refine mj_aload_n C dX10_product_10 rfl ?_
    refine mg_X10_168 C dX10_product_11 ?_
    refine mj_if_ge C dX10_product_14 rfl hF (fun hc3 hF => ?_) (fun hc3 hF => ?_)
    · refine mj_iload_n C dX10_product_94 rfl ?_
      have hF := mj_oi hF; subst hF
      exact mj_iret C hr hlk dX10_product_95
    · refine mj_iload_n C dX10_product_17 rfl ?_
      refine mj_bipushV (v := 42) C dX10_product_18 mc_b_42 ?_
      refine mj_ic_eq C dX10_product_20 rfl hF (fun hc4 hF => ?_) (fun hc4 hF => ?_)
      · refine mj_to ?_ (w_X10_product_35 C hr hlk hr0 hr1 hr2 hr3 hr4 hr5 ih v1 v2 σ R hF)
        exact ⟨rfl, rfl, rfl, trivial⟩
      · refine mj_iload_n C dX10_product_23 rfl ?_
        refine mj_bipushV (v := 47) C dX10_product_24 mc_b_47 ?_
        refine mj_ic_eq C dX10_product_26 rfl hF (fun hc12 hF => ?_) (fun hc12 hF => ?_)
        · refine mj_to ?_ (w_X10_product_35 C hr hlk hr0 hr1 hr2 hr3 hr4 hr5 ih v1 v2 σ R hF)
          exact ⟨rfl, rfl, rfl, trivial⟩
        · refine mj_iload_n C dX10_product_29 rfl ?_
          refine mj_bipushV (v := 37) C dX10_product_30 mc_b_37 ?_
          refine mj_ic_ne C dX10_product_32 rfl hF (fun hc13 hF => ?_) (fun hc13 hF => ?_)
          · refine mj_iload_n C dX10_product_94 rfl ?_
            have hF := mj_oi hF; subst hF
            exact mj_iret C hr hlk dX10_product_95
          · refine mj_to ?_ (w_X10_product_35 C hr hlk hr0 hr1 hr2 hr3 hr4 hr5 ih v1 v2 σ R hF)
            exact ⟨rfl, rfl, rfl, trivial⟩
set_option maxRecDepth 100000 in
set_option maxHeartbeats 4000000 in
theorem cF_X10_product {G : mj_G} {l : Launch} {k : Nat} {rec : Nat → mj_S → Option (Int32 × mj_S)} (hr0 : ∀ (σ : mj_S) (R : (Int32 × mj_S)), rec 0 σ = some R → mj_C G l yX10_either cX10_either 3 (some .int) (3 + k) [.ref (G.2.1 64)] σ (some (.int R.1)) R.2) (hr1 : ∀ (σ : mj_S) (R : (Int32 × mj_S)), rec 1 σ = some R → mj_C G l yX10_both cX10_both 3 (some .int) (3 + k) [.ref (G.2.1 64)] σ (some (.int R.1)) R.2) (hr2 : ∀ (σ : mj_S) (R : (Int32 × mj_S)), rec 2 σ = some R → mj_C G l yX10_compared cX10_compared 4 (some .int) (3 + k) [.ref (G.2.1 64)] σ (some (.int R.1)) R.2) (hr3 : ∀ (σ : mj_S) (R : (Int32 × mj_S)), rec 3 σ = some R → mj_C G l yX10_sums cX10_sums 4 (some .int) (3 + k) [.ref (G.2.1 64)] σ (some (.int R.1)) R.2) (hr4 : ∀ (σ : mj_S) (R : (Int32 × mj_S)), rec 4 σ = some R → mj_C G l yX10_product cX10_product 4 (some .int) (3 + k) [.ref (G.2.1 64)] σ (some (.int R.1)) R.2) (hr5 : ∀ (σ : mj_S) (R : (Int32 × mj_S)), rec 5 σ = some R → mj_C G l yX10_one cX10_one 5 (some .int) (3 + k) [.ref (G.2.1 64)] σ (some (.int R.1)) R.2) (σ : mj_S) (R : (Int32 × mj_S)) (hF : F_X10_product rec σ = some R) : mj_C G l yX10_product cX10_product 4 (some .int) (3 + (k + 1)) [.ref (G.2.1 64)] σ (some (.int R.1)) R.2 := by
  unfold F_X10_product at hF
  refine mj_of (ls := [(0, .ref (G.2.1 64))]) (by decide) (Nat.le_of_ble_eq_true rfl) rfl (fun p e s m args below meth c C hr hlk => ?_)
  refine mj_aload_n C dX10_product_0 rfl ?_
  obtain ⟨r1, hq1, hF⟩ := mj_ob hF
  refine mj_callVi C (hr5  σ r1 hq1) yv_X10_one kl_X10_190 (mo_64 G _) rfl rfl rfl rfl (Nat.le_of_ble_eq_true rfl) (mj_roomK (by decide)) ⟨Nat.zero_le _, Nat.zero_le _⟩ dX10_product_1 ?_
  refine mj_istore_n C dX10_product_4 (by decide) ?_
  refine mj_aload_n C dX10_product_5 rfl ?_
  obtain ⟨r2, hq2, hF⟩ := mj_ob hF
  refine mj_callVi C (c_X10_byteAt r1.2 r2 hq2) yv_X10_byteAt kl_X10_171 (mo_64 G _) rfl rfl rfl rfl (Nat.le_of_ble_eq_true rfl) (mj_roomR (by decide) (by decide)) ⟨Nat.zero_le _, Nat.zero_le _⟩ dX10_product_6 ?_
  refine mj_istore_n C dX10_product_9 (by decide) ?_
  refine mj_to ?_ (w_X10_product_10 C hr hlk hr0 hr1 hr2 hr3 hr4 hr5 mj_fu r1.1 r2 r1.2 R hF)
  exact ⟨rfl, rfl, rfl, trivial⟩
set_option maxRecDepth 100000 in
set_option maxHeartbeats 4000000 in
theorem w_X10_one_104 {p : Program} {l : Launch} {e : Env} {s : State} {m : MethodId} {args : Array Value} {below : List Frame} {meth : Method} {c : Code} {G : mj_G} {k : Nat} {rec : Nat → mj_S → Option (Int32 × mj_S)} (C : mj_X p s m args meth c G cX10_one 5 RX10) (hr : meth.sig.returnType = some .int) (hlk : meth.locks = false) (hr0 : ∀ (σ : mj_S) (R : (Int32 × mj_S)), rec 0 σ = some R → mj_C G l yX10_either cX10_either 3 (some .int) (3 + k) [.ref (G.2.1 64)] σ (some (.int R.1)) R.2) (hr1 : ∀ (σ : mj_S) (R : (Int32 × mj_S)), rec 1 σ = some R → mj_C G l yX10_both cX10_both 3 (some .int) (3 + k) [.ref (G.2.1 64)] σ (some (.int R.1)) R.2) (hr2 : ∀ (σ : mj_S) (R : (Int32 × mj_S)), rec 2 σ = some R → mj_C G l yX10_compared cX10_compared 4 (some .int) (3 + k) [.ref (G.2.1 64)] σ (some (.int R.1)) R.2) (hr3 : ∀ (σ : mj_S) (R : (Int32 × mj_S)), rec 3 σ = some R → mj_C G l yX10_sums cX10_sums 4 (some .int) (3 + k) [.ref (G.2.1 64)] σ (some (.int R.1)) R.2) (hr4 : ∀ (σ : mj_S) (R : (Int32 × mj_S)), rec 4 σ = some R → mj_C G l yX10_product cX10_product 4 (some .int) (3 + k) [.ref (G.2.1 64)] σ (some (.int R.1)) R.2) (hr5 : ∀ (σ : mj_S) (R : (Int32 × mj_S)), rec 5 σ = some R → mj_C G l yX10_one cX10_one 5 (some .int) (3 + k) [.ref (G.2.1 64)] σ (some (.int R.1)) R.2) : ∀ (v1 : Int32) (v2 : Int32) (σ : mj_S) (R : (Int32 × mj_S)), b_X10_one_104 rec v1 v2 σ = some R → mj_W p l e (mj_rm (3 + (k + 1))) s m args below meth c G 0 0 5 (MQ below (mj_Q G (some (.int R.1)) R.2) args s 0 0 G.2.2.2) 104 [(0, .ref (G.2.1 64)), (1, .int v1), (2, .int v2)] [] σ := by
  intro v1 v2 σ R hF
  unfold b_X10_one_104 at hF
  refine mj_aload_n C dX10_one_104 rfl ?_
  refine mj_dup C dX10_one_105 rfl ?_
  refine mg_X10_193 C dX10_one_106 ?_
  refine mj_iconstV (v := 1) C dX10_one_109 mc_i_1 ?_
  refine mj_isub C dX10_one_110 ?_
  refine mp_X10_193 C dX10_one_111 ?_
  refine mj_iload_n C dX10_one_114 rfl ?_
  refine mj_bipushV (v := 40) C dX10_one_115 mc_b_40 ?_
  refine mj_ic_ne C dX10_one_117 rfl hF (fun hc8 hF => ?_) (fun hc8 hF => ?_)
  · refine mj_iload_n C dX10_one_124 rfl ?_
    refine mj_bipushV (v := 45) C dX10_one_125 mc_b_45 ?_
    refine mj_ic_ne C dX10_one_127 rfl hF (fun hc9 hF => ?_) (fun hc9 hF => ?_)
    · refine mj_iload_n C dX10_one_135 rfl ?_
      refine mj_if_ne C dX10_one_136 rfl hF (fun hc10 hF => ?_) (fun hc10 hF => ?_)
      · refine mj_iconstV (v := 0) C dX10_one_143 mc_i_0 ?_
        have hF := mj_oi hF; subst hF
        exact mj_iret C hr hlk dX10_one_144
      · refine mj_iconstV (v := 1) C dX10_one_139 mc_i_1 ?_
        refine mj_goto C dX10_one_140 rfl ?_
        have hF := mj_oi hF; subst hF
        exact mj_iret C hr hlk dX10_one_144
    · refine mj_iload_n C dX10_one_130 rfl ?_
      refine mj_ineg C dX10_one_131 ?_
      refine mj_goto C dX10_one_132 rfl ?_
      have hF := mj_oi hF; subst hF
      exact mj_iret C hr hlk dX10_one_144
  · refine mj_iload_n C dX10_one_120 rfl ?_
    refine mj_goto C dX10_one_121 rfl ?_
    have hF := mj_oi hF; subst hF
    exact mj_iret C hr hlk dX10_one_144
set_option maxRecDepth 100000 in
set_option maxHeartbeats 4000000 in
theorem w_X10_one_83 {p : Program} {l : Launch} {e : Env} {s : State} {m : MethodId} {args : Array Value} {below : List Frame} {meth : Method} {c : Code} {G : mj_G} {k : Nat} {rec : Nat → mj_S → Option (Int32 × mj_S)} (C : mj_X p s m args meth c G cX10_one 5 RX10) (hr : meth.sig.returnType = some .int) (hlk : meth.locks = false) (hr0 : ∀ (σ : mj_S) (R : (Int32 × mj_S)), rec 0 σ = some R → mj_C G l yX10_either cX10_either 3 (some .int) (3 + k) [.ref (G.2.1 64)] σ (some (.int R.1)) R.2) (hr1 : ∀ (σ : mj_S) (R : (Int32 × mj_S)), rec 1 σ = some R → mj_C G l yX10_both cX10_both 3 (some .int) (3 + k) [.ref (G.2.1 64)] σ (some (.int R.1)) R.2) (hr2 : ∀ (σ : mj_S) (R : (Int32 × mj_S)), rec 2 σ = some R → mj_C G l yX10_compared cX10_compared 4 (some .int) (3 + k) [.ref (G.2.1 64)] σ (some (.int R.1)) R.2) (hr3 : ∀ (σ : mj_S) (R : (Int32 × mj_S)), rec 3 σ = some R → mj_C G l yX10_sums cX10_sums 4 (some .int) (3 + k) [.ref (G.2.1 64)] σ (some (.int R.1)) R.2) (hr4 : ∀ (σ : mj_S) (R : (Int32 × mj_S)), rec 4 σ = some R → mj_C G l yX10_product cX10_product 4 (some .int) (3 + k) [.ref (G.2.1 64)] σ (some (.int R.1)) R.2) (hr5 : ∀ (σ : mj_S) (R : (Int32 × mj_S)), rec 5 σ = some R → mj_C G l yX10_one cX10_one 5 (some .int) (3 + k) [.ref (G.2.1 64)] σ (some (.int R.1)) R.2) : ∀ (v1 : Int32) (t0 : Int32) (σ : mj_S) (R : (Int32 × mj_S)), b_X10_one_83 rec v1 t0 σ = some R → mj_W p l e (mj_rm (3 + (k + 1))) s m args below meth c G 0 0 5 (MQ below (mj_Q G (some (.int R.1)) R.2) args s 0 0 G.2.2.2) 83 [(0, .ref (G.2.1 64)), (1, .int v1)] [.int t0] σ := by
  intro v1 t0 σ R hF
  unfold b_X10_one_83 at hF
  refine mj_istore_n C dX10_one_83 (by decide) ?_
  refine mj_iload_n C dX10_one_84 rfl ?_
  refine mj_bipushV (v := 40) C dX10_one_85 mc_b_40 ?_
  refine mj_ic_ne C dX10_one_87 rfl hF (fun hc7 hF => ?_) (fun hc7 hF => ?_)
  · refine mj_to ?_ (w_X10_one_104 C hr hlk hr0 hr1 hr2 hr3 hr4 hr5 v1 t0 σ R hF)
    exact ⟨rfl, rfl, rfl, trivial⟩
  · refine mj_aload_n C dX10_one_90 rfl ?_
    refine mj_bipushV (v := 41) C dX10_one_91 mc_b_41 ?_
    obtain ⟨r11, hq11, hF⟩ := mj_ob hF
    refine mj_callVi C (c_X10_takes σ 41 r11 hq11) yv_X10_takes kl_X10_178 (mo_64 G _) rfl rfl rfl rfl (Nat.le_of_ble_eq_true rfl) (mj_roomR (by decide) (by decide)) ⟨Nat.zero_le _, Nat.zero_le _⟩ dX10_one_93 ?_
    refine mj_if_ne C dX10_one_96 rfl hF (fun hc12 hF => ?_) (fun hc12 hF => ?_)
    · refine mj_to ?_ (w_X10_one_104 C hr hlk hr0 hr1 hr2 hr3 hr4 hr5 v1 t0 r11.2 R hF)
      exact ⟨rfl, rfl, rfl, trivial⟩
    · refine mj_aload_n C dX10_one_99 rfl ?_
      refine mj_callVi C (c_X10_wrong r11.2) yv_X10_wrong kl_X10_196 (mo_64 G _) rfl rfl rfl rfl (Nat.le_of_ble_eq_true rfl) (mj_roomR (by decide) (by decide)) ⟨Nat.zero_le _, Nat.zero_le _⟩ dX10_one_100 ?_
      replace hF := mj_letE hF
      generalize f_X10_wrong r11.2 = r13 at hF ⊢
      have hF := mj_oi hF; subst hF
      exact mj_iret C hr hlk dX10_one_103
set_option maxRecDepth 100000 in
set_option maxHeartbeats 4000000 in
theorem w_X10_one_32 {p : Program} {l : Launch} {e : Env} {s : State} {m : MethodId} {args : Array Value} {below : List Frame} {meth : Method} {c : Code} {G : mj_G} {k : Nat} {rec : Nat → mj_S → Option (Int32 × mj_S)} (C : mj_X p s m args meth c G cX10_one 5 RX10) (hr : meth.sig.returnType = some .int) (hlk : meth.locks = false) (hr0 : ∀ (σ : mj_S) (R : (Int32 × mj_S)), rec 0 σ = some R → mj_C G l yX10_either cX10_either 3 (some .int) (3 + k) [.ref (G.2.1 64)] σ (some (.int R.1)) R.2) (hr1 : ∀ (σ : mj_S) (R : (Int32 × mj_S)), rec 1 σ = some R → mj_C G l yX10_both cX10_both 3 (some .int) (3 + k) [.ref (G.2.1 64)] σ (some (.int R.1)) R.2) (hr2 : ∀ (σ : mj_S) (R : (Int32 × mj_S)), rec 2 σ = some R → mj_C G l yX10_compared cX10_compared 4 (some .int) (3 + k) [.ref (G.2.1 64)] σ (some (.int R.1)) R.2) (hr3 : ∀ (σ : mj_S) (R : (Int32 × mj_S)), rec 3 σ = some R → mj_C G l yX10_sums cX10_sums 4 (some .int) (3 + k) [.ref (G.2.1 64)] σ (some (.int R.1)) R.2) (hr4 : ∀ (σ : mj_S) (R : (Int32 × mj_S)), rec 4 σ = some R → mj_C G l yX10_product cX10_product 4 (some .int) (3 + k) [.ref (G.2.1 64)] σ (some (.int R.1)) R.2) (hr5 : ∀ (σ : mj_S) (R : (Int32 × mj_S)), rec 5 σ = some R → mj_C G l yX10_one cX10_one 5 (some .int) (3 + k) [.ref (G.2.1 64)] σ (some (.int R.1)) R.2) : ∀ (v1 : Int32) (σ : mj_S) (R : (Int32 × mj_S)), b_X10_one_32 rec v1 σ = some R → mj_W p l e (mj_rm (3 + (k + 1))) s m args below meth c G 0 0 5 (MQ below (mj_Q G (some (.int R.1)) R.2) args s 0 0 G.2.2.2) 32 [(0, .ref (G.2.1 64)), (1, .int v1)] [] σ := by
  intro v1 σ R hF
  unfold b_X10_one_32 at hF
  refine mj_aload_n C dX10_one_32 rfl ?_
  refine mg_X10_193 C dX10_one_33 ?_
  refine mj_bipushV (v := 6) C dX10_one_36 mc_b_6 ?_
  refine mj_ic_ne C dX10_one_38 rfl hF (fun hc4 hF => ?_) (fun hc4 hF => ?_)
  · refine mj_aload_n C dX10_one_46 rfl ?_
    refine mj_dup C dX10_one_47 rfl ?_
    refine mg_X10_193 C dX10_one_48 ?_
    refine mj_iconstV (v := 1) C dX10_one_51 mc_i_1 ?_
    refine mj_iadd C dX10_one_52 ?_
    refine mp_X10_193 C dX10_one_53 ?_
    refine mj_aload_n C dX10_one_56 rfl ?_
    refine mj_dup C dX10_one_57 rfl ?_
    refine mg_X10_159 C dX10_one_58 ?_
    refine mj_iconstV (v := 1) C dX10_one_61 mc_i_1 ?_
    refine mj_iadd C dX10_one_62 ?_
    refine mp_X10_159 C dX10_one_63 ?_
    refine mj_iload_n C dX10_one_66 rfl ?_
    refine mj_bipushV (v := 40) C dX10_one_67 mc_b_40 ?_
    refine mj_ic_ne C dX10_one_69 rfl hF (fun hc5 hF => ?_) (fun hc5 hF => ?_)
    · refine mj_aload_n C dX10_one_79 rfl ?_
      obtain ⟨r6, hq6, hF⟩ := mj_ob hF
      refine mj_callVi C (hr5  (mj_sI (mj_sI σ 64 23 ((σ.1 64 23) + 1)) 64 20 ((σ.1 64 20) + 1)) r6 hq6) yv_X10_one kl_X10_190 (mo_64 G _) rfl rfl rfl rfl (Nat.le_of_ble_eq_true rfl) (mj_roomK (by decide)) ⟨Nat.zero_le _, Nat.zero_le _⟩ dX10_one_80 ?_
      refine mj_to ?_ (w_X10_one_83 C hr hlk hr0 hr1 hr2 hr3 hr4 hr5 v1 r6.1 r6.2 R hF)
      exact ⟨rfl, rfl, trivial⟩
    · refine mj_aload_n C dX10_one_72 rfl ?_
      obtain ⟨r14, hq14, hF⟩ := mj_ob hF
      refine mj_callVi C (hr0  (mj_sI (mj_sI σ 64 23 ((σ.1 64 23) + 1)) 64 20 ((σ.1 64 20) + 1)) r14 hq14) yv_X10_either kl_X10_199 (mo_64 G _) rfl rfl rfl rfl (Nat.le_of_ble_eq_true rfl) (mj_roomK (by decide)) ⟨Nat.zero_le _, Nat.zero_le _⟩ dX10_one_73 ?_
      refine mj_goto C dX10_one_76 rfl ?_
      refine mj_to ?_ (w_X10_one_83 C hr hlk hr0 hr1 hr2 hr3 hr4 hr5 v1 r14.1 r14.2 R hF)
      exact ⟨rfl, rfl, trivial⟩
  · refine mj_aload_n C dX10_one_41 rfl ?_
    refine mj_callVi C (c_X10_wrong σ) yv_X10_wrong kl_X10_196 (mo_64 G _) rfl rfl rfl rfl (Nat.le_of_ble_eq_true rfl) (mj_roomR (by decide) (by decide)) ⟨Nat.zero_le _, Nat.zero_le _⟩ dX10_one_42 ?_
    replace hF := mj_letE hF
    generalize f_X10_wrong σ = r15 at hF ⊢
    have hF := mj_oi hF; subst hF
    exact mj_iret C hr hlk dX10_one_45
set_option maxRecDepth 100000 in
set_option maxHeartbeats 4000000 in
theorem w_X10_one_229 {p : Program} {l : Launch} {e : Env} {s : State} {m : MethodId} {args : Array Value} {below : List Frame} {meth : Method} {c : Code} {G : mj_G} {k : Nat} {rec : Nat → mj_S → Option (Int32 × mj_S)} (C : mj_X p s m args meth c G cX10_one 5 RX10) (hr : meth.sig.returnType = some .int) (hlk : meth.locks = false) (hr0 : ∀ (σ : mj_S) (R : (Int32 × mj_S)), rec 0 σ = some R → mj_C G l yX10_either cX10_either 3 (some .int) (3 + k) [.ref (G.2.1 64)] σ (some (.int R.1)) R.2) (hr1 : ∀ (σ : mj_S) (R : (Int32 × mj_S)), rec 1 σ = some R → mj_C G l yX10_both cX10_both 3 (some .int) (3 + k) [.ref (G.2.1 64)] σ (some (.int R.1)) R.2) (hr2 : ∀ (σ : mj_S) (R : (Int32 × mj_S)), rec 2 σ = some R → mj_C G l yX10_compared cX10_compared 4 (some .int) (3 + k) [.ref (G.2.1 64)] σ (some (.int R.1)) R.2) (hr3 : ∀ (σ : mj_S) (R : (Int32 × mj_S)), rec 3 σ = some R → mj_C G l yX10_sums cX10_sums 4 (some .int) (3 + k) [.ref (G.2.1 64)] σ (some (.int R.1)) R.2) (hr4 : ∀ (σ : mj_S) (R : (Int32 × mj_S)), rec 4 σ = some R → mj_C G l yX10_product cX10_product 4 (some .int) (3 + k) [.ref (G.2.1 64)] σ (some (.int R.1)) R.2) (hr5 : ∀ (σ : mj_S) (R : (Int32 × mj_S)), rec 5 σ = some R → mj_C G l yX10_one cX10_one 5 (some .int) (3 + k) [.ref (G.2.1 64)] σ (some (.int R.1)) R.2) : ∀ (v3 : Int32) (v4 : Int32) (σ : mj_S) (R : (Int32 × mj_S)), b_X10_one_229 rec v3 v4 σ = some R → mj_W p l e (mj_rm (3 + (k + 1))) s m args below meth c G 0 0 5 (MQ below (mj_Q G (some (.int R.1)) R.2) args s 0 0 G.2.2.2) 229 [(0, .ref (G.2.1 64)), (3, .int v3), (4, .int v4)] [] σ := by
  intro v3 v4 σ R hF
  unfold b_X10_one_229 at hF
  refine mj_iload C dX10_one_229 rfl ?_
  refine mj_if_ne C dX10_one_231 rfl hF (fun hc20 hF => ?_) (fun hc20 hF => ?_)
  · refine mj_iload_n C dX10_one_241 rfl ?_
    have hF := mj_oi hF; subst hF
    exact mj_iret C hr hlk dX10_one_242
  · refine mj_aload_n C dX10_one_234 rfl ?_
    refine mj_callVi C (c_X10_wrong σ) yv_X10_wrong kl_X10_196 (mo_64 G _) rfl rfl rfl rfl (Nat.le_of_ble_eq_true rfl) (mj_roomR (by decide) (by decide)) ⟨Nat.zero_le _, Nat.zero_le _⟩ dX10_one_235 ?_
    replace hF := mj_letE hF
    generalize f_X10_wrong σ = r21 at hF ⊢
    refine mj_goto C dX10_one_238 rfl ?_
    have hF := mj_oi hF; subst hF
    exact mj_iret C hr hlk dX10_one_242
set_option maxRecDepth 100000 in
set_option maxHeartbeats 4000000 in
theorem w_X10_one_176 {p : Program} {l : Launch} {e : Env} {s : State} {m : MethodId} {args : Array Value} {below : List Frame} {meth : Method} {c : Code} {G : mj_G} {k : Nat} {rec : Nat → mj_S → Option (Int32 × mj_S)} (C : mj_X p s m args meth c G cX10_one 5 RX10) (hr : meth.sig.returnType = some .int) (hlk : meth.locks = false) (hr0 : ∀ (σ : mj_S) (R : (Int32 × mj_S)), rec 0 σ = some R → mj_C G l yX10_either cX10_either 3 (some .int) (3 + k) [.ref (G.2.1 64)] σ (some (.int R.1)) R.2) (hr1 : ∀ (σ : mj_S) (R : (Int32 × mj_S)), rec 1 σ = some R → mj_C G l yX10_both cX10_both 3 (some .int) (3 + k) [.ref (G.2.1 64)] σ (some (.int R.1)) R.2) (hr2 : ∀ (σ : mj_S) (R : (Int32 × mj_S)), rec 2 σ = some R → mj_C G l yX10_compared cX10_compared 4 (some .int) (3 + k) [.ref (G.2.1 64)] σ (some (.int R.1)) R.2) (hr3 : ∀ (σ : mj_S) (R : (Int32 × mj_S)), rec 3 σ = some R → mj_C G l yX10_sums cX10_sums 4 (some .int) (3 + k) [.ref (G.2.1 64)] σ (some (.int R.1)) R.2) (hr4 : ∀ (σ : mj_S) (R : (Int32 × mj_S)), rec 4 σ = some R → mj_C G l yX10_product cX10_product 4 (some .int) (3 + k) [.ref (G.2.1 64)] σ (some (.int R.1)) R.2) (hr5 : ∀ (σ : mj_S) (R : (Int32 × mj_S)), rec 5 σ = some R → mj_C G l yX10_one cX10_one 5 (some .int) (3 + k) [.ref (G.2.1 64)] σ (some (.int R.1)) R.2) : ∀ (n : Nat) (v3 : Int32) (v4 : Int32) (σ : mj_S) (R : (Int32 × mj_S)), b_X10_one_176 rec n v3 v4 σ = some R → mj_W p l e (mj_rm (3 + (k + 1))) s m args below meth c G 0 0 5 (MQ below (mj_Q G (some (.int R.1)) R.2) args s 0 0 G.2.2.2) 176 [(0, .ref (G.2.1 64)), (3, .int v3), (4, .int v4)] [] σ := by
  intro n
  induction n with
  | zero =>
    intro v3 v4 σ R hF
    cases hF
  | succ n ih =>
    intro v3 v4 σ R hF
    rw [b_X10_one_176] at hF
    refine mj_iload C dX10_one_176 rfl ?_
    refine mj_iconstV (v := 4) C dX10_one_178 mc_i_4 ?_
    refine mj_ic_ge C dX10_one_179 rfl hF (fun hc19 hF => ?_) (fun hc19 hF => ?_)
    · refine mj_to ?_ (w_X10_one_229 C hr hlk hr0 hr1 hr2 hr3 hr4 hr5 v3 v4 σ R hF)
      exact ⟨rfl, rfl, rfl, trivial⟩
    · refine mj_aload_n C dX10_one_182 rfl ?_
      obtain ⟨r22, hq22, hF⟩ := mj_ob hF
      refine mj_callVi C (c_X10_byteAt σ r22 hq22) yv_X10_byteAt kl_X10_171 (mo_64 G _) rfl rfl rfl rfl (Nat.le_of_ble_eq_true rfl) (mj_roomR (by decide) (by decide)) ⟨Nat.zero_le _, Nat.zero_le _⟩ dX10_one_183 ?_
      refine mj_bipushV (v := 48) C dX10_one_186 mc_b_48 ?_
      refine mj_ic_lt C dX10_one_188 rfl hF (fun hc23 hF => ?_) (fun hc23 hF => ?_)
      · refine mj_to ?_ (w_X10_one_229 C hr hlk hr0 hr1 hr2 hr3 hr4 hr5 v3 v4 σ R hF)
        exact ⟨rfl, rfl, rfl, trivial⟩
      · refine mj_aload_n C dX10_one_191 rfl ?_
        obtain ⟨r24, hq24, hF⟩ := mj_ob hF
        refine mj_callVi C (c_X10_byteAt σ r24 hq24) yv_X10_byteAt kl_X10_171 (mo_64 G _) rfl rfl rfl rfl (Nat.le_of_ble_eq_true rfl) (mj_roomR (by decide) (by decide)) ⟨Nat.zero_le _, Nat.zero_le _⟩ dX10_one_192 ?_
        refine mj_bipushV (v := 57) C dX10_one_195 mc_b_57 ?_
        refine mj_ic_gt C dX10_one_197 rfl hF (fun hc25 hF => ?_) (fun hc25 hF => ?_)
        · refine mj_to ?_ (w_X10_one_229 C hr hlk hr0 hr1 hr2 hr3 hr4 hr5 v3 v4 σ R hF)
          exact ⟨rfl, rfl, rfl, trivial⟩
        · refine mj_bipushV (v := 10) C dX10_one_200 mc_b_10 ?_
          refine mj_iload_n C dX10_one_202 rfl ?_
          refine mj_imul C dX10_one_203 ?_
          refine mj_aload_n C dX10_one_204 rfl ?_
          obtain ⟨r26, hq26, hF⟩ := mj_ob hF
          refine mj_callVi C (c_X10_byteAt σ r26 hq26) yv_X10_byteAt kl_X10_171 (mo_64 G _) rfl rfl rfl rfl (Nat.le_of_ble_eq_true rfl) (mj_roomR (by decide) (by decide)) ⟨Nat.zero_le _, Nat.zero_le _⟩ dX10_one_205 ?_
          refine mj_iadd C dX10_one_208 ?_
          refine mj_bipushV (v := 48) C dX10_one_209 mc_b_48 ?_
          refine mj_isub C dX10_one_211 ?_
          refine mj_istore_n C dX10_one_212 (by decide) ?_
          refine mj_iinc (v := v4 + 1) C dX10_one_213 rfl rfl (by decide) ?_
          refine mj_aload_n C dX10_one_216 rfl ?_
          refine mj_dup C dX10_one_217 rfl ?_
          refine mg_X10_159 C dX10_one_218 ?_
          refine mj_iconstV (v := 1) C dX10_one_221 mc_i_1 ?_
          refine mj_iadd C dX10_one_222 ?_
          refine mp_X10_159 C dX10_one_223 ?_
          refine mj_goto C dX10_one_226 rfl ?_
          refine mj_to ?_ (ih (((10 * v3) + r26) - 48) (v4 + 1) (mj_sI σ 64 20 ((σ.1 64 20) + 1)) R hF)
          exact ⟨rfl, rfl, rfl, trivial⟩
set_option maxRecDepth 100000 in
set_option maxHeartbeats 4000000 in
theorem cF_X10_one {G : mj_G} {l : Launch} {k : Nat} {rec : Nat → mj_S → Option (Int32 × mj_S)} (hr0 : ∀ (σ : mj_S) (R : (Int32 × mj_S)), rec 0 σ = some R → mj_C G l yX10_either cX10_either 3 (some .int) (3 + k) [.ref (G.2.1 64)] σ (some (.int R.1)) R.2) (hr1 : ∀ (σ : mj_S) (R : (Int32 × mj_S)), rec 1 σ = some R → mj_C G l yX10_both cX10_both 3 (some .int) (3 + k) [.ref (G.2.1 64)] σ (some (.int R.1)) R.2) (hr2 : ∀ (σ : mj_S) (R : (Int32 × mj_S)), rec 2 σ = some R → mj_C G l yX10_compared cX10_compared 4 (some .int) (3 + k) [.ref (G.2.1 64)] σ (some (.int R.1)) R.2) (hr3 : ∀ (σ : mj_S) (R : (Int32 × mj_S)), rec 3 σ = some R → mj_C G l yX10_sums cX10_sums 4 (some .int) (3 + k) [.ref (G.2.1 64)] σ (some (.int R.1)) R.2) (hr4 : ∀ (σ : mj_S) (R : (Int32 × mj_S)), rec 4 σ = some R → mj_C G l yX10_product cX10_product 4 (some .int) (3 + k) [.ref (G.2.1 64)] σ (some (.int R.1)) R.2) (hr5 : ∀ (σ : mj_S) (R : (Int32 × mj_S)), rec 5 σ = some R → mj_C G l yX10_one cX10_one 5 (some .int) (3 + k) [.ref (G.2.1 64)] σ (some (.int R.1)) R.2) (σ : mj_S) (R : (Int32 × mj_S)) (hF : F_X10_one rec σ = some R) : mj_C G l yX10_one cX10_one 5 (some .int) (3 + (k + 1)) [.ref (G.2.1 64)] σ (some (.int R.1)) R.2 := by
  unfold F_X10_one at hF
  refine mj_of (ls := [(0, .ref (G.2.1 64))]) (by decide) (Nat.le_of_ble_eq_true rfl) rfl (fun p e s m args below meth c C hr hlk => ?_)
  refine mj_aload_n C dX10_one_0 rfl ?_
  refine mg_X10_168 C dX10_one_1 ?_
  refine mj_if_lt C dX10_one_4 rfl hF (fun hc1 hF => ?_) (fun hc1 hF => ?_)
  · refine mj_aload_n C dX10_one_9 rfl ?_
    obtain ⟨r2, hq2, hF⟩ := mj_ob hF
    refine mj_callVi C (c_X10_byteAt σ r2 hq2) yv_X10_byteAt kl_X10_171 (mo_64 G _) rfl rfl rfl rfl (Nat.le_of_ble_eq_true rfl) (mj_roomR (by decide) (by decide)) ⟨Nat.zero_le _, Nat.zero_le _⟩ dX10_one_10 ?_
    refine mj_istore_n C dX10_one_13 (by decide) ?_
    refine mj_iload_n C dX10_one_14 rfl ?_
    refine mj_bipushV (v := 33) C dX10_one_15 mc_b_33 ?_
    refine mj_ic_eq C dX10_one_17 rfl hF (fun hc3 hF => ?_) (fun hc3 hF => ?_)
    · refine mj_to ?_ (w_X10_one_32 C hr hlk hr0 hr1 hr2 hr3 hr4 hr5 r2 σ R hF)
      exact ⟨rfl, rfl, trivial⟩
    · refine mj_iload_n C dX10_one_20 rfl ?_
      refine mj_bipushV (v := 45) C dX10_one_21 mc_b_45 ?_
      refine mj_ic_eq C dX10_one_23 rfl hF (fun hc16 hF => ?_) (fun hc16 hF => ?_)
      · refine mj_to ?_ (w_X10_one_32 C hr hlk hr0 hr1 hr2 hr3 hr4 hr5 r2 σ R hF)
        exact ⟨rfl, rfl, trivial⟩
      · refine mj_iload_n C dX10_one_26 rfl ?_
        refine mj_bipushV (v := 40) C dX10_one_27 mc_b_40 ?_
        refine mj_ic_ne C dX10_one_29 rfl hF (fun hc17 hF => ?_) (fun hc17 hF => ?_)
        · refine mj_iload_n C dX10_one_145 rfl ?_
          refine mj_callSi C (c_X10_nameOf σ r2) ys_X10_nameOf kl_X10_202 rfl rfl (Nat.le_of_ble_eq_true rfl) (mj_roomR (by decide) (by decide)) ⟨Nat.zero_le _, Nat.zero_le _⟩ dX10_one_146 ?_
          refine mj_istore_n C dX10_one_149 (by decide) ?_
          refine mj_iload_n C dX10_one_150 rfl ?_
          refine mj_if_lt C dX10_one_151 rfl hF (fun hc18 hF => ?_) (fun hc18 hF => ?_)
          · refine mj_iconstV (v := 0) C dX10_one_171 mc_i_0 ?_
            refine mj_istore_n C dX10_one_172 (by decide) ?_
            refine mj_iconstV (v := 0) C dX10_one_173 mc_i_0 ?_
            refine mj_istore C dX10_one_174 (by decide) ?_
            refine mj_to ?_ (w_X10_one_176 C hr hlk hr0 hr1 hr2 hr3 hr4 hr5 mj_fu 0 0 σ R hF)
            exact ⟨rfl, rfl, rfl, trivial⟩
          · refine mj_aload_n C dX10_one_154 rfl ?_
            refine mj_dup C dX10_one_155 rfl ?_
            refine mg_X10_159 C dX10_one_156 ?_
            refine mj_iconstV (v := 1) C dX10_one_159 mc_i_1 ?_
            refine mj_iadd C dX10_one_160 ?_
            refine mp_X10_159 C dX10_one_161 ?_
            refine mj_aload_n C dX10_one_164 rfl ?_
            refine mg_X10_46 C dX10_one_165 ?_
            refine mj_iload_n C dX10_one_168 rfl ?_
            obtain ⟨hg27, hF⟩ := mj_og hF
            refine mj_iaload C dX10_one_169 rfl hg27 ?_
            have hF := mj_oi hF; subst hF
            exact mj_iret C hr hlk dX10_one_170
        · refine mj_to ?_ (w_X10_one_32 C hr hlk hr0 hr1 hr2 hr3 hr4 hr5 r2 σ R hF)
          exact ⟨rfl, rfl, trivial⟩
  · refine mj_iconstV (v := 0) C dX10_one_7 mc_i_0 ?_
    have hF := mj_oi hF; subst hF
    exact mj_iret C hr hlk dX10_one_8
theorem cr_X10_either {G : mj_G} {l : Launch} : ∀ k : Nat, (∀ (σ : mj_S) (R : (Int32 × mj_S)), rc_X10_either k 0 σ = some R → mj_C G l yX10_either cX10_either 3 (some .int) (3 + k) [.ref (G.2.1 64)] σ (some (.int R.1)) R.2) ∧ (∀ (σ : mj_S) (R : (Int32 × mj_S)), rc_X10_either k 1 σ = some R → mj_C G l yX10_both cX10_both 3 (some .int) (3 + k) [.ref (G.2.1 64)] σ (some (.int R.1)) R.2) ∧ (∀ (σ : mj_S) (R : (Int32 × mj_S)), rc_X10_either k 2 σ = some R → mj_C G l yX10_compared cX10_compared 4 (some .int) (3 + k) [.ref (G.2.1 64)] σ (some (.int R.1)) R.2) ∧ (∀ (σ : mj_S) (R : (Int32 × mj_S)), rc_X10_either k 3 σ = some R → mj_C G l yX10_sums cX10_sums 4 (some .int) (3 + k) [.ref (G.2.1 64)] σ (some (.int R.1)) R.2) ∧ (∀ (σ : mj_S) (R : (Int32 × mj_S)), rc_X10_either k 4 σ = some R → mj_C G l yX10_product cX10_product 4 (some .int) (3 + k) [.ref (G.2.1 64)] σ (some (.int R.1)) R.2) ∧ (∀ (σ : mj_S) (R : (Int32 × mj_S)), rc_X10_either k 5 σ = some R → mj_C G l yX10_one cX10_one 5 (some .int) (3 + k) [.ref (G.2.1 64)] σ (some (.int R.1)) R.2) := by
  intro k
  induction k with
  | zero =>
    refine ⟨?_, ?_, ?_, ?_, ?_, ?_⟩ <;> (intros; rename_i h; cases h)
  | succ k ih =>
    exact ⟨fun σ R h => cF_X10_either (ih.1) (ih.2.1) (ih.2.2.1) (ih.2.2.2.1) (ih.2.2.2.2.1) (ih.2.2.2.2.2) σ R (by rw [rc_X10_either] at h; exact h),
      fun σ R h => cF_X10_both (ih.1) (ih.2.1) (ih.2.2.1) (ih.2.2.2.1) (ih.2.2.2.2.1) (ih.2.2.2.2.2) σ R (by rw [rc_X10_either] at h; exact h),
      fun σ R h => cF_X10_compared (ih.1) (ih.2.1) (ih.2.2.1) (ih.2.2.2.1) (ih.2.2.2.2.1) (ih.2.2.2.2.2) σ R (by rw [rc_X10_either] at h; exact h),
      fun σ R h => cF_X10_sums (ih.1) (ih.2.1) (ih.2.2.1) (ih.2.2.2.1) (ih.2.2.2.2.1) (ih.2.2.2.2.2) σ R (by rw [rc_X10_either] at h; exact h),
      fun σ R h => cF_X10_product (ih.1) (ih.2.1) (ih.2.2.1) (ih.2.2.2.1) (ih.2.2.2.2.1) (ih.2.2.2.2.2) σ R (by rw [rc_X10_either] at h; exact h),
      fun σ R h => cF_X10_one (ih.1) (ih.2.1) (ih.2.2.1) (ih.2.2.2.1) (ih.2.2.2.2.1) (ih.2.2.2.2.2) σ R (by rw [rc_X10_either] at h; exact h)⟩
theorem c_X10_either {G : mj_G} {l : Launch} (σ : mj_S) (R : (Int32 × mj_S)) (hF : f_X10_either σ = some R) : mj_C G l yX10_either cX10_either 3 (some .int) 103 [.ref (G.2.1 64)] σ (some (.int R.1)) R.2 := (cr_X10_either 100).1 σ R hF
theorem c_X10_both {G : mj_G} {l : Launch} (σ : mj_S) (R : (Int32 × mj_S)) (hF : f_X10_both σ = some R) : mj_C G l yX10_both cX10_both 3 (some .int) 103 [.ref (G.2.1 64)] σ (some (.int R.1)) R.2 := (cr_X10_either 100).2.1 σ R hF
theorem c_X10_compared {G : mj_G} {l : Launch} (σ : mj_S) (R : (Int32 × mj_S)) (hF : f_X10_compared σ = some R) : mj_C G l yX10_compared cX10_compared 4 (some .int) 103 [.ref (G.2.1 64)] σ (some (.int R.1)) R.2 := (cr_X10_either 100).2.2.1 σ R hF
theorem c_X10_sums {G : mj_G} {l : Launch} (σ : mj_S) (R : (Int32 × mj_S)) (hF : f_X10_sums σ = some R) : mj_C G l yX10_sums cX10_sums 4 (some .int) 103 [.ref (G.2.1 64)] σ (some (.int R.1)) R.2 := (cr_X10_either 100).2.2.2.1 σ R hF
theorem c_X10_product {G : mj_G} {l : Launch} (σ : mj_S) (R : (Int32 × mj_S)) (hF : f_X10_product σ = some R) : mj_C G l yX10_product cX10_product 4 (some .int) 103 [.ref (G.2.1 64)] σ (some (.int R.1)) R.2 := (cr_X10_either 100).2.2.2.2.1 σ R hF
theorem c_X10_one {G : mj_G} {l : Launch} (σ : mj_S) (R : (Int32 × mj_S)) (hF : f_X10_one σ = some R) : mj_C G l yX10_one cX10_one 5 (some .int) 103 [.ref (G.2.1 64)] σ (some (.int R.1)) R.2 := (cr_X10_either 100).2.2.2.2.2 σ R hF
set_option maxRecDepth 100000 in
set_option maxHeartbeats 4000000 in
theorem w_X10_workOut_96 {p : Program} {l : Launch} {e : Env} {s : State} {m : MethodId} {args : Array Value} {below : List Frame} {meth : Method} {c : Code} {G : mj_G} {K33 : Int32 → Int32 → Int32 → mj_S → Option (Int32 × mj_S)} (C : mj_X p s m args meth c G cX10_workOut 8 RX10) (hr : meth.sig.returnType = some .int) (hlk : meth.locks = false) (hK33 : ∀ (v3 : Int32) (v4 : Int32) (v5 : Int32) (σ : mj_S) (R : (Int32 × mj_S)), K33 v3 v4 v5 σ = some R → mj_W p l e (mj_rm 104) s m args below meth c G 0 0 8 (MQ below (mj_Q G (some (.int R.1)) R.2) args s 0 0 G.2.2.2) 33 [(0, .ref (G.2.1 64)), (3, .int v3), (4, .int v4), (5, .int v5)] [] σ) : ∀ (v3 : Int32) (v4 : Int32) (σ : mj_S) (R : (Int32 × mj_S)), b_X10_workOut_96 K33 v3 v4 σ = some R → mj_W p l e (mj_rm 104) s m args below meth c G 0 0 8 (MQ below (mj_Q G (some (.int R.1)) R.2) args s 0 0 G.2.2.2) 96 [(0, .ref (G.2.1 64)), (3, .int v3), (4, .int v4)] [] σ := by
  intro v3 v4 σ R hF
  unfold b_X10_workOut_96 at hF
  refine mj_aload_n C dX10_workOut_96 rfl ?_
  refine mj_bipushV (v := 59) C dX10_workOut_97 mc_b_59 ?_
  obtain ⟨r9, hq9, hF⟩ := mj_ob hF
  refine mj_callVi C (c_X10_takes σ 59 r9 hq9) yv_X10_takes kl_X10_178 (mo_64 G _) rfl rfl rfl rfl (Nat.le_of_ble_eq_true rfl) (mj_roomC (by decide) (by decide)) ⟨Nat.zero_le _, Nat.zero_le _⟩ dX10_workOut_99 ?_
  refine mj_istore C dX10_workOut_102 (by decide) ?_
  refine mj_goto C dX10_workOut_104 rfl ?_
  refine mj_to ?_ (hK33 v3 v4 r9.1 r9.2 R hF)
  exact ⟨rfl, rfl, rfl, rfl, trivial⟩
set_option maxRecDepth 100000 in
set_option maxHeartbeats 4000000 in
theorem w_X10_workOut_74 {p : Program} {l : Launch} {e : Env} {s : State} {m : MethodId} {args : Array Value} {below : List Frame} {meth : Method} {c : Code} {G : mj_G} {K33 : Int32 → Int32 → Int32 → mj_S → Option (Int32 × mj_S)} (C : mj_X p s m args meth c G cX10_workOut 8 RX10) (hr : meth.sig.returnType = some .int) (hlk : meth.locks = false) (hK33 : ∀ (v3 : Int32) (v4 : Int32) (v5 : Int32) (σ : mj_S) (R : (Int32 × mj_S)), K33 v3 v4 v5 σ = some R → mj_W p l e (mj_rm 104) s m args below meth c G 0 0 8 (MQ below (mj_Q G (some (.int R.1)) R.2) args s 0 0 G.2.2.2) 33 [(0, .ref (G.2.1 64)), (3, .int v3), (4, .int v4), (5, .int v5)] [] σ) : ∀ (v3 : Int32) (v4 : Int32) (v6 : Int32) (v7 : Int32) (σ : mj_S) (R : (Int32 × mj_S)), b_X10_workOut_74 K33 v3 v4 v6 v7 σ = some R → mj_W p l e (mj_rm 104) s m args below meth c G 0 0 8 (MQ below (mj_Q G (some (.int R.1)) R.2) args s 0 0 G.2.2.2) 74 [(0, .ref (G.2.1 64)), (3, .int v3), (4, .int v4), (6, .int v6), (7, .int v7)] [] σ := by
  intro v3 v4 v6 v7 σ R hF
  unfold b_X10_workOut_74 at hF
  refine mj_aload_n C dX10_workOut_74 rfl ?_
  refine mg_X10_168 C dX10_workOut_75 ?_
  refine mj_if_ge C dX10_workOut_78 rfl hF (fun hc8 hF => ?_) (fun hc8 hF => ?_)
  · refine mj_to ?_ (w_X10_workOut_96 C hr hlk hK33 v3 v4 σ R hF)
    exact ⟨rfl, rfl, rfl, trivial⟩
  · refine mj_iload C dX10_workOut_81 rfl ?_
    refine mj_if_eq C dX10_workOut_83 rfl hF (fun hc10 hF => ?_) (fun hc10 hF => ?_)
    · refine mj_to ?_ (w_X10_workOut_96 C hr hlk hK33 v3 v4 σ R hF)
      exact ⟨rfl, rfl, rfl, trivial⟩
    · refine mj_iload_n C dX10_workOut_86 rfl ?_
      refine mj_if_ne C dX10_workOut_87 rfl hF (fun hc11 hF => ?_) (fun hc11 hF => ?_)
      · refine mj_to ?_ (w_X10_workOut_96 C hr hlk hK33 v3 v4 σ R hF)
        exact ⟨rfl, rfl, rfl, trivial⟩
      · refine mj_iconstV (v := 1) C dX10_workOut_90 mc_i_1 ?_
        refine mj_istore_n C dX10_workOut_91 (by decide) ?_
        refine mj_iload C dX10_workOut_92 rfl ?_
        refine mj_istore C dX10_workOut_94 (by decide) ?_
        refine mj_to ?_ (w_X10_workOut_96 C hr hlk hK33 1 v6 σ R hF)
        exact ⟨rfl, rfl, rfl, trivial⟩
set_option maxRecDepth 100000 in
set_option maxHeartbeats 4000000 in
theorem w_X10_workOut_66 {p : Program} {l : Launch} {e : Env} {s : State} {m : MethodId} {args : Array Value} {below : List Frame} {meth : Method} {c : Code} {G : mj_G} {K33 : Int32 → Int32 → Int32 → mj_S → Option (Int32 × mj_S)} (C : mj_X p s m args meth c G cX10_workOut 8 RX10) (hr : meth.sig.returnType = some .int) (hlk : meth.locks = false) (hK33 : ∀ (v3 : Int32) (v4 : Int32) (v5 : Int32) (σ : mj_S) (R : (Int32 × mj_S)), K33 v3 v4 v5 σ = some R → mj_W p l e (mj_rm 104) s m args below meth c G 0 0 8 (MQ below (mj_Q G (some (.int R.1)) R.2) args s 0 0 G.2.2.2) 33 [(0, .ref (G.2.1 64)), (3, .int v3), (4, .int v4), (5, .int v5)] [] σ) : ∀ (v3 : Int32) (v4 : Int32) (t0 : Int32) (σ : mj_S) (R : (Int32 × mj_S)), b_X10_workOut_66 K33 v3 v4 t0 σ = some R → mj_W p l e (mj_rm 104) s m args below meth c G 0 0 8 (MQ below (mj_Q G (some (.int R.1)) R.2) args s 0 0 G.2.2.2) 66 [(0, .ref (G.2.1 64)), (3, .int v3), (4, .int v4)] [.int t0] σ := by
  intro v3 v4 t0 σ R hF
  unfold b_X10_workOut_66 at hF
  refine mj_istore C dX10_workOut_66 (by decide) ?_
  refine mj_aload_n C dX10_workOut_68 rfl ?_
  obtain ⟨r13, hq13, hF⟩ := mj_ob hF
  refine mj_callVi C (c_X10_either σ r13 hq13) yv_X10_either kl_X10_199 (mo_64 G _) rfl rfl rfl rfl (Nat.le_of_ble_eq_true rfl) (mj_roomC (by decide) (by decide)) ⟨Nat.zero_le _, Nat.zero_le _⟩ dX10_workOut_69 ?_
  refine mj_istore C dX10_workOut_72 (by decide) ?_
  refine mj_to ?_ (w_X10_workOut_74 C hr hlk hK33 v3 v4 r13.1 t0 r13.2 R hF)
  exact ⟨rfl, rfl, rfl, rfl, rfl, trivial⟩
set_option maxRecDepth 100000 in
set_option maxHeartbeats 4000000 in
theorem w_X10_workOut_33 {p : Program} {l : Launch} {e : Env} {s : State} {m : MethodId} {args : Array Value} {below : List Frame} {meth : Method} {c : Code} {G : mj_G} (C : mj_X p s m args meth c G cX10_workOut 8 RX10) (hr : meth.sig.returnType = some .int) (hlk : meth.locks = false) : ∀ (n : Nat) (v3 : Int32) (v4 : Int32) (v5 : Int32) (σ : mj_S) (R : (Int32 × mj_S)), b_X10_workOut_33 n v3 v4 v5 σ = some R → mj_W p l e (mj_rm 104) s m args below meth c G 0 0 8 (MQ below (mj_Q G (some (.int R.1)) R.2) args s 0 0 G.2.2.2) 33 [(0, .ref (G.2.1 64)), (3, .int v3), (4, .int v4), (5, .int v5)] [] σ := by
  intro n
  induction n with
  | zero =>
    intro v3 v4 v5 σ R hF
    cases hF
  | succ n ih =>
    intro v3 v4 v5 σ R hF
    rw [b_X10_workOut_33] at hF
    refine mj_iload C dX10_workOut_33 rfl ?_
    refine mj_if_eq C dX10_workOut_35 rfl hF (fun hc1 hF => ?_) (fun hc1 hF => ?_)
    · refine mj_aload_n C dX10_workOut_107 rfl ?_
      refine mg_X10_168 C dX10_workOut_108 ?_
      refine mj_if_ge C dX10_workOut_111 rfl hF (fun hc2 hF => ?_) (fun hc2 hF => ?_)
      · refine mj_iload C dX10_workOut_130 rfl ?_
        have hF := mj_oi hF; subst hF
        exact mj_iret C hr hlk dX10_workOut_132
      · refine mj_aload_n C dX10_workOut_114 rfl ?_
        refine mg_X10_159 C dX10_workOut_115 ?_
        refine mj_aload_n C dX10_workOut_118 rfl ?_
        refine mg_X10_162 C dX10_workOut_119 ?_
        refine mj_ic_ge C dX10_workOut_122 rfl hF (fun hc3 hF => ?_) (fun hc3 hF => ?_)
        · refine mj_iload C dX10_workOut_130 rfl ?_
          have hF := mj_oi hF; subst hF
          exact mj_iret C hr hlk dX10_workOut_132
        · refine mj_aload_n C dX10_workOut_125 rfl ?_
          refine mj_callVi C (c_X10_wrong σ) yv_X10_wrong kl_X10_196 (mo_64 G _) rfl rfl rfl rfl (Nat.le_of_ble_eq_true rfl) (mj_roomC (by decide) (by decide)) ⟨Nat.zero_le _, Nat.zero_le _⟩ dX10_workOut_126 ?_
          replace hF := mj_letE hF
          generalize f_X10_wrong σ = r4 at hF ⊢
          have hF := mj_oi hF; subst hF
          exact mj_iret C hr hlk dX10_workOut_129
    · refine mj_aload_n C dX10_workOut_38 rfl ?_
      obtain ⟨r5, hq5, hF⟩ := mj_ob hF
      refine mj_callVi C (c_X10_either σ r5 hq5) yv_X10_either kl_X10_199 (mo_64 G _) rfl rfl rfl rfl (Nat.le_of_ble_eq_true rfl) (mj_roomC (by decide) (by decide)) ⟨Nat.zero_le _, Nat.zero_le _⟩ dX10_workOut_39 ?_
      refine mj_istore C dX10_workOut_42 (by decide) ?_
      refine mj_iconstV (v := 1) C dX10_workOut_44 mc_i_1 ?_
      refine mj_istore C dX10_workOut_45 (by decide) ?_
      refine mj_aload_n C dX10_workOut_47 rfl ?_
      refine mj_bipushV (v := 63) C dX10_workOut_48 mc_b_63 ?_
      obtain ⟨r6, hq6, hF⟩ := mj_ob hF
      refine mj_callVi C (c_X10_takes r5.2 63 r6 hq6) yv_X10_takes kl_X10_178 (mo_64 G _) rfl rfl rfl rfl (Nat.le_of_ble_eq_true rfl) (mj_roomC (by decide) (by decide)) ⟨Nat.zero_le _, Nat.zero_le _⟩ dX10_workOut_50 ?_
      refine mj_if_eq C dX10_workOut_53 rfl hF (fun hc7 hF => ?_) (fun hc7 hF => ?_)
      · refine mj_to ?_ (w_X10_workOut_74 C hr hlk ih v3 v4 r5.1 1 r6.2 R hF)
        exact ⟨rfl, rfl, rfl, rfl, rfl, trivial⟩
      · refine mj_iload C dX10_workOut_56 rfl ?_
        refine mj_if_eq C dX10_workOut_58 rfl hF (fun hc12 hF => ?_) (fun hc12 hF => ?_)
        · refine mj_iconstV (v := 0) C dX10_workOut_65 mc_i_0 ?_
          refine mj_to ?_ (w_X10_workOut_66 C hr hlk ih v3 v4 0 r6.2 R hF)
          exact ⟨rfl, rfl, rfl, trivial⟩
        · refine mj_iconstV (v := 1) C dX10_workOut_61 mc_i_1 ?_
          refine mj_goto C dX10_workOut_62 rfl ?_
          refine mj_to ?_ (w_X10_workOut_66 C hr hlk ih v3 v4 1 r6.2 R hF)
          exact ⟨rfl, rfl, rfl, trivial⟩
set_option maxRecDepth 100000 in
set_option maxHeartbeats 4000000 in
theorem c_X10_workOut {G : mj_G} {l : Launch} (σ : mj_S) (p1 : Int32) (p2 : Int32) (R : (Int32 × mj_S)) (hF : f_X10_workOut σ p1 p2 = some R) : mj_C G l yX10_workOut cX10_workOut 8 (some .int) 104 [.ref (G.2.1 64), .int p1, .int p2] σ (some (.int R.1)) R.2 := by
  unfold f_X10_workOut at hF
  refine mj_of (ls := [(0, .ref (G.2.1 64)), (1, .int p1), (2, .int p2)]) (by decide) (Nat.le_of_ble_eq_true rfl) rfl (fun p e s m args below meth c C hr hlk => ?_)
  refine mj_aload_n C dX10_workOut_0 rfl ?_
  refine mj_iload_n C dX10_workOut_1 rfl ?_
  refine mp_X10_165 C dX10_workOut_2 ?_
  refine mj_aload_n C dX10_workOut_5 rfl ?_
  refine mj_iconstV (v := 0) C dX10_workOut_6 mc_i_0 ?_
  refine mp_X10_159 C dX10_workOut_7 ?_
  refine mj_aload_n C dX10_workOut_10 rfl ?_
  refine mj_iload_n C dX10_workOut_11 rfl ?_
  refine mp_X10_162 C dX10_workOut_12 ?_
  refine mj_aload_n C dX10_workOut_15 rfl ?_
  refine mj_iconstV (v := (-1)) C dX10_workOut_16 mc_i_m1 ?_
  refine mp_X10_168 C dX10_workOut_17 ?_
  refine mj_aload_n C dX10_workOut_20 rfl ?_
  refine mj_iconstV (v := 0) C dX10_workOut_21 mc_i_0 ?_
  refine mp_X10_193 C dX10_workOut_22 ?_
  refine mj_iconstV (v := 0) C dX10_workOut_25 mc_i_0 ?_
  refine mj_istore_n C dX10_workOut_26 (by decide) ?_
  refine mj_iconstV (v := 0) C dX10_workOut_27 mc_i_0 ?_
  refine mj_istore C dX10_workOut_28 (by decide) ?_
  refine mj_iconstV (v := 1) C dX10_workOut_30 mc_i_1 ?_
  refine mj_istore C dX10_workOut_31 (by decide) ?_
  refine mj_to ?_ (w_X10_workOut_33 C hr hlk mj_fu 0 0 1 (mj_sI (mj_sI (mj_sI (mj_sI (mj_sI σ 64 19 p1) 64 20 0) 64 21 p2) 64 22 (-1)) 64 23 0) R hF)
  exact ⟨rfl, rfl, rfl, rfl, trivial⟩
set_option maxRecDepth 100000 in
set_option maxHeartbeats 4000000 in
theorem w_X10_law_37 {p : Program} {l : Launch} {e : Env} {s : State} {m : MethodId} {args : Array Value} {below : List Frame} {meth : Method} {c : Code} {G : mj_G} (C : mj_X p s m args meth c G cX10_law 4 RX10) (hr : meth.sig.returnType = some .int) (hlk : meth.locks = false) : ∀ (n : Nat) (v2 : Int32) (v3 : Int32) (σ : mj_S) (R : (Int32 × mj_S)), b_X10_law_37 n v2 v3 σ = some R → mj_W p l e (mj_rm 105) s m args below meth c G 0 0 4 (MQ below (mj_Q G (some (.int R.1)) R.2) args s 0 0 G.2.2.2) 37 [(0, .ref (G.2.1 64)), (2, .int v2), (3, .int v3)] [] σ := by
  intro n
  induction n with
  | zero =>
    intro v2 v3 σ R hF
    cases hF
  | succ n ih =>
    intro v2 v3 σ R hF
    rw [b_X10_law_37] at hF
    refine mj_iload_n C dX10_law_37 rfl ?_
    refine mj_iload_n C dX10_law_38 rfl ?_
    refine mj_ic_ge C dX10_law_39 rfl hF (fun hc3 hF => ?_) (fun hc3 hF => ?_)
    · refine mj_aload_n C dX10_law_60 rfl ?_
      refine mj_iload_n C dX10_law_61 rfl ?_
      refine mp_X10_90 C dX10_law_62 ?_
      refine mj_aload_n C dX10_law_65 rfl ?_
      refine mj_iconstV (v := 0) C dX10_law_66 mc_i_0 ?_
      refine mp_X10_103 C rfl rfl dX10_law_67 ?_
      refine mj_iconstV (v := 1) C dX10_law_70 mc_i_1 ?_
      have hF := mj_oi hF; subst hF
      exact mj_iret C hr hlk dX10_law_71
    · refine mj_aload_n C dX10_law_42 rfl ?_
      refine mg_X10_43 C dX10_law_43 ?_
      refine mj_iload_n C dX10_law_46 rfl ?_
      refine mj_aload_n C dX10_law_47 rfl ?_
      refine mg_X10_40 C dX10_law_48 ?_
      refine mj_iload_n C dX10_law_51 rfl ?_
      obtain ⟨hg4, hF⟩ := mj_og hF
      refine mj_iaload C dX10_law_52 rfl hg4 ?_
      obtain ⟨hg5, hF⟩ := mj_og hF
      refine mj_iastore C dX10_law_53 rfl hg5 ?_
      refine mj_iinc (v := v3 + 1) C dX10_law_54 rfl rfl (by decide) ?_
      refine mj_goto C dX10_law_57 rfl ?_
      refine mj_to ?_ (ih v2 (v3 + 1) (mj_sI σ 76 v3.toNatClampNeg (σ.1 75 v3.toNatClampNeg)) R hF)
      exact ⟨rfl, rfl, rfl, trivial⟩
set_option maxRecDepth 100000 in
set_option maxHeartbeats 4000000 in
theorem c_X10_law {G : mj_G} {l : Launch} (σ : mj_S) (R : (Int32 × mj_S)) (hF : f_X10_law σ = some R) : mj_C G l yX10_law cX10_law 4 (some .int) 105 [.ref (G.2.1 64)] σ (some (.int R.1)) R.2 := by
  unfold f_X10_law at hF
  refine mj_of (ls := [(0, .ref (G.2.1 64))]) (by decide) (Nat.le_of_ble_eq_true rfl) rfl (fun p e s m args below meth c C hr hlk => ?_)
  refine mj_aload_n C dX10_law_0 rfl ?_
  refine mj_iconstV (v := (-1)) C dX10_law_1 mc_i_m1 ?_
  refine mj_aload_n C dX10_law_2 rfl ?_
  refine mg_X10_156 C dX10_law_3 ?_
  obtain ⟨r1, hq1, hF⟩ := mj_ob hF
  refine mj_callVi C (c_X10_workOut σ (-1) (σ.1 64 16) r1 hq1) yv_X10_workOut kl_X10_205 (mo_64 G _) rfl rfl rfl rfl (Nat.le_of_ble_eq_true rfl) (mj_roomC (by decide) (by decide)) ⟨Nat.zero_le _, Nat.zero_le _⟩ dX10_law_6 ?_
  refine mj_istore_n C dX10_law_9 (by decide) ?_
  refine mj_aload_n C dX10_law_10 rfl ?_
  refine mg_X10_156 C dX10_law_11 ?_
  refine mj_istore_n C dX10_law_14 (by decide) ?_
  refine mj_aload_n C dX10_law_15 rfl ?_
  refine mj_iconstV (v := 0) C dX10_law_16 mc_i_0 ?_
  refine mp_X10_156 C dX10_law_17 ?_
  refine mj_aload_n C dX10_law_20 rfl ?_
  refine mg_X10_168 C dX10_law_21 ?_
  refine mj_if_lt C dX10_law_24 rfl hF (fun hc2 hF => ?_) (fun hc2 hF => ?_)
  · refine mj_iconstV (v := 0) C dX10_law_35 mc_i_0 ?_
    refine mj_istore_n C dX10_law_36 (by decide) ?_
    refine mj_to ?_ (w_X10_law_37 C hr hlk mj_fu (r1.2.1 64 16) 0 (mj_sI r1.2 64 16 0) R hF)
    exact ⟨rfl, rfl, rfl, trivial⟩
  · refine mj_bipushV (v := (-100)) C dX10_law_27 mc_b_m100 ?_
    refine mj_aload_n C dX10_law_29 rfl ?_
    refine mg_X10_168 C dX10_law_30 ?_
    refine mj_isub C dX10_law_33 ?_
    have hF := mj_oi hF; subst hF
    exact mj_iret C hr hlk dX10_law_34
set_option maxRecDepth 100000 in
set_option maxHeartbeats 4000000 in
theorem c_X10_growsBy {G : mj_G} {l : Launch} (σ : mj_S) (p1 : Int32) (p2 : Int32) (p3 : Int32) (p4 : Int32) (p5 : Int32) (p6 : Int32) (R : (Int32 × mj_S)) (hF : f_X10_growsBy σ p1 p2 p3 p4 p5 p6 = some R) : mj_C G l yX10_growsBy cX10_growsBy 9 (some .int) 105 [.ref (G.2.1 64), .int p1, .int p2, .int p3, .int p4, .int p5, .int p6] σ (some (.int R.1)) R.2 := by
  unfold f_X10_growsBy at hF
  refine mj_of (ls := [(0, .ref (G.2.1 64)), (1, .int p1), (2, .int p2), (3, .int p3), (4, .int p4), (5, .int p5), (6, .int p6)]) (by decide) (Nat.le_of_ble_eq_true rfl) rfl (fun p e s m args below meth c C hr hlk => ?_)
  refine mj_iload C dX10_growsBy_0 rfl ?_
  refine mj_aload_n C dX10_growsBy_2 rfl ?_
  refine mg_X10_22 C dX10_growsBy_3 ?_
  refine mj_iload_n C dX10_growsBy_6 rfl ?_
  obtain ⟨hg1, hF⟩ := mj_og hF
  refine mj_iaload C dX10_growsBy_7 rfl hg1 ?_
  refine mj_isub C dX10_growsBy_8 ?_
  refine mj_iload_n C dX10_growsBy_9 rfl ?_
  refine mj_isub C dX10_growsBy_10 ?_
  refine mj_istore C dX10_growsBy_11 (by decide) ?_
  refine mj_aload_n C dX10_growsBy_13 rfl ?_
  refine mg_X10_90 C dX10_growsBy_14 ?_
  refine mj_if_ge C dX10_growsBy_17 rfl hF (fun hc2 hF => ?_) (fun hc2 hF => ?_)
  · refine mj_aload_n C dX10_growsBy_72 rfl ?_
    refine mg_X10_46 C dX10_growsBy_73 ?_
    refine mj_iconstV (v := 0) C dX10_growsBy_76 mc_i_0 ?_
    refine mj_iload C dX10_growsBy_77 rfl ?_
    refine mj_iastore C dX10_growsBy_79 rfl (by decide) ?_
    refine mj_aload_n C dX10_growsBy_80 rfl ?_
    refine mg_X10_46 C dX10_growsBy_81 ?_
    refine mj_iconstV (v := 1) C dX10_growsBy_84 mc_i_1 ?_
    refine mj_aload_n C dX10_growsBy_85 rfl ?_
    refine mg_X10_25 C dX10_growsBy_86 ?_
    refine mj_iload_n C dX10_growsBy_89 rfl ?_
    obtain ⟨hg3, hF⟩ := mj_og hF
    refine mj_iaload C dX10_growsBy_90 rfl hg3 ?_
    refine mj_iastore C dX10_growsBy_91 rfl (by decide) ?_
    refine mj_aload_n C dX10_growsBy_92 rfl ?_
    refine mg_X10_46 C dX10_growsBy_93 ?_
    refine mj_iconstV (v := 2) C dX10_growsBy_96 mc_i_2 ?_
    refine mj_iload_n C dX10_growsBy_97 rfl ?_
    refine mj_iastore C dX10_growsBy_98 rfl (by decide) ?_
    refine mj_aload_n C dX10_growsBy_99 rfl ?_
    refine mg_X10_46 C dX10_growsBy_100 ?_
    refine mj_iconstV (v := 3) C dX10_growsBy_103 mc_i_3 ?_
    refine mj_iload C dX10_growsBy_104 rfl ?_
    refine mj_bipushV (v := 64) C dX10_growsBy_106 mc_b_64 ?_
    refine mj_idiv C dX10_growsBy_108 (by decide) ?_
    refine mj_iastore C dX10_growsBy_109 rfl (by decide) ?_
    refine mj_aload_n C dX10_growsBy_110 rfl ?_
    refine mg_X10_46 C dX10_growsBy_111 ?_
    refine mj_iconstV (v := 4) C dX10_growsBy_114 mc_i_4 ?_
    refine mj_iload C dX10_growsBy_115 rfl ?_
    refine mj_bipushV (v := 64) C dX10_growsBy_117 mc_b_64 ?_
    refine mj_idiv C dX10_growsBy_119 (by decide) ?_
    refine mj_iastore C dX10_growsBy_120 rfl (by decide) ?_
    refine mj_aload_n C dX10_growsBy_121 rfl ?_
    refine mg_X10_46 C dX10_growsBy_122 ?_
    refine mj_iconstV (v := 5) C dX10_growsBy_125 mc_i_5 ?_
    refine mj_iload C dX10_growsBy_126 rfl ?_
    refine mj_bipushV (v := 12) C dX10_growsBy_128 mc_b_12 ?_
    refine mj_irem C dX10_growsBy_130 (by decide) ?_
    refine mj_iastore C dX10_growsBy_131 rfl (by decide) ?_
    refine mj_aload_n C dX10_growsBy_132 rfl ?_
    refine mg_X10_46 C dX10_growsBy_133 ?_
    refine mj_bipushV (v := 6) C dX10_growsBy_136 mc_b_6 ?_
    refine mj_iload_n C dX10_growsBy_138 rfl ?_
    refine mj_iastore C dX10_growsBy_139 rfl (by decide) ?_
    refine mj_aload_n C dX10_growsBy_140 rfl ?_
    refine mj_iconstV (v := 0) C dX10_growsBy_141 mc_i_0 ?_
    refine mj_aload_n C dX10_growsBy_142 rfl ?_
    refine mg_X10_90 C dX10_growsBy_143 ?_
    obtain ⟨r4, hq4, hF⟩ := mj_ob hF
    refine mj_callVi C (c_X10_workOut (mj_sI (mj_sI (mj_sI (mj_sI (mj_sI (mj_sI (mj_sI σ 77 0 ((p6 - (σ.1 69 p1.toNatClampNeg)) - p2)) 77 1 (σ.1 70 p1.toNatClampNeg)) 77 2 p3) 77 3 (p4 / 64)) 77 4 (p5 / 64)) 77 5 (mj_rem p6 12)) 77 6 p1) 0 (σ.1 64 18) r4 hq4) yv_X10_workOut kl_X10_205 (mo_64 G _) rfl rfl rfl rfl (Nat.le_of_ble_eq_true rfl) (mj_roomC (by decide) (by decide)) ⟨Nat.zero_le _, Nat.zero_le _⟩ dX10_growsBy_146 ?_
    refine mj_istore C dX10_growsBy_149 (by decide) ?_
    refine mj_iload C dX10_growsBy_151 rfl ?_
    refine mj_if_ge C dX10_growsBy_153 rfl hF (fun hc5 hF => ?_) (fun hc5 hF => ?_)
    · refine mj_iload C dX10_growsBy_160 rfl ?_
      refine mj_bipushV (v := 99) C dX10_growsBy_162 mc_b_99 ?_
      refine mj_ic_le C dX10_growsBy_164 rfl hF (fun hc6 hF => ?_) (fun hc6 hF => ?_)
      · refine mj_iload C dX10_growsBy_172 rfl ?_
        have hF := mj_oi hF; subst hF
        exact mj_iret C hr hlk dX10_growsBy_174
      · refine mj_bipushV (v := 99) C dX10_growsBy_167 mc_b_99 ?_
        refine mj_goto C dX10_growsBy_169 rfl ?_
        have hF := mj_oi hF; subst hF
        exact mj_iret C hr hlk dX10_growsBy_174
    · refine mj_iconstV (v := 0) C dX10_growsBy_156 mc_i_0 ?_
      refine mj_goto C dX10_growsBy_157 rfl ?_
      have hF := mj_oi hF; subst hF
      exact mj_iret C hr hlk dX10_growsBy_174
  · refine mj_iload C dX10_growsBy_20 rfl ?_
    refine mj_bipushV (v := 12) C dX10_growsBy_22 mc_b_12 ?_
    refine mj_ic_ge C dX10_growsBy_24 rfl hF (fun hc7 hF => ?_) (fun hc7 hF => ?_)
    · refine mj_iload C dX10_growsBy_32 rfl ?_
      refine mj_sipushV (v := 132) C dX10_growsBy_34 mc_s_132 ?_
      refine mj_ic_ge C dX10_growsBy_37 rfl hF (fun hc8 hF => ?_) (fun hc8 hF => ?_)
      · refine mj_iload C dX10_growsBy_45 rfl ?_
        refine mj_sipushV (v := 168) C dX10_growsBy_47 mc_s_168 ?_
        refine mj_ic_ge C dX10_growsBy_50 rfl hF (fun hc9 hF => ?_) (fun hc9 hF => ?_)
        · refine mj_iload C dX10_growsBy_58 rfl ?_
          refine mj_sipushV (v := 204) C dX10_growsBy_60 mc_s_204 ?_
          refine mj_ic_ge C dX10_growsBy_63 rfl hF (fun hc10 hF => ?_) (fun hc10 hF => ?_)
          · refine mj_iconstV (v := 0) C dX10_growsBy_70 mc_i_0 ?_
            have hF := mj_oi hF; subst hF
            exact mj_iret C hr hlk dX10_growsBy_71
          · refine mj_iconstV (v := 4) C dX10_growsBy_66 mc_i_4 ?_
            refine mj_goto C dX10_growsBy_67 rfl ?_
            have hF := mj_oi hF; subst hF
            exact mj_iret C hr hlk dX10_growsBy_71
        · refine mj_bipushV (v := 20) C dX10_growsBy_53 mc_b_20 ?_
          refine mj_goto C dX10_growsBy_55 rfl ?_
          have hF := mj_oi hF; subst hF
          exact mj_iret C hr hlk dX10_growsBy_71
      · refine mj_bipushV (v := 16) C dX10_growsBy_40 mc_b_16 ?_
        refine mj_goto C dX10_growsBy_42 rfl ?_
        have hF := mj_oi hF; subst hF
        exact mj_iret C hr hlk dX10_growsBy_71
    · refine mj_bipushV (v := 40) C dX10_growsBy_27 mc_b_40 ?_
      refine mj_goto C dX10_growsBy_29 rfl ?_
      have hF := mj_oi hF; subst hF
      exact mj_iret C hr hlk dX10_growsBy_71
set_option maxRecDepth 100000 in
set_option maxHeartbeats 4000000 in
theorem w_X10_growsUp_108 {p : Program} {l : Launch} {e : Env} {s : State} {m : MethodId} {args : Array Value} {below : List Frame} {meth : Method} {c : Code} {G : mj_G} {K11 : Int32 → Int32 → Int32 → Int32 → Int32 → Int32 → mj_S → Option mj_S} (C : mj_X p s m args meth c G cX10_growsUp 7 RX10) (hr : meth.sig.returnType = none) (hlk : meth.locks = false) (hK11 : ∀ (v1 : Int32) (v2 : Int32) (v3 : Int32) (v4 : Int32) (v5 : Int32) (v6 : Int32) (σ : mj_S) (R : mj_S), K11 v1 v2 v3 v4 v5 v6 σ = some R → mj_W p l e (mj_rm 106) s m args below meth c G 0 0 7 (MQ below (mj_Q G none R) args s 0 0 G.2.2.2) 11 [(0, .ref (G.2.1 64)), (1, .int v1), (2, .int v2), (3, .int v3), (4, .int v4), (5, .int v5), (6, .int v6)] [] σ) : ∀ (v1 : Int32) (v2 : Int32) (v3 : Int32) (v4 : Int32) (v5 : Int32) (v6 : Int32) (t1 : Int32) (t2 : Int32) (σ : mj_S) (R : mj_S), b_X10_growsUp_108 K11 v1 v2 v3 v4 v5 v6 t1 t2 σ = some R → mj_W p l e (mj_rm 106) s m args below meth c G 0 0 7 (MQ below (mj_Q G none R) args s 0 0 G.2.2.2) 108 [(0, .ref (G.2.1 64)), (1, .int v1), (2, .int v2), (3, .int v3), (4, .int v4), (5, .int v5), (6, .int v6)] [.int t2, .int t1, .ref (G.2.1 78)] σ := by
  intro v1 v2 v3 v4 v5 v6 t1 t2 σ R hF
  unfold b_X10_growsUp_108 at hF
  obtain ⟨hg7, hF⟩ := mj_og hF
  refine mj_iastore C dX10_growsUp_108 rfl hg7 ?_
  refine mj_iinc (v := v6 + 1) C dX10_growsUp_109 rfl rfl (by decide) ?_
  refine mj_goto C dX10_growsUp_112 rfl ?_
  refine mj_to ?_ (hK11 v1 v2 v3 v4 v5 (v6 + 1) (mj_sI σ 78 t1.toNatClampNeg t2) R hF)
  exact ⟨rfl, rfl, rfl, rfl, rfl, rfl, rfl, trivial⟩
set_option maxRecDepth 100000 in
set_option maxHeartbeats 4000000 in
theorem w_X10_growsUp_79 {p : Program} {l : Launch} {e : Env} {s : State} {m : MethodId} {args : Array Value} {below : List Frame} {meth : Method} {c : Code} {G : mj_G} {K11 : Int32 → Int32 → Int32 → Int32 → Int32 → Int32 → mj_S → Option mj_S} (C : mj_X p s m args meth c G cX10_growsUp 7 RX10) (hr : meth.sig.returnType = none) (hlk : meth.locks = false) (hK11 : ∀ (v1 : Int32) (v2 : Int32) (v3 : Int32) (v4 : Int32) (v5 : Int32) (v6 : Int32) (σ : mj_S) (R : mj_S), K11 v1 v2 v3 v4 v5 v6 σ = some R → mj_W p l e (mj_rm 106) s m args below meth c G 0 0 7 (MQ below (mj_Q G none R) args s 0 0 G.2.2.2) 11 [(0, .ref (G.2.1 64)), (1, .int v1), (2, .int v2), (3, .int v3), (4, .int v4), (5, .int v5), (6, .int v6)] [] σ) : ∀ (v1 : Int32) (v2 : Int32) (v3 : Int32) (v4 : Int32) (v5 : Int32) (v6 : Int32) (σ : mj_S) (R : mj_S), b_X10_growsUp_79 K11 v1 v2 v3 v4 v5 v6 σ = some R → mj_W p l e (mj_rm 106) s m args below meth c G 0 0 7 (MQ below (mj_Q G none R) args s 0 0 G.2.2.2) 79 [(0, .ref (G.2.1 64)), (1, .int v1), (2, .int v2), (3, .int v3), (4, .int v4), (5, .int v5), (6, .int v6)] [] σ := by
  intro v1 v2 v3 v4 v5 v6 σ R hF
  unfold b_X10_growsUp_79 at hF
  refine mj_aload_n C dX10_growsUp_79 rfl ?_
  refine mg_X10_49 C dX10_growsUp_80 ?_
  refine mj_sipushV (v := 600) C dX10_growsUp_83 mc_s_600 ?_
  refine mj_iload_n C dX10_growsUp_86 rfl ?_
  refine mj_imul C dX10_growsUp_87 ?_
  refine mj_iload C dX10_growsUp_88 rfl ?_
  refine mj_iadd C dX10_growsUp_90 ?_
  refine mj_iload C dX10_growsUp_91 rfl ?_
  refine mj_aload_n C dX10_growsUp_93 rfl ?_
  refine mg_X10_22 C dX10_growsUp_94 ?_
  refine mj_iload_n C dX10_growsUp_97 rfl ?_
  obtain ⟨hg5, hF⟩ := mj_og hF
  refine mj_iaload C dX10_growsUp_98 rfl hg5 ?_
  refine mj_ic_ge C dX10_growsUp_99 rfl hF (fun hc6 hF => ?_) (fun hc6 hF => ?_)
  · refine mj_iload C dX10_growsUp_106 rfl ?_
    refine mj_to ?_ (w_X10_growsUp_108 C hr hlk hK11 v1 v2 v3 v4 v5 v6 ((600 * v1) + v6) v5 σ R hF)
    exact ⟨rfl, rfl, rfl, rfl, rfl, rfl, rfl, trivial⟩
  · refine mj_iconstV (v := 0) C dX10_growsUp_102 mc_i_0 ?_
    refine mj_goto C dX10_growsUp_103 rfl ?_
    refine mj_to ?_ (w_X10_growsUp_108 C hr hlk hK11 v1 v2 v3 v4 v5 v6 ((600 * v1) + v6) 0 σ R hF)
    exact ⟨rfl, rfl, rfl, rfl, rfl, rfl, rfl, trivial⟩
set_option maxRecDepth 100000 in
set_option maxHeartbeats 4000000 in
theorem w_X10_growsUp_77 {p : Program} {l : Launch} {e : Env} {s : State} {m : MethodId} {args : Array Value} {below : List Frame} {meth : Method} {c : Code} {G : mj_G} {K11 : Int32 → Int32 → Int32 → Int32 → Int32 → Int32 → mj_S → Option mj_S} (C : mj_X p s m args meth c G cX10_growsUp 7 RX10) (hr : meth.sig.returnType = none) (hlk : meth.locks = false) (hK11 : ∀ (v1 : Int32) (v2 : Int32) (v3 : Int32) (v4 : Int32) (v5 : Int32) (v6 : Int32) (σ : mj_S) (R : mj_S), K11 v1 v2 v3 v4 v5 v6 σ = some R → mj_W p l e (mj_rm 106) s m args below meth c G 0 0 7 (MQ below (mj_Q G none R) args s 0 0 G.2.2.2) 11 [(0, .ref (G.2.1 64)), (1, .int v1), (2, .int v2), (3, .int v3), (4, .int v4), (5, .int v5), (6, .int v6)] [] σ) : ∀ (v1 : Int32) (v2 : Int32) (v3 : Int32) (v4 : Int32) (v6 : Int32) (t0 : Int32) (σ : mj_S) (R : mj_S), b_X10_growsUp_77 K11 v1 v2 v3 v4 v6 t0 σ = some R → mj_W p l e (mj_rm 106) s m args below meth c G 0 0 7 (MQ below (mj_Q G none R) args s 0 0 G.2.2.2) 77 [(0, .ref (G.2.1 64)), (1, .int v1), (2, .int v2), (3, .int v3), (4, .int v4), (6, .int v6)] [.int t0] σ := by
  intro v1 v2 v3 v4 v6 t0 σ R hF
  unfold b_X10_growsUp_77 at hF
  refine mj_istore C dX10_growsUp_77 (by decide) ?_
  refine mj_to ?_ (w_X10_growsUp_79 C hr hlk hK11 v1 v2 v3 v4 t0 v6 σ R hF)
  exact ⟨rfl, rfl, rfl, rfl, rfl, rfl, rfl, trivial⟩
set_option maxRecDepth 100000 in
set_option maxHeartbeats 4000000 in
theorem w_X10_growsUp_50 {p : Program} {l : Launch} {e : Env} {s : State} {m : MethodId} {args : Array Value} {below : List Frame} {meth : Method} {c : Code} {G : mj_G} {K11 : Int32 → Int32 → Int32 → Int32 → Int32 → Int32 → mj_S → Option mj_S} (C : mj_X p s m args meth c G cX10_growsUp 7 RX10) (hr : meth.sig.returnType = none) (hlk : meth.locks = false) (hK11 : ∀ (v1 : Int32) (v2 : Int32) (v3 : Int32) (v4 : Int32) (v5 : Int32) (v6 : Int32) (σ : mj_S) (R : mj_S), K11 v1 v2 v3 v4 v5 v6 σ = some R → mj_W p l e (mj_rm 106) s m args below meth c G 0 0 7 (MQ below (mj_Q G none R) args s 0 0 G.2.2.2) 11 [(0, .ref (G.2.1 64)), (1, .int v1), (2, .int v2), (3, .int v3), (4, .int v4), (5, .int v5), (6, .int v6)] [] σ) : ∀ (v1 : Int32) (v2 : Int32) (v3 : Int32) (v4 : Int32) (v5 : Int32) (v6 : Int32) (t0 : Int32) (t2 : Int32) (t3 : Int32) (t4 : Int32) (σ : mj_S) (R : mj_S), b_X10_growsUp_50 K11 v1 v2 v3 v4 v5 v6 t0 t2 t3 t4 σ = some R → mj_W p l e (mj_rm 106) s m args below meth c G 0 0 7 (MQ below (mj_Q G none R) args s 0 0 G.2.2.2) 50 [(0, .ref (G.2.1 64)), (1, .int v1), (2, .int v2), (3, .int v3), (4, .int v4), (5, .int v5), (6, .int v6)] [.int t4, .int t3, .int t2, .ref (G.2.1 64), .int t0] σ := by
  intro v1 v2 v3 v4 v5 v6 t0 t2 t3 t4 σ R hF
  unfold b_X10_growsUp_50 at hF
  refine mj_iload C dX10_growsUp_50 rfl ?_
  refine mj_iload_n C dX10_growsUp_52 rfl ?_
  refine mj_iload C dX10_growsUp_53 rfl ?_
  obtain ⟨r9, hq9, hF⟩ := mj_ob hF
  refine mj_callVi C (c_X10_growsBy σ t2 t3 t4 v5 v3 v6 r9 hq9) yv_X10_growsBy kl_X10_209 (mo_64 G _) rfl rfl rfl rfl (Nat.le_of_ble_eq_true rfl) (mj_roomC (by decide) (by decide)) ⟨Nat.zero_le _, Nat.zero_le _⟩ dX10_growsUp_55 ?_
  refine mj_iadd C dX10_growsUp_58 ?_
  refine mj_istore C dX10_growsUp_59 (by decide) ?_
  refine mj_iload C dX10_growsUp_61 rfl ?_
  refine mj_sipushV (v := 8000) C dX10_growsUp_63 mc_s_8000 ?_
  refine mj_ic_le C dX10_growsUp_66 rfl hF (fun hc10 hF => ?_) (fun hc10 hF => ?_)
  · refine mj_iload C dX10_growsUp_75 rfl ?_
    refine mj_to ?_ (w_X10_growsUp_77 C hr hlk hK11 v1 v2 v3 v4 v6 (t0 + r9.1) r9.2 R hF)
    exact ⟨rfl, rfl, rfl, rfl, rfl, rfl, trivial⟩
  · refine mj_sipushV (v := 8000) C dX10_growsUp_69 mc_s_8000 ?_
    refine mj_goto C dX10_growsUp_72 rfl ?_
    refine mj_to ?_ (w_X10_growsUp_77 C hr hlk hK11 v1 v2 v3 v4 v6 8000 r9.2 R hF)
    exact ⟨rfl, rfl, rfl, rfl, rfl, rfl, trivial⟩
set_option maxRecDepth 100000 in
set_option maxHeartbeats 4000000 in
theorem w_X10_growsUp_11 {p : Program} {l : Launch} {e : Env} {s : State} {m : MethodId} {args : Array Value} {below : List Frame} {meth : Method} {c : Code} {G : mj_G} (C : mj_X p s m args meth c G cX10_growsUp 7 RX10) (hr : meth.sig.returnType = none) (hlk : meth.locks = false) : ∀ (n : Nat) (v1 : Int32) (v2 : Int32) (v3 : Int32) (v4 : Int32) (v5 : Int32) (v6 : Int32) (σ : mj_S) (R : mj_S), b_X10_growsUp_11 n v1 v2 v3 v4 v5 v6 σ = some R → mj_W p l e (mj_rm 106) s m args below meth c G 0 0 7 (MQ below (mj_Q G none R) args s 0 0 G.2.2.2) 11 [(0, .ref (G.2.1 64)), (1, .int v1), (2, .int v2), (3, .int v3), (4, .int v4), (5, .int v5), (6, .int v6)] [] σ := by
  intro n
  induction n with
  | zero =>
    intro v1 v2 v3 v4 v5 v6 σ R hF
    cases hF
  | succ n ih =>
    intro v1 v2 v3 v4 v5 v6 σ R hF
    rw [b_X10_growsUp_11] at hF
    refine mj_iload C dX10_growsUp_11 rfl ?_
    refine mj_sipushV (v := 600) C dX10_growsUp_13 mc_s_600 ?_
    refine mj_ic_ge C dX10_growsUp_16 rfl hF (fun hc2 hF => ?_) (fun hc2 hF => ?_)
    · have hF := mj_oi hF; subst hF
      exact mj_vret C hr hlk dX10_growsUp_115
    · refine mj_iload C dX10_growsUp_19 rfl ?_
      refine mj_aload_n C dX10_growsUp_21 rfl ?_
      refine mg_X10_22 C dX10_growsUp_22 ?_
      refine mj_iload_n C dX10_growsUp_25 rfl ?_
      obtain ⟨hg3, hF⟩ := mj_og hF
      refine mj_iaload C dX10_growsUp_26 rfl hg3 ?_
      refine mj_ic_le C dX10_growsUp_27 rfl hF (fun hc4 hF => ?_) (fun hc4 hF => ?_)
      · refine mj_to ?_ (w_X10_growsUp_79 C hr hlk ih v1 v2 v3 v4 v5 v6 σ R hF)
        exact ⟨rfl, rfl, rfl, rfl, rfl, rfl, rfl, trivial⟩
      · refine mj_iload C dX10_growsUp_30 rfl ?_
        refine mj_aload_n C dX10_growsUp_32 rfl ?_
        refine mj_iload_n C dX10_growsUp_33 rfl ?_
        refine mj_iload_n C dX10_growsUp_34 rfl ?_
        refine mj_iload C dX10_growsUp_35 rfl ?_
        refine mj_if_eq C dX10_growsUp_37 rfl hF (fun hc8 hF => ?_) (fun hc8 hF => ?_)
        · refine mj_iconstV (v := 0) C dX10_growsUp_49 mc_i_0 ?_
          refine mj_to ?_ (w_X10_growsUp_50 C hr hlk ih v1 v2 v3 v4 v5 v6 v5 v1 v2 0 σ R hF)
          exact ⟨rfl, rfl, rfl, rfl, rfl, rfl, rfl, trivial⟩
        · refine mj_aload_n C dX10_growsUp_40 rfl ?_
          refine mj_iload C dX10_growsUp_41 rfl ?_
          obtain ⟨r11, hq11, hF⟩ := mj_ob hF
          refine mj_callVi C (c_X10_wantOf σ v6 r11 hq11) yv_X10_wantOf kl_X10_150 (mo_64 G _) rfl rfl rfl rfl (Nat.le_of_ble_eq_true rfl) (mj_roomC (by decide) (by decide)) ⟨Nat.zero_le _, Nat.zero_le _⟩ dX10_growsUp_43 ?_
          refine mj_goto C dX10_growsUp_46 rfl ?_
          refine mj_to ?_ (w_X10_growsUp_50 C hr hlk ih v1 v2 v3 v4 v5 v6 v5 v1 v2 r11 σ R hF)
          exact ⟨rfl, rfl, rfl, rfl, rfl, rfl, rfl, trivial⟩
set_option maxRecDepth 100000 in
set_option maxHeartbeats 4000000 in
theorem c_X10_growsUp {G : mj_G} {l : Launch} (σ : mj_S) (p1 : Int32) (p2 : Int32) (p3 : Int32) (p4 : Int32) (R : mj_S) (hF : f_X10_growsUp σ p1 p2 p3 p4 = some R) : mj_C G l yX10_growsUp cX10_growsUp 7 (none) 106 [.ref (G.2.1 64), .int p1, .int p2, .int p3, .int p4] σ none R := by
  unfold f_X10_growsUp at hF
  refine mj_of (ls := [(0, .ref (G.2.1 64)), (1, .int p1), (2, .int p2), (3, .int p3), (4, .int p4)]) (by decide) (Nat.le_of_ble_eq_true rfl) rfl (fun p e s m args below meth c C hr hlk => ?_)
  refine mj_aload_n C dX10_growsUp_0 rfl ?_
  refine mg_X10_28 C dX10_growsUp_1 ?_
  refine mj_iload_n C dX10_growsUp_4 rfl ?_
  obtain ⟨hg1, hF⟩ := mj_og hF
  refine mj_iaload C dX10_growsUp_5 rfl hg1 ?_
  refine mj_istore C dX10_growsUp_6 (by decide) ?_
  refine mj_iconstV (v := 0) C dX10_growsUp_8 mc_i_0 ?_
  refine mj_istore C dX10_growsUp_9 (by decide) ?_
  refine mj_to ?_ (w_X10_growsUp_11 C hr hlk mj_fu p1 p2 p3 p4 (σ.1 71 p1.toNatClampNeg) 0 σ R hF)
  exact ⟨rfl, rfl, rfl, rfl, rfl, rfl, rfl, trivial⟩
set_option maxRecDepth 100000 in
set_option maxHeartbeats 4000000 in
theorem w_X10_allGrow_10 {p : Program} {l : Launch} {e : Env} {s : State} {m : MethodId} {args : Array Value} {below : List Frame} {meth : Method} {c : Code} {G : mj_G} (C : mj_X p s m args meth c G cX10_allGrow 2 RX10) (hr : meth.sig.returnType = none) (hlk : meth.locks = false) : ∀ (n : Nat) (v1 : Int32) (σ : mj_S) (R : mj_S), b_X10_allGrow_10 n v1 σ = some R → mj_W p l e (mj_rm 107) s m args below meth c G 0 0 2 (MQ below (mj_Q G none R) args s 0 0 G.2.2.2) 10 [(0, .ref (G.2.1 64)), (1, .int v1)] [] σ := by
  intro n
  induction n with
  | zero =>
    intro v1 σ R hF
    cases hF
  | succ n ih =>
    intro v1 σ R hF
    rw [b_X10_allGrow_10] at hF
    refine mj_iload_n C dX10_allGrow_10 rfl ?_
    refine mj_aload_n C dX10_allGrow_11 rfl ?_
    refine mg_X10_107 C dX10_allGrow_12 ?_
    refine mj_ic_ge C dX10_allGrow_15 rfl hF (fun hc2 hF => ?_) (fun hc2 hF => ?_)
    · refine mj_aload_n C dX10_allGrow_45 rfl ?_
      refine mj_iconstV (v := 1) C dX10_allGrow_46 mc_i_1 ?_
      refine mp_X10_103 C rfl rfl dX10_allGrow_47 ?_
      have hF := mj_oi hF; subst hF
      exact mj_vret C hr hlk dX10_allGrow_50
    · refine mj_aload_n C dX10_allGrow_18 rfl ?_
      refine mj_iload_n C dX10_allGrow_19 rfl ?_
      refine mj_aload_n C dX10_allGrow_20 rfl ?_
      refine mg_X10_9 C dX10_allGrow_21 ?_
      refine mj_iload_n C dX10_allGrow_24 rfl ?_
      obtain ⟨hg3, hF⟩ := mj_og hF
      refine mj_iaload C dX10_allGrow_25 rfl hg3 ?_
      refine mj_aload_n C dX10_allGrow_26 rfl ?_
      refine mg_X10_9 C dX10_allGrow_27 ?_
      refine mj_bipushV (v := 6) C dX10_allGrow_30 mc_b_6 ?_
      refine mj_iload_n C dX10_allGrow_32 rfl ?_
      refine mj_iadd C dX10_allGrow_33 ?_
      obtain ⟨hg4, hF⟩ := mj_og hF
      refine mj_iaload C dX10_allGrow_34 rfl hg4 ?_
      refine mj_iconstV (v := 1) C dX10_allGrow_35 mc_i_1 ?_
      obtain ⟨r5, hq5, hF⟩ := mj_ob hF
      refine mj_callVv C (c_X10_growsUp σ v1 (σ.1 65 v1.toNatClampNeg) (σ.1 65 (6 + v1).toNatClampNeg) 1 r5 hq5) yv_X10_growsUp kl_X10_213 (mo_64 G _) rfl rfl rfl rfl (Nat.le_of_ble_eq_true rfl) (mj_roomC (by decide) (by decide)) ⟨Nat.zero_le _, Nat.zero_le _⟩ dX10_allGrow_36 ?_
      refine mj_iinc (v := v1 + 1) C dX10_allGrow_39 rfl rfl (by decide) ?_
      refine mj_goto C dX10_allGrow_42 rfl ?_
      refine mj_to ?_ (ih (v1 + 1) r5 R hF)
      exact ⟨rfl, rfl, trivial⟩
set_option maxRecDepth 100000 in
set_option maxHeartbeats 4000000 in
theorem c_X10_allGrow {G : mj_G} {l : Launch} (σ : mj_S) (R : mj_S) (hF : f_X10_allGrow σ = some R) : mj_C G l yX10_allGrow cX10_allGrow 2 (none) 107 [.ref (G.2.1 64)] σ none R := by
  unfold f_X10_allGrow at hF
  refine mj_of (ls := [(0, .ref (G.2.1 64))]) (by decide) (Nat.le_of_ble_eq_true rfl) rfl (fun p e s m args below meth c C hr hlk => ?_)
  refine mj_aload_n C dX10_allGrow_0 rfl ?_
  refine mg_X10_103 C dX10_allGrow_1 ?_
  refine mj_if_eq C dX10_allGrow_4 rfl hF (fun hc1 hF => ?_) (fun hc1 hF => ?_)
  · refine mj_iconstV (v := 0) C dX10_allGrow_8 mc_i_0 ?_
    refine mj_istore_n C dX10_allGrow_9 (by decide) ?_
    refine mj_to ?_ (w_X10_allGrow_10 C hr hlk mj_fu 0 σ R hF)
    exact ⟨rfl, rfl, trivial⟩
  · have hF := mj_oi hF; subst hF
    exact mj_vret C hr hlk dX10_allGrow_7
set_option maxRecDepth 100000 in
set_option maxHeartbeats 4000000 in
theorem c_X10_heightOf {G : mj_G} {l : Launch} (σ : mj_S) (p1 : Int32) (p2 : Int32) (R : (Int32 × mj_S)) (hF : f_X10_heightOf σ p1 p2 = some R) : mj_C G l yX10_heightOf cX10_heightOf 3 (some .int) 108 [.ref (G.2.1 64), .int p1, .int p2] σ (some (.int R.1)) R.2 := by
  unfold f_X10_heightOf at hF
  refine mj_of (ls := [(0, .ref (G.2.1 64)), (1, .int p1), (2, .int p2)]) (by decide) (Nat.le_of_ble_eq_true rfl) rfl (fun p e s m args below meth c C hr hlk => ?_)
  refine mj_aload_n C dX10_heightOf_0 rfl ?_
  obtain ⟨r1, hq1, hF⟩ := mj_ob hF
  refine mj_callVv C (c_X10_allGrow σ r1 hq1) yv_X10_allGrow kl_X10_217 (mo_64 G _) rfl rfl rfl rfl (Nat.le_of_ble_eq_true rfl) (mj_roomC (by decide) (by decide)) ⟨Nat.zero_le _, Nat.zero_le _⟩ dX10_heightOf_1 ?_
  refine mj_aload_n C dX10_heightOf_4 rfl ?_
  refine mg_X10_49 C dX10_heightOf_5 ?_
  refine mj_sipushV (v := 600) C dX10_heightOf_8 mc_s_600 ?_
  refine mj_iload_n C dX10_heightOf_11 rfl ?_
  refine mj_imul C dX10_heightOf_12 ?_
  refine mj_iload_n C dX10_heightOf_13 rfl ?_
  refine mj_iadd C dX10_heightOf_14 ?_
  obtain ⟨hg2, hF⟩ := mj_og hF
  refine mj_iaload C dX10_heightOf_15 rfl hg2 ?_
  have hF := mj_oi hF; subst hF
  exact mj_iret C hr hlk dX10_heightOf_16
set_option maxRecDepth 100000 in
set_option maxHeartbeats 4000000 in
theorem c_X10_height {G : mj_G} {l : Launch} (σ : mj_S) (p1 : Int32) (p2 : Int32) (R : (Int32 × mj_S)) (hF : f_X10_height σ p1 p2 = some R) : mj_C G l yX10_height cX10_height 3 (some .int) 109 [.ref (G.2.1 64), .int p1, .int p2] σ (some (.int R.1)) R.2 := by
  unfold f_X10_height at hF
  refine mj_of (ls := [(0, .ref (G.2.1 64)), (1, .int p1), (2, .int p2)]) (by decide) (Nat.le_of_ble_eq_true rfl) rfl (fun p e s m args below meth c C hr hlk => ?_)
  refine mj_aload_n C dX10_height_0 rfl ?_
  refine mj_iload_n C dX10_height_1 rfl ?_
  refine mj_callVi C (c_X10_isChild σ p1) yv_X10_isChild kl_X10_220 (mo_64 G _) rfl rfl rfl rfl (Nat.le_of_ble_eq_true rfl) (mj_roomC (by decide) (by decide)) ⟨Nat.zero_le _, Nat.zero_le _⟩ dX10_height_2 ?_
  refine mj_if_eq C dX10_height_5 rfl hF (fun hc1 hF => ?_) (fun hc1 hF => ?_)
  · refine mj_iconstV (v := (-1)) C dX10_height_24 mc_i_m1 ?_
    have hF := mj_oi hF; subst hF
    exact mj_iret C hr hlk dX10_height_25
  · refine mj_iload_n C dX10_height_8 rfl ?_
    refine mj_callSi C (c_X10_isMonth σ p2) ys_X10_isMonth kl_X10_124 rfl rfl (Nat.le_of_ble_eq_true rfl) (mj_roomC (by decide) (by decide)) ⟨Nat.zero_le _, Nat.zero_le _⟩ dX10_height_9 ?_
    refine mj_if_eq C dX10_height_12 rfl hF (fun hc2 hF => ?_) (fun hc2 hF => ?_)
    · refine mj_iconstV (v := (-1)) C dX10_height_24 mc_i_m1 ?_
      have hF := mj_oi hF; subst hF
      exact mj_iret C hr hlk dX10_height_25
    · refine mj_aload_n C dX10_height_15 rfl ?_
      refine mj_iload_n C dX10_height_16 rfl ?_
      refine mj_iload_n C dX10_height_17 rfl ?_
      obtain ⟨r3, hq3, hF⟩ := mj_ob hF
      refine mj_callVi C (c_X10_heightOf σ p1 p2 r3 hq3) yv_X10_heightOf kl_X10_223 (mo_64 G _) rfl rfl rfl rfl (Nat.le_of_ble_eq_true rfl) (mj_roomC (by decide) (by decide)) ⟨Nat.zero_le _, Nat.zero_le _⟩ dX10_height_18 ?_
      refine mj_goto C dX10_height_21 rfl ?_
      have hF := mj_oi hF; subst hF
      exact mj_iret C hr hlk dX10_height_25
set_option maxRecDepth 100000 in
set_option maxHeartbeats 4000000 in
theorem c_X10_isMark {G : mj_G} {l : Launch} (σ : mj_S) (p1 : Int32) : mj_C G l yX10_isMark cX10_isMark 2 (some .boolean) 2 [.ref (G.2.1 64), .int p1] σ (some (.int (f_X10_isMark σ p1))) σ := by
  generalize hF : f_X10_isMark σ p1 = R
  unfold f_X10_isMark at hF
  refine mj_of (ls := [(0, .ref (G.2.1 64)), (1, .int p1)]) (by decide) (Nat.le_of_ble_eq_true rfl) rfl (fun p e s m args below meth c C hr hlk => ?_)
  refine mj_iload_n C dX10_isMark_0 rfl ?_
  refine mj_i2l C dX10_isMark_1 ?_
  refine mj_lconstV (v := 0) C dX10_isMark_2 mc_l_0 ?_
  refine mj_aload_n C dX10_isMark_3 rfl ?_
  refine mg_X10_226 C dX10_isMark_4 ?_
  refine mj_iconstV (v := 1) C dX10_isMark_7 mc_i_1 ?_
  refine mj_isub C dX10_isMark_8 ?_
  refine mj_i2l C dX10_isMark_9 ?_
  refine mj_callSi C (c_X10_within σ p1.toInt64 0 (((σ.1 64 26) - 1).toInt64)) ys_X10_within kl_X10_110 rfl rfl (Nat.le_of_ble_eq_true rfl) (mj_roomC (by decide) (by decide)) ⟨Nat.zero_le _, Nat.zero_le _⟩ dX10_isMark_10 ?_
  subst hF
  exact mj_zbret C hr hlk dX10_isMark_13
set_option maxRecDepth 100000 in
set_option maxHeartbeats 4000000 in
theorem c_X10_isOne {G : mj_G} {l : Launch} (σ : mj_S) (p0 : Int64) (p2 : Int64) (p4 : Int64) (p6 : Int64) : mj_C G l yX10_isOne cX10_isOne 8 (some .boolean) 2 [.long p0, .long p2, .long p4, .long p6] σ (some (.int (f_X10_isOne σ p0 p2 p4 p6))) σ := by
  generalize hF : f_X10_isOne σ p0 p2 p4 p6 = R
  unfold f_X10_isOne at hF
  refine mj_of (ls := [(0, .long p0), (2, .long p2), (4, .long p4), (6, .long p6)]) (by decide) (Nat.le_of_ble_eq_true rfl) rfl (fun p e s m args below meth c C hr hlk => ?_)
  refine mj_lload_n C dX10_isOne_0 rfl ?_
  refine mj_lconstV (v := 0) C dX10_isOne_1 mc_l_0 ?_
  refine mj_ldc2 C dX10_isOne_2 kc_X10_229 ?_
  refine mj_callSi C (c_X10_within σ p0 0 9999) ys_X10_within kl_X10_110 rfl rfl (Nat.le_of_ble_eq_true rfl) (mj_roomC (by decide) (by decide)) ⟨Nat.zero_le _, Nat.zero_le _⟩ dX10_isOne_5 ?_
  refine mj_if_eq C dX10_isOne_8 rfl hF (fun hc1 hF => ?_) (fun hc1 hF => ?_)
  · refine mj_iconstV (v := 0) C dX10_isOne_50 mc_i_0 ?_
    subst hF
    exact mj_zret (v := 0) rfl C hr hlk dX10_isOne_51
  · refine mj_lload_n C dX10_isOne_11 rfl ?_
    refine mj_lconstV (v := 0) C dX10_isOne_12 mc_l_0 ?_
    refine mj_ldc2 C dX10_isOne_13 kc_X10_231 ?_
    refine mj_callSi C (c_X10_within σ p2 0 6) ys_X10_within kl_X10_110 rfl rfl (Nat.le_of_ble_eq_true rfl) (mj_roomC (by decide) (by decide)) ⟨Nat.zero_le _, Nat.zero_le _⟩ dX10_isOne_16 ?_
    refine mj_if_eq C dX10_isOne_19 rfl hF (fun hc2 hF => ?_) (fun hc2 hF => ?_)
    · refine mj_iconstV (v := 0) C dX10_isOne_50 mc_i_0 ?_
      subst hF
      exact mj_zret (v := 0) rfl C hr hlk dX10_isOne_51
    · refine mj_lload C dX10_isOne_22 rfl ?_
      refine mj_lconstV (v := 0) C dX10_isOne_24 mc_l_0 ?_
      refine mj_ldc2 C dX10_isOne_25 kc_X10_233 ?_
      refine mj_callSi C (c_X10_within σ p4 0 600) ys_X10_within kl_X10_110 rfl rfl (Nat.le_of_ble_eq_true rfl) (mj_roomC (by decide) (by decide)) ⟨Nat.zero_le _, Nat.zero_le _⟩ dX10_isOne_28 ?_
      refine mj_if_eq C dX10_isOne_31 rfl hF (fun hc3 hF => ?_) (fun hc3 hF => ?_)
      · refine mj_iconstV (v := 0) C dX10_isOne_50 mc_i_0 ?_
        subst hF
        exact mj_zret (v := 0) rfl C hr hlk dX10_isOne_51
      · refine mj_lload C dX10_isOne_34 rfl ?_
        refine mj_lconstV (v := 0) C dX10_isOne_36 mc_l_0 ?_
        refine mj_ldc2 C dX10_isOne_37 kc_X10_235 ?_
        refine mj_callSi C (c_X10_within σ p6 0 4) ys_X10_within kl_X10_110 rfl rfl (Nat.le_of_ble_eq_true rfl) (mj_roomC (by decide) (by decide)) ⟨Nat.zero_le _, Nat.zero_le _⟩ dX10_isOne_40 ?_
        refine mj_if_eq C dX10_isOne_43 rfl hF (fun hc4 hF => ?_) (fun hc4 hF => ?_)
        · refine mj_iconstV (v := 0) C dX10_isOne_50 mc_i_0 ?_
          subst hF
          exact mj_zret (v := 0) rfl C hr hlk dX10_isOne_51
        · refine mj_iconstV (v := 1) C dX10_isOne_46 mc_i_1 ?_
          refine mj_goto C dX10_isOne_47 rfl ?_
          subst hF
          exact mj_zret (v := 1) rfl C hr hlk dX10_isOne_51
set_option maxRecDepth 100000 in
set_option maxHeartbeats 4000000 in
theorem c_X10_adds {G : mj_G} {l : Launch} (σ : mj_S) (p1 : Int32) (p2 : Int32) (p3 : Int32) (p4 : Int32) (R : mj_S) (hF : f_X10_adds σ p1 p2 p3 p4 = some R) : mj_C G l yX10_adds cX10_adds 5 (none) 1 [.ref (G.2.1 64), .int p1, .int p2, .int p3, .int p4] σ none R := by
  unfold f_X10_adds at hF
  refine mj_of (ls := [(0, .ref (G.2.1 64)), (1, .int p1), (2, .int p2), (3, .int p3), (4, .int p4)]) (by decide) (Nat.le_of_ble_eq_true rfl) rfl (fun p e s m args below meth c C hr hlk => ?_)
  refine mj_aload_n C dX10_adds_0 rfl ?_
  refine mg_X10_9 C dX10_adds_1 ?_
  refine mj_bipushV (v := 12) C dX10_adds_4 mc_b_12 ?_
  refine mj_aload_n C dX10_adds_6 rfl ?_
  refine mg_X10_226 C dX10_adds_7 ?_
  refine mj_iadd C dX10_adds_10 ?_
  refine mj_iload_n C dX10_adds_11 rfl ?_
  obtain ⟨hg1, hF⟩ := mj_og hF
  refine mj_iastore C dX10_adds_12 rfl hg1 ?_
  refine mj_aload_n C dX10_adds_13 rfl ?_
  refine mg_X10_52 C dX10_adds_14 ?_
  refine mj_aload_n C dX10_adds_17 rfl ?_
  refine mg_X10_226 C dX10_adds_18 ?_
  refine mj_iload_n C dX10_adds_21 rfl ?_
  obtain ⟨hg2, hF⟩ := mj_og hF
  refine mj_iastore C dX10_adds_22 rfl hg2 ?_
  refine mj_aload_n C dX10_adds_23 rfl ?_
  refine mg_X10_55 C dX10_adds_24 ?_
  refine mj_aload_n C dX10_adds_27 rfl ?_
  refine mg_X10_226 C dX10_adds_28 ?_
  refine mj_iload_n C dX10_adds_31 rfl ?_
  obtain ⟨hg3, hF⟩ := mj_og hF
  refine mj_iastore C dX10_adds_32 rfl hg3 ?_
  refine mj_aload_n C dX10_adds_33 rfl ?_
  refine mg_X10_9 C dX10_adds_34 ?_
  refine mj_bipushV (v := 42) C dX10_adds_37 mc_b_42 ?_
  refine mj_aload_n C dX10_adds_39 rfl ?_
  refine mg_X10_226 C dX10_adds_40 ?_
  refine mj_iadd C dX10_adds_43 ?_
  refine mj_iload C dX10_adds_44 rfl ?_
  obtain ⟨hg4, hF⟩ := mj_og hF
  refine mj_iastore C dX10_adds_46 rfl hg4 ?_
  refine mj_aload_n C dX10_adds_47 rfl ?_
  refine mg_X10_58 C dX10_adds_48 ?_
  refine mj_aload_n C dX10_adds_51 rfl ?_
  refine mg_X10_226 C dX10_adds_52 ?_
  refine mj_iconstV (v := 0) C dX10_adds_55 mc_i_0 ?_
  obtain ⟨hg5, hF⟩ := mj_og hF
  refine mj_zastore C dX10_adds_56 rfl rfl hg5 ?_
  refine mj_aload_n C dX10_adds_57 rfl ?_
  refine mj_dup C dX10_adds_58 rfl ?_
  refine mg_X10_226 C dX10_adds_59 ?_
  refine mj_iconstV (v := 1) C dX10_adds_62 mc_i_1 ?_
  refine mj_iadd C dX10_adds_63 ?_
  refine mp_X10_226 C dX10_adds_64 ?_
  have hF := mj_oi hF; subst hF
  exact mj_vret C hr hlk dX10_adds_67
set_option maxRecDepth 100000 in
set_option maxHeartbeats 4000000 in
theorem c_X10_mark {G : mj_G} {l : Launch} (σ : mj_S) (p1 : Int32) (p2 : Int32) (p3 : Int32) (R : (Int32 × mj_S)) (hF : f_X10_mark σ p1 p2 p3 = some R) : mj_C G l yX10_mark cX10_mark 4 (some .int) 3 [.ref (G.2.1 64), .int p1, .int p2, .int p3] σ (some (.int R.1)) R.2 := by
  unfold f_X10_mark at hF
  refine mj_of (ls := [(0, .ref (G.2.1 64)), (1, .int p1), (2, .int p2), (3, .int p3)]) (by decide) (Nat.le_of_ble_eq_true rfl) rfl (fun p e s m args below meth c C hr hlk => ?_)
  refine mj_iload_n C dX10_mark_0 rfl ?_
  refine mj_if_lt C dX10_mark_1 rfl hF (fun hc1 hF => ?_) (fun hc1 hF => ?_)
  · refine mj_iconstV (v := (-1)) C dX10_mark_24 mc_i_m1 ?_
    have hF := mj_oi hF; subst hF
    exact mj_iret C hr hlk dX10_mark_25
  · refine mj_iload_n C dX10_mark_4 rfl ?_
    refine mj_i2l C dX10_mark_5 ?_
    refine mj_iload_n C dX10_mark_6 rfl ?_
    refine mj_bipushV (v := 10) C dX10_mark_7 mc_b_10 ?_
    refine mj_idiv C dX10_mark_9 (by decide) ?_
    refine mj_i2l C dX10_mark_10 ?_
    refine mj_iload_n C dX10_mark_11 rfl ?_
    refine mj_i2l C dX10_mark_12 ?_
    refine mj_iload_n C dX10_mark_13 rfl ?_
    refine mj_bipushV (v := 10) C dX10_mark_14 mc_b_10 ?_
    refine mj_irem C dX10_mark_16 (by decide) ?_
    refine mj_i2l C dX10_mark_17 ?_
    refine mj_callSi C (c_X10_isOne σ p1.toInt64 ((p2 / 10).toInt64) p3.toInt64 ((mj_rem p2 10).toInt64)) ys_X10_isOne kl_X10_237 rfl rfl (Nat.le_of_ble_eq_true rfl) (mj_roomC (by decide) (by decide)) ⟨Nat.zero_le _, Nat.zero_le _⟩ dX10_mark_18 ?_
    refine mj_if_ne C dX10_mark_21 rfl hF (fun hc2 hF => ?_) (fun hc2 hF => ?_)
    · refine mj_aload_n C dX10_mark_26 rfl ?_
      refine mg_X10_226 C dX10_mark_27 ?_
      refine mj_bipushV (v := 30) C dX10_mark_30 mc_b_30 ?_
      refine mj_ic_ne C dX10_mark_32 rfl hF (fun hc3 hF => ?_) (fun hc3 hF => ?_)
      · refine mj_aload_n C dX10_mark_38 rfl ?_
        refine mj_iload_n C dX10_mark_39 rfl ?_
        refine mj_iload_n C dX10_mark_40 rfl ?_
        refine mj_bipushV (v := 10) C dX10_mark_41 mc_b_10 ?_
        refine mj_idiv C dX10_mark_43 (by decide) ?_
        refine mj_iload_n C dX10_mark_44 rfl ?_
        refine mj_iload_n C dX10_mark_45 rfl ?_
        refine mj_bipushV (v := 10) C dX10_mark_46 mc_b_10 ?_
        refine mj_irem C dX10_mark_48 (by decide) ?_
        obtain ⟨r4, hq4, hF⟩ := mj_ob hF
        refine mj_callVv C (c_X10_adds σ p1 (p2 / 10) p3 (mj_rem p2 10) r4 hq4) yv_X10_adds kl_X10_241 (mo_64 G _) rfl rfl rfl rfl (Nat.le_of_ble_eq_true rfl) (mj_roomC (by decide) (by decide)) ⟨Nat.zero_le _, Nat.zero_le _⟩ dX10_mark_49 ?_
        refine mj_aload_n C dX10_mark_52 rfl ?_
        refine mg_X10_226 C dX10_mark_53 ?_
        refine mj_iconstV (v := 1) C dX10_mark_56 mc_i_1 ?_
        refine mj_isub C dX10_mark_57 ?_
        have hF := mj_oi hF; subst hF
        exact mj_iret C hr hlk dX10_mark_58
      · refine mj_bipushV (v := (-3)) C dX10_mark_35 mc_b_m3 ?_
        have hF := mj_oi hF; subst hF
        exact mj_iret C hr hlk dX10_mark_37
    · refine mj_iconstV (v := (-1)) C dX10_mark_24 mc_i_m1 ?_
      have hF := mj_oi hF; subst hF
      exact mj_iret C hr hlk dX10_mark_25
set_option maxRecDepth 100000 in
set_option maxHeartbeats 4000000 in
theorem c_X10_isShelf {G : mj_G} {l : Launch} (σ : mj_S) (p0 : Int32) : mj_C G l yX10_isShelf cX10_isShelf 1 (some .boolean) 2 [.int p0] σ (some (.int (f_X10_isShelf σ p0))) σ := by
  generalize hF : f_X10_isShelf σ p0 = R
  unfold f_X10_isShelf at hF
  refine mj_of (ls := [(0, .int p0)]) (by decide) (Nat.le_of_ble_eq_true rfl) rfl (fun p e s m args below meth c C hr hlk => ?_)
  refine mj_iload_n C dX10_isShelf_0 rfl ?_
  refine mj_i2l C dX10_isShelf_1 ?_
  refine mj_lconstV (v := 0) C dX10_isShelf_2 mc_l_0 ?_
  refine mj_ldc2 C dX10_isShelf_3 kc_X10_371 ?_
  refine mj_callSi C (c_X10_within σ p0.toInt64 0 5) ys_X10_within kl_X10_110 rfl rfl (Nat.le_of_ble_eq_true rfl) (mj_roomC (by decide) (by decide)) ⟨Nat.zero_le _, Nat.zero_le _⟩ dX10_isShelf_6 ?_
  subst hF
  exact mj_zbret C hr hlk dX10_isShelf_9
set_option maxRecDepth 100000 in
set_option maxHeartbeats 4000000 in
theorem w_X10_marks_176 {p : Program} {l : Launch} {e : Env} {s : State} {m : MethodId} {args : Array Value} {below : List Frame} {meth : Method} {c : Code} {G : mj_G} {K69 : Int32 → Int32 → Int32 → Int32 → Int32 → mj_S → Option (Int32 × mj_S)} (C : mj_X p s m args meth c G cX10_marks 7 RX10) (hr : meth.sig.returnType = some .int) (hlk : meth.locks = false) (hK69 : ∀ (v1 : Int32) (v2 : Int32) (v3 : Int32) (v4 : Int32) (v5 : Int32) (σ : mj_S) (R : (Int32 × mj_S)), K69 v1 v2 v3 v4 v5 σ = some R → mj_W p l e (mj_rm 3) s m args below meth c G 0 0 7 (MQ below (mj_Q G (some (.int R.1)) R.2) args s 0 0 G.2.2.2) 69 [(0, .ref (G.2.1 64)), (1, .int v1), (2, .int v2), (3, .int v3), (4, .int v4), (5, .int v5)] [] σ) : ∀ (v1 : Int32) (v2 : Int32) (v3 : Int32) (v4 : Int32) (v6 : Int32) (t0 : Int32) (σ : mj_S) (R : (Int32 × mj_S)), b_X10_marks_176 K69 v1 v2 v3 v4 v6 t0 σ = some R → mj_W p l e (mj_rm 3) s m args below meth c G 0 0 7 (MQ below (mj_Q G (some (.int R.1)) R.2) args s 0 0 G.2.2.2) 176 [(0, .ref (G.2.1 64)), (1, .int v1), (2, .int v2), (3, .int v3), (4, .int v4), (6, .int v6)] [.int t0] σ := by
  intro v1 v2 v3 v4 v6 t0 σ R hF
  unfold b_X10_marks_176 at hF
  refine mj_istore C dX10_marks_176 (by decide) ?_
  refine mj_iload C dX10_marks_178 rfl ?_
  refine mj_if_eq C dX10_marks_180 rfl hF (fun hc12 hF => ?_) (fun hc12 hF => ?_)
  · refine mj_goto C dX10_marks_228 rfl ?_
    refine mj_to ?_ (hK69 v1 v2 v3 v4 t0 σ R hF)
    exact ⟨rfl, rfl, rfl, rfl, rfl, rfl, trivial⟩
  · refine mj_aload_n C dX10_marks_183 rfl ?_
    refine mj_aload_n C dX10_marks_184 rfl ?_
    refine mg_X10_83 C dX10_marks_185 ?_
    refine mj_iload C dX10_marks_188 rfl ?_
    obtain ⟨hg13, hF⟩ := mj_og hF
    refine mj_laload C dX10_marks_190 rfl hg13 ?_
    refine mj_l2i C dX10_marks_191 ?_
    refine mj_aload_n C dX10_marks_192 rfl ?_
    refine mg_X10_83 C dX10_marks_193 ?_
    refine mj_iload C dX10_marks_196 rfl ?_
    refine mj_iconstV (v := 1) C dX10_marks_198 mc_i_1 ?_
    refine mj_iadd C dX10_marks_199 ?_
    obtain ⟨hg14, hF⟩ := mj_og hF
    refine mj_laload C dX10_marks_200 rfl hg14 ?_
    refine mj_l2i C dX10_marks_201 ?_
    refine mj_aload_n C dX10_marks_202 rfl ?_
    refine mg_X10_83 C dX10_marks_203 ?_
    refine mj_iload C dX10_marks_206 rfl ?_
    refine mj_iconstV (v := 2) C dX10_marks_208 mc_i_2 ?_
    refine mj_iadd C dX10_marks_209 ?_
    obtain ⟨hg15, hF⟩ := mj_og hF
    refine mj_laload C dX10_marks_210 rfl hg15 ?_
    refine mj_l2i C dX10_marks_211 ?_
    refine mj_aload_n C dX10_marks_212 rfl ?_
    refine mg_X10_83 C dX10_marks_213 ?_
    refine mj_iload C dX10_marks_216 rfl ?_
    refine mj_iconstV (v := 3) C dX10_marks_218 mc_i_3 ?_
    refine mj_iadd C dX10_marks_219 ?_
    obtain ⟨hg16, hF⟩ := mj_og hF
    refine mj_laload C dX10_marks_220 rfl hg16 ?_
    refine mj_l2i C dX10_marks_221 ?_
    obtain ⟨r17, hq17, hF⟩ := mj_ob hF
    refine mj_callVv C (c_X10_adds σ ((σ.2 89 v6.toNatClampNeg).toInt32) ((σ.2 89 (v6 + 1).toNatClampNeg).toInt32) ((σ.2 89 (v6 + 2).toNatClampNeg).toInt32) ((σ.2 89 (v6 + 3).toNatClampNeg).toInt32) r17 hq17) yv_X10_adds kl_X10_241 (mo_64 G _) rfl rfl rfl rfl (Nat.le_of_ble_eq_true rfl) (mj_roomC (by decide) (by decide)) ⟨Nat.zero_le _, Nat.zero_le _⟩ dX10_marks_222 ?_
    refine mj_iinc (v := v4 + 1) C dX10_marks_225 rfl rfl (by decide) ?_
    refine mj_goto C dX10_marks_228 rfl ?_
    refine mj_to ?_ (hK69 v1 v2 v3 (v4 + 1) t0 r17 R hF)
    exact ⟨rfl, rfl, rfl, rfl, rfl, rfl, trivial⟩
set_option maxRecDepth 100000 in
set_option maxHeartbeats 4000000 in
theorem w_X10_marks_175 {p : Program} {l : Launch} {e : Env} {s : State} {m : MethodId} {args : Array Value} {below : List Frame} {meth : Method} {c : Code} {G : mj_G} {K69 : Int32 → Int32 → Int32 → Int32 → Int32 → mj_S → Option (Int32 × mj_S)} (C : mj_X p s m args meth c G cX10_marks 7 RX10) (hr : meth.sig.returnType = some .int) (hlk : meth.locks = false) (hK69 : ∀ (v1 : Int32) (v2 : Int32) (v3 : Int32) (v4 : Int32) (v5 : Int32) (σ : mj_S) (R : (Int32 × mj_S)), K69 v1 v2 v3 v4 v5 σ = some R → mj_W p l e (mj_rm 3) s m args below meth c G 0 0 7 (MQ below (mj_Q G (some (.int R.1)) R.2) args s 0 0 G.2.2.2) 69 [(0, .ref (G.2.1 64)), (1, .int v1), (2, .int v2), (3, .int v3), (4, .int v4), (5, .int v5)] [] σ) : ∀ (v1 : Int32) (v2 : Int32) (v3 : Int32) (v4 : Int32) (v6 : Int32) (σ : mj_S) (R : (Int32 × mj_S)), b_X10_marks_175 K69 v1 v2 v3 v4 v6 σ = some R → mj_W p l e (mj_rm 3) s m args below meth c G 0 0 7 (MQ below (mj_Q G (some (.int R.1)) R.2) args s 0 0 G.2.2.2) 175 [(0, .ref (G.2.1 64)), (1, .int v1), (2, .int v2), (3, .int v3), (4, .int v4), (6, .int v6)] [] σ := by
  intro v1 v2 v3 v4 v6 σ R hF
  unfold b_X10_marks_175 at hF
  refine mj_iconstV (v := 0) C dX10_marks_175 mc_i_0 ?_
  refine mj_to ?_ (w_X10_marks_176 C hr hlk hK69 v1 v2 v3 v4 v6 0 σ R hF)
  exact ⟨rfl, rfl, rfl, rfl, rfl, rfl, trivial⟩
set_option maxRecDepth 100000 in
set_option maxHeartbeats 4000000 in
theorem w_X10_marks_111 {p : Program} {l : Launch} {e : Env} {s : State} {m : MethodId} {args : Array Value} {below : List Frame} {meth : Method} {c : Code} {G : mj_G} {K69 : Int32 → Int32 → Int32 → Int32 → Int32 → mj_S → Option (Int32 × mj_S)} (C : mj_X p s m args meth c G cX10_marks 7 RX10) (hr : meth.sig.returnType = some .int) (hlk : meth.locks = false) (hK69 : ∀ (v1 : Int32) (v2 : Int32) (v3 : Int32) (v4 : Int32) (v5 : Int32) (σ : mj_S) (R : (Int32 × mj_S)), K69 v1 v2 v3 v4 v5 σ = some R → mj_W p l e (mj_rm 3) s m args below meth c G 0 0 7 (MQ below (mj_Q G (some (.int R.1)) R.2) args s 0 0 G.2.2.2) 69 [(0, .ref (G.2.1 64)), (1, .int v1), (2, .int v2), (3, .int v3), (4, .int v4), (5, .int v5)] [] σ) : ∀ (v1 : Int32) (v2 : Int32) (v3 : Int32) (v4 : Int32) (t0 : Int32) (σ : mj_S) (R : (Int32 × mj_S)), b_X10_marks_111 K69 v1 v2 v3 v4 t0 σ = some R → mj_W p l e (mj_rm 3) s m args below meth c G 0 0 7 (MQ below (mj_Q G (some (.int R.1)) R.2) args s 0 0 G.2.2.2) 111 [(0, .ref (G.2.1 64)), (1, .int v1), (2, .int v2), (3, .int v3), (4, .int v4)] [.int t0] σ := by
  intro v1 v2 v3 v4 t0 σ R hF
  unfold b_X10_marks_111 at hF
  refine mj_istore C dX10_marks_111 (by decide) ?_
  refine mj_bipushV (v := 60) C dX10_marks_113 mc_b_60 ?_
  refine mj_iload_n C dX10_marks_115 rfl ?_
  refine mj_imul C dX10_marks_116 ?_
  refine mj_iload_n C dX10_marks_117 rfl ?_
  refine mj_iadd C dX10_marks_118 ?_
  refine mj_iconstV (v := 4) C dX10_marks_119 mc_i_4 ?_
  refine mj_iload C dX10_marks_120 rfl ?_
  refine mj_imul C dX10_marks_122 ?_
  refine mj_iadd C dX10_marks_123 ?_
  refine mj_istore C dX10_marks_124 (by decide) ?_
  refine mj_iload C dX10_marks_126 rfl ?_
  refine mj_if_eq C dX10_marks_128 rfl hF (fun hc11 hF => ?_) (fun hc11 hF => ?_)
  · refine mj_to ?_ (w_X10_marks_175 C hr hlk hK69 v1 v2 v3 v4 (((60 * v1) + v2) + (4 * v4)) σ R hF)
    exact ⟨rfl, rfl, rfl, rfl, rfl, rfl, trivial⟩
  · refine mj_aload_n C dX10_marks_131 rfl ?_
    refine mg_X10_83 C dX10_marks_132 ?_
    refine mj_iload C dX10_marks_135 rfl ?_
    obtain ⟨hg18, hF⟩ := mj_og hF
    refine mj_laload C dX10_marks_137 rfl hg18 ?_
    refine mj_aload_n C dX10_marks_138 rfl ?_
    refine mg_X10_83 C dX10_marks_139 ?_
    refine mj_iload C dX10_marks_142 rfl ?_
    refine mj_iconstV (v := 1) C dX10_marks_144 mc_i_1 ?_
    refine mj_iadd C dX10_marks_145 ?_
    obtain ⟨hg19, hF⟩ := mj_og hF
    refine mj_laload C dX10_marks_146 rfl hg19 ?_
    refine mj_aload_n C dX10_marks_147 rfl ?_
    refine mg_X10_83 C dX10_marks_148 ?_
    refine mj_iload C dX10_marks_151 rfl ?_
    refine mj_iconstV (v := 2) C dX10_marks_153 mc_i_2 ?_
    refine mj_iadd C dX10_marks_154 ?_
    obtain ⟨hg20, hF⟩ := mj_og hF
    refine mj_laload C dX10_marks_155 rfl hg20 ?_
    refine mj_aload_n C dX10_marks_156 rfl ?_
    refine mg_X10_83 C dX10_marks_157 ?_
    refine mj_iload C dX10_marks_160 rfl ?_
    refine mj_iconstV (v := 3) C dX10_marks_162 mc_i_3 ?_
    refine mj_iadd C dX10_marks_163 ?_
    obtain ⟨hg21, hF⟩ := mj_og hF
    refine mj_laload C dX10_marks_164 rfl hg21 ?_
    refine mj_callSi C (c_X10_isOne σ (σ.2 89 (((60 * v1) + v2) + (4 * v4)).toNatClampNeg) (σ.2 89 ((((60 * v1) + v2) + (4 * v4)) + 1).toNatClampNeg) (σ.2 89 ((((60 * v1) + v2) + (4 * v4)) + 2).toNatClampNeg) (σ.2 89 ((((60 * v1) + v2) + (4 * v4)) + 3).toNatClampNeg)) ys_X10_isOne kl_X10_237 rfl rfl (Nat.le_of_ble_eq_true rfl) (mj_roomC (by decide) (by decide)) ⟨Nat.zero_le _, Nat.zero_le _⟩ dX10_marks_165 ?_
    refine mj_if_eq C dX10_marks_168 rfl hF (fun hc22 hF => ?_) (fun hc22 hF => ?_)
    · refine mj_to ?_ (w_X10_marks_175 C hr hlk hK69 v1 v2 v3 v4 (((60 * v1) + v2) + (4 * v4)) σ R hF)
      exact ⟨rfl, rfl, rfl, rfl, rfl, rfl, trivial⟩
    · refine mj_iconstV (v := 1) C dX10_marks_171 mc_i_1 ?_
      refine mj_goto C dX10_marks_172 rfl ?_
      refine mj_to ?_ (w_X10_marks_176 C hr hlk hK69 v1 v2 v3 v4 (((60 * v1) + v2) + (4 * v4)) 1 σ R hF)
      exact ⟨rfl, rfl, rfl, rfl, rfl, rfl, trivial⟩
set_option maxRecDepth 100000 in
set_option maxHeartbeats 4000000 in
theorem w_X10_marks_110 {p : Program} {l : Launch} {e : Env} {s : State} {m : MethodId} {args : Array Value} {below : List Frame} {meth : Method} {c : Code} {G : mj_G} {K69 : Int32 → Int32 → Int32 → Int32 → Int32 → mj_S → Option (Int32 × mj_S)} (C : mj_X p s m args meth c G cX10_marks 7 RX10) (hr : meth.sig.returnType = some .int) (hlk : meth.locks = false) (hK69 : ∀ (v1 : Int32) (v2 : Int32) (v3 : Int32) (v4 : Int32) (v5 : Int32) (σ : mj_S) (R : (Int32 × mj_S)), K69 v1 v2 v3 v4 v5 σ = some R → mj_W p l e (mj_rm 3) s m args below meth c G 0 0 7 (MQ below (mj_Q G (some (.int R.1)) R.2) args s 0 0 G.2.2.2) 69 [(0, .ref (G.2.1 64)), (1, .int v1), (2, .int v2), (3, .int v3), (4, .int v4), (5, .int v5)] [] σ) : ∀ (v1 : Int32) (v2 : Int32) (v3 : Int32) (v4 : Int32) (σ : mj_S) (R : (Int32 × mj_S)), b_X10_marks_110 K69 v1 v2 v3 v4 σ = some R → mj_W p l e (mj_rm 3) s m args below meth c G 0 0 7 (MQ below (mj_Q G (some (.int R.1)) R.2) args s 0 0 G.2.2.2) 110 [(0, .ref (G.2.1 64)), (1, .int v1), (2, .int v2), (3, .int v3), (4, .int v4)] [] σ := by
  intro v1 v2 v3 v4 σ R hF
  unfold b_X10_marks_110 at hF
  refine mj_iconstV (v := 0) C dX10_marks_110 mc_i_0 ?_
  refine mj_to ?_ (w_X10_marks_111 C hr hlk hK69 v1 v2 v3 v4 0 σ R hF)
  exact ⟨rfl, rfl, rfl, rfl, rfl, trivial⟩
set_option maxRecDepth 100000 in
set_option maxHeartbeats 4000000 in
theorem w_X10_marks_69 {p : Program} {l : Launch} {e : Env} {s : State} {m : MethodId} {args : Array Value} {below : List Frame} {meth : Method} {c : Code} {G : mj_G} (C : mj_X p s m args meth c G cX10_marks 7 RX10) (hr : meth.sig.returnType = some .int) (hlk : meth.locks = false) : ∀ (n : Nat) (v1 : Int32) (v2 : Int32) (v3 : Int32) (v4 : Int32) (v5 : Int32) (σ : mj_S) (R : (Int32 × mj_S)), b_X10_marks_69 n v1 v2 v3 v4 v5 σ = some R → mj_W p l e (mj_rm 3) s m args below meth c G 0 0 7 (MQ below (mj_Q G (some (.int R.1)) R.2) args s 0 0 G.2.2.2) 69 [(0, .ref (G.2.1 64)), (1, .int v1), (2, .int v2), (3, .int v3), (4, .int v4), (5, .int v5)] [] σ := by
  intro n
  induction n with
  | zero =>
    intro v1 v2 v3 v4 v5 σ R hF
    cases hF
  | succ n ih =>
    intro v1 v2 v3 v4 v5 σ R hF
    rw [b_X10_marks_69] at hF
    refine mj_iload C dX10_marks_69 rfl ?_
    refine mj_if_eq C dX10_marks_71 rfl hF (fun hc7 hF => ?_) (fun hc7 hF => ?_)
    · refine mj_iload C dX10_marks_231 rfl ?_
      have hF := mj_oi hF; subst hF
      exact mj_iret C hr hlk dX10_marks_233
    · refine mj_iload C dX10_marks_74 rfl ?_
      refine mj_iload_n C dX10_marks_76 rfl ?_
      refine mj_ic_ge C dX10_marks_77 rfl hF (fun hc8 hF => ?_) (fun hc8 hF => ?_)
      · refine mj_iload C dX10_marks_231 rfl ?_
        have hF := mj_oi hF; subst hF
        exact mj_iret C hr hlk dX10_marks_233
      · refine mj_iload_n C dX10_marks_80 rfl ?_
        refine mj_aload_n C dX10_marks_81 rfl ?_
        refine mg_X10_80 C dX10_marks_82 ?_
        refine mj_iload_n C dX10_marks_85 rfl ?_
        obtain ⟨hg9, hF⟩ := mj_og hF
        refine mj_iaload C dX10_marks_86 rfl hg9 ?_
        refine mj_iconstV (v := 4) C dX10_marks_87 mc_i_4 ?_
        refine mj_isub C dX10_marks_88 ?_
        refine mj_iconstV (v := 4) C dX10_marks_89 mc_i_4 ?_
        refine mj_iload C dX10_marks_90 rfl ?_
        refine mj_imul C dX10_marks_92 ?_
        refine mj_isub C dX10_marks_93 ?_
        refine mj_ic_gt C dX10_marks_94 rfl hF (fun hc10 hF => ?_) (fun hc10 hF => ?_)
        · refine mj_to ?_ (w_X10_marks_110 C hr hlk ih v1 v2 v3 v4 σ R hF)
          exact ⟨rfl, rfl, rfl, rfl, rfl, trivial⟩
        · refine mj_aload_n C dX10_marks_97 rfl ?_
          refine mg_X10_226 C dX10_marks_98 ?_
          refine mj_bipushV (v := 30) C dX10_marks_101 mc_b_30 ?_
          refine mj_ic_ge C dX10_marks_103 rfl hF (fun hc23 hF => ?_) (fun hc23 hF => ?_)
          · refine mj_to ?_ (w_X10_marks_110 C hr hlk ih v1 v2 v3 v4 σ R hF)
            exact ⟨rfl, rfl, rfl, rfl, rfl, trivial⟩
          · refine mj_iconstV (v := 1) C dX10_marks_106 mc_i_1 ?_
            refine mj_goto C dX10_marks_107 rfl ?_
            refine mj_to ?_ (w_X10_marks_111 C hr hlk ih v1 v2 v3 v4 1 σ R hF)
            exact ⟨rfl, rfl, rfl, rfl, rfl, trivial⟩
set_option maxRecDepth 100000 in
set_option maxHeartbeats 4000000 in
theorem w_X10_marks_44 {p : Program} {l : Launch} {e : Env} {s : State} {m : MethodId} {args : Array Value} {below : List Frame} {meth : Method} {c : Code} {G : mj_G} (C : mj_X p s m args meth c G cX10_marks 7 RX10) (hr : meth.sig.returnType = some .int) (hlk : meth.locks = false) : ∀ (v1 : Int32) (v2 : Int32) (v3 : Int32) (σ : mj_S) (R : (Int32 × mj_S)), b_X10_marks_44 v1 v2 v3 σ = some R → mj_W p l e (mj_rm 3) s m args below meth c G 0 0 7 (MQ below (mj_Q G (some (.int R.1)) R.2) args s 0 0 G.2.2.2) 44 [(0, .ref (G.2.1 64)), (1, .int v1), (2, .int v2), (3, .int v3)] [] σ := by
  intro v1 v2 v3 σ R hF
  unfold b_X10_marks_44 at hF
  refine mj_iconstV (v := 0) C dX10_marks_44 mc_i_0 ?_
  refine mj_istore C dX10_marks_45 (by decide) ?_
  refine mj_aload_n C dX10_marks_47 rfl ?_
  refine mg_X10_77 C dX10_marks_48 ?_
  refine mj_iload_n C dX10_marks_51 rfl ?_
  obtain ⟨hg5, hF⟩ := mj_og hF
  refine mj_iaload C dX10_marks_52 rfl hg5 ?_
  refine mj_bipushV (v := 51) C dX10_marks_53 mc_b_51 ?_
  refine mj_ic_ne C dX10_marks_55 rfl hF (fun hc6 hF => ?_) (fun hc6 hF => ?_)
  · refine mj_iconstV (v := 0) C dX10_marks_66 mc_i_0 ?_
    refine mj_istore C dX10_marks_67 (by decide) ?_
    refine mj_to ?_ (w_X10_marks_69 C hr hlk mj_fu v1 v2 v3 0 0 σ R hF)
    exact ⟨rfl, rfl, rfl, rfl, rfl, rfl, trivial⟩
  · refine mj_iload_n C dX10_marks_58 rfl ?_
    refine mj_if_lt C dX10_marks_59 rfl hF (fun hc24 hF => ?_) (fun hc24 hF => ?_)
    · refine mj_iconstV (v := 0) C dX10_marks_66 mc_i_0 ?_
      refine mj_istore C dX10_marks_67 (by decide) ?_
      refine mj_to ?_ (w_X10_marks_69 C hr hlk mj_fu v1 v2 v3 0 0 σ R hF)
      exact ⟨rfl, rfl, rfl, rfl, rfl, rfl, trivial⟩
    · refine mj_iconstV (v := 1) C dX10_marks_62 mc_i_1 ?_
      refine mj_goto C dX10_marks_63 rfl ?_
      refine mj_istore C dX10_marks_67 (by decide) ?_
      refine mj_to ?_ (w_X10_marks_69 C hr hlk mj_fu v1 v2 v3 0 1 σ R hF)
      exact ⟨rfl, rfl, rfl, rfl, rfl, rfl, trivial⟩
set_option maxRecDepth 100000 in
set_option maxHeartbeats 4000000 in
theorem c_X10_marks {G : mj_G} {l : Launch} (σ : mj_S) (p1 : Int32) (p2 : Int32) (p3 : Int32) (R : (Int32 × mj_S)) (hF : f_X10_marks σ p1 p2 p3 = some R) : mj_C G l yX10_marks cX10_marks 7 (some .int) 3 [.ref (G.2.1 64), .int p1, .int p2, .int p3] σ (some (.int R.1)) R.2 := by
  unfold f_X10_marks at hF
  refine mj_of (ls := [(0, .ref (G.2.1 64)), (1, .int p1), (2, .int p2), (3, .int p3)]) (by decide) (Nat.le_of_ble_eq_true rfl) rfl (fun p e s m args below meth c C hr hlk => ?_)
  refine mj_iload_n C dX10_marks_0 rfl ?_
  refine mj_callSi C (c_X10_isShelf σ p1) ys_X10_isShelf kl_X10_245 rfl rfl (Nat.le_of_ble_eq_true rfl) (mj_roomC (by decide) (by decide)) ⟨Nat.zero_le _, Nat.zero_le _⟩ dX10_marks_1 ?_
  refine mj_if_eq C dX10_marks_4 rfl hF (fun hc1 hF => ?_) (fun hc1 hF => ?_)
  · refine mj_iconstV (v := (-1)) C dX10_marks_19 mc_i_m1 ?_
    have hF := mj_oi hF; subst hF
    exact mj_iret C hr hlk dX10_marks_20
  · refine mj_iload_n C dX10_marks_7 rfl ?_
    refine mj_i2l C dX10_marks_8 ?_
    refine mj_lconstV (v := 1) C dX10_marks_9 mc_l_1 ?_
    refine mj_ldc2 C dX10_marks_10 kc_X10_248 ?_
    refine mj_callSi C (c_X10_within σ p3.toInt64 1 15) ys_X10_within kl_X10_110 rfl rfl (Nat.le_of_ble_eq_true rfl) (mj_roomC (by decide) (by decide)) ⟨Nat.zero_le _, Nat.zero_le _⟩ dX10_marks_13 ?_
    refine mj_if_ne C dX10_marks_16 rfl hF (fun hc2 hF => ?_) (fun hc2 hF => ?_)
    · refine mj_aload_n C dX10_marks_21 rfl ?_
      refine mg_X10_77 C dX10_marks_22 ?_
      refine mj_iload_n C dX10_marks_25 rfl ?_
      obtain ⟨hg3, hF⟩ := mj_og hF
      refine mj_iaload C dX10_marks_26 rfl hg3 ?_
      refine mj_if_lt C dX10_marks_27 rfl hF (fun hc4 hF => ?_) (fun hc4 hF => ?_)
      · refine mj_to ?_ (w_X10_marks_44 C hr hlk p1 p2 p3 σ R hF)
        exact ⟨rfl, rfl, rfl, rfl, trivial⟩
      · refine mj_aload_n C dX10_marks_30 rfl ?_
        refine mg_X10_77 C dX10_marks_31 ?_
        refine mj_iload_n C dX10_marks_34 rfl ?_
        obtain ⟨hg25, hF⟩ := mj_og hF
        refine mj_iaload C dX10_marks_35 rfl hg25 ?_
        refine mj_bipushV (v := 51) C dX10_marks_36 mc_b_51 ?_
        refine mj_ic_eq C dX10_marks_38 rfl hF (fun hc26 hF => ?_) (fun hc26 hF => ?_)
        · refine mj_to ?_ (w_X10_marks_44 C hr hlk p1 p2 p3 σ R hF)
          exact ⟨rfl, rfl, rfl, rfl, trivial⟩
        · refine mj_bipushV (v := (-12)) C dX10_marks_41 mc_b_m12 ?_
          have hF := mj_oi hF; subst hF
          exact mj_iret C hr hlk dX10_marks_43
    · refine mj_iconstV (v := (-1)) C dX10_marks_19 mc_i_m1 ?_
      have hF := mj_oi hF; subst hF
      exact mj_iret C hr hlk dX10_marks_20
set_option maxRecDepth 100000 in
set_option maxHeartbeats 4000000 in
theorem c_X10_isCovered {G : mj_G} {l : Launch} (σ : mj_S) (p1 : Int32) (R : Int32) (hF : f_X10_isCovered σ p1 = some R) : mj_C G l yX10_isCovered cX10_isCovered 2 (some .boolean) 1 [.ref (G.2.1 64), .int p1] σ (some (.int R)) σ := by
  unfold f_X10_isCovered at hF
  refine mj_of (ls := [(0, .ref (G.2.1 64)), (1, .int p1)]) (by decide) (Nat.le_of_ble_eq_true rfl) rfl (fun p e s m args below meth c C hr hlk => ?_)
  refine mj_aload_n C dX10_isCovered_0 rfl ?_
  refine mg_X10_55 C dX10_isCovered_1 ?_
  refine mj_iload_n C dX10_isCovered_4 rfl ?_
  obtain ⟨hg1, hF⟩ := mj_og hF
  refine mj_iaload C dX10_isCovered_5 rfl hg1 ?_
  refine mj_sipushV (v := 600) C dX10_isCovered_6 mc_s_600 ?_
  refine mj_ic_ne C dX10_isCovered_9 rfl hF (fun hc2 hF => ?_) (fun hc2 hF => ?_)
  · refine mj_aload_n C dX10_isCovered_21 rfl ?_
    refine mg_X10_55 C dX10_isCovered_22 ?_
    refine mj_iload_n C dX10_isCovered_25 rfl ?_
    obtain ⟨hg3, hF⟩ := mj_og hF
    refine mj_iaload C dX10_isCovered_26 rfl hg3 ?_
    refine mj_aload_n C dX10_isCovered_27 rfl ?_
    refine mg_X10_94 C dX10_isCovered_28 ?_
    refine mj_ic_gt C dX10_isCovered_31 rfl hF (fun hc4 hF => ?_) (fun hc4 hF => ?_)
    · refine mj_iconstV (v := 0) C dX10_isCovered_38 mc_i_0 ?_
      have hF := mj_oi hF; subst hF
      exact mj_zret (v := 0) rfl C hr hlk dX10_isCovered_39
    · refine mj_iconstV (v := 1) C dX10_isCovered_34 mc_i_1 ?_
      refine mj_goto C dX10_isCovered_35 rfl ?_
      have hF := mj_oi hF; subst hF
      exact mj_zret (v := 1) rfl C hr hlk dX10_isCovered_39
  · refine mj_aload_n C dX10_isCovered_12 rfl ?_
    refine mg_X10_58 C dX10_isCovered_13 ?_
    refine mj_iload_n C dX10_isCovered_16 rfl ?_
    obtain ⟨hg5, hF⟩ := mj_og hF
    refine mj_zaload C dX10_isCovered_17 rfl hg5 ?_
    refine mj_goto C dX10_isCovered_18 rfl ?_
    have hF := mj_oi hF; subst hF
    exact mj_zbret C hr hlk dX10_isCovered_39
set_option maxRecDepth 100000 in
set_option maxHeartbeats 4000000 in
theorem w_X10_paint_33 {p : Program} {l : Launch} {e : Env} {s : State} {m : MethodId} {args : Array Value} {below : List Frame} {meth : Method} {c : Code} {G : mj_G} (C : mj_X p s m args meth c G cX10_paint 4 RX10) (hr : meth.sig.returnType = some .int) (hlk : meth.locks = false) : ∀ (n : Nat) (v2 : Int32) (v3 : Int32) (σ : mj_S) (R : (Int32 × mj_S)), b_X10_paint_33 n v2 v3 σ = some R → mj_W p l e (mj_rm 3) s m args below meth c G 0 0 4 (MQ below (mj_Q G (some (.int R.1)) R.2) args s 0 0 G.2.2.2) 33 [(0, .ref (G.2.1 64)), (2, .int v2), (3, .int v3)] [] σ := by
  intro n
  induction n with
  | zero =>
    intro v2 v3 σ R hF
    cases hF
  | succ n ih =>
    intro v2 v3 σ R hF
    rw [b_X10_paint_33] at hF
    refine mj_iload_n C dX10_paint_33 rfl ?_
    refine mj_aload_n C dX10_paint_34 rfl ?_
    refine mg_X10_226 C dX10_paint_35 ?_
    refine mj_ic_ge C dX10_paint_38 rfl hF (fun hc3 hF => ?_) (fun hc3 hF => ?_)
    · refine mj_iload_n C dX10_paint_70 rfl ?_
      have hF := mj_oi hF; subst hF
      exact mj_iret C hr hlk dX10_paint_71
    · refine mj_aload_n C dX10_paint_41 rfl ?_
      refine mg_X10_58 C dX10_paint_42 ?_
      refine mj_iload_n C dX10_paint_45 rfl ?_
      refine mj_iconstV (v := 1) C dX10_paint_46 mc_i_1 ?_
      obtain ⟨hg4, hF⟩ := mj_og hF
      refine mj_zastore C dX10_paint_47 rfl rfl hg4 ?_
      refine mj_iload_n C dX10_paint_48 rfl ?_
      refine mj_aload_n C dX10_paint_49 rfl ?_
      refine mj_iload_n C dX10_paint_50 rfl ?_
      obtain ⟨r5, hq5, hF⟩ := mj_ob hF
      refine mj_callVi C (c_X10_isCovered (mj_sI σ 81 v3.toNatClampNeg 1) v3 r5 hq5) yv_X10_isCovered kl_X10_250 (mo_64 G _) rfl rfl rfl rfl (Nat.le_of_ble_eq_true rfl) (mj_roomC (by decide) (by decide)) ⟨Nat.zero_le _, Nat.zero_le _⟩ dX10_paint_51 ?_
      refine mj_if_eq C dX10_paint_54 rfl hF (fun hc6 hF => ?_) (fun hc6 hF => ?_)
      · refine mj_iconstV (v := 0) C dX10_paint_61 mc_i_0 ?_
        refine mj_iadd C dX10_paint_62 ?_
        refine mj_istore_n C dX10_paint_63 (by decide) ?_
        refine mj_iinc (v := v3 + 1) C dX10_paint_64 rfl rfl (by decide) ?_
        refine mj_goto C dX10_paint_67 rfl ?_
        refine mj_to ?_ (ih (v2 + 0) (v3 + 1) (mj_sI σ 81 v3.toNatClampNeg 1) R hF)
        exact ⟨rfl, rfl, rfl, trivial⟩
      · refine mj_iconstV (v := 1) C dX10_paint_57 mc_i_1 ?_
        refine mj_goto C dX10_paint_58 rfl ?_
        refine mj_iadd C dX10_paint_62 ?_
        refine mj_istore_n C dX10_paint_63 (by decide) ?_
        refine mj_iinc (v := v3 + 1) C dX10_paint_64 rfl rfl (by decide) ?_
        refine mj_goto C dX10_paint_67 rfl ?_
        refine mj_to ?_ (ih (v2 + 1) (v3 + 1) (mj_sI σ 81 v3.toNatClampNeg 1) R hF)
        exact ⟨rfl, rfl, rfl, trivial⟩
set_option maxRecDepth 100000 in
set_option maxHeartbeats 4000000 in
theorem w_X10_paint_26 {p : Program} {l : Launch} {e : Env} {s : State} {m : MethodId} {args : Array Value} {below : List Frame} {meth : Method} {c : Code} {G : mj_G} (C : mj_X p s m args meth c G cX10_paint 4 RX10) (hr : meth.sig.returnType = some .int) (hlk : meth.locks = false) : ∀ (t1 : Int32) (σ : mj_S) (R : (Int32 × mj_S)), b_X10_paint_26 t1 σ = some R → mj_W p l e (mj_rm 3) s m args below meth c G 0 0 4 (MQ below (mj_Q G (some (.int R.1)) R.2) args s 0 0 G.2.2.2) 26 [(0, .ref (G.2.1 64))] [.int t1, .ref (G.2.1 64)] σ := by
  intro t1 σ R hF
  unfold b_X10_paint_26 at hF
  refine mp_X10_94 C dX10_paint_26 ?_
  refine mj_iconstV (v := 0) C dX10_paint_29 mc_i_0 ?_
  refine mj_istore_n C dX10_paint_30 (by decide) ?_
  refine mj_iconstV (v := 0) C dX10_paint_31 mc_i_0 ?_
  refine mj_istore_n C dX10_paint_32 (by decide) ?_
  refine mj_to ?_ (w_X10_paint_33 C hr hlk mj_fu 0 0 (mj_sI σ 64 30 t1) R hF)
  exact ⟨rfl, rfl, rfl, trivial⟩
set_option maxRecDepth 100000 in
set_option maxHeartbeats 4000000 in
theorem c_X10_paint {G : mj_G} {l : Launch} (σ : mj_S) (p1 : Int32) (R : (Int32 × mj_S)) (hF : f_X10_paint σ p1 = some R) : mj_C G l yX10_paint cX10_paint 4 (some .int) 3 [.ref (G.2.1 64), .int p1] σ (some (.int R.1)) R.2 := by
  unfold f_X10_paint at hF
  refine mj_of (ls := [(0, .ref (G.2.1 64)), (1, .int p1)]) (by decide) (Nat.le_of_ble_eq_true rfl) rfl (fun p e s m args below meth c C hr hlk => ?_)
  refine mj_iload_n C dX10_paint_0 rfl ?_
  refine mj_callSi C (c_X10_isMonth σ p1) ys_X10_isMonth kl_X10_124 rfl rfl (Nat.le_of_ble_eq_true rfl) (mj_roomC (by decide) (by decide)) ⟨Nat.zero_le _, Nat.zero_le _⟩ dX10_paint_1 ?_
  refine mj_if_ne C dX10_paint_4 rfl hF (fun hc1 hF => ?_) (fun hc1 hF => ?_)
  · refine mj_aload_n C dX10_paint_9 rfl ?_
    refine mj_iload_n C dX10_paint_10 rfl ?_
    refine mj_aload_n C dX10_paint_11 rfl ?_
    refine mg_X10_94 C dX10_paint_12 ?_
    refine mj_ic_le C dX10_paint_15 rfl hF (fun hc2 hF => ?_) (fun hc2 hF => ?_)
    · refine mj_aload_n C dX10_paint_22 rfl ?_
      refine mg_X10_94 C dX10_paint_23 ?_
      refine mj_to ?_ (w_X10_paint_26 C hr hlk (σ.1 64 30) σ R hF)
      exact ⟨rfl, trivial⟩
    · refine mj_iload_n C dX10_paint_18 rfl ?_
      refine mj_goto C dX10_paint_19 rfl ?_
      refine mj_to ?_ (w_X10_paint_26 C hr hlk p1 σ R hF)
      exact ⟨rfl, trivial⟩
  · refine mj_iconstV (v := (-1)) C dX10_paint_7 mc_i_m1 ?_
    have hF := mj_oi hF; subst hF
    exact mj_iret C hr hlk dX10_paint_8
set_option maxRecDepth 100000 in
set_option maxHeartbeats 4000000 in
theorem c_X10_ofMark {G : mj_G} {l : Launch} (σ : mj_S) (p1 : Int32) (p2 : Int32) (R : Int32) (hF : f_X10_ofMark σ p1 p2 = some R) : mj_C G l yX10_ofMark cX10_ofMark 3 (some .int) 2 [.ref (G.2.1 64), .int p1, .int p2] σ (some (.int R)) σ := by
  unfold f_X10_ofMark at hF
  refine mj_of (ls := [(0, .ref (G.2.1 64)), (1, .int p1), (2, .int p2)]) (by decide) (Nat.le_of_ble_eq_true rfl) rfl (fun p e s m args below meth c C hr hlk => ?_)
  refine mj_iload_n C dX10_ofMark_0 rfl ?_
  refine mj_if_ne C dX10_ofMark_1 rfl hF (fun hc1 hF => ?_) (fun hc1 hF => ?_)
  · refine mj_iload_n C dX10_ofMark_16 rfl ?_
    refine mj_iconstV (v := 1) C dX10_ofMark_17 mc_i_1 ?_
    refine mj_ic_ne C dX10_ofMark_18 rfl hF (fun hc2 hF => ?_) (fun hc2 hF => ?_)
    · refine mj_iload_n C dX10_ofMark_30 rfl ?_
      refine mj_iconstV (v := 2) C dX10_ofMark_31 mc_i_2 ?_
      refine mj_ic_ne C dX10_ofMark_32 rfl hF (fun hc3 hF => ?_) (fun hc3 hF => ?_)
      · refine mj_iload_n C dX10_ofMark_44 rfl ?_
        refine mj_iconstV (v := 3) C dX10_ofMark_45 mc_i_3 ?_
        refine mj_ic_ne C dX10_ofMark_46 rfl hF (fun hc4 hF => ?_) (fun hc4 hF => ?_)
        · refine mj_aload_n C dX10_ofMark_61 rfl ?_
          refine mj_iload_n C dX10_ofMark_62 rfl ?_
          obtain ⟨r5, hq5, hF⟩ := mj_ob hF
          refine mj_callVi C (c_X10_isCovered σ p1 r5 hq5) yv_X10_isCovered kl_X10_250 (mo_64 G _) rfl rfl rfl rfl (Nat.le_of_ble_eq_true rfl) (mj_roomC (by decide) (by decide)) ⟨Nat.zero_le _, Nat.zero_le _⟩ dX10_ofMark_63 ?_
          refine mj_if_eq C dX10_ofMark_66 rfl hF (fun hc6 hF => ?_) (fun hc6 hF => ?_)
          · refine mj_iconstV (v := 0) C dX10_ofMark_73 mc_i_0 ?_
            have hF := mj_oi hF; subst hF
            exact mj_iret C hr hlk dX10_ofMark_74
          · refine mj_iconstV (v := 1) C dX10_ofMark_69 mc_i_1 ?_
            refine mj_goto C dX10_ofMark_70 rfl ?_
            have hF := mj_oi hF; subst hF
            exact mj_iret C hr hlk dX10_ofMark_74
        · refine mj_aload_n C dX10_ofMark_49 rfl ?_
          refine mg_X10_9 C dX10_ofMark_50 ?_
          refine mj_bipushV (v := 42) C dX10_ofMark_53 mc_b_42 ?_
          refine mj_iload_n C dX10_ofMark_55 rfl ?_
          refine mj_iadd C dX10_ofMark_56 ?_
          obtain ⟨hg7, hF⟩ := mj_og hF
          refine mj_iaload C dX10_ofMark_57 rfl hg7 ?_
          refine mj_goto C dX10_ofMark_58 rfl ?_
          have hF := mj_oi hF; subst hF
          exact mj_iret C hr hlk dX10_ofMark_74
      · refine mj_aload_n C dX10_ofMark_35 rfl ?_
        refine mg_X10_55 C dX10_ofMark_36 ?_
        refine mj_iload_n C dX10_ofMark_39 rfl ?_
        obtain ⟨hg8, hF⟩ := mj_og hF
        refine mj_iaload C dX10_ofMark_40 rfl hg8 ?_
        refine mj_goto C dX10_ofMark_41 rfl ?_
        have hF := mj_oi hF; subst hF
        exact mj_iret C hr hlk dX10_ofMark_74
    · refine mj_aload_n C dX10_ofMark_21 rfl ?_
      refine mg_X10_52 C dX10_ofMark_22 ?_
      refine mj_iload_n C dX10_ofMark_25 rfl ?_
      obtain ⟨hg9, hF⟩ := mj_og hF
      refine mj_iaload C dX10_ofMark_26 rfl hg9 ?_
      refine mj_goto C dX10_ofMark_27 rfl ?_
      have hF := mj_oi hF; subst hF
      exact mj_iret C hr hlk dX10_ofMark_74
  · refine mj_aload_n C dX10_ofMark_4 rfl ?_
    refine mg_X10_9 C dX10_ofMark_5 ?_
    refine mj_bipushV (v := 12) C dX10_ofMark_8 mc_b_12 ?_
    refine mj_iload_n C dX10_ofMark_10 rfl ?_
    refine mj_iadd C dX10_ofMark_11 ?_
    obtain ⟨hg10, hF⟩ := mj_og hF
    refine mj_iaload C dX10_ofMark_12 rfl hg10 ?_
    refine mj_goto C dX10_ofMark_13 rfl ?_
    have hF := mj_oi hF; subst hF
    exact mj_iret C hr hlk dX10_ofMark_74
set_option maxRecDepth 100000 in
set_option maxHeartbeats 4000000 in
theorem c_X10_ofChild {G : mj_G} {l : Launch} (σ : mj_S) (p1 : Int32) (p2 : Int32) (R : Int32) (hF : f_X10_ofChild σ p1 p2 = some R) : mj_C G l yX10_ofChild cX10_ofChild 3 (some .int) 1 [.ref (G.2.1 64), .int p1, .int p2] σ (some (.int R)) σ := by
  unfold f_X10_ofChild at hF
  refine mj_of (ls := [(0, .ref (G.2.1 64)), (1, .int p1), (2, .int p2)]) (by decide) (Nat.le_of_ble_eq_true rfl) rfl (fun p e s m args below meth c C hr hlk => ?_)
  refine mj_iload_n C dX10_ofChild_0 rfl ?_
  refine mj_bipushV (v := 10) C dX10_ofChild_1 mc_b_10 ?_
  refine mj_ic_ne C dX10_ofChild_3 rfl hF (fun hc1 hF => ?_) (fun hc1 hF => ?_)
  · refine mj_iload_n C dX10_ofChild_15 rfl ?_
    refine mj_bipushV (v := 11) C dX10_ofChild_16 mc_b_11 ?_
    refine mj_ic_ne C dX10_ofChild_18 rfl hF (fun hc2 hF => ?_) (fun hc2 hF => ?_)
    · refine mj_iload_n C dX10_ofChild_30 rfl ?_
      refine mj_bipushV (v := 12) C dX10_ofChild_31 mc_b_12 ?_
      refine mj_ic_ne C dX10_ofChild_33 rfl hF (fun hc3 hF => ?_) (fun hc3 hF => ?_)
      · refine mj_iload_n C dX10_ofChild_45 rfl ?_
        refine mj_bipushV (v := 13) C dX10_ofChild_46 mc_b_13 ?_
        refine mj_ic_ne C dX10_ofChild_48 rfl hF (fun hc4 hF => ?_) (fun hc4 hF => ?_)
        · refine mj_aload_n C dX10_ofChild_60 rfl ?_
          refine mg_X10_9 C dX10_ofChild_61 ?_
          refine mj_bipushV (v := 6) C dX10_ofChild_64 mc_b_6 ?_
          refine mj_iload_n C dX10_ofChild_66 rfl ?_
          refine mj_iadd C dX10_ofChild_67 ?_
          obtain ⟨hg5, hF⟩ := mj_og hF
          refine mj_iaload C dX10_ofChild_68 rfl hg5 ?_
          have hF := mj_oi hF; subst hF
          exact mj_iret C hr hlk dX10_ofChild_69
        · refine mj_aload_n C dX10_ofChild_51 rfl ?_
          refine mg_X10_9 C dX10_ofChild_52 ?_
          refine mj_iload_n C dX10_ofChild_55 rfl ?_
          obtain ⟨hg6, hF⟩ := mj_og hF
          refine mj_iaload C dX10_ofChild_56 rfl hg6 ?_
          refine mj_goto C dX10_ofChild_57 rfl ?_
          have hF := mj_oi hF; subst hF
          exact mj_iret C hr hlk dX10_ofChild_69
      · refine mj_aload_n C dX10_ofChild_36 rfl ?_
        refine mg_X10_28 C dX10_ofChild_37 ?_
        refine mj_iload_n C dX10_ofChild_40 rfl ?_
        obtain ⟨hg7, hF⟩ := mj_og hF
        refine mj_iaload C dX10_ofChild_41 rfl hg7 ?_
        refine mj_goto C dX10_ofChild_42 rfl ?_
        have hF := mj_oi hF; subst hF
        exact mj_iret C hr hlk dX10_ofChild_69
    · refine mj_aload_n C dX10_ofChild_21 rfl ?_
      refine mg_X10_25 C dX10_ofChild_22 ?_
      refine mj_iload_n C dX10_ofChild_25 rfl ?_
      obtain ⟨hg8, hF⟩ := mj_og hF
      refine mj_iaload C dX10_ofChild_26 rfl hg8 ?_
      refine mj_goto C dX10_ofChild_27 rfl ?_
      have hF := mj_oi hF; subst hF
      exact mj_iret C hr hlk dX10_ofChild_69
  · refine mj_aload_n C dX10_ofChild_6 rfl ?_
    refine mg_X10_22 C dX10_ofChild_7 ?_
    refine mj_iload_n C dX10_ofChild_10 rfl ?_
    obtain ⟨hg9, hF⟩ := mj_og hF
    refine mj_iaload C dX10_ofChild_11 rfl hg9 ?_
    refine mj_goto C dX10_ofChild_12 rfl ?_
    have hF := mj_oi hF; subst hF
    exact mj_iret C hr hlk dX10_ofChild_69
set_option maxRecDepth 100000 in
set_option maxHeartbeats 4000000 in
theorem c_X10_of {G : mj_G} {l : Launch} (σ : mj_S) (p1 : Int32) (p2 : Int32) (R : Int32) (hF : f_X10_of σ p1 p2 = some R) : mj_C G l yX10_of cX10_of 3 (some .int) 3 [.ref (G.2.1 64), .int p1, .int p2] σ (some (.int R)) σ := by
  unfold f_X10_of at hF
  refine mj_of (ls := [(0, .ref (G.2.1 64)), (1, .int p1), (2, .int p2)]) (by decide) (Nat.le_of_ble_eq_true rfl) rfl (fun p e s m args below meth c C hr hlk => ?_)
  refine mj_iload_n C dX10_of_0 rfl ?_
  refine mj_i2l C dX10_of_1 ?_
  refine mj_lconstV (v := 0) C dX10_of_2 mc_l_0 ?_
  refine mj_ldc2 C dX10_of_3 kc_X10_235 ?_
  refine mj_callSi C (c_X10_within σ p2.toInt64 0 4) ys_X10_within kl_X10_110 rfl rfl (Nat.le_of_ble_eq_true rfl) (mj_roomC (by decide) (by decide)) ⟨Nat.zero_le _, Nat.zero_le _⟩ dX10_of_6 ?_
  refine mj_if_eq C dX10_of_9 rfl hF (fun hc1 hF => ?_) (fun hc1 hF => ?_)
  · refine mj_iload_n C dX10_of_33 rfl ?_
    refine mj_i2l C dX10_of_34 ?_
    refine mj_ldc2 C dX10_of_35 kc_X10_260 ?_
    refine mj_ldc2 C dX10_of_38 kc_X10_262 ?_
    refine mj_callSi C (c_X10_within σ p2.toInt64 10 14) ys_X10_within kl_X10_110 rfl rfl (Nat.le_of_ble_eq_true rfl) (mj_roomC (by decide) (by decide)) ⟨Nat.zero_le _, Nat.zero_le _⟩ dX10_of_41 ?_
    refine mj_if_eq C dX10_of_44 rfl hF (fun hc2 hF => ?_) (fun hc2 hF => ?_)
    · refine mj_ldcw C dX10_of_64 kc_X10_259 ?_
      have hF := mj_oi hF; subst hF
      exact mj_iret C hr hlk dX10_of_67
    · refine mj_aload_n C dX10_of_47 rfl ?_
      refine mj_iload_n C dX10_of_48 rfl ?_
      refine mj_callVi C (c_X10_isChild σ p1) yv_X10_isChild kl_X10_220 (mo_64 G _) rfl rfl rfl rfl (Nat.le_of_ble_eq_true rfl) (mj_roomC (by decide) (by decide)) ⟨Nat.zero_le _, Nat.zero_le _⟩ dX10_of_49 ?_
      refine mj_if_eq C dX10_of_52 rfl hF (fun hc3 hF => ?_) (fun hc3 hF => ?_)
      · refine mj_ldcw C dX10_of_64 kc_X10_259 ?_
        have hF := mj_oi hF; subst hF
        exact mj_iret C hr hlk dX10_of_67
      · refine mj_aload_n C dX10_of_55 rfl ?_
        refine mj_iload_n C dX10_of_56 rfl ?_
        refine mj_iload_n C dX10_of_57 rfl ?_
        obtain ⟨r4, hq4, hF⟩ := mj_ob hF
        refine mj_callVi C (c_X10_ofChild σ p1 p2 r4 hq4) yv_X10_ofChild kl_X10_264 (mo_64 G _) rfl rfl rfl rfl (Nat.le_of_ble_eq_true rfl) (mj_roomC (by decide) (by decide)) ⟨Nat.zero_le _, Nat.zero_le _⟩ dX10_of_58 ?_
        refine mj_goto C dX10_of_61 rfl ?_
        have hF := mj_oi hF; subst hF
        exact mj_iret C hr hlk dX10_of_67
  · refine mj_aload_n C dX10_of_12 rfl ?_
    refine mj_iload_n C dX10_of_13 rfl ?_
    refine mj_callVi C (c_X10_isMark σ p1) yv_X10_isMark kl_X10_253 (mo_64 G _) rfl rfl rfl rfl (Nat.le_of_ble_eq_true rfl) (mj_roomC (by decide) (by decide)) ⟨Nat.zero_le _, Nat.zero_le _⟩ dX10_of_14 ?_
    refine mj_if_eq C dX10_of_17 rfl hF (fun hc5 hF => ?_) (fun hc5 hF => ?_)
    · refine mj_ldcw C dX10_of_29 kc_X10_259 ?_
      have hF := mj_oi hF; subst hF
      exact mj_iret C hr hlk dX10_of_32
    · refine mj_aload_n C dX10_of_20 rfl ?_
      refine mj_iload_n C dX10_of_21 rfl ?_
      refine mj_iload_n C dX10_of_22 rfl ?_
      obtain ⟨r6, hq6, hF⟩ := mj_ob hF
      refine mj_callVi C (c_X10_ofMark σ p1 p2 r6 hq6) yv_X10_ofMark kl_X10_256 (mo_64 G _) rfl rfl rfl rfl (Nat.le_of_ble_eq_true rfl) (mj_roomC (by decide) (by decide)) ⟨Nat.zero_le _, Nat.zero_le _⟩ dX10_of_23 ?_
      refine mj_goto C dX10_of_26 rfl ?_
      have hF := mj_oi hF; subst hF
      exact mj_iret C hr hlk dX10_of_32
set_option maxRecDepth 100000 in
set_option maxHeartbeats 4000000 in
theorem c_X10_mend {G : mj_G} {l : Launch} (σ : mj_S) (p1 : Int32) (p2 : Int32) (p3 : Int32) (R : (Int32 × mj_S)) (hF : f_X10_mend σ p1 p2 p3 = some R) : mj_C G l yX10_mend cX10_mend 4 (some .int) 3 [.ref (G.2.1 64), .int p1, .int p2, .int p3] σ (some (.int R.1)) R.2 := by
  unfold f_X10_mend at hF
  refine mj_of (ls := [(0, .ref (G.2.1 64)), (1, .int p1), (2, .int p2), (3, .int p3)]) (by decide) (Nat.le_of_ble_eq_true rfl) rfl (fun p e s m args below meth c C hr hlk => ?_)
  refine mj_iload_n C dX10_mend_0 rfl ?_
  by_cases hw1_0 : p2 = 0
  · rw [if_pos hw1_0] at hF
    refine mj_tsIn (off := 31) C dX10_mend_1 (by rw [hw1_0]; decide) (by rw [hw1_0]; decide) (by rw [hw1_0]; rfl) rfl ?_
    refine mj_aload_n C dX10_mend_32 rfl ?_
    refine mj_iload_n C dX10_mend_33 rfl ?_
    refine mj_callVi C (c_X10_isMark σ p1) yv_X10_isMark kl_X10_253 (mo_64 G _) rfl rfl rfl rfl (Nat.le_of_ble_eq_true rfl) (mj_roomC (by decide) (by decide)) ⟨Nat.zero_le _, Nat.zero_le _⟩ dX10_mend_34 ?_
    refine mj_if_eq C dX10_mend_37 rfl hF (fun hc2 hF => ?_) (fun hc2 hF => ?_)
    · refine mj_ldcw C dX10_mend_64 kc_X10_259 ?_
      have hF := mj_oi hF; subst hF
      exact mj_iret C hr hlk dX10_mend_67
    · refine mj_iload_n C dX10_mend_40 rfl ?_
      refine mj_i2l C dX10_mend_41 ?_
      refine mj_lconstV (v := 0) C dX10_mend_42 mc_l_0 ?_
      refine mj_ldc2 C dX10_mend_43 kc_X10_229 ?_
      refine mj_callSi C (c_X10_within σ p3.toInt64 0 9999) ys_X10_within kl_X10_110 rfl rfl (Nat.le_of_ble_eq_true rfl) (mj_roomC (by decide) (by decide)) ⟨Nat.zero_le _, Nat.zero_le _⟩ dX10_mend_46 ?_
      refine mj_if_eq C dX10_mend_49 rfl hF (fun hc3 hF => ?_) (fun hc3 hF => ?_)
      · refine mj_ldcw C dX10_mend_64 kc_X10_259 ?_
        have hF := mj_oi hF; subst hF
        exact mj_iret C hr hlk dX10_mend_67
      · refine mj_aload_n C dX10_mend_52 rfl ?_
        refine mj_bipushV (v := 12) C dX10_mend_53 mc_b_12 ?_
        refine mj_iload_n C dX10_mend_55 rfl ?_
        refine mj_iadd C dX10_mend_56 ?_
        refine mj_iload_n C dX10_mend_57 rfl ?_
        obtain ⟨r4, hq4, hF⟩ := mj_ob hF
        refine mj_callVi C (c_X10_becomes σ (12 + p1) p3 r4 hq4) yv_X10_becomes kl_X10_267 (mo_64 G _) rfl rfl rfl rfl (Nat.le_of_ble_eq_true rfl) (mj_roomC (by decide) (by decide)) ⟨Nat.zero_le _, Nat.zero_le _⟩ dX10_mend_58 ?_
        refine mj_goto C dX10_mend_61 rfl ?_
        have hF := mj_oi hF; subst hF
        exact mj_iret C hr hlk dX10_mend_67
  rw [if_neg hw1_0] at hF
  by_cases hw1_1 : p2 = 1
  · rw [if_pos hw1_1] at hF
    refine mj_tsIn (off := 67) C dX10_mend_1 (by rw [hw1_1]; decide) (by rw [hw1_1]; decide) (by rw [hw1_1]; rfl) rfl ?_
    refine mj_aload_n C dX10_mend_68 rfl ?_
    refine mj_iload_n C dX10_mend_69 rfl ?_
    refine mj_callVi C (c_X10_isMark σ p1) yv_X10_isMark kl_X10_253 (mo_64 G _) rfl rfl rfl rfl (Nat.le_of_ble_eq_true rfl) (mj_roomC (by decide) (by decide)) ⟨Nat.zero_le _, Nat.zero_le _⟩ dX10_mend_70 ?_
    refine mj_if_eq C dX10_mend_73 rfl hF (fun hc5 hF => ?_) (fun hc5 hF => ?_)
    · refine mj_ldcw C dX10_mend_100 kc_X10_259 ?_
      have hF := mj_oi hF; subst hF
      exact mj_iret C hr hlk dX10_mend_103
    · refine mj_iload_n C dX10_mend_76 rfl ?_
      refine mj_i2l C dX10_mend_77 ?_
      refine mj_lconstV (v := 0) C dX10_mend_78 mc_l_0 ?_
      refine mj_ldc2 C dX10_mend_79 kc_X10_235 ?_
      refine mj_callSi C (c_X10_within σ p3.toInt64 0 4) ys_X10_within kl_X10_110 rfl rfl (Nat.le_of_ble_eq_true rfl) (mj_roomC (by decide) (by decide)) ⟨Nat.zero_le _, Nat.zero_le _⟩ dX10_mend_82 ?_
      refine mj_if_eq C dX10_mend_85 rfl hF (fun hc6 hF => ?_) (fun hc6 hF => ?_)
      · refine mj_ldcw C dX10_mend_100 kc_X10_259 ?_
        have hF := mj_oi hF; subst hF
        exact mj_iret C hr hlk dX10_mend_103
      · refine mj_aload_n C dX10_mend_88 rfl ?_
        refine mj_bipushV (v := 42) C dX10_mend_89 mc_b_42 ?_
        refine mj_iload_n C dX10_mend_91 rfl ?_
        refine mj_iadd C dX10_mend_92 ?_
        refine mj_iload_n C dX10_mend_93 rfl ?_
        obtain ⟨r7, hq7, hF⟩ := mj_ob hF
        refine mj_callVi C (c_X10_becomes σ (42 + p1) p3 r7 hq7) yv_X10_becomes kl_X10_267 (mo_64 G _) rfl rfl rfl rfl (Nat.le_of_ble_eq_true rfl) (mj_roomC (by decide) (by decide)) ⟨Nat.zero_le _, Nat.zero_le _⟩ dX10_mend_94 ?_
        refine mj_goto C dX10_mend_97 rfl ?_
        have hF := mj_oi hF; subst hF
        exact mj_iret C hr hlk dX10_mend_103
  rw [if_neg hw1_1] at hF
  by_cases hw1_2 : p2 = 2
  · rw [if_pos hw1_2] at hF
    refine mj_tsIn (off := 103) C dX10_mend_1 (by rw [hw1_2]; decide) (by rw [hw1_2]; decide) (by rw [hw1_2]; rfl) rfl ?_
    refine mj_aload_n C dX10_mend_104 rfl ?_
    refine mj_iload_n C dX10_mend_105 rfl ?_
    refine mj_callVi C (c_X10_isChild σ p1) yv_X10_isChild kl_X10_220 (mo_64 G _) rfl rfl rfl rfl (Nat.le_of_ble_eq_true rfl) (mj_roomC (by decide) (by decide)) ⟨Nat.zero_le _, Nat.zero_le _⟩ dX10_mend_106 ?_
    refine mj_if_eq C dX10_mend_109 rfl hF (fun hc8 hF => ?_) (fun hc8 hF => ?_)
    · refine mj_ldcw C dX10_mend_128 kc_X10_259 ?_
      have hF := mj_oi hF; subst hF
      exact mj_iret C hr hlk dX10_mend_131
    · refine mj_iload_n C dX10_mend_112 rfl ?_
      refine mj_callSi C (c_X10_isLate σ p3) ys_X10_isLate kl_X10_132 rfl rfl (Nat.le_of_ble_eq_true rfl) (mj_roomC (by decide) (by decide)) ⟨Nat.zero_le _, Nat.zero_le _⟩ dX10_mend_113 ?_
      refine mj_if_eq C dX10_mend_116 rfl hF (fun hc9 hF => ?_) (fun hc9 hF => ?_)
      · refine mj_ldcw C dX10_mend_128 kc_X10_259 ?_
        have hF := mj_oi hF; subst hF
        exact mj_iret C hr hlk dX10_mend_131
      · refine mj_aload_n C dX10_mend_119 rfl ?_
        refine mj_iload_n C dX10_mend_120 rfl ?_
        refine mj_iload_n C dX10_mend_121 rfl ?_
        obtain ⟨r10, hq10, hF⟩ := mj_ob hF
        refine mj_callVi C (c_X10_becomes σ p1 p3 r10 hq10) yv_X10_becomes kl_X10_267 (mo_64 G _) rfl rfl rfl rfl (Nat.le_of_ble_eq_true rfl) (mj_roomC (by decide) (by decide)) ⟨Nat.zero_le _, Nat.zero_le _⟩ dX10_mend_122 ?_
        refine mj_goto C dX10_mend_125 rfl ?_
        have hF := mj_oi hF; subst hF
        exact mj_iret C hr hlk dX10_mend_131
  rw [if_neg hw1_2] at hF
  by_cases hw1_3 : p2 = 3
  · rw [if_pos hw1_3] at hF
    refine mj_tsIn (off := 131) C dX10_mend_1 (by rw [hw1_3]; decide) (by rw [hw1_3]; decide) (by rw [hw1_3]; rfl) rfl ?_
    refine mj_aload_n C dX10_mend_132 rfl ?_
    refine mj_iload_n C dX10_mend_133 rfl ?_
    refine mj_callVi C (c_X10_isChild σ p1) yv_X10_isChild kl_X10_220 (mo_64 G _) rfl rfl rfl rfl (Nat.le_of_ble_eq_true rfl) (mj_roomC (by decide) (by decide)) ⟨Nat.zero_le _, Nat.zero_le _⟩ dX10_mend_134 ?_
    refine mj_if_eq C dX10_mend_137 rfl hF (fun hc11 hF => ?_) (fun hc11 hF => ?_)
    · refine mj_ldcw C dX10_mend_159 kc_X10_259 ?_
      have hF := mj_oi hF; subst hF
      exact mj_iret C hr hlk dX10_mend_162
    · refine mj_iload_n C dX10_mend_140 rfl ?_
      refine mj_callSi C (c_X10_areParents σ p3) ys_X10_areParents kl_X10_135 rfl rfl (Nat.le_of_ble_eq_true rfl) (mj_roomC (by decide) (by decide)) ⟨Nat.zero_le _, Nat.zero_le _⟩ dX10_mend_141 ?_
      refine mj_if_eq C dX10_mend_144 rfl hF (fun hc12 hF => ?_) (fun hc12 hF => ?_)
      · refine mj_ldcw C dX10_mend_159 kc_X10_259 ?_
        have hF := mj_oi hF; subst hF
        exact mj_iret C hr hlk dX10_mend_162
      · refine mj_aload_n C dX10_mend_147 rfl ?_
        refine mj_bipushV (v := 6) C dX10_mend_148 mc_b_6 ?_
        refine mj_iload_n C dX10_mend_150 rfl ?_
        refine mj_iadd C dX10_mend_151 ?_
        refine mj_iload_n C dX10_mend_152 rfl ?_
        obtain ⟨r13, hq13, hF⟩ := mj_ob hF
        refine mj_callVi C (c_X10_becomes σ (6 + p1) p3 r13 hq13) yv_X10_becomes kl_X10_267 (mo_64 G _) rfl rfl rfl rfl (Nat.le_of_ble_eq_true rfl) (mj_roomC (by decide) (by decide)) ⟨Nat.zero_le _, Nat.zero_le _⟩ dX10_mend_153 ?_
        refine mj_goto C dX10_mend_156 rfl ?_
        have hF := mj_oi hF; subst hF
        exact mj_iret C hr hlk dX10_mend_162
  rw [if_neg hw1_3] at hF
  refine mj_tsOut C dX10_mend_1 (mj_sw_0_4 hw1_0 hw1_1 hw1_2 hw1_3) rfl ?_
  refine mj_ldcw C dX10_mend_163 kc_X10_259 ?_
  have hF := mj_oi hF; subst hF
  exact mj_iret C hr hlk dX10_mend_166
set_option maxRecDepth 100000 in
set_option maxHeartbeats 4000000 in
theorem c_X10_byWay {G : mj_G} {l : Launch} (σ : mj_S) (p0 : Int32) (p1 : Int32) : mj_C G l yX10_byWay cX10_byWay 2 (some .int) 1 [.int p0, .int p1] σ (some (.int (f_X10_byWay σ p0 p1))) σ := by
  generalize hF : f_X10_byWay σ p0 p1 = R
  unfold f_X10_byWay at hF
  refine mj_of (ls := [(0, .int p0), (1, .int p1)]) (by decide) (Nat.le_of_ble_eq_true rfl) rfl (fun p e s m args below meth c C hr hlk => ?_)
  refine mj_iload_n C dX10_byWay_0 rfl ?_
  by_cases hw1_0 : p1 = 1
  · rw [if_pos hw1_0] at hF
    refine mj_tsIn (off := 31) C dX10_byWay_1 (by rw [hw1_0]; decide) (by rw [hw1_0]; decide) (by rw [hw1_0]; rfl) rfl ?_
    refine mj_iload_n C dX10_byWay_32 rfl ?_
    refine mj_bipushV (v := 48) C dX10_byWay_33 mc_b_48 ?_
    refine mj_iadd C dX10_byWay_35 ?_
    subst hF
    exact mj_iret C hr hlk dX10_byWay_36
  rw [if_neg hw1_0] at hF
  by_cases hw1_1 : p1 = 2
  · rw [if_pos hw1_1] at hF
    refine mj_tsIn (off := 36) C dX10_byWay_1 (by rw [hw1_1]; decide) (by rw [hw1_1]; decide) (by rw [hw1_1]; rfl) rfl ?_
    refine mj_iload_n C dX10_byWay_37 rfl ?_
    refine mj_sipushV (v := 128) C dX10_byWay_38 mc_s_128 ?_
    refine mj_iadd C dX10_byWay_41 ?_
    subst hF
    exact mj_iret C hr hlk dX10_byWay_42
  rw [if_neg hw1_1] at hF
  by_cases hw1_2 : p1 = 3
  · rw [if_pos hw1_2] at hF
    refine mj_tsIn (off := 42) C dX10_byWay_1 (by rw [hw1_2]; decide) (by rw [hw1_2]; decide) (by rw [hw1_2]; rfl) rfl ?_
    refine mj_iload_n C dX10_byWay_43 rfl ?_
    refine mj_bipushV (v := 24) C dX10_byWay_44 mc_b_24 ?_
    refine mj_ic_ge C dX10_byWay_46 rfl hF (fun hc2 hF => ?_) (fun hc2 hF => ?_)
    · refine mj_iload_n C dX10_byWay_53 rfl ?_
      refine mj_bipushV (v := 24) C dX10_byWay_54 mc_b_24 ?_
      refine mj_isub C dX10_byWay_56 ?_
      subst hF
      exact mj_iret C hr hlk dX10_byWay_57
    · refine mj_iconstV (v := 0) C dX10_byWay_49 mc_i_0 ?_
      refine mj_goto C dX10_byWay_50 rfl ?_
      subst hF
      exact mj_iret C hr hlk dX10_byWay_57
  rw [if_neg hw1_2] at hF
  by_cases hw1_3 : p1 = 4
  · rw [if_pos hw1_3] at hF
    refine mj_tsIn (off := 57) C dX10_byWay_1 (by rw [hw1_3]; decide) (by rw [hw1_3]; decide) (by rw [hw1_3]; rfl) rfl ?_
    refine mj_iload_n C dX10_byWay_58 rfl ?_
    refine mj_bipushV (v := 32) C dX10_byWay_59 mc_b_32 ?_
    refine mj_iadd C dX10_byWay_61 ?_
    refine mj_bipushV (v := 64) C dX10_byWay_62 mc_b_64 ?_
    refine mj_idiv C dX10_byWay_64 (by decide) ?_
    refine mj_bipushV (v := 64) C dX10_byWay_65 mc_b_64 ?_
    refine mj_imul C dX10_byWay_67 ?_
    subst hF
    exact mj_iret C hr hlk dX10_byWay_68
  rw [if_neg hw1_3] at hF
  refine mj_tsOut C dX10_byWay_1 (mj_sw_1_4 hw1_0 hw1_1 hw1_2 hw1_3) rfl ?_
  refine mj_iload_n C dX10_byWay_69 rfl ?_
  subst hF
  exact mj_iret C hr hlk dX10_byWay_70
set_option maxRecDepth 100000 in
set_option maxHeartbeats 4000000 in
theorem c_X10_offBy {G : mj_G} {l : Launch} (σ : mj_S) (p1 : Int32) (p2 : Int32) (p3 : Int32) (p4 : Int32) (R : (Int32 × mj_S)) (hF : f_X10_offBy σ p1 p2 p3 p4 = some R) : mj_C G l yX10_offBy cX10_offBy 5 (some .int) 109 [.ref (G.2.1 64), .int p1, .int p2, .int p3, .int p4] σ (some (.int R.1)) R.2 := by
  unfold f_X10_offBy at hF
  refine mj_of (ls := [(0, .ref (G.2.1 64)), (1, .int p1), (2, .int p2), (3, .int p3), (4, .int p4)]) (by decide) (Nat.le_of_ble_eq_true rfl) rfl (fun p e s m args below meth c C hr hlk => ?_)
  refine mj_iload_n C dX10_offBy_0 rfl ?_
  refine mj_aload_n C dX10_offBy_1 rfl ?_
  refine mg_X10_22 C dX10_offBy_2 ?_
  refine mj_iload_n C dX10_offBy_5 rfl ?_
  obtain ⟨hg1, hF⟩ := mj_og hF
  refine mj_iaload C dX10_offBy_6 rfl hg1 ?_
  refine mj_ic_ge C dX10_offBy_7 rfl hF (fun hc2 hF => ?_) (fun hc2 hF => ?_)
  · refine mj_iload_n C dX10_offBy_15 rfl ?_
    refine mj_aload_n C dX10_offBy_16 rfl ?_
    refine mj_iload_n C dX10_offBy_17 rfl ?_
    refine mj_iload_n C dX10_offBy_18 rfl ?_
    obtain ⟨r3, hq3, hF⟩ := mj_ob hF
    refine mj_callVi C (c_X10_heightOf σ p2 p3 r3 hq3) yv_X10_heightOf kl_X10_223 (mo_64 G _) rfl rfl rfl rfl (Nat.le_of_ble_eq_true rfl) (mj_roomC (by decide) (by decide)) ⟨Nat.zero_le _, Nat.zero_le _⟩ dX10_offBy_19 ?_
    refine mj_iload C dX10_offBy_22 rfl ?_
    refine mj_callSi C (c_X10_byWay r3.2 r3.1 p4) ys_X10_byWay kl_X10_270 rfl rfl (Nat.le_of_ble_eq_true rfl) (mj_roomC (by decide) (by decide)) ⟨Nat.zero_le _, Nat.zero_le _⟩ dX10_offBy_24 ?_
    refine mj_isub C dX10_offBy_27 ?_
    refine mj_callSi C (c_X10_size r3.2 (p1 - (f_X10_byWay r3.2 r3.1 p4))) ys_X10_size kl_X10_273 rfl rfl (Nat.le_of_ble_eq_true rfl) (mj_roomC (by decide) (by decide)) ⟨Nat.zero_le _, Nat.zero_le _⟩ dX10_offBy_28 ?_
    have hF := mj_oi hF; subst hF
    exact mj_iret C hr hlk dX10_offBy_31
  · refine mj_bipushV (v := (-2)) C dX10_offBy_10 mc_b_m2 ?_
    refine mj_goto C dX10_offBy_12 rfl ?_
    have hF := mj_oi hF; subst hF
    exact mj_iret C hr hlk dX10_offBy_31
set_option maxRecDepth 100000 in
set_option maxHeartbeats 4000000 in
theorem c_X10_offOf {G : mj_G} {l : Launch} (σ : mj_S) (p1 : Int32) (p2 : Int32) (p3 : Int32) (R : (Int32 × mj_S)) (hF : f_X10_offOf σ p1 p2 p3 = some R) : mj_C G l yX10_offOf cX10_offOf 4 (some .int) 110 [.ref (G.2.1 64), .int p1, .int p2, .int p3] σ (some (.int R.1)) R.2 := by
  unfold f_X10_offOf at hF
  refine mj_of (ls := [(0, .ref (G.2.1 64)), (1, .int p1), (2, .int p2), (3, .int p3)]) (by decide) (Nat.le_of_ble_eq_true rfl) rfl (fun p e s m args below meth c C hr hlk => ?_)
  refine mj_aload_n C dX10_offOf_0 rfl ?_
  refine mj_aload_n C dX10_offOf_1 rfl ?_
  refine mg_X10_9 C dX10_offOf_2 ?_
  refine mj_bipushV (v := 12) C dX10_offOf_5 mc_b_12 ?_
  refine mj_iload_n C dX10_offOf_7 rfl ?_
  refine mj_iadd C dX10_offOf_8 ?_
  obtain ⟨hg1, hF⟩ := mj_og hF
  refine mj_iaload C dX10_offOf_9 rfl hg1 ?_
  refine mj_iload_n C dX10_offOf_10 rfl ?_
  refine mj_iload_n C dX10_offOf_11 rfl ?_
  refine mj_aload_n C dX10_offOf_12 rfl ?_
  refine mg_X10_9 C dX10_offOf_13 ?_
  refine mj_bipushV (v := 42) C dX10_offOf_16 mc_b_42 ?_
  refine mj_iload_n C dX10_offOf_18 rfl ?_
  refine mj_iadd C dX10_offOf_19 ?_
  obtain ⟨hg2, hF⟩ := mj_og hF
  refine mj_iaload C dX10_offOf_20 rfl hg2 ?_
  obtain ⟨r3, hq3, hF⟩ := mj_ob hF
  refine mj_callVi C (c_X10_offBy σ (σ.1 65 (12 + p1).toNatClampNeg) p2 p3 (σ.1 65 (42 + p1).toNatClampNeg) r3 hq3) yv_X10_offBy kl_X10_276 (mo_64 G _) rfl rfl rfl rfl (Nat.le_of_ble_eq_true rfl) (mj_roomC (by decide) (by decide)) ⟨Nat.zero_le _, Nat.zero_le _⟩ dX10_offOf_21 ?_
  have hF := mj_oi hF; subst hF
  exact mj_iret C hr hlk dX10_offOf_24
set_option maxRecDepth 100000 in
set_option maxHeartbeats 4000000 in
theorem c_X10_isMc {G : mj_G} {l : Launch} (σ : mj_S) (p1 : Int32) : mj_C G l yX10_isMc cX10_isMc 2 (some .boolean) 3 [.ref (G.2.1 64), .int p1] σ (some (.int (f_X10_isMc σ p1))) σ := by
  generalize hF : f_X10_isMc σ p1 = R
  unfold f_X10_isMc at hF
  refine mj_of (ls := [(0, .ref (G.2.1 64)), (1, .int p1)]) (by decide) (Nat.le_of_ble_eq_true rfl) rfl (fun p e s m args below meth c C hr hlk => ?_)
  refine mj_iload_n C dX10_isMc_0 rfl ?_
  refine mj_if_lt C dX10_isMc_1 rfl hF (fun hc1 hF => ?_) (fun hc1 hF => ?_)
  · refine mj_iconstV (v := 0) C dX10_isMc_30 mc_i_0 ?_
    subst hF
    exact mj_zret (v := 0) rfl C hr hlk dX10_isMc_31
  · refine mj_aload_n C dX10_isMc_4 rfl ?_
    refine mj_iload_n C dX10_isMc_5 rfl ?_
    refine mj_bipushV (v := 10) C dX10_isMc_6 mc_b_10 ?_
    refine mj_idiv C dX10_isMc_8 (by decide) ?_
    refine mj_callVi C (c_X10_isMark σ (p1 / 10)) yv_X10_isMark kl_X10_253 (mo_64 G _) rfl rfl rfl rfl (Nat.le_of_ble_eq_true rfl) (mj_roomC (by decide) (by decide)) ⟨Nat.zero_le _, Nat.zero_le _⟩ dX10_isMc_9 ?_
    refine mj_if_eq C dX10_isMc_12 rfl hF (fun hc2 hF => ?_) (fun hc2 hF => ?_)
    · refine mj_iconstV (v := 0) C dX10_isMc_30 mc_i_0 ?_
      subst hF
      exact mj_zret (v := 0) rfl C hr hlk dX10_isMc_31
    · refine mj_aload_n C dX10_isMc_15 rfl ?_
      refine mj_iload_n C dX10_isMc_16 rfl ?_
      refine mj_bipushV (v := 10) C dX10_isMc_17 mc_b_10 ?_
      refine mj_irem C dX10_isMc_19 (by decide) ?_
      refine mj_callVi C (c_X10_isChild σ (mj_rem p1 10)) yv_X10_isChild kl_X10_220 (mo_64 G _) rfl rfl rfl rfl (Nat.le_of_ble_eq_true rfl) (mj_roomC (by decide) (by decide)) ⟨Nat.zero_le _, Nat.zero_le _⟩ dX10_isMc_20 ?_
      refine mj_if_eq C dX10_isMc_23 rfl hF (fun hc3 hF => ?_) (fun hc3 hF => ?_)
      · refine mj_iconstV (v := 0) C dX10_isMc_30 mc_i_0 ?_
        subst hF
        exact mj_zret (v := 0) rfl C hr hlk dX10_isMc_31
      · refine mj_iconstV (v := 1) C dX10_isMc_26 mc_i_1 ?_
        refine mj_goto C dX10_isMc_27 rfl ?_
        subst hF
        exact mj_zret (v := 1) rfl C hr hlk dX10_isMc_31
set_option maxRecDepth 100000 in
set_option maxHeartbeats 4000000 in
theorem c_X10_off {G : mj_G} {l : Launch} (σ : mj_S) (p1 : Int32) (p2 : Int32) (p3 : Int32) (R : (Int32 × mj_S)) (hF : f_X10_off σ p1 p2 p3 = some R) : mj_C G l yX10_off cX10_off 4 (some .int) 110 [.ref (G.2.1 64), .int p1, .int p2, .int p3] σ (some (.int R.1)) R.2 := by
  unfold f_X10_off at hF
  refine mj_of (ls := [(0, .ref (G.2.1 64)), (1, .int p1), (2, .int p2), (3, .int p3)]) (by decide) (Nat.le_of_ble_eq_true rfl) rfl (fun p e s m args below meth c C hr hlk => ?_)
  refine mj_aload_n C dX10_off_0 rfl ?_
  refine mj_iload_n C dX10_off_1 rfl ?_
  refine mj_callVi C (c_X10_isMc σ p1) yv_X10_isMc kl_X10_280 (mo_64 G _) rfl rfl rfl rfl (Nat.le_of_ble_eq_true rfl) (mj_roomC (by decide) (by decide)) ⟨Nat.zero_le _, Nat.zero_le _⟩ dX10_off_2 ?_
  refine mj_if_eq C dX10_off_5 rfl hF (fun hc1 hF => ?_) (fun hc1 hF => ?_)
  · refine mj_iconstV (v := (-1)) C dX10_off_52 mc_i_m1 ?_
    have hF := mj_oi hF; subst hF
    exact mj_iret C hr hlk dX10_off_53
  · refine mj_iload_n C dX10_off_8 rfl ?_
    refine mj_callSi C (c_X10_isMonth σ p2) ys_X10_isMonth kl_X10_124 rfl rfl (Nat.le_of_ble_eq_true rfl) (mj_roomC (by decide) (by decide)) ⟨Nat.zero_le _, Nat.zero_le _⟩ dX10_off_9 ?_
    refine mj_if_eq C dX10_off_12 rfl hF (fun hc2 hF => ?_) (fun hc2 hF => ?_)
    · refine mj_iconstV (v := (-1)) C dX10_off_52 mc_i_m1 ?_
      have hF := mj_oi hF; subst hF
      exact mj_iret C hr hlk dX10_off_53
    · refine mj_iload_n C dX10_off_15 rfl ?_
      refine mj_i2l C dX10_off_16 ?_
      refine mj_lconstV (v := 0) C dX10_off_17 mc_l_0 ?_
      refine mj_ldc2 C dX10_off_18 kc_X10_235 ?_
      refine mj_callSi C (c_X10_within σ p3.toInt64 0 4) ys_X10_within kl_X10_110 rfl rfl (Nat.le_of_ble_eq_true rfl) (mj_roomC (by decide) (by decide)) ⟨Nat.zero_le _, Nat.zero_le _⟩ dX10_off_21 ?_
      refine mj_if_eq C dX10_off_24 rfl hF (fun hc3 hF => ?_) (fun hc3 hF => ?_)
      · refine mj_iconstV (v := (-1)) C dX10_off_52 mc_i_m1 ?_
        have hF := mj_oi hF; subst hF
        exact mj_iret C hr hlk dX10_off_53
      · refine mj_aload_n C dX10_off_27 rfl ?_
        refine mj_aload_n C dX10_off_28 rfl ?_
        refine mg_X10_9 C dX10_off_29 ?_
        refine mj_bipushV (v := 12) C dX10_off_32 mc_b_12 ?_
        refine mj_iload_n C dX10_off_34 rfl ?_
        refine mj_bipushV (v := 10) C dX10_off_35 mc_b_10 ?_
        refine mj_idiv C dX10_off_37 (by decide) ?_
        refine mj_iadd C dX10_off_38 ?_
        obtain ⟨hg4, hF⟩ := mj_og hF
        refine mj_iaload C dX10_off_39 rfl hg4 ?_
        refine mj_iload_n C dX10_off_40 rfl ?_
        refine mj_bipushV (v := 10) C dX10_off_41 mc_b_10 ?_
        refine mj_irem C dX10_off_43 (by decide) ?_
        refine mj_iload_n C dX10_off_44 rfl ?_
        refine mj_iload_n C dX10_off_45 rfl ?_
        obtain ⟨r5, hq5, hF⟩ := mj_ob hF
        refine mj_callVi C (c_X10_offBy σ (σ.1 65 (12 + (p1 / 10)).toNatClampNeg) (mj_rem p1 10) p2 p3 r5 hq5) yv_X10_offBy kl_X10_276 (mo_64 G _) rfl rfl rfl rfl (Nat.le_of_ble_eq_true rfl) (mj_roomC (by decide) (by decide)) ⟨Nat.zero_le _, Nat.zero_le _⟩ dX10_off_46 ?_
        refine mj_goto C dX10_off_49 rfl ?_
        have hF := mj_oi hF; subst hF
        exact mj_iret C hr hlk dX10_off_53
set_option maxRecDepth 100000 in
set_option maxHeartbeats 4000000 in
theorem c_X10_mayBe {G : mj_G} {l : Launch} (σ : mj_S) (p1 : Int32) (p2 : Int32) (R : Int32) (hF : f_X10_mayBe σ p1 p2 = some R) : mj_C G l yX10_mayBe cX10_mayBe 3 (some .boolean) 3 [.ref (G.2.1 64), .int p1, .int p2] σ (some (.int R)) σ := by
  unfold f_X10_mayBe at hF
  refine mj_of (ls := [(0, .ref (G.2.1 64)), (1, .int p1), (2, .int p2)]) (by decide) (Nat.le_of_ble_eq_true rfl) rfl (fun p e s m args below meth c C hr hlk => ?_)
  refine mj_aload_n C dX10_mayBe_0 rfl ?_
  refine mj_aload_n C dX10_mayBe_1 rfl ?_
  refine mg_X10_52 C dX10_mayBe_2 ?_
  refine mj_iload_n C dX10_mayBe_5 rfl ?_
  obtain ⟨hg1, hF⟩ := mj_og hF
  refine mj_iaload C dX10_mayBe_6 rfl hg1 ?_
  refine mj_callVi C (c_X10_isChild σ (σ.1 79 p1.toNatClampNeg)) yv_X10_isChild kl_X10_220 (mo_64 G _) rfl rfl rfl rfl (Nat.le_of_ble_eq_true rfl) (mj_roomC (by decide) (by decide)) ⟨Nat.zero_le _, Nat.zero_le _⟩ dX10_mayBe_7 ?_
  refine mj_if_eq C dX10_mayBe_10 rfl hF (fun hc2 hF => ?_) (fun hc2 hF => ?_)
  · refine mj_iconstV (v := 1) C dX10_mayBe_23 mc_i_1 ?_
    refine mj_goto C dX10_mayBe_24 rfl ?_
    have hF := mj_oi hF; subst hF
    exact mj_zret (v := 1) rfl C hr hlk dX10_mayBe_28
  · refine mj_aload_n C dX10_mayBe_13 rfl ?_
    refine mg_X10_52 C dX10_mayBe_14 ?_
    refine mj_iload_n C dX10_mayBe_17 rfl ?_
    obtain ⟨hg3, hF⟩ := mj_og hF
    refine mj_iaload C dX10_mayBe_18 rfl hg3 ?_
    refine mj_iload_n C dX10_mayBe_19 rfl ?_
    refine mj_ic_ne C dX10_mayBe_20 rfl hF (fun hc4 hF => ?_) (fun hc4 hF => ?_)
    · refine mj_iconstV (v := 0) C dX10_mayBe_27 mc_i_0 ?_
      have hF := mj_oi hF; subst hF
      exact mj_zret (v := 0) rfl C hr hlk dX10_mayBe_28
    · refine mj_iconstV (v := 1) C dX10_mayBe_23 mc_i_1 ?_
      refine mj_goto C dX10_mayBe_24 rfl ?_
      have hF := mj_oi hF; subst hF
      exact mj_zret (v := 1) rfl C hr hlk dX10_mayBe_28
set_option maxRecDepth 100000 in
set_option maxHeartbeats 4000000 in
theorem w_X10_findWhose_134 {p : Program} {l : Launch} {e : Env} {s : State} {m : MethodId} {args : Array Value} {below : List Frame} {meth : Method} {c : Code} {G : mj_G} {K78 : Int32 → Int32 → Int32 → Int32 → mj_S → Option mj_S} (C : mj_X p s m args meth c G cX10_findWhose 7 RX10) (hr : meth.sig.returnType = none) (hlk : meth.locks = false) (hK78 : ∀ (v1 : Int32) (v3 : Int32) (v4 : Int32) (v5 : Int32) (σ : mj_S) (R : mj_S), K78 v1 v3 v4 v5 σ = some R → mj_W p l e (mj_rm 111) s m args below meth c G 0 0 7 (MQ below (mj_Q G none R) args s 0 0 G.2.2.2) 78 [(0, .ref (G.2.1 64)), (1, .int v1), (3, .int v3), (4, .int v4), (5, .int v5)] [] σ) : ∀ (v1 : Int32) (v3 : Int32) (v4 : Int32) (v5 : Int32) (v6 : Int32) (σ : mj_S) (R : mj_S), b_X10_findWhose_134 K78 v1 v3 v4 v5 v6 σ = some R → mj_W p l e (mj_rm 111) s m args below meth c G 0 0 7 (MQ below (mj_Q G none R) args s 0 0 G.2.2.2) 134 [(0, .ref (G.2.1 64)), (1, .int v1), (3, .int v3), (4, .int v4), (5, .int v5), (6, .int v6)] [] σ := by
  intro v1 v3 v4 v5 v6 σ R hF
  unfold b_X10_findWhose_134 at hF
  refine mj_aload_n C dX10_findWhose_134 rfl ?_
  refine mj_iload C dX10_findWhose_135 rfl ?_
  refine mp_X10_283 C dX10_findWhose_137 ?_
  refine mj_aload_n C dX10_findWhose_140 rfl ?_
  refine mj_iload C dX10_findWhose_141 rfl ?_
  refine mp_X10_286 C dX10_findWhose_143 ?_
  refine mj_aload_n C dX10_findWhose_146 rfl ?_
  refine mj_iload C dX10_findWhose_147 rfl ?_
  refine mp_X10_289 C dX10_findWhose_149 ?_
  refine mj_iinc (v := v5 + 1) C dX10_findWhose_152 rfl rfl (by decide) ?_
  refine mj_goto C dX10_findWhose_155 rfl ?_
  refine mj_to ?_ (hK78 v1 v3 v4 (v5 + 1) (mj_sI (mj_sI (mj_sI σ 64 31 v5) 64 32 v4) 64 33 v6) R hF)
  exact ⟨rfl, rfl, rfl, rfl, rfl, trivial⟩
set_option maxRecDepth 100000 in
set_option maxHeartbeats 4000000 in
theorem w_X10_findWhose_111 {p : Program} {l : Launch} {e : Env} {s : State} {m : MethodId} {args : Array Value} {below : List Frame} {meth : Method} {c : Code} {G : mj_G} {K78 : Int32 → Int32 → Int32 → Int32 → mj_S → Option mj_S} (C : mj_X p s m args meth c G cX10_findWhose 7 RX10) (hr : meth.sig.returnType = none) (hlk : meth.locks = false) (hK78 : ∀ (v1 : Int32) (v3 : Int32) (v4 : Int32) (v5 : Int32) (σ : mj_S) (R : mj_S), K78 v1 v3 v4 v5 σ = some R → mj_W p l e (mj_rm 111) s m args below meth c G 0 0 7 (MQ below (mj_Q G none R) args s 0 0 G.2.2.2) 78 [(0, .ref (G.2.1 64)), (1, .int v1), (3, .int v3), (4, .int v4), (5, .int v5)] [] σ) : ∀ (v1 : Int32) (v3 : Int32) (v4 : Int32) (v5 : Int32) (t0 : Int32) (σ : mj_S) (R : mj_S), b_X10_findWhose_111 K78 v1 v3 v4 v5 t0 σ = some R → mj_W p l e (mj_rm 111) s m args below meth c G 0 0 7 (MQ below (mj_Q G none R) args s 0 0 G.2.2.2) 111 [(0, .ref (G.2.1 64)), (1, .int v1), (3, .int v3), (4, .int v4), (5, .int v5)] [.int t0] σ := by
  intro v1 v3 v4 v5 t0 σ R hF
  unfold b_X10_findWhose_111 at hF
  refine mj_istore C dX10_findWhose_111 (by decide) ?_
  refine mj_iload C dX10_findWhose_113 rfl ?_
  refine mj_if_lt C dX10_findWhose_115 rfl hF (fun hc11 hF => ?_) (fun hc11 hF => ?_)
  · refine mj_iinc (v := v5 + 1) C dX10_findWhose_152 rfl rfl (by decide) ?_
    refine mj_goto C dX10_findWhose_155 rfl ?_
    refine mj_to ?_ (hK78 v1 v3 v4 (v5 + 1) σ R hF)
    exact ⟨rfl, rfl, rfl, rfl, rfl, trivial⟩
  · refine mj_aload_n C dX10_findWhose_118 rfl ?_
    refine mg_X10_283 C dX10_findWhose_119 ?_
    refine mj_if_lt C dX10_findWhose_122 rfl hF (fun hc12 hF => ?_) (fun hc12 hF => ?_)
    · refine mj_to ?_ (w_X10_findWhose_134 C hr hlk hK78 v1 v3 v4 v5 t0 σ R hF)
      exact ⟨rfl, rfl, rfl, rfl, rfl, rfl, trivial⟩
    · refine mj_iload C dX10_findWhose_125 rfl ?_
      refine mj_aload_n C dX10_findWhose_127 rfl ?_
      refine mg_X10_289 C dX10_findWhose_128 ?_
      refine mj_ic_ge C dX10_findWhose_131 rfl hF (fun hc13 hF => ?_) (fun hc13 hF => ?_)
      · refine mj_iinc (v := v5 + 1) C dX10_findWhose_152 rfl rfl (by decide) ?_
        refine mj_goto C dX10_findWhose_155 rfl ?_
        refine mj_to ?_ (hK78 v1 v3 v4 (v5 + 1) σ R hF)
        exact ⟨rfl, rfl, rfl, rfl, rfl, trivial⟩
      · refine mj_to ?_ (w_X10_findWhose_134 C hr hlk hK78 v1 v3 v4 v5 t0 σ R hF)
        exact ⟨rfl, rfl, rfl, rfl, rfl, rfl, trivial⟩
set_option maxRecDepth 100000 in
set_option maxHeartbeats 4000000 in
theorem w_X10_findWhose_78 {p : Program} {l : Launch} {e : Env} {s : State} {m : MethodId} {args : Array Value} {below : List Frame} {meth : Method} {c : Code} {G : mj_G} {K69 : Int32 → Int32 → Int32 → mj_S → Option mj_S} (C : mj_X p s m args meth c G cX10_findWhose 7 RX10) (hr : meth.sig.returnType = none) (hlk : meth.locks = false) (hK69 : ∀ (v1 : Int32) (v3 : Int32) (v4 : Int32) (σ : mj_S) (R : mj_S), K69 v1 v3 v4 σ = some R → mj_W p l e (mj_rm 111) s m args below meth c G 0 0 7 (MQ below (mj_Q G none R) args s 0 0 G.2.2.2) 69 [(0, .ref (G.2.1 64)), (1, .int v1), (3, .int v3), (4, .int v4)] [] σ) : ∀ (n : Nat) (v1 : Int32) (v3 : Int32) (v4 : Int32) (v5 : Int32) (σ : mj_S) (R : mj_S), b_X10_findWhose_78 K69 n v1 v3 v4 v5 σ = some R → mj_W p l e (mj_rm 111) s m args below meth c G 0 0 7 (MQ below (mj_Q G none R) args s 0 0 G.2.2.2) 78 [(0, .ref (G.2.1 64)), (1, .int v1), (3, .int v3), (4, .int v4), (5, .int v5)] [] σ := by
  intro n
  induction n with
  | zero =>
    intro v1 v3 v4 v5 σ R hF
    cases hF
  | succ n ih =>
    intro v1 v3 v4 v5 σ R hF
    rw [b_X10_findWhose_78] at hF
    refine mj_iload C dX10_findWhose_78 rfl ?_
    refine mj_aload_n C dX10_findWhose_80 rfl ?_
    refine mg_X10_107 C dX10_findWhose_81 ?_
    refine mj_ic_ge C dX10_findWhose_84 rfl hF (fun hc8 hF => ?_) (fun hc8 hF => ?_)
    · refine mj_iinc (v := v4 + 1) C dX10_findWhose_158 rfl rfl (by decide) ?_
      refine mj_goto C dX10_findWhose_161 rfl ?_
      refine mj_to ?_ (hK69 v1 v3 (v4 + 1) σ R hF)
      exact ⟨rfl, rfl, rfl, rfl, trivial⟩
    · refine mj_aload_n C dX10_findWhose_87 rfl ?_
      refine mj_iload_n C dX10_findWhose_88 rfl ?_
      refine mj_iload C dX10_findWhose_89 rfl ?_
      obtain ⟨r9, hq9, hF⟩ := mj_ob hF
      refine mj_callVi C (c_X10_mayBe σ v1 v5 r9 hq9) yv_X10_mayBe kl_X10_292 (mo_64 G _) rfl rfl rfl rfl (Nat.le_of_ble_eq_true rfl) (mj_roomC (by decide) (by decide)) ⟨Nat.zero_le _, Nat.zero_le _⟩ dX10_findWhose_91 ?_
      refine mj_if_eq C dX10_findWhose_94 rfl hF (fun hc10 hF => ?_) (fun hc10 hF => ?_)
      · refine mj_bipushV (v := (-2)) C dX10_findWhose_109 mc_b_m2 ?_
        refine mj_to ?_ (w_X10_findWhose_111 C hr hlk ih v1 v3 v4 v5 (-2) σ R hF)
        exact ⟨rfl, rfl, rfl, rfl, rfl, trivial⟩
      · refine mj_aload_n C dX10_findWhose_97 rfl ?_
        refine mj_iload_n C dX10_findWhose_98 rfl ?_
        refine mj_iload C dX10_findWhose_99 rfl ?_
        refine mj_iload C dX10_findWhose_101 rfl ?_
        obtain ⟨r14, hq14, hF⟩ := mj_ob hF
        refine mj_callVi C (c_X10_offOf σ v1 v5 v4 r14 hq14) yv_X10_offOf kl_X10_296 (mo_64 G _) rfl rfl rfl rfl (Nat.le_of_ble_eq_true rfl) (mj_roomC (by decide) (by decide)) ⟨Nat.zero_le _, Nat.zero_le _⟩ dX10_findWhose_103 ?_
        refine mj_goto C dX10_findWhose_106 rfl ?_
        refine mj_to ?_ (w_X10_findWhose_111 C hr hlk ih v1 v3 v4 v5 r14.1 r14.2 R hF)
        exact ⟨rfl, rfl, rfl, rfl, rfl, trivial⟩
set_option maxRecDepth 100000 in
set_option maxHeartbeats 4000000 in
theorem w_X10_findWhose_69 {p : Program} {l : Launch} {e : Env} {s : State} {m : MethodId} {args : Array Value} {below : List Frame} {meth : Method} {c : Code} {G : mj_G} (C : mj_X p s m args meth c G cX10_findWhose 7 RX10) (hr : meth.sig.returnType = none) (hlk : meth.locks = false) : ∀ (n : Nat) (v1 : Int32) (v3 : Int32) (v4 : Int32) (σ : mj_S) (R : mj_S), b_X10_findWhose_69 n v1 v3 v4 σ = some R → mj_W p l e (mj_rm 111) s m args below meth c G 0 0 7 (MQ below (mj_Q G none R) args s 0 0 G.2.2.2) 69 [(0, .ref (G.2.1 64)), (1, .int v1), (3, .int v3), (4, .int v4)] [] σ := by
  intro n
  induction n with
  | zero =>
    intro v1 v3 v4 σ R hF
    cases hF
  | succ n ih =>
    intro v1 v3 v4 σ R hF
    rw [b_X10_findWhose_69] at hF
    refine mj_iload C dX10_findWhose_69 rfl ?_
    refine mj_iload_n C dX10_findWhose_71 rfl ?_
    refine mj_ic_gt C dX10_findWhose_72 rfl hF (fun hc7 hF => ?_) (fun hc7 hF => ?_)
    · have hF := mj_oi hF; subst hF
      exact mj_vret C hr hlk dX10_findWhose_164
    · refine mj_iconstV (v := 0) C dX10_findWhose_75 mc_i_0 ?_
      refine mj_istore C dX10_findWhose_76 (by decide) ?_
      refine mj_to ?_ (w_X10_findWhose_78 C hr hlk ih mj_fu v1 v3 v4 0 σ R hF)
      exact ⟨rfl, rfl, rfl, rfl, rfl, trivial⟩
set_option maxRecDepth 100000 in
set_option maxHeartbeats 4000000 in
theorem w_X10_findWhose_40 {p : Program} {l : Launch} {e : Env} {s : State} {m : MethodId} {args : Array Value} {below : List Frame} {meth : Method} {c : Code} {G : mj_G} (C : mj_X p s m args meth c G cX10_findWhose 7 RX10) (hr : meth.sig.returnType = none) (hlk : meth.locks = false) : ∀ (v1 : Int32) (t0 : Int32) (σ : mj_S) (R : mj_S), b_X10_findWhose_40 v1 t0 σ = some R → mj_W p l e (mj_rm 111) s m args below meth c G 0 0 7 (MQ below (mj_Q G none R) args s 0 0 G.2.2.2) 40 [(0, .ref (G.2.1 64)), (1, .int v1)] [.int t0] σ := by
  intro v1 t0 σ R hF
  unfold b_X10_findWhose_40 at hF
  refine mj_istore_n C dX10_findWhose_40 (by decide) ?_
  refine mj_aload_n C dX10_findWhose_41 rfl ?_
  refine mg_X10_55 C dX10_findWhose_42 ?_
  refine mj_iload_n C dX10_findWhose_45 rfl ?_
  obtain ⟨hg4, hF⟩ := mj_og hF
  refine mj_iaload C dX10_findWhose_46 rfl hg4 ?_
  refine mj_sipushV (v := 600) C dX10_findWhose_47 mc_s_600 ?_
  refine mj_ic_ne C dX10_findWhose_50 rfl hF (fun hc5 hF => ?_) (fun hc5 hF => ?_)
  · refine mj_aload_n C dX10_findWhose_59 rfl ?_
    refine mg_X10_55 C dX10_findWhose_60 ?_
    refine mj_iload_n C dX10_findWhose_63 rfl ?_
    obtain ⟨hg6, hF⟩ := mj_og hF
    refine mj_iaload C dX10_findWhose_64 rfl hg6 ?_
    refine mj_istore_n C dX10_findWhose_65 (by decide) ?_
    refine mj_iload_n C dX10_findWhose_66 rfl ?_
    refine mj_istore C dX10_findWhose_67 (by decide) ?_
    refine mj_to ?_ (w_X10_findWhose_69 C hr hlk mj_fu v1 (σ.1 80 v1.toNatClampNeg) t0 σ R hF)
    exact ⟨rfl, rfl, rfl, rfl, trivial⟩
  · refine mj_sipushV (v := 599) C dX10_findWhose_53 mc_s_599 ?_
    refine mj_goto C dX10_findWhose_56 rfl ?_
    refine mj_istore_n C dX10_findWhose_65 (by decide) ?_
    refine mj_iload_n C dX10_findWhose_66 rfl ?_
    refine mj_istore C dX10_findWhose_67 (by decide) ?_
    refine mj_to ?_ (w_X10_findWhose_69 C hr hlk mj_fu v1 599 t0 σ R hF)
    exact ⟨rfl, rfl, rfl, rfl, trivial⟩
set_option maxRecDepth 100000 in
set_option maxHeartbeats 4000000 in
theorem c_X10_findWhose {G : mj_G} {l : Launch} (σ : mj_S) (p1 : Int32) (R : mj_S) (hF : f_X10_findWhose σ p1 = some R) : mj_C G l yX10_findWhose cX10_findWhose 7 (none) 111 [.ref (G.2.1 64), .int p1] σ none R := by
  unfold f_X10_findWhose at hF
  refine mj_of (ls := [(0, .ref (G.2.1 64)), (1, .int p1)]) (by decide) (Nat.le_of_ble_eq_true rfl) rfl (fun p e s m args below meth c C hr hlk => ?_)
  refine mj_aload_n C dX10_findWhose_0 rfl ?_
  refine mj_bipushV (v := (-2)) C dX10_findWhose_1 mc_b_m2 ?_
  refine mp_X10_283 C dX10_findWhose_3 ?_
  refine mj_aload_n C dX10_findWhose_6 rfl ?_
  refine mj_bipushV (v := (-2)) C dX10_findWhose_7 mc_b_m2 ?_
  refine mp_X10_286 C dX10_findWhose_9 ?_
  refine mj_aload_n C dX10_findWhose_12 rfl ?_
  refine mj_bipushV (v := (-2)) C dX10_findWhose_13 mc_b_m2 ?_
  refine mp_X10_289 C dX10_findWhose_15 ?_
  refine mj_aload_n C dX10_findWhose_18 rfl ?_
  refine mg_X10_55 C dX10_findWhose_19 ?_
  refine mj_iload_n C dX10_findWhose_22 rfl ?_
  obtain ⟨hg1, hF⟩ := mj_og hF
  refine mj_iaload C dX10_findWhose_23 rfl hg1 ?_
  refine mj_sipushV (v := 600) C dX10_findWhose_24 mc_s_600 ?_
  refine mj_ic_ne C dX10_findWhose_27 rfl hF (fun hc2 hF => ?_) (fun hc2 hF => ?_)
  · refine mj_aload_n C dX10_findWhose_34 rfl ?_
    refine mg_X10_55 C dX10_findWhose_35 ?_
    refine mj_iload_n C dX10_findWhose_38 rfl ?_
    obtain ⟨hg3, hF⟩ := mj_og hF
    refine mj_iaload C dX10_findWhose_39 rfl hg3 ?_
    refine mj_to ?_ (w_X10_findWhose_40 C hr hlk p1 (σ.1 80 p1.toNatClampNeg) (mj_sI (mj_sI (mj_sI σ 64 31 (-2)) 64 32 (-2)) 64 33 (-2)) R hF)
    exact ⟨rfl, rfl, trivial⟩
  · refine mj_iconstV (v := 0) C dX10_findWhose_30 mc_i_0 ?_
    refine mj_goto C dX10_findWhose_31 rfl ?_
    refine mj_to ?_ (w_X10_findWhose_40 C hr hlk p1 0 (mj_sI (mj_sI (mj_sI σ 64 31 (-2)) 64 32 (-2)) 64 33 (-2)) R hF)
    exact ⟨rfl, rfl, trivial⟩
set_option maxRecDepth 100000 in
set_option maxHeartbeats 4000000 in
theorem c_X10_whose {G : mj_G} {l : Launch} (σ : mj_S) (p1 : Int32) (p2 : Int32) (R : (Int32 × mj_S)) (hF : f_X10_whose σ p1 p2 = some R) : mj_C G l yX10_whose cX10_whose 3 (some .int) 112 [.ref (G.2.1 64), .int p1, .int p2] σ (some (.int R.1)) R.2 := by
  unfold f_X10_whose at hF
  refine mj_of (ls := [(0, .ref (G.2.1 64)), (1, .int p1), (2, .int p2)]) (by decide) (Nat.le_of_ble_eq_true rfl) rfl (fun p e s m args below meth c C hr hlk => ?_)
  refine mj_aload_n C dX10_whose_0 rfl ?_
  refine mj_iload_n C dX10_whose_1 rfl ?_
  refine mj_callVi C (c_X10_isMark σ p1) yv_X10_isMark kl_X10_253 (mo_64 G _) rfl rfl rfl rfl (Nat.le_of_ble_eq_true rfl) (mj_roomC (by decide) (by decide)) ⟨Nat.zero_le _, Nat.zero_le _⟩ dX10_whose_2 ?_
  refine mj_if_eq C dX10_whose_5 rfl hF (fun hc1 hF => ?_) (fun hc1 hF => ?_)
  · refine mj_iconstV (v := (-1)) C dX10_whose_20 mc_i_m1 ?_
    have hF := mj_oi hF; subst hF
    exact mj_iret C hr hlk dX10_whose_21
  · refine mj_iload_n C dX10_whose_8 rfl ?_
    refine mj_i2l C dX10_whose_9 ?_
    refine mj_lconstV (v := 0) C dX10_whose_10 mc_l_0 ?_
    refine mj_ldc2 C dX10_whose_11 kc_X10_300 ?_
    refine mj_callSi C (c_X10_within σ p2.toInt64 0 2) ys_X10_within kl_X10_110 rfl rfl (Nat.le_of_ble_eq_true rfl) (mj_roomC (by decide) (by decide)) ⟨Nat.zero_le _, Nat.zero_le _⟩ dX10_whose_14 ?_
    refine mj_if_ne C dX10_whose_17 rfl hF (fun hc2 hF => ?_) (fun hc2 hF => ?_)
    · refine mj_aload_n C dX10_whose_22 rfl ?_
      refine mj_iload_n C dX10_whose_23 rfl ?_
      obtain ⟨r3, hq3, hF⟩ := mj_ob hF
      refine mj_callVv C (c_X10_findWhose σ p1 r3 hq3) yv_X10_findWhose kl_X10_302 (mo_64 G _) rfl rfl rfl rfl (Nat.le_of_ble_eq_true rfl) (mj_roomC (by decide) (by decide)) ⟨Nat.zero_le _, Nat.zero_le _⟩ dX10_whose_24 ?_
      refine mj_iload_n C dX10_whose_27 rfl ?_
      refine mj_if_ne C dX10_whose_28 rfl hF (fun hc4 hF => ?_) (fun hc4 hF => ?_)
      · refine mj_iload_n C dX10_whose_38 rfl ?_
        refine mj_iconstV (v := 1) C dX10_whose_39 mc_i_1 ?_
        refine mj_ic_ne C dX10_whose_40 rfl hF (fun hc5 hF => ?_) (fun hc5 hF => ?_)
        · refine mj_aload_n C dX10_whose_50 rfl ?_
          refine mg_X10_289 C dX10_whose_51 ?_
          have hF := mj_oi hF; subst hF
          exact mj_iret C hr hlk dX10_whose_54
        · refine mj_aload_n C dX10_whose_43 rfl ?_
          refine mg_X10_286 C dX10_whose_44 ?_
          refine mj_goto C dX10_whose_47 rfl ?_
          have hF := mj_oi hF; subst hF
          exact mj_iret C hr hlk dX10_whose_54
      · refine mj_aload_n C dX10_whose_31 rfl ?_
        refine mg_X10_283 C dX10_whose_32 ?_
        refine mj_goto C dX10_whose_35 rfl ?_
        have hF := mj_oi hF; subst hF
        exact mj_iret C hr hlk dX10_whose_54
    · refine mj_iconstV (v := (-1)) C dX10_whose_20 mc_i_m1 ?_
      have hF := mj_oi hF; subst hF
      exact mj_iret C hr hlk dX10_whose_21
set_option maxRecDepth 100000 in
set_option maxHeartbeats 4000000 in
theorem w_X10_odds_94 {p : Program} {l : Launch} {e : Env} {s : State} {m : MethodId} {args : Array Value} {below : List Frame} {meth : Method} {c : Code} {G : mj_G} {K38 : Int32 → Int32 → Int32 → Int32 → Int32 → mj_S → Option (Int32 × mj_S)} (C : mj_X p s m args meth c G cX10_odds 8 RX10) (hr : meth.sig.returnType = some .int) (hlk : meth.locks = false) (hK38 : ∀ (v1 : Int32) (v2 : Int32) (v3 : Int32) (v4 : Int32) (v5 : Int32) (σ : mj_S) (R : (Int32 × mj_S)), K38 v1 v2 v3 v4 v5 σ = some R → mj_W p l e (mj_rm 111) s m args below meth c G 0 0 8 (MQ below (mj_Q G (some (.int R.1)) R.2) args s 0 0 G.2.2.2) 38 [(0, .ref (G.2.1 64)), (1, .int v1), (2, .int v2), (3, .int v3), (4, .int v4), (5, .int v5)] [] σ) : ∀ (v1 : Int32) (v2 : Int32) (v3 : Int32) (v4 : Int32) (v5 : Int32) (t0 : Int32) (σ : mj_S) (R : (Int32 × mj_S)), b_X10_odds_94 K38 v1 v2 v3 v4 v5 t0 σ = some R → mj_W p l e (mj_rm 111) s m args below meth c G 0 0 8 (MQ below (mj_Q G (some (.int R.1)) R.2) args s 0 0 G.2.2.2) 94 [(0, .ref (G.2.1 64)), (1, .int v1), (2, .int v2), (3, .int v3), (4, .int v4), (5, .int v5)] [.int t0] σ := by
  intro v1 v2 v3 v4 v5 t0 σ R hF
  unfold b_X10_odds_94 at hF
  refine mj_istore C dX10_odds_94 (by decide) ?_
  refine mj_iload_n C dX10_odds_96 rfl ?_
  refine mj_iload C dX10_odds_97 rfl ?_
  refine mj_iadd C dX10_odds_99 ?_
  refine mj_istore_n C dX10_odds_100 (by decide) ?_
  refine mj_iload C dX10_odds_101 rfl ?_
  refine mj_iload_n C dX10_odds_103 rfl ?_
  refine mj_bipushV (v := 10) C dX10_odds_104 mc_b_10 ?_
  refine mj_irem C dX10_odds_106 (by decide) ?_
  refine mj_ic_ne C dX10_odds_107 rfl hF (fun hc11 hF => ?_) (fun hc11 hF => ?_)
  · refine mj_iload C dX10_odds_115 rfl ?_
    refine mj_istore C dX10_odds_117 (by decide) ?_
    refine mj_iinc (v := v5 + 1) C dX10_odds_119 rfl rfl (by decide) ?_
    refine mj_goto C dX10_odds_122 rfl ?_
    refine mj_to ?_ (hK38 v1 v2 (v3 + t0) v4 (v5 + 1) σ R hF)
    exact ⟨rfl, rfl, rfl, rfl, rfl, rfl, trivial⟩
  · refine mj_iload C dX10_odds_110 rfl ?_
    refine mj_goto C dX10_odds_112 rfl ?_
    refine mj_istore C dX10_odds_117 (by decide) ?_
    refine mj_iinc (v := v5 + 1) C dX10_odds_119 rfl rfl (by decide) ?_
    refine mj_goto C dX10_odds_122 rfl ?_
    refine mj_to ?_ (hK38 v1 v2 (v3 + t0) t0 (v5 + 1) σ R hF)
    exact ⟨rfl, rfl, rfl, rfl, rfl, rfl, trivial⟩
set_option maxRecDepth 100000 in
set_option maxHeartbeats 4000000 in
theorem w_X10_odds_75 {p : Program} {l : Launch} {e : Env} {s : State} {m : MethodId} {args : Array Value} {below : List Frame} {meth : Method} {c : Code} {G : mj_G} {K38 : Int32 → Int32 → Int32 → Int32 → Int32 → mj_S → Option (Int32 × mj_S)} (C : mj_X p s m args meth c G cX10_odds 8 RX10) (hr : meth.sig.returnType = some .int) (hlk : meth.locks = false) (hK38 : ∀ (v1 : Int32) (v2 : Int32) (v3 : Int32) (v4 : Int32) (v5 : Int32) (σ : mj_S) (R : (Int32 × mj_S)), K38 v1 v2 v3 v4 v5 σ = some R → mj_W p l e (mj_rm 111) s m args below meth c G 0 0 8 (MQ below (mj_Q G (some (.int R.1)) R.2) args s 0 0 G.2.2.2) 38 [(0, .ref (G.2.1 64)), (1, .int v1), (2, .int v2), (3, .int v3), (4, .int v4), (5, .int v5)] [] σ) : ∀ (v1 : Int32) (v2 : Int32) (v3 : Int32) (v4 : Int32) (v5 : Int32) (t0 : Int32) (σ : mj_S) (R : (Int32 × mj_S)), b_X10_odds_75 K38 v1 v2 v3 v4 v5 t0 σ = some R → mj_W p l e (mj_rm 111) s m args below meth c G 0 0 8 (MQ below (mj_Q G (some (.int R.1)) R.2) args s 0 0 G.2.2.2) 75 [(0, .ref (G.2.1 64)), (1, .int v1), (2, .int v2), (3, .int v3), (4, .int v4), (5, .int v5)] [.int t0] σ := by
  intro v1 v2 v3 v4 v5 t0 σ R hF
  unfold b_X10_odds_75 at hF
  refine mj_istore C dX10_odds_75 (by decide) ?_
  refine mj_iload C dX10_odds_77 rfl ?_
  refine mj_if_ge C dX10_odds_79 rfl hF (fun hc9 hF => ?_) (fun hc9 hF => ?_)
  · refine mj_sipushV (v := 10000) C dX10_odds_86 mc_s_10000 ?_
    refine mj_iconstV (v := 1) C dX10_odds_89 mc_i_1 ?_
    refine mj_iload C dX10_odds_90 rfl ?_
    refine mj_iadd C dX10_odds_92 ?_
    obtain ⟨hz10, hF⟩ := mj_oz hF
    refine mj_idiv C dX10_odds_93 hz10 ?_
    refine mj_to ?_ (w_X10_odds_94 C hr hlk hK38 v1 v2 v3 v4 v5 (10000 / (1 + t0)) σ R hF)
    exact ⟨rfl, rfl, rfl, rfl, rfl, rfl, trivial⟩
  · refine mj_iconstV (v := 0) C dX10_odds_82 mc_i_0 ?_
    refine mj_goto C dX10_odds_83 rfl ?_
    refine mj_to ?_ (w_X10_odds_94 C hr hlk hK38 v1 v2 v3 v4 v5 0 σ R hF)
    exact ⟨rfl, rfl, rfl, rfl, rfl, rfl, trivial⟩
set_option maxRecDepth 100000 in
set_option maxHeartbeats 4000000 in
theorem w_X10_odds_38 {p : Program} {l : Launch} {e : Env} {s : State} {m : MethodId} {args : Array Value} {below : List Frame} {meth : Method} {c : Code} {G : mj_G} (C : mj_X p s m args meth c G cX10_odds 8 RX10) (hr : meth.sig.returnType = some .int) (hlk : meth.locks = false) : ∀ (n : Nat) (v1 : Int32) (v2 : Int32) (v3 : Int32) (v4 : Int32) (v5 : Int32) (σ : mj_S) (R : (Int32 × mj_S)), b_X10_odds_38 n v1 v2 v3 v4 v5 σ = some R → mj_W p l e (mj_rm 111) s m args below meth c G 0 0 8 (MQ below (mj_Q G (some (.int R.1)) R.2) args s 0 0 G.2.2.2) 38 [(0, .ref (G.2.1 64)), (1, .int v1), (2, .int v2), (3, .int v3), (4, .int v4), (5, .int v5)] [] σ := by
  intro n
  induction n with
  | zero =>
    intro v1 v2 v3 v4 v5 σ R hF
    cases hF
  | succ n ih =>
    intro v1 v2 v3 v4 v5 σ R hF
    rw [b_X10_odds_38] at hF
    refine mj_iload C dX10_odds_38 rfl ?_
    refine mj_aload_n C dX10_odds_40 rfl ?_
    refine mg_X10_107 C dX10_odds_41 ?_
    refine mj_ic_ge C dX10_odds_44 rfl hF (fun hc4 hF => ?_) (fun hc4 hF => ?_)
    · refine mj_iload_n C dX10_odds_125 rfl ?_
      refine mj_if_ne C dX10_odds_126 rfl hF (fun hc5 hF => ?_) (fun hc5 hF => ?_)
      · refine mj_sipushV (v := 1000) C dX10_odds_134 mc_s_1000 ?_
        refine mj_iload C dX10_odds_137 rfl ?_
        refine mj_imul C dX10_odds_139 ?_
        refine mj_iload_n C dX10_odds_140 rfl ?_
        obtain ⟨hz6, hF⟩ := mj_oz hF
        refine mj_idiv C dX10_odds_141 hz6 ?_
        have hF := mj_oi hF; subst hF
        exact mj_iret C hr hlk dX10_odds_142
      · refine mj_bipushV (v := (-2)) C dX10_odds_129 mc_b_m2 ?_
        refine mj_goto C dX10_odds_131 rfl ?_
        have hF := mj_oi hF; subst hF
        exact mj_iret C hr hlk dX10_odds_142
    · refine mj_aload_n C dX10_odds_47 rfl ?_
      refine mj_iload_n C dX10_odds_48 rfl ?_
      refine mj_iload C dX10_odds_49 rfl ?_
      obtain ⟨r7, hq7, hF⟩ := mj_ob hF
      refine mj_callVi C (c_X10_mayBe σ v2 v5 r7 hq7) yv_X10_mayBe kl_X10_292 (mo_64 G _) rfl rfl rfl rfl (Nat.le_of_ble_eq_true rfl) (mj_roomC (by decide) (by decide)) ⟨Nat.zero_le _, Nat.zero_le _⟩ dX10_odds_51 ?_
      refine mj_if_eq C dX10_odds_54 rfl hF (fun hc8 hF => ?_) (fun hc8 hF => ?_)
      · refine mj_bipushV (v := (-2)) C dX10_odds_73 mc_b_m2 ?_
        refine mj_to ?_ (w_X10_odds_75 C hr hlk ih v1 v2 v3 v4 v5 (-2) σ R hF)
        exact ⟨rfl, rfl, rfl, rfl, rfl, rfl, trivial⟩
      · refine mj_aload_n C dX10_odds_57 rfl ?_
        refine mj_iload_n C dX10_odds_58 rfl ?_
        refine mj_iload C dX10_odds_59 rfl ?_
        refine mj_aload_n C dX10_odds_61 rfl ?_
        refine mg_X10_55 C dX10_odds_62 ?_
        refine mj_iload_n C dX10_odds_65 rfl ?_
        obtain ⟨hg12, hF⟩ := mj_og hF
        refine mj_iaload C dX10_odds_66 rfl hg12 ?_
        obtain ⟨r13, hq13, hF⟩ := mj_ob hF
        refine mj_callVi C (c_X10_offOf σ v2 v5 (σ.1 80 v2.toNatClampNeg) r13 hq13) yv_X10_offOf kl_X10_296 (mo_64 G _) rfl rfl rfl rfl (Nat.le_of_ble_eq_true rfl) (mj_roomC (by decide) (by decide)) ⟨Nat.zero_le _, Nat.zero_le _⟩ dX10_odds_67 ?_
        refine mj_goto C dX10_odds_70 rfl ?_
        refine mj_to ?_ (w_X10_odds_75 C hr hlk ih v1 v2 v3 v4 v5 r13.1 r13.2 R hF)
        exact ⟨rfl, rfl, rfl, rfl, rfl, rfl, trivial⟩
set_option maxRecDepth 100000 in
set_option maxHeartbeats 4000000 in
theorem c_X10_odds {G : mj_G} {l : Launch} (σ : mj_S) (p1 : Int32) (R : (Int32 × mj_S)) (hF : f_X10_odds σ p1 = some R) : mj_C G l yX10_odds cX10_odds 8 (some .int) 111 [.ref (G.2.1 64), .int p1] σ (some (.int R.1)) R.2 := by
  unfold f_X10_odds at hF
  refine mj_of (ls := [(0, .ref (G.2.1 64)), (1, .int p1)]) (by decide) (Nat.le_of_ble_eq_true rfl) rfl (fun p e s m args below meth c C hr hlk => ?_)
  refine mj_aload_n C dX10_odds_0 rfl ?_
  refine mj_iload_n C dX10_odds_1 rfl ?_
  refine mj_callVi C (c_X10_isMc σ p1) yv_X10_isMc kl_X10_280 (mo_64 G _) rfl rfl rfl rfl (Nat.le_of_ble_eq_true rfl) (mj_roomC (by decide) (by decide)) ⟨Nat.zero_le _, Nat.zero_le _⟩ dX10_odds_2 ?_
  refine mj_if_ne C dX10_odds_5 rfl hF (fun hc1 hF => ?_) (fun hc1 hF => ?_)
  · refine mj_iload_n C dX10_odds_10 rfl ?_
    refine mj_bipushV (v := 10) C dX10_odds_11 mc_b_10 ?_
    refine mj_idiv C dX10_odds_13 (by decide) ?_
    refine mj_istore_n C dX10_odds_14 (by decide) ?_
    refine mj_aload_n C dX10_odds_15 rfl ?_
    refine mg_X10_55 C dX10_odds_16 ?_
    refine mj_iload_n C dX10_odds_19 rfl ?_
    obtain ⟨hg2, hF⟩ := mj_og hF
    refine mj_iaload C dX10_odds_20 rfl hg2 ?_
    refine mj_sipushV (v := 600) C dX10_odds_21 mc_s_600 ?_
    refine mj_ic_ne C dX10_odds_24 rfl hF (fun hc3 hF => ?_) (fun hc3 hF => ?_)
    · refine mj_iconstV (v := 0) C dX10_odds_30 mc_i_0 ?_
      refine mj_istore_n C dX10_odds_31 (by decide) ?_
      refine mj_iconstV (v := 0) C dX10_odds_32 mc_i_0 ?_
      refine mj_istore C dX10_odds_33 (by decide) ?_
      refine mj_iconstV (v := 0) C dX10_odds_35 mc_i_0 ?_
      refine mj_istore C dX10_odds_36 (by decide) ?_
      refine mj_to ?_ (w_X10_odds_38 C hr hlk mj_fu p1 (p1 / 10) 0 0 0 σ R hF)
      exact ⟨rfl, rfl, rfl, rfl, rfl, rfl, trivial⟩
    · refine mj_bipushV (v := (-2)) C dX10_odds_27 mc_b_m2 ?_
      have hF := mj_oi hF; subst hF
      exact mj_iret C hr hlk dX10_odds_29
  · refine mj_iconstV (v := (-1)) C dX10_odds_8 mc_i_m1 ?_
    have hF := mj_oi hF; subst hF
    exact mj_iret C hr hlk dX10_odds_9
set_option maxRecDepth 100000 in
set_option maxHeartbeats 4000000 in
theorem w_X10_how_40 {p : Program} {l : Launch} {e : Env} {s : State} {m : MethodId} {args : Array Value} {below : List Frame} {meth : Method} {c : Code} {G : mj_G} (C : mj_X p s m args meth c G cX10_how 5 RX10) (hr : meth.sig.returnType = some .int) (hlk : meth.locks = false) : ∀ (n : Nat) (v1 : Int32) (v2 : Int32) (v3 : Int32) (v4 : Int32) (σ : mj_S) (R : (Int32 × mj_S)), b_X10_how_40 n v1 v2 v3 v4 σ = some R → mj_W p l e (mj_rm 112) s m args below meth c G 0 0 5 (MQ below (mj_Q G (some (.int R.1)) R.2) args s 0 0 G.2.2.2) 40 [(0, .ref (G.2.1 64)), (1, .int v1), (2, .int v2), (3, .int v3), (4, .int v4)] [] σ := by
  intro n
  induction n with
  | zero =>
    intro v1 v2 v3 v4 σ R hF
    cases hF
  | succ n ih =>
    intro v1 v2 v3 v4 σ R hF
    rw [b_X10_how_40] at hF
    refine mj_iload C dX10_how_40 rfl ?_
    refine mj_iconstV (v := 5) C dX10_how_42 mc_i_5 ?_
    refine mj_ic_ge C dX10_how_43 rfl hF (fun hc5 hF => ?_) (fun hc5 hF => ?_)
    · refine mj_aload_n C dX10_how_107 rfl ?_
      refine mj_aload_n C dX10_how_108 rfl ?_
      refine mg_X10_9 C dX10_how_109 ?_
      refine mj_bipushV (v := 12) C dX10_how_112 mc_b_12 ?_
      refine mj_iload_n C dX10_how_114 rfl ?_
      refine mj_iadd C dX10_how_115 ?_
      obtain ⟨hg6, hF⟩ := mj_og hF
      refine mj_iaload C dX10_how_116 rfl hg6 ?_
      refine mj_aload_n C dX10_how_117 rfl ?_
      refine mg_X10_283 C dX10_how_118 ?_
      refine mj_aload_n C dX10_how_121 rfl ?_
      refine mg_X10_286 C dX10_how_122 ?_
      refine mj_iload_n C dX10_how_125 rfl ?_
      obtain ⟨r7, hq7, hF⟩ := mj_ob hF
      refine mj_callVi C (c_X10_offBy σ (σ.1 65 (12 + v1).toNatClampNeg) (σ.1 64 31) (σ.1 64 32) v3 r7 hq7) yv_X10_offBy kl_X10_276 (mo_64 G _) rfl rfl rfl rfl (Nat.le_of_ble_eq_true rfl) (mj_roomC (by decide) (by decide)) ⟨Nat.zero_le _, Nat.zero_le _⟩ dX10_how_126 ?_
      refine mj_istore C dX10_how_129 (by decide) ?_
      refine mj_iload_n C dX10_how_131 rfl ?_
      refine mj_if_ne C dX10_how_132 rfl hF (fun hc8 hF => ?_) (fun hc8 hF => ?_)
      · refine mj_aload_n C dX10_how_139 rfl ?_
        refine mg_X10_289 C dX10_how_140 ?_
        refine mj_iload C dX10_how_143 rfl ?_
        refine mj_isub C dX10_how_145 ?_
        refine mj_bipushV (v := 32) C dX10_how_146 mc_b_32 ?_
        refine mj_ic_lt C dX10_how_148 rfl hF (fun hc9 hF => ?_) (fun hc9 hF => ?_)
        · refine mj_iconstV (v := 0) C dX10_how_155 mc_i_0 ?_
          have hF := mj_oi hF; subst hF
          exact mj_iret C hr hlk dX10_how_156
        · refine mj_iconstV (v := 1) C dX10_how_151 mc_i_1 ?_
          refine mj_goto C dX10_how_152 rfl ?_
          have hF := mj_oi hF; subst hF
          exact mj_iret C hr hlk dX10_how_156
      · refine mj_iload_n C dX10_how_135 rfl ?_
        refine mj_goto C dX10_how_136 rfl ?_
        have hF := mj_oi hF; subst hF
        exact mj_iret C hr hlk dX10_how_156
    · refine mj_aload_n C dX10_how_46 rfl ?_
      refine mj_aload_n C dX10_how_47 rfl ?_
      refine mg_X10_9 C dX10_how_48 ?_
      refine mj_bipushV (v := 12) C dX10_how_51 mc_b_12 ?_
      refine mj_iload_n C dX10_how_53 rfl ?_
      refine mj_iadd C dX10_how_54 ?_
      obtain ⟨hg10, hF⟩ := mj_og hF
      refine mj_iaload C dX10_how_55 rfl hg10 ?_
      refine mj_aload_n C dX10_how_56 rfl ?_
      refine mg_X10_283 C dX10_how_57 ?_
      refine mj_aload_n C dX10_how_60 rfl ?_
      refine mg_X10_286 C dX10_how_61 ?_
      refine mj_iload C dX10_how_64 rfl ?_
      obtain ⟨r11, hq11, hF⟩ := mj_ob hF
      refine mj_callVi C (c_X10_offBy σ (σ.1 65 (12 + v1).toNatClampNeg) (σ.1 64 31) (σ.1 64 32) v4 r11 hq11) yv_X10_offBy kl_X10_276 (mo_64 G _) rfl rfl rfl rfl (Nat.le_of_ble_eq_true rfl) (mj_roomC (by decide) (by decide)) ⟨Nat.zero_le _, Nat.zero_le _⟩ dX10_how_66 ?_
      refine mj_aload_n C dX10_how_69 rfl ?_
      refine mj_aload_n C dX10_how_70 rfl ?_
      refine mg_X10_9 C dX10_how_71 ?_
      refine mj_bipushV (v := 12) C dX10_how_74 mc_b_12 ?_
      refine mj_iload_n C dX10_how_76 rfl ?_
      refine mj_iadd C dX10_how_77 ?_
      obtain ⟨hg12, hF⟩ := mj_og hF
      refine mj_iaload C dX10_how_78 rfl hg12 ?_
      refine mj_aload_n C dX10_how_79 rfl ?_
      refine mg_X10_283 C dX10_how_80 ?_
      refine mj_aload_n C dX10_how_83 rfl ?_
      refine mg_X10_286 C dX10_how_84 ?_
      refine mj_iload_n C dX10_how_87 rfl ?_
      obtain ⟨r13, hq13, hF⟩ := mj_ob hF
      refine mj_callVi C (c_X10_offBy r11.2 (r11.2.1 65 (12 + v1).toNatClampNeg) (r11.2.1 64 31) (r11.2.1 64 32) v3 r13 hq13) yv_X10_offBy kl_X10_276 (mo_64 G _) rfl rfl rfl rfl (Nat.le_of_ble_eq_true rfl) (mj_roomC (by decide) (by decide)) ⟨Nat.zero_le _, Nat.zero_le _⟩ dX10_how_88 ?_
      refine mj_ic_ge C dX10_how_91 rfl hF (fun hc14 hF => ?_) (fun hc14 hF => ?_)
      · refine mj_iload_n C dX10_how_99 rfl ?_
        refine mj_istore_n C dX10_how_100 (by decide) ?_
        refine mj_iinc (v := v4 + 1) C dX10_how_101 rfl rfl (by decide) ?_
        refine mj_goto C dX10_how_104 rfl ?_
        refine mj_to ?_ (ih v1 v2 v3 (v4 + 1) r13.2 R hF)
        exact ⟨rfl, rfl, rfl, rfl, rfl, trivial⟩
      · refine mj_iload C dX10_how_94 rfl ?_
        refine mj_goto C dX10_how_96 rfl ?_
        refine mj_istore_n C dX10_how_100 (by decide) ?_
        refine mj_iinc (v := v4 + 1) C dX10_how_101 rfl rfl (by decide) ?_
        refine mj_goto C dX10_how_104 rfl ?_
        refine mj_to ?_ (ih v1 v2 v4 (v4 + 1) r13.2 R hF)
        exact ⟨rfl, rfl, rfl, rfl, rfl, trivial⟩
set_option maxRecDepth 100000 in
set_option maxHeartbeats 4000000 in
theorem c_X10_how {G : mj_G} {l : Launch} (σ : mj_S) (p1 : Int32) (p2 : Int32) (R : (Int32 × mj_S)) (hF : f_X10_how σ p1 p2 = some R) : mj_C G l yX10_how cX10_how 5 (some .int) 112 [.ref (G.2.1 64), .int p1, .int p2] σ (some (.int R.1)) R.2 := by
  unfold f_X10_how at hF
  refine mj_of (ls := [(0, .ref (G.2.1 64)), (1, .int p1), (2, .int p2)]) (by decide) (Nat.le_of_ble_eq_true rfl) rfl (fun p e s m args below meth c C hr hlk => ?_)
  refine mj_aload_n C dX10_how_0 rfl ?_
  refine mj_iload_n C dX10_how_1 rfl ?_
  refine mj_callVi C (c_X10_isMark σ p1) yv_X10_isMark kl_X10_253 (mo_64 G _) rfl rfl rfl rfl (Nat.le_of_ble_eq_true rfl) (mj_roomC (by decide) (by decide)) ⟨Nat.zero_le _, Nat.zero_le _⟩ dX10_how_2 ?_
  refine mj_if_eq C dX10_how_5 rfl hF (fun hc1 hF => ?_) (fun hc1 hF => ?_)
  · refine mj_iconstV (v := (-1)) C dX10_how_18 mc_i_m1 ?_
    have hF := mj_oi hF; subst hF
    exact mj_iret C hr hlk dX10_how_19
  · refine mj_iload_n C dX10_how_8 rfl ?_
    refine mj_i2l C dX10_how_9 ?_
    refine mj_lconstV (v := 0) C dX10_how_10 mc_l_0 ?_
    refine mj_lconstV (v := 1) C dX10_how_11 mc_l_1 ?_
    refine mj_callSi C (c_X10_within σ p2.toInt64 0 1) ys_X10_within kl_X10_110 rfl rfl (Nat.le_of_ble_eq_true rfl) (mj_roomC (by decide) (by decide)) ⟨Nat.zero_le _, Nat.zero_le _⟩ dX10_how_12 ?_
    refine mj_if_ne C dX10_how_15 rfl hF (fun hc2 hF => ?_) (fun hc2 hF => ?_)
    · refine mj_aload_n C dX10_how_20 rfl ?_
      refine mj_iload_n C dX10_how_21 rfl ?_
      obtain ⟨r3, hq3, hF⟩ := mj_ob hF
      refine mj_callVv C (c_X10_findWhose σ p1 r3 hq3) yv_X10_findWhose kl_X10_302 (mo_64 G _) rfl rfl rfl rfl (Nat.le_of_ble_eq_true rfl) (mj_roomC (by decide) (by decide)) ⟨Nat.zero_le _, Nat.zero_le _⟩ dX10_how_22 ?_
      refine mj_aload_n C dX10_how_25 rfl ?_
      refine mg_X10_283 C dX10_how_26 ?_
      refine mj_if_ge C dX10_how_29 rfl hF (fun hc4 hF => ?_) (fun hc4 hF => ?_)
      · refine mj_iconstV (v := 0) C dX10_how_35 mc_i_0 ?_
        refine mj_istore_n C dX10_how_36 (by decide) ?_
        refine mj_iconstV (v := 1) C dX10_how_37 mc_i_1 ?_
        refine mj_istore C dX10_how_38 (by decide) ?_
        refine mj_to ?_ (w_X10_how_40 C hr hlk mj_fu p1 p2 0 1 r3 R hF)
        exact ⟨rfl, rfl, rfl, rfl, rfl, trivial⟩
      · refine mj_bipushV (v := (-2)) C dX10_how_32 mc_b_m2 ?_
        have hF := mj_oi hF; subst hF
        exact mj_iret C hr hlk dX10_how_34
    · refine mj_iconstV (v := (-1)) C dX10_how_18 mc_i_m1 ?_
      have hF := mj_oi hF; subst hF
      exact mj_iret C hr hlk dX10_how_19
set_option maxRecDepth 100000 in
set_option maxHeartbeats 4000000 in
theorem w_X10_goesTogether_61 {p : Program} {l : Launch} {e : Env} {s : State} {m : MethodId} {args : Array Value} {below : List Frame} {meth : Method} {c : Code} {G : mj_G} {k : Nat} {rec : Int32 → Int32 → Int32 → Int32 → Int32 → mj_S → Option mj_S} (C : mj_X p s m args meth c G cX10_goesTogether 7 RX10) (hr : meth.sig.returnType = none) (hlk : meth.locks = false) (hr0 : ∀ (x0 x1 x2 x3 x4 : Int32) (σ : mj_S) (R : mj_S), rec x0 x1 x2 x3 x4 σ = some R → mj_C G l yX10_goesTogether cX10_goesTogether 7 (none) (111 + k) [.ref (G.2.1 64), .int x0, .int x1, .int x2, .int x3, .int x4] σ none R) : ∀ (n : Nat) (v1 : Int32) (v2 : Int32) (v3 : Int32) (v4 : Int32) (v5 : Int32) (v6 : Int32) (σ : mj_S) (R : mj_S), b_X10_goesTogether_61 rec n v1 v2 v3 v4 v5 v6 σ = some R → mj_W p l e (mj_rm (111 + (k + 1))) s m args below meth c G 0 0 7 (MQ below (mj_Q G none R) args s 0 0 G.2.2.2) 61 [(0, .ref (G.2.1 64)), (1, .int v1), (2, .int v2), (3, .int v3), (4, .int v4), (5, .int v5), (6, .int v6)] [] σ := by
  intro n
  induction n with
  | zero =>
    intro v1 v2 v3 v4 v5 v6 σ R hF
    cases hF
  | succ n ih =>
    intro v1 v2 v3 v4 v5 v6 σ R hF
    rw [b_X10_goesTogether_61] at hF
    refine mj_iload C dX10_goesTogether_61 rfl ?_
    refine mj_aload_n C dX10_goesTogether_63 rfl ?_
    refine mg_X10_107 C dX10_goesTogether_64 ?_
    refine mj_ic_ge C dX10_goesTogether_67 rfl hF (fun hc3 hF => ?_) (fun hc3 hF => ?_)
    · have hF := mj_oi hF; subst hF
      exact mj_vret C hr hlk dX10_goesTogether_137
    · refine mj_iload C dX10_goesTogether_70 rfl ?_
      refine mj_iload C dX10_goesTogether_72 rfl ?_
      refine mj_ishr C dX10_goesTogether_74 rfl ?_
      refine mj_iconstV (v := 1) C dX10_goesTogether_75 mc_i_1 ?_
      refine mj_iand C dX10_goesTogether_76 ?_
      refine mj_if_ne C dX10_goesTogether_77 rfl hF (fun hc4 hF => ?_) (fun hc4 hF => ?_)
      · refine mj_iinc (v := v6 + 1) C dX10_goesTogether_131 rfl rfl (by decide) ?_
        refine mj_goto C dX10_goesTogether_134 rfl ?_
        refine mj_to ?_ (ih v1 v2 v3 v4 v5 (v6 + 1) σ R hF)
        exact ⟨rfl, rfl, rfl, rfl, rfl, rfl, rfl, trivial⟩
      · refine mj_iload_n C dX10_goesTogether_80 rfl ?_
        refine mj_aload_n C dX10_goesTogether_81 rfl ?_
        refine mg_X10_22 C dX10_goesTogether_82 ?_
        refine mj_iload C dX10_goesTogether_85 rfl ?_
        obtain ⟨hg5, hF⟩ := mj_og hF
        refine mj_iaload C dX10_goesTogether_87 rfl hg5 ?_
        refine mj_ic_lt C dX10_goesTogether_88 rfl hF (fun hc6 hF => ?_) (fun hc6 hF => ?_)
        · refine mj_iinc (v := v6 + 1) C dX10_goesTogether_131 rfl rfl (by decide) ?_
          refine mj_goto C dX10_goesTogether_134 rfl ?_
          refine mj_to ?_ (ih v1 v2 v3 v4 v5 (v6 + 1) σ R hF)
          exact ⟨rfl, rfl, rfl, rfl, rfl, rfl, rfl, trivial⟩
        · refine mj_aload_n C dX10_goesTogether_91 rfl ?_
          refine mg_X10_65 C dX10_goesTogether_92 ?_
          refine mj_iload_n C dX10_goesTogether_95 rfl ?_
          refine mj_iload C dX10_goesTogether_96 rfl ?_
          obtain ⟨hg7, hF⟩ := mj_og hF
          refine mj_iastore C dX10_goesTogether_98 rfl hg7 ?_
          refine mj_aload_n C dX10_goesTogether_99 rfl ?_
          refine mj_iload_n C dX10_goesTogether_100 rfl ?_
          refine mj_iload_n C dX10_goesTogether_101 rfl ?_
          refine mj_iload_n C dX10_goesTogether_102 rfl ?_
          refine mj_iconstV (v := 1) C dX10_goesTogether_103 mc_i_1 ?_
          refine mj_iadd C dX10_goesTogether_104 ?_
          refine mj_iload C dX10_goesTogether_105 rfl ?_
          refine mj_iconstV (v := 1) C dX10_goesTogether_107 mc_i_1 ?_
          refine mj_iload C dX10_goesTogether_108 rfl ?_
          refine mj_ishl C dX10_goesTogether_110 rfl ?_
          refine mj_ior C dX10_goesTogether_111 ?_
          refine mj_iload C dX10_goesTogether_112 rfl ?_
          refine mj_aload_n C dX10_goesTogether_114 rfl ?_
          refine mj_aload_n C dX10_goesTogether_115 rfl ?_
          refine mg_X10_62 C dX10_goesTogether_116 ?_
          refine mj_iload_n C dX10_goesTogether_119 rfl ?_
          obtain ⟨hg8, hF⟩ := mj_og hF
          refine mj_iaload C dX10_goesTogether_120 rfl hg8 ?_
          refine mj_iload C dX10_goesTogether_121 rfl ?_
          refine mj_iload_n C dX10_goesTogether_123 rfl ?_
          obtain ⟨r9, hq9, hF⟩ := mj_ob hF
          refine mj_callVi C (c_X10_offOf (mj_sI σ 83 v3.toNatClampNeg v6) (σ.1 82 v3.toNatClampNeg) v6 v1 r9 hq9) yv_X10_offOf kl_X10_296 (mo_64 G _) rfl rfl rfl rfl (Nat.le_of_ble_eq_true rfl) (mj_roomR (by decide) (by decide)) ⟨Nat.zero_le _, Nat.zero_le _⟩ dX10_goesTogether_124 ?_
          refine mj_iadd C dX10_goesTogether_127 ?_
          obtain ⟨r10, hq10, hF⟩ := mj_ob hF
          refine mj_callVv C (hr0 v1 v2 (v3 + 1) (v4 ||| ((1 : Int32) <<< (v6 &&& 31))) (v5 + r9.1) r9.2 r10 hq10) yv_X10_goesTogether kl_X10_309 (mo_64 G _) rfl rfl rfl rfl (Nat.le_of_ble_eq_true rfl) (mj_roomK (by decide)) ⟨Nat.zero_le _, Nat.zero_le _⟩ dX10_goesTogether_128 ?_
          refine mj_iinc (v := v6 + 1) C dX10_goesTogether_131 rfl rfl (by decide) ?_
          refine mj_goto C dX10_goesTogether_134 rfl ?_
          refine mj_to ?_ (ih v1 v2 v3 v4 v5 (v6 + 1) r10 R hF)
          exact ⟨rfl, rfl, rfl, rfl, rfl, rfl, rfl, trivial⟩
set_option maxRecDepth 100000 in
set_option maxHeartbeats 4000000 in
theorem w_X10_goesTogether_31 {p : Program} {l : Launch} {e : Env} {s : State} {m : MethodId} {args : Array Value} {below : List Frame} {meth : Method} {c : Code} {G : mj_G} {k : Nat} {rec : Int32 → Int32 → Int32 → Int32 → Int32 → mj_S → Option mj_S} (C : mj_X p s m args meth c G cX10_goesTogether 7 RX10) (hr : meth.sig.returnType = none) (hlk : meth.locks = false) (hr0 : ∀ (x0 x1 x2 x3 x4 : Int32) (σ : mj_S) (R : mj_S), rec x0 x1 x2 x3 x4 σ = some R → mj_C G l yX10_goesTogether cX10_goesTogether 7 (none) (111 + k) [.ref (G.2.1 64), .int x0, .int x1, .int x2, .int x3, .int x4] σ none R) : ∀ (n : Nat) (v2 : Int32) (v6 : Int32) (σ : mj_S) (R : mj_S), b_X10_goesTogether_31 rec n v2 v6 σ = some R → mj_W p l e (mj_rm (111 + (k + 1))) s m args below meth c G 0 0 7 (MQ below (mj_Q G none R) args s 0 0 G.2.2.2) 31 [(0, .ref (G.2.1 64)), (2, .int v2), (6, .int v6)] [] σ := by
  intro n
  induction n with
  | zero =>
    intro v2 v6 σ R hF
    cases hF
  | succ n ih =>
    intro v2 v6 σ R hF
    rw [b_X10_goesTogether_31] at hF
    refine mj_iload C dX10_goesTogether_31 rfl ?_
    refine mj_iload_n C dX10_goesTogether_33 rfl ?_
    refine mj_ic_ge C dX10_goesTogether_34 rfl hF (fun hc11 hF => ?_) (fun hc11 hF => ?_)
    · have hF := mj_oi hF; subst hF
      exact mj_vret C hr hlk dX10_goesTogether_57
    · refine mj_aload_n C dX10_goesTogether_37 rfl ?_
      refine mg_X10_68 C dX10_goesTogether_38 ?_
      refine mj_iload C dX10_goesTogether_41 rfl ?_
      refine mj_aload_n C dX10_goesTogether_43 rfl ?_
      refine mg_X10_65 C dX10_goesTogether_44 ?_
      refine mj_iload C dX10_goesTogether_47 rfl ?_
      obtain ⟨hg12, hF⟩ := mj_og hF
      refine mj_iaload C dX10_goesTogether_49 rfl hg12 ?_
      obtain ⟨hg13, hF⟩ := mj_og hF
      refine mj_iastore C dX10_goesTogether_50 rfl hg13 ?_
      refine mj_iinc (v := v6 + 1) C dX10_goesTogether_51 rfl rfl (by decide) ?_
      refine mj_goto C dX10_goesTogether_54 rfl ?_
      refine mj_to ?_ (ih v2 (v6 + 1) (mj_sI σ 84 v6.toNatClampNeg (σ.1 83 v6.toNatClampNeg)) R hF)
      exact ⟨rfl, rfl, rfl, trivial⟩
set_option maxRecDepth 100000 in
set_option maxHeartbeats 4000000 in
theorem w_X10_goesTogether_17 {p : Program} {l : Launch} {e : Env} {s : State} {m : MethodId} {args : Array Value} {below : List Frame} {meth : Method} {c : Code} {G : mj_G} {k : Nat} {rec : Int32 → Int32 → Int32 → Int32 → Int32 → mj_S → Option mj_S} (C : mj_X p s m args meth c G cX10_goesTogether 7 RX10) (hr : meth.sig.returnType = none) (hlk : meth.locks = false) (hr0 : ∀ (x0 x1 x2 x3 x4 : Int32) (σ : mj_S) (R : mj_S), rec x0 x1 x2 x3 x4 σ = some R → mj_C G l yX10_goesTogether cX10_goesTogether 7 (none) (111 + k) [.ref (G.2.1 64), .int x0, .int x1, .int x2, .int x3, .int x4] σ none R) : ∀ (v1 : Int32) (v2 : Int32) (v3 : Int32) (v4 : Int32) (v5 : Int32) (σ : mj_S) (R : mj_S), b_X10_goesTogether_17 rec v1 v2 v3 v4 v5 σ = some R → mj_W p l e (mj_rm (111 + (k + 1))) s m args below meth c G 0 0 7 (MQ below (mj_Q G none R) args s 0 0 G.2.2.2) 17 [(0, .ref (G.2.1 64)), (1, .int v1), (2, .int v2), (3, .int v3), (4, .int v4), (5, .int v5)] [] σ := by
  intro v1 v2 v3 v4 v5 σ R hF
  unfold b_X10_goesTogether_17 at hF
  refine mj_iload_n C dX10_goesTogether_17 rfl ?_
  refine mj_iload_n C dX10_goesTogether_18 rfl ?_
  refine mj_ic_ne C dX10_goesTogether_19 rfl hF (fun hc2 hF => ?_) (fun hc2 hF => ?_)
  · refine mj_iconstV (v := 0) C dX10_goesTogether_58 mc_i_0 ?_
    refine mj_istore C dX10_goesTogether_59 (by decide) ?_
    refine mj_to ?_ (w_X10_goesTogether_61 C hr hlk hr0 mj_fu v1 v2 v3 v4 v5 0 σ R hF)
    exact ⟨rfl, rfl, rfl, rfl, rfl, rfl, rfl, trivial⟩
  · refine mj_aload_n C dX10_goesTogether_22 rfl ?_
    refine mj_iload C dX10_goesTogether_23 rfl ?_
    refine mp_X10_306 C dX10_goesTogether_25 ?_
    refine mj_iconstV (v := 0) C dX10_goesTogether_28 mc_i_0 ?_
    refine mj_istore C dX10_goesTogether_29 (by decide) ?_
    refine mj_to ?_ (w_X10_goesTogether_31 C hr hlk hr0 mj_fu v2 0 (mj_sI σ 64 37 v5) R hF)
    exact ⟨rfl, rfl, rfl, trivial⟩
set_option maxRecDepth 100000 in
set_option maxHeartbeats 4000000 in
theorem cF_X10_goesTogether {G : mj_G} {l : Launch} {k : Nat} {rec : Int32 → Int32 → Int32 → Int32 → Int32 → mj_S → Option mj_S} (hr0 : ∀ (x0 x1 x2 x3 x4 : Int32) (σ : mj_S) (R : mj_S), rec x0 x1 x2 x3 x4 σ = some R → mj_C G l yX10_goesTogether cX10_goesTogether 7 (none) (111 + k) [.ref (G.2.1 64), .int x0, .int x1, .int x2, .int x3, .int x4] σ none R) (σ : mj_S) (p1 : Int32) (p2 : Int32) (p3 : Int32) (p4 : Int32) (p5 : Int32) (R : mj_S) (hF : F_X10_goesTogether rec σ p1 p2 p3 p4 p5 = some R) : mj_C G l yX10_goesTogether cX10_goesTogether 7 (none) (111 + (k + 1)) [.ref (G.2.1 64), .int p1, .int p2, .int p3, .int p4, .int p5] σ none R := by
  unfold F_X10_goesTogether at hF
  refine mj_of (ls := [(0, .ref (G.2.1 64)), (1, .int p1), (2, .int p2), (3, .int p3), (4, .int p4), (5, .int p5)]) (by decide) (Nat.le_of_ble_eq_true rfl) rfl (fun p e s m args below meth c C hr hlk => ?_)
  refine mj_aload_n C dX10_goesTogether_0 rfl ?_
  refine mg_X10_306 C dX10_goesTogether_1 ?_
  refine mj_if_lt C dX10_goesTogether_4 rfl hF (fun hc1 hF => ?_) (fun hc1 hF => ?_)
  · refine mj_to ?_ (w_X10_goesTogether_17 C hr hlk hr0 p1 p2 p3 p4 p5 σ R hF)
    exact ⟨rfl, rfl, rfl, rfl, rfl, rfl, trivial⟩
  · refine mj_iload C dX10_goesTogether_7 rfl ?_
    refine mj_aload_n C dX10_goesTogether_9 rfl ?_
    refine mg_X10_306 C dX10_goesTogether_10 ?_
    refine mj_ic_lt C dX10_goesTogether_13 rfl hF (fun hc14 hF => ?_) (fun hc14 hF => ?_)
    · refine mj_to ?_ (w_X10_goesTogether_17 C hr hlk hr0 p1 p2 p3 p4 p5 σ R hF)
      exact ⟨rfl, rfl, rfl, rfl, rfl, rfl, trivial⟩
    · have hF := mj_oi hF; subst hF
      exact mj_vret C hr hlk dX10_goesTogether_16
theorem cr_X10_goesTogether {G : mj_G} {l : Launch} : ∀ k : Nat, (∀ (x0 x1 x2 x3 x4 : Int32) (σ : mj_S) (R : mj_S), rc_X10_goesTogether k x0 x1 x2 x3 x4 σ = some R → mj_C G l yX10_goesTogether cX10_goesTogether 7 (none) (111 + k) [.ref (G.2.1 64), .int x0, .int x1, .int x2, .int x3, .int x4] σ none R) := by
  intro k
  induction k with
  | zero =>
    intros; rename_i h; cases h
  | succ k ih =>
    exact fun x0 x1 x2 x3 x4 σ R h => cF_X10_goesTogether (ih) σ x0 x1 x2 x3 x4 R (by rw [rc_X10_goesTogether] at h; exact h)
theorem c_X10_goesTogether {G : mj_G} {l : Launch} (σ : mj_S) (p1 : Int32) (p2 : Int32) (p3 : Int32) (p4 : Int32) (p5 : Int32) (R : mj_S) (hF : f_X10_goesTogether σ p1 p2 p3 p4 p5 = some R) : mj_C G l yX10_goesTogether cX10_goesTogether 7 (none) 211 [.ref (G.2.1 64), .int p1, .int p2, .int p3, .int p4, .int p5] σ none R := (cr_X10_goesTogether 100) p1 p2 p3 p4 p5 σ R hF
set_option maxRecDepth 100000 in
set_option maxHeartbeats 4000000 in
theorem w_X10_together_19 {p : Program} {l : Launch} {e : Env} {s : State} {m : MethodId} {args : Array Value} {below : List Frame} {meth : Method} {c : Code} {G : mj_G} (C : mj_X p s m args meth c G cX10_together 5 RX10) (hr : meth.sig.returnType = some .int) (hlk : meth.locks = false) : ∀ (n : Nat) (v1 : Int32) (v2 : Int32) (v3 : Int32) (v4 : Int32) (σ : mj_S) (R : (Int32 × mj_S)), b_X10_together_19 n v1 v2 v3 v4 σ = some R → mj_W p l e (mj_rm 212) s m args below meth c G 0 0 5 (MQ below (mj_Q G (some (.int R.1)) R.2) args s 0 0 G.2.2.2) 19 [(0, .ref (G.2.1 64)), (1, .int v1), (2, .int v2), (3, .int v3), (4, .int v4)] [] σ := by
  intro n
  induction n with
  | zero =>
    intro v1 v2 v3 v4 σ R hF
    cases hF
  | succ n ih =>
    intro v1 v2 v3 v4 σ R hF
    rw [b_X10_together_19] at hF
    refine mj_iload C dX10_together_19 rfl ?_
    refine mj_aload_n C dX10_together_21 rfl ?_
    refine mg_X10_226 C dX10_together_22 ?_
    refine mj_ic_ge C dX10_together_25 rfl hF (fun hc3 hF => ?_) (fun hc3 hF => ?_)
    · refine mj_iload_n C dX10_together_73 rfl ?_
      refine mj_iload_n C dX10_together_74 rfl ?_
      refine mj_ic_lt C dX10_together_75 rfl hF (fun hc4 hF => ?_) (fun hc4 hF => ?_)
      · refine mj_aload_n C dX10_together_80 rfl ?_
        refine mj_iconstV (v := (-1)) C dX10_together_81 mc_i_m1 ?_
        refine mp_X10_306 C dX10_together_82 ?_
        refine mj_aload_n C dX10_together_85 rfl ?_
        refine mj_iload_n C dX10_together_86 rfl ?_
        refine mj_iload_n C dX10_together_87 rfl ?_
        refine mj_iconstV (v := 0) C dX10_together_88 mc_i_0 ?_
        refine mj_iconstV (v := 0) C dX10_together_89 mc_i_0 ?_
        refine mj_iconstV (v := 0) C dX10_together_90 mc_i_0 ?_
        obtain ⟨r5, hq5, hF⟩ := mj_ob hF
        refine mj_callVv C (c_X10_goesTogether (mj_sI σ 64 37 (-1)) v1 v3 0 0 0 r5 hq5) yv_X10_goesTogether kl_X10_309 (mo_64 G _) rfl rfl rfl rfl (Nat.le_of_ble_eq_true rfl) (mj_roomC (by decide) (by decide)) ⟨Nat.zero_le _, Nat.zero_le _⟩ dX10_together_91 ?_
        refine mj_aload_n C dX10_together_94 rfl ?_
        refine mg_X10_306 C dX10_together_95 ?_
        refine mj_if_ge C dX10_together_98 rfl hF (fun hc6 hF => ?_) (fun hc6 hF => ?_)
        · refine mj_iload_n C dX10_together_106 rfl ?_
          refine mj_iconstV (v := (-1)) C dX10_together_107 mc_i_m1 ?_
          refine mj_ic_ne C dX10_together_108 rfl hF (fun hc7 hF => ?_) (fun hc7 hF => ?_)
          · refine mj_aload_n C dX10_together_118 rfl ?_
            refine mg_X10_68 C dX10_together_119 ?_
            refine mj_iload_n C dX10_together_122 rfl ?_
            obtain ⟨hg8, hF⟩ := mj_og hF
            refine mj_iaload C dX10_together_123 rfl hg8 ?_
            have hF := mj_oi hF; subst hF
            exact mj_iret C hr hlk dX10_together_124
          · refine mj_aload_n C dX10_together_111 rfl ?_
            refine mg_X10_306 C dX10_together_112 ?_
            refine mj_goto C dX10_together_115 rfl ?_
            have hF := mj_oi hF; subst hF
            exact mj_iret C hr hlk dX10_together_124
        · refine mj_bipushV (v := (-2)) C dX10_together_101 mc_b_m2 ?_
          refine mj_goto C dX10_together_103 rfl ?_
          have hF := mj_oi hF; subst hF
          exact mj_iret C hr hlk dX10_together_124
      · refine mj_iconstV (v := (-1)) C dX10_together_78 mc_i_m1 ?_
        have hF := mj_oi hF; subst hF
        exact mj_iret C hr hlk dX10_together_79
    · refine mj_aload_n C dX10_together_28 rfl ?_
      refine mg_X10_55 C dX10_together_29 ?_
      refine mj_iload C dX10_together_32 rfl ?_
      obtain ⟨hg9, hF⟩ := mj_og hF
      refine mj_iaload C dX10_together_34 rfl hg9 ?_
      refine mj_iload_n C dX10_together_35 rfl ?_
      refine mj_ic_ne C dX10_together_36 rfl hF (fun hc10 hF => ?_) (fun hc10 hF => ?_)
      · refine mj_iinc (v := v4 + 1) C dX10_together_67 rfl rfl (by decide) ?_
        refine mj_goto C dX10_together_70 rfl ?_
        refine mj_to ?_ (ih v1 v2 v3 (v4 + 1) σ R hF)
        exact ⟨rfl, rfl, rfl, rfl, rfl, trivial⟩
      · refine mj_aload_n C dX10_together_39 rfl ?_
        refine mg_X10_52 C dX10_together_40 ?_
        refine mj_iload C dX10_together_43 rfl ?_
        obtain ⟨hg11, hF⟩ := mj_og hF
        refine mj_iaload C dX10_together_45 rfl hg11 ?_
        refine mj_bipushV (v := 6) C dX10_together_46 mc_b_6 ?_
        refine mj_ic_ne C dX10_together_48 rfl hF (fun hc12 hF => ?_) (fun hc12 hF => ?_)
        · refine mj_iinc (v := v4 + 1) C dX10_together_67 rfl rfl (by decide) ?_
          refine mj_goto C dX10_together_70 rfl ?_
          refine mj_to ?_ (ih v1 v2 v3 (v4 + 1) σ R hF)
          exact ⟨rfl, rfl, rfl, rfl, rfl, trivial⟩
        · refine mj_iload_n C dX10_together_51 rfl ?_
          refine mj_iconstV (v := 4) C dX10_together_52 mc_i_4 ?_
          refine mj_ic_ge C dX10_together_53 rfl hF (fun hc13 hF => ?_) (fun hc13 hF => ?_)
          · refine mj_iinc (v := v4 + 1) C dX10_together_67 rfl rfl (by decide) ?_
            refine mj_goto C dX10_together_70 rfl ?_
            refine mj_to ?_ (ih v1 v2 v3 (v4 + 1) σ R hF)
            exact ⟨rfl, rfl, rfl, rfl, rfl, trivial⟩
          · refine mj_aload_n C dX10_together_56 rfl ?_
            refine mg_X10_62 C dX10_together_57 ?_
            refine mj_iload_n C dX10_together_60 rfl ?_
            refine mj_iload C dX10_together_61 rfl ?_
            obtain ⟨hg14, hF⟩ := mj_og hF
            refine mj_iastore C dX10_together_63 rfl hg14 ?_
            refine mj_iinc (v := v3 + 1) C dX10_together_64 rfl rfl (by decide) ?_
            refine mj_iinc (v := v4 + 1) C dX10_together_67 rfl rfl (by decide) ?_
            refine mj_goto C dX10_together_70 rfl ?_
            refine mj_to ?_ (ih v1 v2 (v3 + 1) (v4 + 1) (mj_sI σ 82 v3.toNatClampNeg v4) R hF)
            exact ⟨rfl, rfl, rfl, rfl, rfl, trivial⟩
set_option maxRecDepth 100000 in
set_option maxHeartbeats 4000000 in
theorem c_X10_together {G : mj_G} {l : Launch} (σ : mj_S) (p1 : Int32) (p2 : Int32) (R : (Int32 × mj_S)) (hF : f_X10_together σ p1 p2 = some R) : mj_C G l yX10_together cX10_together 5 (some .int) 212 [.ref (G.2.1 64), .int p1, .int p2] σ (some (.int R.1)) R.2 := by
  unfold f_X10_together at hF
  refine mj_of (ls := [(0, .ref (G.2.1 64)), (1, .int p1), (2, .int p2)]) (by decide) (Nat.le_of_ble_eq_true rfl) rfl (fun p e s m args below meth c C hr hlk => ?_)
  refine mj_iload_n C dX10_together_0 rfl ?_
  refine mj_callSi C (c_X10_isMonth σ p1) ys_X10_isMonth kl_X10_124 rfl rfl (Nat.le_of_ble_eq_true rfl) (mj_roomC (by decide) (by decide)) ⟨Nat.zero_le _, Nat.zero_le _⟩ dX10_together_1 ?_
  refine mj_if_eq C dX10_together_4 rfl hF (fun hc1 hF => ?_) (fun hc1 hF => ?_)
  · refine mj_iconstV (v := (-1)) C dX10_together_12 mc_i_m1 ?_
    have hF := mj_oi hF; subst hF
    exact mj_iret C hr hlk dX10_together_13
  · refine mj_iload_n C dX10_together_7 rfl ?_
    refine mj_iconstV (v := (-1)) C dX10_together_8 mc_i_m1 ?_
    refine mj_ic_ge C dX10_together_9 rfl hF (fun hc2 hF => ?_) (fun hc2 hF => ?_)
    · refine mj_iconstV (v := 0) C dX10_together_14 mc_i_0 ?_
      refine mj_istore_n C dX10_together_15 (by decide) ?_
      refine mj_iconstV (v := 0) C dX10_together_16 mc_i_0 ?_
      refine mj_istore C dX10_together_17 (by decide) ?_
      refine mj_to ?_ (w_X10_together_19 C hr hlk mj_fu p1 p2 0 0 σ R hF)
      exact ⟨rfl, rfl, rfl, rfl, rfl, trivial⟩
    · refine mj_iconstV (v := (-1)) C dX10_together_12 mc_i_m1 ?_
      have hF := mj_oi hF; subst hF
      exact mj_iret C hr hlk dX10_together_13
set_option maxRecDepth 100000 in
set_option maxHeartbeats 4000000 in
theorem w_X10_isTurned_2 {p : Program} {l : Launch} {e : Env} {s : State} {m : MethodId} {args : Array Value} {below : List Frame} {meth : Method} {c : Code} {G : mj_G} {σ : mj_S} (C : mj_X p s m args meth c G cX10_isTurned 3 RX10) (hr : meth.sig.returnType = some .boolean) (hlk : meth.locks = false) : ∀ (n : Nat) (v1 : Int32) (v2 : Int32) (R : Int32), b_X10_isTurned_2 σ n v1 v2 = some R → mj_W p l e (mj_rm 1) s m args below meth c G 0 0 3 (MQ below (mj_Q G (some (.int R)) σ) args s 0 0 G.2.2.2) 2 [(0, .ref (G.2.1 64)), (1, .int v1), (2, .int v2)] [] σ := by
  intro n
  induction n with
  | zero =>
    intro v1 v2 R hF
    cases hF
  | succ n ih =>
    intro v1 v2 R hF
    rw [b_X10_isTurned_2] at hF
    refine mj_iload_n C dX10_isTurned_2 rfl ?_
    refine mj_aload_n C dX10_isTurned_3 rfl ?_
    refine mg_X10_226 C dX10_isTurned_4 ?_
    refine mj_ic_ge C dX10_isTurned_7 rfl hF (fun hc1 hF => ?_) (fun hc1 hF => ?_)
    · refine mj_iconstV (v := 0) C dX10_isTurned_69 mc_i_0 ?_
      have hF := mj_oi hF; subst hF
      exact mj_zret (v := 0) rfl C hr hlk dX10_isTurned_70
    · refine mj_aload_n C dX10_isTurned_10 rfl ?_
      refine mg_X10_52 C dX10_isTurned_11 ?_
      refine mj_iload_n C dX10_isTurned_14 rfl ?_
      obtain ⟨hg2, hF⟩ := mj_og hF
      refine mj_iaload C dX10_isTurned_15 rfl hg2 ?_
      refine mj_aload_n C dX10_isTurned_16 rfl ?_
      refine mg_X10_52 C dX10_isTurned_17 ?_
      refine mj_iload_n C dX10_isTurned_20 rfl ?_
      obtain ⟨hg3, hF⟩ := mj_og hF
      refine mj_iaload C dX10_isTurned_21 rfl hg3 ?_
      refine mj_ic_ne C dX10_isTurned_22 rfl hF (fun hc4 hF => ?_) (fun hc4 hF => ?_)
      · refine mj_iinc (v := v2 + 1) C dX10_isTurned_63 rfl rfl (by decide) ?_
        refine mj_goto C dX10_isTurned_66 rfl ?_
        refine mj_to ?_ (ih v1 (v2 + 1) R hF)
        exact ⟨rfl, rfl, rfl, trivial⟩
      · refine mj_aload_n C dX10_isTurned_25 rfl ?_
        refine mg_X10_55 C dX10_isTurned_26 ?_
        refine mj_iload_n C dX10_isTurned_29 rfl ?_
        obtain ⟨hg5, hF⟩ := mj_og hF
        refine mj_iaload C dX10_isTurned_30 rfl hg5 ?_
        refine mj_aload_n C dX10_isTurned_31 rfl ?_
        refine mg_X10_55 C dX10_isTurned_32 ?_
        refine mj_iload_n C dX10_isTurned_35 rfl ?_
        obtain ⟨hg6, hF⟩ := mj_og hF
        refine mj_iaload C dX10_isTurned_36 rfl hg6 ?_
        refine mj_ic_ge C dX10_isTurned_37 rfl hF (fun hc7 hF => ?_) (fun hc7 hF => ?_)
        · refine mj_iinc (v := v2 + 1) C dX10_isTurned_63 rfl rfl (by decide) ?_
          refine mj_goto C dX10_isTurned_66 rfl ?_
          refine mj_to ?_ (ih v1 (v2 + 1) R hF)
          exact ⟨rfl, rfl, rfl, trivial⟩
        · refine mj_aload_n C dX10_isTurned_40 rfl ?_
          refine mg_X10_9 C dX10_isTurned_41 ?_
          refine mj_bipushV (v := 12) C dX10_isTurned_44 mc_b_12 ?_
          refine mj_iload_n C dX10_isTurned_46 rfl ?_
          refine mj_iadd C dX10_isTurned_47 ?_
          obtain ⟨hg8, hF⟩ := mj_og hF
          refine mj_iaload C dX10_isTurned_48 rfl hg8 ?_
          refine mj_aload_n C dX10_isTurned_49 rfl ?_
          refine mg_X10_9 C dX10_isTurned_50 ?_
          refine mj_bipushV (v := 12) C dX10_isTurned_53 mc_b_12 ?_
          refine mj_iload_n C dX10_isTurned_55 rfl ?_
          refine mj_iadd C dX10_isTurned_56 ?_
          obtain ⟨hg9, hF⟩ := mj_og hF
          refine mj_iaload C dX10_isTurned_57 rfl hg9 ?_
          refine mj_ic_gt C dX10_isTurned_58 rfl hF (fun hc10 hF => ?_) (fun hc10 hF => ?_)
          · refine mj_iinc (v := v2 + 1) C dX10_isTurned_63 rfl rfl (by decide) ?_
            refine mj_goto C dX10_isTurned_66 rfl ?_
            refine mj_to ?_ (ih v1 (v2 + 1) R hF)
            exact ⟨rfl, rfl, rfl, trivial⟩
          · refine mj_iconstV (v := 1) C dX10_isTurned_61 mc_i_1 ?_
            have hF := mj_oi hF; subst hF
            exact mj_zret (v := 1) rfl C hr hlk dX10_isTurned_62
set_option maxRecDepth 100000 in
set_option maxHeartbeats 4000000 in
theorem c_X10_isTurned {G : mj_G} {l : Launch} (σ : mj_S) (p1 : Int32) (R : Int32) (hF : f_X10_isTurned σ p1 = some R) : mj_C G l yX10_isTurned cX10_isTurned 3 (some .boolean) 1 [.ref (G.2.1 64), .int p1] σ (some (.int R)) σ := by
  unfold f_X10_isTurned at hF
  refine mj_of (ls := [(0, .ref (G.2.1 64)), (1, .int p1)]) (by decide) (Nat.le_of_ble_eq_true rfl) rfl (fun p e s m args below meth c C hr hlk => ?_)
  refine mj_iconstV (v := 0) C dX10_isTurned_0 mc_i_0 ?_
  refine mj_istore_n C dX10_isTurned_1 (by decide) ?_
  refine mj_to ?_ (w_X10_isTurned_2 C hr hlk mj_fu p1 0 R hF)
  exact ⟨rfl, rfl, rfl, trivial⟩
set_option maxRecDepth 100000 in
set_option maxHeartbeats 4000000 in
theorem w_X10_turned_34 {p : Program} {l : Launch} {e : Env} {s : State} {m : MethodId} {args : Array Value} {below : List Frame} {meth : Method} {c : Code} {G : mj_G} {σ : mj_S} (C : mj_X p s m args meth c G cX10_turned 6 RX10) (hr : meth.sig.returnType = some .int) (hlk : meth.locks = false) : ∀ (n : Nat) (v1 : Int32) (v2 : Int32) (v3 : Int32) (v4 : Int32) (v5 : Int32) (R : Int32), b_X10_turned_34 σ n v1 v2 v3 v4 v5 = some R → mj_W p l e (mj_rm 3) s m args below meth c G 0 0 6 (MQ below (mj_Q G (some (.int R)) σ) args s 0 0 G.2.2.2) 34 [(0, .ref (G.2.1 64)), (1, .int v1), (2, .int v2), (3, .int v3), (4, .int v4), (5, .int v5)] [] σ := by
  intro n
  induction n with
  | zero =>
    intro v1 v2 v3 v4 v5 R hF
    cases hF
  | succ n ih =>
    intro v1 v2 v3 v4 v5 R hF
    rw [b_X10_turned_34] at hF
    refine mj_iload C dX10_turned_34 rfl ?_
    refine mj_if_lt C dX10_turned_36 rfl hF (fun hc3 hF => ?_) (fun hc3 hF => ?_)
    · refine mj_iload_n C dX10_turned_85 rfl ?_
      refine mj_if_ne C dX10_turned_86 rfl hF (fun hc4 hF => ?_) (fun hc4 hF => ?_)
      · refine mj_iload C dX10_turned_93 rfl ?_
        have hF := mj_oi hF; subst hF
        exact mj_iret C hr hlk dX10_turned_95
      · refine mj_iload_n C dX10_turned_89 rfl ?_
        refine mj_goto C dX10_turned_90 rfl ?_
        have hF := mj_oi hF; subst hF
        exact mj_iret C hr hlk dX10_turned_95
    · refine mj_aload_n C dX10_turned_39 rfl ?_
      refine mg_X10_52 C dX10_turned_40 ?_
      refine mj_iload C dX10_turned_43 rfl ?_
      obtain ⟨hg5, hF⟩ := mj_og hF
      refine mj_iaload C dX10_turned_45 rfl hg5 ?_
      refine mj_iload_n C dX10_turned_46 rfl ?_
      refine mj_ic_ne C dX10_turned_47 rfl hF (fun hc6 hF => ?_) (fun hc6 hF => ?_)
      · refine mj_iinc (v := v5 + (-1)) C dX10_turned_79 rfl rfl (by decide) ?_
        refine mj_goto C dX10_turned_82 rfl ?_
        refine mj_to ?_ (ih v1 v2 v3 v4 (v5 + (-1)) R hF)
        exact ⟨rfl, rfl, rfl, rfl, rfl, rfl, trivial⟩
      · refine mj_aload_n C dX10_turned_50 rfl ?_
        refine mg_X10_55 C dX10_turned_51 ?_
        refine mj_iload C dX10_turned_54 rfl ?_
        obtain ⟨hg7, hF⟩ := mj_og hF
        refine mj_iaload C dX10_turned_56 rfl hg7 ?_
        refine mj_sipushV (v := 600) C dX10_turned_57 mc_s_600 ?_
        refine mj_ic_ge C dX10_turned_60 rfl hF (fun hc8 hF => ?_) (fun hc8 hF => ?_)
        · refine mj_iinc (v := v5 + (-1)) C dX10_turned_79 rfl rfl (by decide) ?_
          refine mj_goto C dX10_turned_82 rfl ?_
          refine mj_to ?_ (ih v1 v2 v3 v4 (v5 + (-1)) R hF)
          exact ⟨rfl, rfl, rfl, rfl, rfl, rfl, trivial⟩
        · refine mj_aload_n C dX10_turned_63 rfl ?_
          refine mj_iload C dX10_turned_64 rfl ?_
          obtain ⟨r9, hq9, hF⟩ := mj_ob hF
          refine mj_callVi C (c_X10_isTurned σ v5 r9 hq9) yv_X10_isTurned kl_X10_313 (mo_64 G _) rfl rfl rfl rfl (Nat.le_of_ble_eq_true rfl) (mj_roomC (by decide) (by decide)) ⟨Nat.zero_le _, Nat.zero_le _⟩ dX10_turned_66 ?_
          refine mj_if_eq C dX10_turned_69 rfl hF (fun hc10 hF => ?_) (fun hc10 hF => ?_)
          · refine mj_iinc (v := v5 + (-1)) C dX10_turned_79 rfl rfl (by decide) ?_
            refine mj_goto C dX10_turned_82 rfl ?_
            refine mj_to ?_ (ih v1 v2 v3 v4 (v5 + (-1)) R hF)
            exact ⟨rfl, rfl, rfl, rfl, rfl, rfl, trivial⟩
          · refine mj_iinc (v := v3 + 1) C dX10_turned_72 rfl rfl (by decide) ?_
            refine mj_iload C dX10_turned_75 rfl ?_
            refine mj_istore C dX10_turned_77 (by decide) ?_
            refine mj_iinc (v := v5 + (-1)) C dX10_turned_79 rfl rfl (by decide) ?_
            refine mj_goto C dX10_turned_82 rfl ?_
            refine mj_to ?_ (ih v1 v2 (v3 + 1) v5 (v5 + (-1)) R hF)
            exact ⟨rfl, rfl, rfl, rfl, rfl, rfl, trivial⟩
set_option maxRecDepth 100000 in
set_option maxHeartbeats 4000000 in
theorem c_X10_turned {G : mj_G} {l : Launch} (σ : mj_S) (p1 : Int32) (p2 : Int32) (R : Int32) (hF : f_X10_turned σ p1 p2 = some R) : mj_C G l yX10_turned cX10_turned 6 (some .int) 3 [.ref (G.2.1 64), .int p1, .int p2] σ (some (.int R)) σ := by
  unfold f_X10_turned at hF
  refine mj_of (ls := [(0, .ref (G.2.1 64)), (1, .int p1), (2, .int p2)]) (by decide) (Nat.le_of_ble_eq_true rfl) rfl (fun p e s m args below meth c C hr hlk => ?_)
  refine mj_aload_n C dX10_turned_0 rfl ?_
  refine mj_iload_n C dX10_turned_1 rfl ?_
  refine mj_callVi C (c_X10_isChild σ p1) yv_X10_isChild kl_X10_220 (mo_64 G _) rfl rfl rfl rfl (Nat.le_of_ble_eq_true rfl) (mj_roomC (by decide) (by decide)) ⟨Nat.zero_le _, Nat.zero_le _⟩ dX10_turned_2 ?_
  refine mj_if_eq C dX10_turned_5 rfl hF (fun hc1 hF => ?_) (fun hc1 hF => ?_)
  · refine mj_iconstV (v := (-1)) C dX10_turned_18 mc_i_m1 ?_
    have hF := mj_oi hF; subst hF
    exact mj_iret C hr hlk dX10_turned_19
  · refine mj_iload_n C dX10_turned_8 rfl ?_
    refine mj_i2l C dX10_turned_9 ?_
    refine mj_lconstV (v := 0) C dX10_turned_10 mc_l_0 ?_
    refine mj_lconstV (v := 1) C dX10_turned_11 mc_l_1 ?_
    refine mj_callSi C (c_X10_within σ p2.toInt64 0 1) ys_X10_within kl_X10_110 rfl rfl (Nat.le_of_ble_eq_true rfl) (mj_roomC (by decide) (by decide)) ⟨Nat.zero_le _, Nat.zero_le _⟩ dX10_turned_12 ?_
    refine mj_if_ne C dX10_turned_15 rfl hF (fun hc2 hF => ?_) (fun hc2 hF => ?_)
    · refine mj_iconstV (v := 0) C dX10_turned_20 mc_i_0 ?_
      refine mj_istore_n C dX10_turned_21 (by decide) ?_
      refine mj_bipushV (v := (-2)) C dX10_turned_22 mc_b_m2 ?_
      refine mj_istore C dX10_turned_24 (by decide) ?_
      refine mj_aload_n C dX10_turned_26 rfl ?_
      refine mg_X10_226 C dX10_turned_27 ?_
      refine mj_iconstV (v := 1) C dX10_turned_30 mc_i_1 ?_
      refine mj_isub C dX10_turned_31 ?_
      refine mj_istore C dX10_turned_32 (by decide) ?_
      refine mj_to ?_ (w_X10_turned_34 C hr hlk mj_fu p1 p2 0 (-2) ((σ.1 64 26) - 1) R hF)
      exact ⟨rfl, rfl, rfl, rfl, rfl, rfl, trivial⟩
    · refine mj_iconstV (v := (-1)) C dX10_turned_18 mc_i_m1 ?_
      have hF := mj_oi hF; subst hF
      exact mj_iret C hr hlk dX10_turned_19
set_option maxRecDepth 100000 in
set_option maxHeartbeats 4000000 in
theorem w_X10_led_14 {p : Program} {l : Launch} {e : Env} {s : State} {m : MethodId} {args : Array Value} {below : List Frame} {meth : Method} {c : Code} {G : mj_G} (C : mj_X p s m args meth c G cX10_led 4 RX10) (hr : meth.sig.returnType = some .int) (hlk : meth.locks = false) : ∀ (n : Nat) (v1 : Int32) (v2 : Int32) (v3 : Int32) (σ : mj_S) (R : (Int32 × mj_S)), b_X10_led_14 n v1 v2 v3 σ = some R → mj_W p l e (mj_rm 112) s m args below meth c G 0 0 4 (MQ below (mj_Q G (some (.int R.1)) R.2) args s 0 0 G.2.2.2) 14 [(0, .ref (G.2.1 64)), (1, .int v1), (2, .int v2), (3, .int v3)] [] σ := by
  intro n
  induction n with
  | zero =>
    intro v1 v2 v3 σ R hF
    cases hF
  | succ n ih =>
    intro v1 v2 v3 σ R hF
    rw [b_X10_led_14] at hF
    refine mj_iload_n C dX10_led_14 rfl ?_
    refine mj_aload_n C dX10_led_15 rfl ?_
    refine mg_X10_226 C dX10_led_16 ?_
    refine mj_ic_ge C dX10_led_19 rfl hF (fun hc2 hF => ?_) (fun hc2 hF => ?_)
    · refine mj_iload_n C dX10_led_49 rfl ?_
      have hF := mj_oi hF; subst hF
      exact mj_iret C hr hlk dX10_led_50
    · refine mj_aload_n C dX10_led_22 rfl ?_
      refine mj_iload_n C dX10_led_23 rfl ?_
      obtain ⟨r3, hq3, hF⟩ := mj_ob hF
      refine mj_callVv C (c_X10_findWhose σ v3 r3 hq3) yv_X10_findWhose kl_X10_302 (mo_64 G _) rfl rfl rfl rfl (Nat.le_of_ble_eq_true rfl) (mj_roomC (by decide) (by decide)) ⟨Nat.zero_le _, Nat.zero_le _⟩ dX10_led_24 ?_
      refine mj_iload_n C dX10_led_27 rfl ?_
      refine mj_aload_n C dX10_led_28 rfl ?_
      refine mg_X10_283 C dX10_led_29 ?_
      refine mj_iload_n C dX10_led_32 rfl ?_
      refine mj_ic_ne C dX10_led_33 rfl hF (fun hc4 hF => ?_) (fun hc4 hF => ?_)
      · refine mj_iconstV (v := 0) C dX10_led_40 mc_i_0 ?_
        refine mj_iadd C dX10_led_41 ?_
        refine mj_istore_n C dX10_led_42 (by decide) ?_
        refine mj_iinc (v := v3 + 1) C dX10_led_43 rfl rfl (by decide) ?_
        refine mj_goto C dX10_led_46 rfl ?_
        refine mj_to ?_ (ih v1 (v2 + 0) (v3 + 1) r3 R hF)
        exact ⟨rfl, rfl, rfl, rfl, trivial⟩
      · refine mj_iconstV (v := 1) C dX10_led_36 mc_i_1 ?_
        refine mj_goto C dX10_led_37 rfl ?_
        refine mj_iadd C dX10_led_41 ?_
        refine mj_istore_n C dX10_led_42 (by decide) ?_
        refine mj_iinc (v := v3 + 1) C dX10_led_43 rfl rfl (by decide) ?_
        refine mj_goto C dX10_led_46 rfl ?_
        refine mj_to ?_ (ih v1 (v2 + 1) (v3 + 1) r3 R hF)
        exact ⟨rfl, rfl, rfl, rfl, trivial⟩
set_option maxRecDepth 100000 in
set_option maxHeartbeats 4000000 in
theorem c_X10_led {G : mj_G} {l : Launch} (σ : mj_S) (p1 : Int32) (R : (Int32 × mj_S)) (hF : f_X10_led σ p1 = some R) : mj_C G l yX10_led cX10_led 4 (some .int) 112 [.ref (G.2.1 64), .int p1] σ (some (.int R.1)) R.2 := by
  unfold f_X10_led at hF
  refine mj_of (ls := [(0, .ref (G.2.1 64)), (1, .int p1)]) (by decide) (Nat.le_of_ble_eq_true rfl) rfl (fun p e s m args below meth c C hr hlk => ?_)
  refine mj_aload_n C dX10_led_0 rfl ?_
  refine mj_iload_n C dX10_led_1 rfl ?_
  refine mj_callVi C (c_X10_isChild σ p1) yv_X10_isChild kl_X10_220 (mo_64 G _) rfl rfl rfl rfl (Nat.le_of_ble_eq_true rfl) (mj_roomC (by decide) (by decide)) ⟨Nat.zero_le _, Nat.zero_le _⟩ dX10_led_2 ?_
  refine mj_if_ne C dX10_led_5 rfl hF (fun hc1 hF => ?_) (fun hc1 hF => ?_)
  · refine mj_iconstV (v := 0) C dX10_led_10 mc_i_0 ?_
    refine mj_istore_n C dX10_led_11 (by decide) ?_
    refine mj_iconstV (v := 0) C dX10_led_12 mc_i_0 ?_
    refine mj_istore_n C dX10_led_13 (by decide) ?_
    refine mj_to ?_ (w_X10_led_14 C hr hlk mj_fu p1 0 0 σ R hF)
    exact ⟨rfl, rfl, rfl, rfl, trivial⟩
  · refine mj_iconstV (v := (-1)) C dX10_led_8 mc_i_m1 ?_
    have hF := mj_oi hF; subst hF
    exact mj_iret C hr hlk dX10_led_9
set_option maxRecDepth 100000 in
set_option maxHeartbeats 4000000 in
theorem w_X10_endOf_27 {p : Program} {l : Launch} {e : Env} {s : State} {m : MethodId} {args : Array Value} {below : List Frame} {meth : Method} {c : Code} {G : mj_G} (C : mj_X p s m args meth c G cX10_endOf 3 RX10) (hr : meth.sig.returnType = some .int) (hlk : meth.locks = false) : ∀ (t1 : Int32) (t2 : Int32) (σ : mj_S) (R : (Int32 × mj_S)), b_X10_endOf_27 t1 t2 σ = some R → mj_W p l e (mj_rm 109) s m args below meth c G 0 0 3 (MQ below (mj_Q G (some (.int R.1)) R.2) args s 0 0 G.2.2.2) 27 [] [.int t2, .int t1, .ref (G.2.1 64)] σ := by
  intro t1 t2 σ R hF
  unfold b_X10_endOf_27 at hF
  obtain ⟨r3, hq3, hF⟩ := mj_ob hF
  refine mj_callVi C (c_X10_heightOf σ t1 t2 r3 hq3) yv_X10_heightOf kl_X10_223 (mo_64 G _) rfl rfl rfl rfl (Nat.le_of_ble_eq_true rfl) (mj_roomC (by decide) (by decide)) ⟨Nat.zero_le _, Nat.zero_le _⟩ dX10_endOf_27 ?_
  have hF := mj_oi hF; subst hF
  exact mj_iret C hr hlk dX10_endOf_30
set_option maxRecDepth 100000 in
set_option maxHeartbeats 4000000 in
theorem c_X10_endOf {G : mj_G} {l : Launch} (σ : mj_S) (p1 : Int32) (R : (Int32 × mj_S)) (hF : f_X10_endOf σ p1 = some R) : mj_C G l yX10_endOf cX10_endOf 3 (some .int) 109 [.ref (G.2.1 64), .int p1] σ (some (.int R.1)) R.2 := by
  unfold f_X10_endOf at hF
  refine mj_of (ls := [(0, .ref (G.2.1 64)), (1, .int p1)]) (by decide) (Nat.le_of_ble_eq_true rfl) rfl (fun p e s m args below meth c C hr hlk => ?_)
  refine mj_aload_n C dX10_endOf_0 rfl ?_
  refine mg_X10_22 C dX10_endOf_1 ?_
  refine mj_iload_n C dX10_endOf_4 rfl ?_
  obtain ⟨hg1, hF⟩ := mj_og hF
  refine mj_iaload C dX10_endOf_5 rfl hg1 ?_
  refine mj_sipushV (v := 240) C dX10_endOf_6 mc_s_240 ?_
  refine mj_iadd C dX10_endOf_9 ?_
  refine mj_istore_n C dX10_endOf_10 (by decide) ?_
  refine mj_aload_n C dX10_endOf_11 rfl ?_
  refine mj_iload_n C dX10_endOf_12 rfl ?_
  refine mj_iload_n C dX10_endOf_13 rfl ?_
  refine mj_sipushV (v := 599) C dX10_endOf_14 mc_s_599 ?_
  refine mj_ic_le C dX10_endOf_17 rfl hF (fun hc2 hF => ?_) (fun hc2 hF => ?_)
  · refine mj_iload_n C dX10_endOf_26 rfl ?_
    refine mj_to ?_ (w_X10_endOf_27 C hr hlk p1 ((σ.1 69 p1.toNatClampNeg) + 240) σ R hF)
    exact trivial
  · refine mj_sipushV (v := 599) C dX10_endOf_20 mc_s_599 ?_
    refine mj_goto C dX10_endOf_23 rfl ?_
    refine mj_to ?_ (w_X10_endOf_27 C hr hlk p1 599 σ R hF)
    exact trivial
set_option maxRecDepth 100000 in
set_option maxHeartbeats 4000000 in
theorem c_X10_twiceOf {G : mj_G} {l : Launch} (σ : mj_S) (p1 : Int32) (R : (Int32 × mj_S)) (hF : f_X10_twiceOf σ p1 = some R) : mj_C G l yX10_twiceOf cX10_twiceOf 2 (some .int) 109 [.ref (G.2.1 64), .int p1] σ (some (.int R.1)) R.2 := by
  unfold f_X10_twiceOf at hF
  refine mj_of (ls := [(0, .ref (G.2.1 64)), (1, .int p1)]) (by decide) (Nat.le_of_ble_eq_true rfl) rfl (fun p e s m args below meth c C hr hlk => ?_)
  refine mj_aload_n C dX10_twiceOf_0 rfl ?_
  refine mg_X10_22 C dX10_twiceOf_1 ?_
  refine mj_iload_n C dX10_twiceOf_4 rfl ?_
  obtain ⟨hg1, hF⟩ := mj_og hF
  refine mj_iaload C dX10_twiceOf_5 rfl hg1 ?_
  refine mj_bipushV (v := 24) C dX10_twiceOf_6 mc_b_24 ?_
  refine mj_iadd C dX10_twiceOf_8 ?_
  refine mj_sipushV (v := 600) C dX10_twiceOf_9 mc_s_600 ?_
  refine mj_ic_ge C dX10_twiceOf_12 rfl hF (fun hc2 hF => ?_) (fun hc2 hF => ?_)
  · refine mj_bipushV (v := (-2)) C dX10_twiceOf_34 mc_b_m2 ?_
    have hF := mj_oi hF; subst hF
    exact mj_iret C hr hlk dX10_twiceOf_36
  · refine mj_iconstV (v := 2) C dX10_twiceOf_15 mc_i_2 ?_
    refine mj_aload_n C dX10_twiceOf_16 rfl ?_
    refine mj_iload_n C dX10_twiceOf_17 rfl ?_
    refine mj_aload_n C dX10_twiceOf_18 rfl ?_
    refine mg_X10_22 C dX10_twiceOf_19 ?_
    refine mj_iload_n C dX10_twiceOf_22 rfl ?_
    obtain ⟨hg3, hF⟩ := mj_og hF
    refine mj_iaload C dX10_twiceOf_23 rfl hg3 ?_
    refine mj_bipushV (v := 24) C dX10_twiceOf_24 mc_b_24 ?_
    refine mj_iadd C dX10_twiceOf_26 ?_
    obtain ⟨r4, hq4, hF⟩ := mj_ob hF
    refine mj_callVi C (c_X10_heightOf σ p1 ((σ.1 69 p1.toNatClampNeg) + 24) r4 hq4) yv_X10_heightOf kl_X10_223 (mo_64 G _) rfl rfl rfl rfl (Nat.le_of_ble_eq_true rfl) (mj_roomC (by decide) (by decide)) ⟨Nat.zero_le _, Nat.zero_le _⟩ dX10_twiceOf_27 ?_
    refine mj_imul C dX10_twiceOf_30 ?_
    refine mj_goto C dX10_twiceOf_31 rfl ?_
    have hF := mj_oi hF; subst hF
    exact mj_iret C hr hlk dX10_twiceOf_36
set_option maxRecDepth 100000 in
set_option maxHeartbeats 4000000 in
theorem c_X10_byParents {G : mj_G} {l : Launch} (σ : mj_S) (p1 : Int32) (R : Int32) (hF : f_X10_byParents σ p1 = some R) : mj_C G l yX10_byParents cX10_byParents 2 (some .int) 1 [.ref (G.2.1 64), .int p1] σ (some (.int R)) σ := by
  unfold f_X10_byParents at hF
  refine mj_of (ls := [(0, .ref (G.2.1 64)), (1, .int p1)]) (by decide) (Nat.le_of_ble_eq_true rfl) rfl (fun p e s m args below meth c C hr hlk => ?_)
  refine mj_aload_n C dX10_byParents_0 rfl ?_
  refine mg_X10_9 C dX10_byParents_1 ?_
  refine mj_bipushV (v := 6) C dX10_byParents_4 mc_b_6 ?_
  refine mj_iload_n C dX10_byParents_6 rfl ?_
  refine mj_iadd C dX10_byParents_7 ?_
  obtain ⟨hg1, hF⟩ := mj_og hF
  refine mj_iaload C dX10_byParents_8 rfl hg1 ?_
  refine mj_aload_n C dX10_byParents_9 rfl ?_
  refine mg_X10_25 C dX10_byParents_10 ?_
  refine mj_iload_n C dX10_byParents_13 rfl ?_
  obtain ⟨hg2, hF⟩ := mj_og hF
  refine mj_iaload C dX10_byParents_14 rfl hg2 ?_
  refine mj_iconstV (v := 1) C dX10_byParents_15 mc_i_1 ?_
  refine mj_ic_ne C dX10_byParents_16 rfl hF (fun hc3 hF => ?_) (fun hc3 hF => ?_)
  · refine mj_sipushV (v := (-160)) C dX10_byParents_25 mc_s_m160 ?_
    refine mj_iadd C dX10_byParents_28 ?_
    have hF := mj_oi hF; subst hF
    exact mj_iret C hr hlk dX10_byParents_29
  · refine mj_sipushV (v := 160) C dX10_byParents_19 mc_s_160 ?_
    refine mj_goto C dX10_byParents_22 rfl ?_
    refine mj_iadd C dX10_byParents_28 ?_
    have hF := mj_oi hF; subst hF
    exact mj_iret C hr hlk dX10_byParents_29
set_option maxRecDepth 100000 in
set_option maxHeartbeats 4000000 in
theorem c_X10_tall {G : mj_G} {l : Launch} (σ : mj_S) (p1 : Int32) (p2 : Int32) (R : (Int32 × mj_S)) (hF : f_X10_tall σ p1 p2 = some R) : mj_C G l yX10_tall cX10_tall 3 (some .int) 110 [.ref (G.2.1 64), .int p1, .int p2] σ (some (.int R.1)) R.2 := by
  unfold f_X10_tall at hF
  refine mj_of (ls := [(0, .ref (G.2.1 64)), (1, .int p1), (2, .int p2)]) (by decide) (Nat.le_of_ble_eq_true rfl) rfl (fun p e s m args below meth c C hr hlk => ?_)
  refine mj_aload_n C dX10_tall_0 rfl ?_
  refine mj_iload_n C dX10_tall_1 rfl ?_
  refine mj_callVi C (c_X10_isChild σ p1) yv_X10_isChild kl_X10_220 (mo_64 G _) rfl rfl rfl rfl (Nat.le_of_ble_eq_true rfl) (mj_roomC (by decide) (by decide)) ⟨Nat.zero_le _, Nat.zero_le _⟩ dX10_tall_2 ?_
  refine mj_if_ne C dX10_tall_5 rfl hF (fun hc1 hF => ?_) (fun hc1 hF => ?_)
  · refine mj_iload_n C dX10_tall_12 rfl ?_
    by_cases hw2_0 : p2 = 0
    · rw [if_pos hw2_0] at hF
      refine mj_tsIn (off := 35) C dX10_tall_13 (by rw [hw2_0]; decide) (by rw [hw2_0]; decide) (by rw [hw2_0]; rfl) rfl ?_
      refine mj_aload_n C dX10_tall_48 rfl ?_
      refine mj_iload_n C dX10_tall_49 rfl ?_
      obtain ⟨r3, hq3, hF⟩ := mj_ob hF
      refine mj_callVi C (c_X10_endOf σ p1 r3 hq3) yv_X10_endOf kl_X10_316 (mo_64 G _) rfl rfl rfl rfl (Nat.le_of_ble_eq_true rfl) (mj_roomC (by decide) (by decide)) ⟨Nat.zero_le _, Nat.zero_le _⟩ dX10_tall_50 ?_
      have hF := mj_oi hF; subst hF
      exact mj_iret C hr hlk dX10_tall_53
    rw [if_neg hw2_0] at hF
    by_cases hw2_1 : p2 = 1
    · rw [if_pos hw2_1] at hF
      refine mj_tsIn (off := 41) C dX10_tall_13 (by rw [hw2_1]; decide) (by rw [hw2_1]; decide) (by rw [hw2_1]; rfl) rfl ?_
      refine mj_aload_n C dX10_tall_54 rfl ?_
      refine mj_iload_n C dX10_tall_55 rfl ?_
      obtain ⟨r4, hq4, hF⟩ := mj_ob hF
      refine mj_callVi C (c_X10_twiceOf σ p1 r4 hq4) yv_X10_twiceOf kl_X10_319 (mo_64 G _) rfl rfl rfl rfl (Nat.le_of_ble_eq_true rfl) (mj_roomC (by decide) (by decide)) ⟨Nat.zero_le _, Nat.zero_le _⟩ dX10_tall_56 ?_
      have hF := mj_oi hF; subst hF
      exact mj_iret C hr hlk dX10_tall_59
    rw [if_neg hw2_1] at hF
    by_cases hw2_2 : p2 = 2
    · rw [if_pos hw2_2] at hF
      refine mj_tsIn (off := 47) C dX10_tall_13 (by rw [hw2_2]; decide) (by rw [hw2_2]; decide) (by rw [hw2_2]; rfl) rfl ?_
      refine mj_aload_n C dX10_tall_60 rfl ?_
      refine mj_iload_n C dX10_tall_61 rfl ?_
      obtain ⟨r5, hq5, hF⟩ := mj_ob hF
      refine mj_callVi C (c_X10_byParents σ p1 r5 hq5) yv_X10_byParents kl_X10_322 (mo_64 G _) rfl rfl rfl rfl (Nat.le_of_ble_eq_true rfl) (mj_roomC (by decide) (by decide)) ⟨Nat.zero_le _, Nat.zero_le _⟩ dX10_tall_62 ?_
      have hF := mj_oi hF; subst hF
      exact mj_iret C hr hlk dX10_tall_65
    rw [if_neg hw2_2] at hF
    by_cases hw2_3 : p2 = 3
    · rw [if_pos hw2_3] at hF
      refine mj_tsIn (off := 53) C dX10_tall_13 (by rw [hw2_3]; decide) (by rw [hw2_3]; decide) (by rw [hw2_3]; rfl) rfl ?_
      refine mj_aload_n C dX10_tall_66 rfl ?_
      refine mj_iload_n C dX10_tall_67 rfl ?_
      obtain ⟨r6, hq6, hF⟩ := mj_ob hF
      refine mj_callVi C (c_X10_twiceOf σ p1 r6 hq6) yv_X10_twiceOf kl_X10_319 (mo_64 G _) rfl rfl rfl rfl (Nat.le_of_ble_eq_true rfl) (mj_roomC (by decide) (by decide)) ⟨Nat.zero_le _, Nat.zero_le _⟩ dX10_tall_68 ?_
      refine mj_if_ge C dX10_tall_71 rfl hF (fun hc7 hF => ?_) (fun hc7 hF => ?_)
      · refine mj_aload_n C dX10_tall_80 rfl ?_
        refine mj_iload_n C dX10_tall_81 rfl ?_
        obtain ⟨r8, hq8, hF⟩ := mj_ob hF
        refine mj_callVi C (c_X10_endOf r6.2 p1 r8 hq8) yv_X10_endOf kl_X10_316 (mo_64 G _) rfl rfl rfl rfl (Nat.le_of_ble_eq_true rfl) (mj_roomC (by decide) (by decide)) ⟨Nat.zero_le _, Nat.zero_le _⟩ dX10_tall_82 ?_
        refine mj_aload_n C dX10_tall_85 rfl ?_
        refine mj_iload_n C dX10_tall_86 rfl ?_
        obtain ⟨r9, hq9, hF⟩ := mj_ob hF
        refine mj_callVi C (c_X10_twiceOf r8.2 p1 r9 hq9) yv_X10_twiceOf kl_X10_319 (mo_64 G _) rfl rfl rfl rfl (Nat.le_of_ble_eq_true rfl) (mj_roomC (by decide) (by decide)) ⟨Nat.zero_le _, Nat.zero_le _⟩ dX10_tall_87 ?_
        refine mj_isub C dX10_tall_90 ?_
        have hF := mj_oi hF; subst hF
        exact mj_iret C hr hlk dX10_tall_91
      · refine mj_ldcw C dX10_tall_74 kc_X10_259 ?_
        refine mj_goto C dX10_tall_77 rfl ?_
        have hF := mj_oi hF; subst hF
        exact mj_iret C hr hlk dX10_tall_91
    rw [if_neg hw2_3] at hF
    by_cases hw2_4 : p2 = 4
    · rw [if_pos hw2_4] at hF
      refine mj_tsIn (off := 79) C dX10_tall_13 (by rw [hw2_4]; decide) (by rw [hw2_4]; decide) (by rw [hw2_4]; rfl) rfl ?_
      refine mj_aload_n C dX10_tall_92 rfl ?_
      refine mj_iload_n C dX10_tall_93 rfl ?_
      obtain ⟨r10, hq10, hF⟩ := mj_ob hF
      refine mj_callVi C (c_X10_endOf σ p1 r10 hq10) yv_X10_endOf kl_X10_316 (mo_64 G _) rfl rfl rfl rfl (Nat.le_of_ble_eq_true rfl) (mj_roomC (by decide) (by decide)) ⟨Nat.zero_le _, Nat.zero_le _⟩ dX10_tall_94 ?_
      refine mj_aload_n C dX10_tall_97 rfl ?_
      refine mj_iload_n C dX10_tall_98 rfl ?_
      obtain ⟨r11, hq11, hF⟩ := mj_ob hF
      refine mj_callVi C (c_X10_byParents r10.2 p1 r11 hq11) yv_X10_byParents kl_X10_322 (mo_64 G _) rfl rfl rfl rfl (Nat.le_of_ble_eq_true rfl) (mj_roomC (by decide) (by decide)) ⟨Nat.zero_le _, Nat.zero_le _⟩ dX10_tall_99 ?_
      refine mj_isub C dX10_tall_102 ?_
      have hF := mj_oi hF; subst hF
      exact mj_iret C hr hlk dX10_tall_103
    rw [if_neg hw2_4] at hF
    refine mj_tsOut C dX10_tall_13 (mj_sw_0_5 hw2_0 hw2_1 hw2_2 hw2_3 hw2_4) rfl ?_
    refine mj_ldcw C dX10_tall_104 kc_X10_259 ?_
    have hF := mj_oi hF; subst hF
    exact mj_iret C hr hlk dX10_tall_107
  · refine mj_ldcw C dX10_tall_8 kc_X10_259 ?_
    have hF := mj_oi hF; subst hF
    exact mj_iret C hr hlk dX10_tall_11
set_option maxRecDepth 100000 in
set_option maxHeartbeats 4000000 in
theorem w_X10_year_147 {p : Program} {l : Launch} {e : Env} {s : State} {m : MethodId} {args : Array Value} {below : List Frame} {meth : Method} {c : Code} {G : mj_G} (C : mj_X p s m args meth c G cX10_year 9 RX10) (hr : meth.sig.returnType = some .int) (hlk : meth.locks = false) : ∀ (v2 : Int32) (v3 : Int32) (v4 : Int32) (v5 : Int32) (v6 : Int32) (σ : mj_S) (R : (Int32 × mj_S)), b_X10_year_147 v2 v3 v4 v5 v6 σ = some R → mj_W p l e (mj_rm 109) s m args below meth c G 0 0 9 (MQ below (mj_Q G (some (.int R.1)) R.2) args s 0 0 G.2.2.2) 147 [(2, .int v2), (3, .int v3), (4, .int v4), (5, .int v5), (6, .int v6)] [] σ := by
  intro v2 v3 v4 v5 v6 σ R hF
  unfold b_X10_year_147 at hF
  refine mj_iload_n C dX10_year_147 rfl ?_
  refine mj_if_ne C dX10_year_148 rfl hF (fun hc4 hF => ?_) (fun hc4 hF => ?_)
  · refine mj_iload_n C dX10_year_156 rfl ?_
    refine mj_iconstV (v := 1) C dX10_year_157 mc_i_1 ?_
    refine mj_ic_ne C dX10_year_158 rfl hF (fun hc5 hF => ?_) (fun hc5 hF => ?_)
    · refine mj_iload_n C dX10_year_165 rfl ?_
      refine mj_iconstV (v := 2) C dX10_year_166 mc_i_2 ?_
      refine mj_ic_ne C dX10_year_167 rfl hF (fun hc6 hF => ?_) (fun hc6 hF => ?_)
      · refine mj_iload C dX10_year_175 rfl ?_
        have hF := mj_oi hF; subst hF
        exact mj_iret C hr hlk dX10_year_177
      · refine mj_iload C dX10_year_170 rfl ?_
        refine mj_goto C dX10_year_172 rfl ?_
        have hF := mj_oi hF; subst hF
        exact mj_iret C hr hlk dX10_year_177
    · refine mj_iload_n C dX10_year_161 rfl ?_
      refine mj_goto C dX10_year_162 rfl ?_
      have hF := mj_oi hF; subst hF
      exact mj_iret C hr hlk dX10_year_177
  · refine mj_iload C dX10_year_151 rfl ?_
    refine mj_goto C dX10_year_153 rfl ?_
    have hF := mj_oi hF; subst hF
    exact mj_iret C hr hlk dX10_year_177
set_option maxRecDepth 100000 in
set_option maxHeartbeats 4000000 in
theorem w_X10_year_121 {p : Program} {l : Launch} {e : Env} {s : State} {m : MethodId} {args : Array Value} {below : List Frame} {meth : Method} {c : Code} {G : mj_G} {K40 : Int32 → Int32 → Int32 → Int32 → Int32 → Int32 → Int32 → mj_S → Option (Int32 × mj_S)} (C : mj_X p s m args meth c G cX10_year 9 RX10) (hr : meth.sig.returnType = some .int) (hlk : meth.locks = false) (hK40 : ∀ (v1 : Int32) (v2 : Int32) (v3 : Int32) (v4 : Int32) (v5 : Int32) (v6 : Int32) (v7 : Int32) (σ : mj_S) (R : (Int32 × mj_S)), K40 v1 v2 v3 v4 v5 v6 v7 σ = some R → mj_W p l e (mj_rm 109) s m args below meth c G 0 0 9 (MQ below (mj_Q G (some (.int R.1)) R.2) args s 0 0 G.2.2.2) 40 [(0, .ref (G.2.1 64)), (1, .int v1), (2, .int v2), (3, .int v3), (4, .int v4), (5, .int v5), (6, .int v6), (7, .int v7)] [] σ) : ∀ (v1 : Int32) (v2 : Int32) (v3 : Int32) (v4 : Int32) (v5 : Int32) (v6 : Int32) (v7 : Int32) (v8 : Int32) (σ : mj_S) (R : (Int32 × mj_S)), b_X10_year_121 K40 v1 v2 v3 v4 v5 v6 v7 v8 σ = some R → mj_W p l e (mj_rm 109) s m args below meth c G 0 0 9 (MQ below (mj_Q G (some (.int R.1)) R.2) args s 0 0 G.2.2.2) 121 [(0, .ref (G.2.1 64)), (1, .int v1), (2, .int v2), (3, .int v3), (4, .int v4), (5, .int v5), (6, .int v6), (7, .int v7), (8, .int v8)] [] σ := by
  intro v1 v2 v3 v4 v5 v6 v7 v8 σ R hF
  unfold b_X10_year_121 at hF
  refine mj_iload C dX10_year_121 rfl ?_
  refine mj_if_lt C dX10_year_123 rfl hF (fun hc14 hF => ?_) (fun hc14 hF => ?_)
  · refine mj_iload C dX10_year_133 rfl ?_
    refine mj_istore C dX10_year_135 (by decide) ?_
    refine mj_iload C dX10_year_137 rfl ?_
    refine mj_istore C dX10_year_139 (by decide) ?_
    refine mj_iinc (v := v7 + 1) C dX10_year_141 rfl rfl (by decide) ?_
    refine mj_goto C dX10_year_144 rfl ?_
    refine mj_to ?_ (hK40 v1 v2 v3 v4 v8 v7 (v7 + 1) σ R hF)
    exact ⟨rfl, rfl, rfl, rfl, rfl, rfl, rfl, rfl, trivial⟩
  · refine mj_iload C dX10_year_126 rfl ?_
    refine mj_iload C dX10_year_128 rfl ?_
    refine mj_ic_ge C dX10_year_130 rfl hF (fun hc15 hF => ?_) (fun hc15 hF => ?_)
    · refine mj_iinc (v := v7 + 1) C dX10_year_141 rfl rfl (by decide) ?_
      refine mj_goto C dX10_year_144 rfl ?_
      refine mj_to ?_ (hK40 v1 v2 v3 v4 v5 v6 (v7 + 1) σ R hF)
      exact ⟨rfl, rfl, rfl, rfl, rfl, rfl, rfl, rfl, trivial⟩
    · refine mj_iload C dX10_year_133 rfl ?_
      refine mj_istore C dX10_year_135 (by decide) ?_
      refine mj_iload C dX10_year_137 rfl ?_
      refine mj_istore C dX10_year_139 (by decide) ?_
      refine mj_iinc (v := v7 + 1) C dX10_year_141 rfl rfl (by decide) ?_
      refine mj_goto C dX10_year_144 rfl ?_
      refine mj_to ?_ (hK40 v1 v2 v3 v4 v8 v7 (v7 + 1) σ R hF)
      exact ⟨rfl, rfl, rfl, rfl, rfl, rfl, rfl, rfl, trivial⟩
set_option maxRecDepth 100000 in
set_option maxHeartbeats 4000000 in
theorem w_X10_year_40 {p : Program} {l : Launch} {e : Env} {s : State} {m : MethodId} {args : Array Value} {below : List Frame} {meth : Method} {c : Code} {G : mj_G} (C : mj_X p s m args meth c G cX10_year 9 RX10) (hr : meth.sig.returnType = some .int) (hlk : meth.locks = false) : ∀ (n : Nat) (v1 : Int32) (v2 : Int32) (v3 : Int32) (v4 : Int32) (v5 : Int32) (v6 : Int32) (v7 : Int32) (σ : mj_S) (R : (Int32 × mj_S)), b_X10_year_40 n v1 v2 v3 v4 v5 v6 v7 σ = some R → mj_W p l e (mj_rm 109) s m args below meth c G 0 0 9 (MQ below (mj_Q G (some (.int R.1)) R.2) args s 0 0 G.2.2.2) 40 [(0, .ref (G.2.1 64)), (1, .int v1), (2, .int v2), (3, .int v3), (4, .int v4), (5, .int v5), (6, .int v6), (7, .int v7)] [] σ := by
  intro n
  induction n with
  | zero =>
    intro v1 v2 v3 v4 v5 v6 v7 σ R hF
    cases hF
  | succ n ih =>
    intro v1 v2 v3 v4 v5 v6 v7 σ R hF
    rw [b_X10_year_40] at hF
    refine mj_iload C dX10_year_40 rfl ?_
    refine mj_bipushV (v := 20) C dX10_year_42 mc_b_20 ?_
    refine mj_ic_ge C dX10_year_44 rfl hF (fun hc3 hF => ?_) (fun hc3 hF => ?_)
    · refine mj_to ?_ (w_X10_year_147 C hr hlk v2 v3 v4 v5 v6 σ R hF)
      exact ⟨rfl, rfl, rfl, rfl, rfl, trivial⟩
    · refine mj_aload_n C dX10_year_47 rfl ?_
      refine mg_X10_22 C dX10_year_48 ?_
      refine mj_iload_n C dX10_year_51 rfl ?_
      obtain ⟨hg7, hF⟩ := mj_og hF
      refine mj_iaload C dX10_year_52 rfl hg7 ?_
      refine mj_bipushV (v := 12) C dX10_year_53 mc_b_12 ?_
      refine mj_iload C dX10_year_55 rfl ?_
      refine mj_imul C dX10_year_57 ?_
      refine mj_iadd C dX10_year_58 ?_
      refine mj_bipushV (v := 12) C dX10_year_59 mc_b_12 ?_
      refine mj_iadd C dX10_year_61 ?_
      refine mj_sipushV (v := 600) C dX10_year_62 mc_s_600 ?_
      refine mj_ic_ge C dX10_year_65 rfl hF (fun hc8 hF => ?_) (fun hc8 hF => ?_)
      · refine mj_to ?_ (w_X10_year_147 C hr hlk v2 v3 v4 v5 v6 σ R hF)
        exact ⟨rfl, rfl, rfl, rfl, rfl, trivial⟩
      · refine mj_aload_n C dX10_year_68 rfl ?_
        refine mj_iload_n C dX10_year_69 rfl ?_
        refine mj_aload_n C dX10_year_70 rfl ?_
        refine mg_X10_22 C dX10_year_71 ?_
        refine mj_iload_n C dX10_year_74 rfl ?_
        obtain ⟨hg9, hF⟩ := mj_og hF
        refine mj_iaload C dX10_year_75 rfl hg9 ?_
        refine mj_bipushV (v := 12) C dX10_year_76 mc_b_12 ?_
        refine mj_iload C dX10_year_78 rfl ?_
        refine mj_imul C dX10_year_80 ?_
        refine mj_iadd C dX10_year_81 ?_
        refine mj_bipushV (v := 12) C dX10_year_82 mc_b_12 ?_
        refine mj_iadd C dX10_year_84 ?_
        obtain ⟨r10, hq10, hF⟩ := mj_ob hF
        refine mj_callVi C (c_X10_heightOf σ v1 (((σ.1 69 v1.toNatClampNeg) + (12 * v7)) + 12) r10 hq10) yv_X10_heightOf kl_X10_223 (mo_64 G _) rfl rfl rfl rfl (Nat.le_of_ble_eq_true rfl) (mj_roomC (by decide) (by decide)) ⟨Nat.zero_le _, Nat.zero_le _⟩ dX10_year_85 ?_
        refine mj_aload_n C dX10_year_88 rfl ?_
        refine mj_iload_n C dX10_year_89 rfl ?_
        refine mj_aload_n C dX10_year_90 rfl ?_
        refine mg_X10_22 C dX10_year_91 ?_
        refine mj_iload_n C dX10_year_94 rfl ?_
        obtain ⟨hg11, hF⟩ := mj_og hF
        refine mj_iaload C dX10_year_95 rfl hg11 ?_
        refine mj_bipushV (v := 12) C dX10_year_96 mc_b_12 ?_
        refine mj_iload C dX10_year_98 rfl ?_
        refine mj_imul C dX10_year_100 ?_
        refine mj_iadd C dX10_year_101 ?_
        obtain ⟨r12, hq12, hF⟩ := mj_ob hF
        refine mj_callVi C (c_X10_heightOf r10.2 v1 ((r10.2.1 69 v1.toNatClampNeg) + (12 * v7)) r12 hq12) yv_X10_heightOf kl_X10_223 (mo_64 G _) rfl rfl rfl rfl (Nat.le_of_ble_eq_true rfl) (mj_roomC (by decide) (by decide)) ⟨Nat.zero_le _, Nat.zero_le _⟩ dX10_year_102 ?_
        refine mj_isub C dX10_year_105 ?_
        refine mj_istore C dX10_year_106 (by decide) ?_
        refine mj_iload C dX10_year_108 rfl ?_
        refine mj_iload_n C dX10_year_110 rfl ?_
        refine mj_ic_le C dX10_year_111 rfl hF (fun hc13 hF => ?_) (fun hc13 hF => ?_)
        · refine mj_to ?_ (w_X10_year_121 C hr hlk ih v1 v2 v3 v4 v5 v6 v7 (r10.1 - r12.1) r12.2 R hF)
          exact ⟨rfl, rfl, rfl, rfl, rfl, rfl, rfl, rfl, rfl, trivial⟩
        · refine mj_iload C dX10_year_114 rfl ?_
          refine mj_istore_n C dX10_year_116 (by decide) ?_
          refine mj_iload C dX10_year_117 rfl ?_
          refine mj_istore C dX10_year_119 (by decide) ?_
          refine mj_to ?_ (w_X10_year_121 C hr hlk ih v1 v2 (r10.1 - r12.1) v7 v5 v6 v7 (r10.1 - r12.1) r12.2 R hF)
          exact ⟨rfl, rfl, rfl, rfl, rfl, rfl, rfl, rfl, rfl, trivial⟩
set_option maxRecDepth 100000 in
set_option maxHeartbeats 4000000 in
theorem c_X10_year {G : mj_G} {l : Launch} (σ : mj_S) (p1 : Int32) (p2 : Int32) (R : (Int32 × mj_S)) (hF : f_X10_year σ p1 p2 = some R) : mj_C G l yX10_year cX10_year 9 (some .int) 109 [.ref (G.2.1 64), .int p1, .int p2] σ (some (.int R.1)) R.2 := by
  unfold f_X10_year at hF
  refine mj_of (ls := [(0, .ref (G.2.1 64)), (1, .int p1), (2, .int p2)]) (by decide) (Nat.le_of_ble_eq_true rfl) rfl (fun p e s m args below meth c C hr hlk => ?_)
  refine mj_aload_n C dX10_year_0 rfl ?_
  refine mj_iload_n C dX10_year_1 rfl ?_
  refine mj_callVi C (c_X10_isChild σ p1) yv_X10_isChild kl_X10_220 (mo_64 G _) rfl rfl rfl rfl (Nat.le_of_ble_eq_true rfl) (mj_roomC (by decide) (by decide)) ⟨Nat.zero_le _, Nat.zero_le _⟩ dX10_year_2 ?_
  refine mj_if_eq C dX10_year_5 rfl hF (fun hc1 hF => ?_) (fun hc1 hF => ?_)
  · refine mj_iconstV (v := (-1)) C dX10_year_20 mc_i_m1 ?_
    have hF := mj_oi hF; subst hF
    exact mj_iret C hr hlk dX10_year_21
  · refine mj_iload_n C dX10_year_8 rfl ?_
    refine mj_i2l C dX10_year_9 ?_
    refine mj_lconstV (v := 0) C dX10_year_10 mc_l_0 ?_
    refine mj_ldc2 C dX10_year_11 kc_X10_325 ?_
    refine mj_callSi C (c_X10_within σ p2.toInt64 0 3) ys_X10_within kl_X10_110 rfl rfl (Nat.le_of_ble_eq_true rfl) (mj_roomC (by decide) (by decide)) ⟨Nat.zero_le _, Nat.zero_le _⟩ dX10_year_14 ?_
    refine mj_if_ne C dX10_year_17 rfl hF (fun hc2 hF => ?_) (fun hc2 hF => ?_)
    · refine mj_bipushV (v := (-2)) C dX10_year_22 mc_b_m2 ?_
      refine mj_istore_n C dX10_year_24 (by decide) ?_
      refine mj_bipushV (v := (-2)) C dX10_year_25 mc_b_m2 ?_
      refine mj_istore C dX10_year_27 (by decide) ?_
      refine mj_bipushV (v := (-2)) C dX10_year_29 mc_b_m2 ?_
      refine mj_istore C dX10_year_31 (by decide) ?_
      refine mj_bipushV (v := (-2)) C dX10_year_33 mc_b_m2 ?_
      refine mj_istore C dX10_year_35 (by decide) ?_
      refine mj_iconstV (v := 0) C dX10_year_37 mc_i_0 ?_
      refine mj_istore C dX10_year_38 (by decide) ?_
      refine mj_to ?_ (w_X10_year_40 C hr hlk mj_fu p1 p2 (-2) (-2) (-2) (-2) 0 σ R hF)
      exact ⟨rfl, rfl, rfl, rfl, rfl, rfl, rfl, rfl, trivial⟩
    · refine mj_iconstV (v := (-1)) C dX10_year_20 mc_i_m1 ?_
      have hF := mj_oi hF; subst hF
      exact mj_iret C hr hlk dX10_year_21
set_option maxRecDepth 100000 in
set_option maxHeartbeats 4000000 in
theorem c_X10_growsOther {G : mj_G} {l : Launch} (σ : mj_S) (p1 : Int32) (R : mj_S) (hF : f_X10_growsOther σ p1 = some R) : mj_C G l yX10_growsOther cX10_growsOther 2 (none) 107 [.ref (G.2.1 64), .int p1] σ none R := by
  unfold f_X10_growsOther at hF
  refine mj_of (ls := [(0, .ref (G.2.1 64)), (1, .int p1)]) (by decide) (Nat.le_of_ble_eq_true rfl) rfl (fun p e s m args below meth c C hr hlk => ?_)
  refine mj_aload_n C dX10_growsOther_0 rfl ?_
  refine mg_X10_22 C dX10_growsOther_1 ?_
  refine mj_bipushV (v := 6) C dX10_growsOther_4 mc_b_6 ?_
  refine mj_aload_n C dX10_growsOther_6 rfl ?_
  refine mg_X10_22 C dX10_growsOther_7 ?_
  refine mj_iload_n C dX10_growsOther_10 rfl ?_
  obtain ⟨hg1, hF⟩ := mj_og hF
  refine mj_iaload C dX10_growsOther_11 rfl hg1 ?_
  refine mj_iastore C dX10_growsOther_12 rfl (by decide) ?_
  refine mj_aload_n C dX10_growsOther_13 rfl ?_
  refine mg_X10_25 C dX10_growsOther_14 ?_
  refine mj_bipushV (v := 6) C dX10_growsOther_17 mc_b_6 ?_
  refine mj_aload_n C dX10_growsOther_19 rfl ?_
  refine mg_X10_25 C dX10_growsOther_20 ?_
  refine mj_iload_n C dX10_growsOther_23 rfl ?_
  obtain ⟨hg2, hF⟩ := mj_og hF
  refine mj_iaload C dX10_growsOther_24 rfl hg2 ?_
  refine mj_iastore C dX10_growsOther_25 rfl (by decide) ?_
  refine mj_aload_n C dX10_growsOther_26 rfl ?_
  refine mg_X10_28 C dX10_growsOther_27 ?_
  refine mj_bipushV (v := 6) C dX10_growsOther_30 mc_b_6 ?_
  refine mj_sipushV (v := 1280) C dX10_growsOther_32 mc_s_1280 ?_
  refine mj_iastore C dX10_growsOther_35 rfl (by decide) ?_
  refine mj_aload_n C dX10_growsOther_36 rfl ?_
  refine mj_bipushV (v := 6) C dX10_growsOther_37 mc_b_6 ?_
  refine mj_iconstV (v := 0) C dX10_growsOther_39 mc_i_0 ?_
  refine mj_sipushV (v := 4300) C dX10_growsOther_40 mc_s_4300 ?_
  refine mj_iconstV (v := 0) C dX10_growsOther_43 mc_i_0 ?_
  obtain ⟨r3, hq3, hF⟩ := mj_ob hF
  refine mj_callVv C (c_X10_growsUp (mj_sI (mj_sI (mj_sI σ 69 6 (σ.1 69 p1.toNatClampNeg)) 70 6 (σ.1 70 p1.toNatClampNeg)) 71 6 1280) 6 0 4300 0 r3 hq3) yv_X10_growsUp kl_X10_213 (mo_64 G _) rfl rfl rfl rfl (Nat.le_of_ble_eq_true rfl) (mj_roomC (by decide) (by decide)) ⟨Nat.zero_le _, Nat.zero_le _⟩ dX10_growsOther_44 ?_
  have hF := mj_oi hF; subst hF
  exact mj_vret C hr hlk dX10_growsOther_47
set_option maxRecDepth 100000 in
set_option maxHeartbeats 4000000 in
theorem c_X10_lineOf {G : mj_G} {l : Launch} (σ : mj_S) (p1 : Int32) (p2 : Int32) (R : (Int32 × mj_S)) (hF : f_X10_lineOf σ p1 p2 = some R) : mj_C G l yX10_lineOf cX10_lineOf 3 (some .int) 109 [.ref (G.2.1 64), .int p1, .int p2] σ (some (.int R.1)) R.2 := by
  unfold f_X10_lineOf at hF
  refine mj_of (ls := [(0, .ref (G.2.1 64)), (1, .int p1), (2, .int p2)]) (by decide) (Nat.le_of_ble_eq_true rfl) rfl (fun p e s m args below meth c C hr hlk => ?_)
  refine mj_bipushV (v := 100) C dX10_lineOf_0 mc_b_100 ?_
  refine mj_aload_n C dX10_lineOf_2 rfl ?_
  refine mj_iload_n C dX10_lineOf_3 rfl ?_
  refine mj_iload_n C dX10_lineOf_4 rfl ?_
  obtain ⟨r1, hq1, hF⟩ := mj_ob hF
  refine mj_callVi C (c_X10_heightOf σ p1 p2 r1 hq1) yv_X10_heightOf kl_X10_223 (mo_64 G _) rfl rfl rfl rfl (Nat.le_of_ble_eq_true rfl) (mj_roomC (by decide) (by decide)) ⟨Nat.zero_le _, Nat.zero_le _⟩ dX10_lineOf_5 ?_
  refine mj_imul C dX10_lineOf_8 ?_
  refine mj_aload_n C dX10_lineOf_9 rfl ?_
  refine mg_X10_49 C dX10_lineOf_10 ?_
  refine mj_sipushV (v := 3600) C dX10_lineOf_13 mc_s_3600 ?_
  refine mj_iload_n C dX10_lineOf_16 rfl ?_
  refine mj_iadd C dX10_lineOf_17 ?_
  obtain ⟨hg2, hF⟩ := mj_og hF
  refine mj_iaload C dX10_lineOf_18 rfl hg2 ?_
  obtain ⟨hz3, hF⟩ := mj_oz hF
  refine mj_idiv C dX10_lineOf_19 hz3 ?_
  refine mj_bipushV (v := 100) C dX10_lineOf_20 mc_b_100 ?_
  refine mj_isub C dX10_lineOf_22 ?_
  refine mj_iconstV (v := 4) C dX10_lineOf_23 mc_i_4 ?_
  refine mj_idiv C dX10_lineOf_24 (by decide) ?_
  have hF := mj_oi hF; subst hF
  exact mj_iret C hr hlk dX10_lineOf_25
set_option maxRecDepth 100000 in
set_option maxHeartbeats 4000000 in
theorem c_X10_line {G : mj_G} {l : Launch} (σ : mj_S) (p1 : Int32) (p2 : Int32) (R : (Int32 × mj_S)) (hF : f_X10_line σ p1 p2 = some R) : mj_C G l yX10_line cX10_line 3 (some .int) 110 [.ref (G.2.1 64), .int p1, .int p2] σ (some (.int R.1)) R.2 := by
  unfold f_X10_line at hF
  refine mj_of (ls := [(0, .ref (G.2.1 64)), (1, .int p1), (2, .int p2)]) (by decide) (Nat.le_of_ble_eq_true rfl) rfl (fun p e s m args below meth c C hr hlk => ?_)
  refine mj_aload_n C dX10_line_0 rfl ?_
  refine mj_iload_n C dX10_line_1 rfl ?_
  refine mj_callVi C (c_X10_isChild σ p1) yv_X10_isChild kl_X10_220 (mo_64 G _) rfl rfl rfl rfl (Nat.le_of_ble_eq_true rfl) (mj_roomC (by decide) (by decide)) ⟨Nat.zero_le _, Nat.zero_le _⟩ dX10_line_2 ?_
  refine mj_if_eq C dX10_line_5 rfl hF (fun hc1 hF => ?_) (fun hc1 hF => ?_)
  · refine mj_ldcw C dX10_line_15 kc_X10_259 ?_
    have hF := mj_oi hF; subst hF
    exact mj_iret C hr hlk dX10_line_18
  · refine mj_iload_n C dX10_line_8 rfl ?_
    refine mj_callSi C (c_X10_isMonth σ p2) ys_X10_isMonth kl_X10_124 rfl rfl (Nat.le_of_ble_eq_true rfl) (mj_roomC (by decide) (by decide)) ⟨Nat.zero_le _, Nat.zero_le _⟩ dX10_line_9 ?_
    refine mj_if_ne C dX10_line_12 rfl hF (fun hc2 hF => ?_) (fun hc2 hF => ?_)
    · refine mj_iload_n C dX10_line_19 rfl ?_
      refine mj_aload_n C dX10_line_20 rfl ?_
      refine mg_X10_22 C dX10_line_21 ?_
      refine mj_iload_n C dX10_line_24 rfl ?_
      obtain ⟨hg3, hF⟩ := mj_og hF
      refine mj_iaload C dX10_line_25 rfl hg3 ?_
      refine mj_ic_ge C dX10_line_26 rfl hF (fun hc4 hF => ?_) (fun hc4 hF => ?_)
      · refine mj_aload_n C dX10_line_33 rfl ?_
        refine mj_iload_n C dX10_line_34 rfl ?_
        obtain ⟨r5, hq5, hF⟩ := mj_ob hF
        refine mj_callVv C (c_X10_growsOther σ p1 r5 hq5) yv_X10_growsOther kl_X10_327 (mo_64 G _) rfl rfl rfl rfl (Nat.le_of_ble_eq_true rfl) (mj_roomC (by decide) (by decide)) ⟨Nat.zero_le _, Nat.zero_le _⟩ dX10_line_35 ?_
        refine mj_aload_n C dX10_line_38 rfl ?_
        refine mj_iload_n C dX10_line_39 rfl ?_
        refine mj_iload_n C dX10_line_40 rfl ?_
        obtain ⟨r6, hq6, hF⟩ := mj_ob hF
        refine mj_callVi C (c_X10_lineOf r5 p1 p2 r6 hq6) yv_X10_lineOf kl_X10_330 (mo_64 G _) rfl rfl rfl rfl (Nat.le_of_ble_eq_true rfl) (mj_roomC (by decide) (by decide)) ⟨Nat.zero_le _, Nat.zero_le _⟩ dX10_line_41 ?_
        have hF := mj_oi hF; subst hF
        exact mj_iret C hr hlk dX10_line_44
      · refine mj_sipushV (v := (-1000)) C dX10_line_29 mc_s_m1000 ?_
        have hF := mj_oi hF; subst hF
        exact mj_iret C hr hlk dX10_line_32
    · refine mj_ldcw C dX10_line_15 kc_X10_259 ?_
      have hF := mj_oi hF; subst hF
      exact mj_iret C hr hlk dX10_line_18
set_option maxRecDepth 100000 in
set_option maxHeartbeats 4000000 in
theorem w_X10_falls_36 {p : Program} {l : Launch} {e : Env} {s : State} {m : MethodId} {args : Array Value} {below : List Frame} {meth : Method} {c : Code} {G : mj_G} (C : mj_X p s m args meth c G cX10_falls 5 RX10) (hr : meth.sig.returnType = some .int) (hlk : meth.locks = false) : ∀ (n : Nat) (v1 : Int32) (v2 : Int32) (v3 : Int32) (σ : mj_S) (R : (Int32 × mj_S)), b_X10_falls_36 n v1 v2 v3 σ = some R → mj_W p l e (mj_rm 110) s m args below meth c G 0 0 5 (MQ below (mj_Q G (some (.int R.1)) R.2) args s 0 0 G.2.2.2) 36 [(0, .ref (G.2.1 64)), (1, .int v1), (2, .int v2), (3, .int v3)] [] σ := by
  intro n
  induction n with
  | zero =>
    intro v1 v2 v3 σ R hF
    cases hF
  | succ n ih =>
    intro v1 v2 v3 σ R hF
    rw [b_X10_falls_36] at hF
    refine mj_iload_n C dX10_falls_36 rfl ?_
    refine mj_sipushV (v := 600) C dX10_falls_37 mc_s_600 ?_
    refine mj_ic_ge C dX10_falls_40 rfl hF (fun hc6 hF => ?_) (fun hc6 hF => ?_)
    · refine mj_bipushV (v := (-2)) C dX10_falls_80 mc_b_m2 ?_
      have hF := mj_oi hF; subst hF
      exact mj_iret C hr hlk dX10_falls_82
    · refine mj_aload_n C dX10_falls_43 rfl ?_
      refine mj_iload_n C dX10_falls_44 rfl ?_
      refine mj_iload_n C dX10_falls_45 rfl ?_
      obtain ⟨r7, hq7, hF⟩ := mj_ob hF
      refine mj_callVi C (c_X10_lineOf σ v1 v3 r7 hq7) yv_X10_lineOf kl_X10_330 (mo_64 G _) rfl rfl rfl rfl (Nat.le_of_ble_eq_true rfl) (mj_roomC (by decide) (by decide)) ⟨Nat.zero_le _, Nat.zero_le _⟩ dX10_falls_46 ?_
      refine mj_istore C dX10_falls_49 (by decide) ?_
      refine mj_iload C dX10_falls_51 rfl ?_
      refine mj_iload_n C dX10_falls_53 rfl ?_
      refine mj_iconstV (v := 2) C dX10_falls_54 mc_i_2 ?_
      refine mj_isub C dX10_falls_55 ?_
      refine mj_ic_gt C dX10_falls_56 rfl hF (fun hc8 hF => ?_) (fun hc8 hF => ?_)
      · refine mj_iload C dX10_falls_61 rfl ?_
        refine mj_iload_n C dX10_falls_63 rfl ?_
        refine mj_ic_le C dX10_falls_64 rfl hF (fun hc9 hF => ?_) (fun hc9 hF => ?_)
        · refine mj_iload_n C dX10_falls_72 rfl ?_
          refine mj_istore_n C dX10_falls_73 (by decide) ?_
          refine mj_iinc (v := v3 + 1) C dX10_falls_74 rfl rfl (by decide) ?_
          refine mj_goto C dX10_falls_77 rfl ?_
          refine mj_to ?_ (ih v1 v2 (v3 + 1) r7.2 R hF)
          exact ⟨rfl, rfl, rfl, rfl, trivial⟩
        · refine mj_iload C dX10_falls_67 rfl ?_
          refine mj_goto C dX10_falls_69 rfl ?_
          refine mj_istore_n C dX10_falls_73 (by decide) ?_
          refine mj_iinc (v := v3 + 1) C dX10_falls_74 rfl rfl (by decide) ?_
          refine mj_goto C dX10_falls_77 rfl ?_
          refine mj_to ?_ (ih v1 r7.1 (v3 + 1) r7.2 R hF)
          exact ⟨rfl, rfl, rfl, rfl, trivial⟩
      · refine mj_iload_n C dX10_falls_59 rfl ?_
        have hF := mj_oi hF; subst hF
        exact mj_iret C hr hlk dX10_falls_60
set_option maxRecDepth 100000 in
set_option maxHeartbeats 4000000 in
theorem c_X10_falls {G : mj_G} {l : Launch} (σ : mj_S) (p1 : Int32) (R : (Int32 × mj_S)) (hF : f_X10_falls σ p1 = some R) : mj_C G l yX10_falls cX10_falls 5 (some .int) 110 [.ref (G.2.1 64), .int p1] σ (some (.int R.1)) R.2 := by
  unfold f_X10_falls at hF
  refine mj_of (ls := [(0, .ref (G.2.1 64)), (1, .int p1)]) (by decide) (Nat.le_of_ble_eq_true rfl) rfl (fun p e s m args below meth c C hr hlk => ?_)
  refine mj_aload_n C dX10_falls_0 rfl ?_
  refine mj_iload_n C dX10_falls_1 rfl ?_
  refine mj_callVi C (c_X10_isChild σ p1) yv_X10_isChild kl_X10_220 (mo_64 G _) rfl rfl rfl rfl (Nat.le_of_ble_eq_true rfl) (mj_roomC (by decide) (by decide)) ⟨Nat.zero_le _, Nat.zero_le _⟩ dX10_falls_2 ?_
  refine mj_if_ne C dX10_falls_5 rfl hF (fun hc1 hF => ?_) (fun hc1 hF => ?_)
  · refine mj_aload_n C dX10_falls_10 rfl ?_
    refine mj_iload_n C dX10_falls_11 rfl ?_
    obtain ⟨r2, hq2, hF⟩ := mj_ob hF
    refine mj_callVv C (c_X10_growsOther σ p1 r2 hq2) yv_X10_growsOther kl_X10_327 (mo_64 G _) rfl rfl rfl rfl (Nat.le_of_ble_eq_true rfl) (mj_roomC (by decide) (by decide)) ⟨Nat.zero_le _, Nat.zero_le _⟩ dX10_falls_12 ?_
    refine mj_aload_n C dX10_falls_15 rfl ?_
    refine mj_iload_n C dX10_falls_16 rfl ?_
    refine mj_aload_n C dX10_falls_17 rfl ?_
    refine mg_X10_22 C dX10_falls_18 ?_
    refine mj_iload_n C dX10_falls_21 rfl ?_
    obtain ⟨hg3, hF⟩ := mj_og hF
    refine mj_iaload C dX10_falls_22 rfl hg3 ?_
    obtain ⟨r4, hq4, hF⟩ := mj_ob hF
    refine mj_callVi C (c_X10_lineOf r2 p1 (r2.1 69 p1.toNatClampNeg) r4 hq4) yv_X10_lineOf kl_X10_330 (mo_64 G _) rfl rfl rfl rfl (Nat.le_of_ble_eq_true rfl) (mj_roomC (by decide) (by decide)) ⟨Nat.zero_le _, Nat.zero_le _⟩ dX10_falls_23 ?_
    refine mj_istore_n C dX10_falls_26 (by decide) ?_
    refine mj_aload_n C dX10_falls_27 rfl ?_
    refine mg_X10_22 C dX10_falls_28 ?_
    refine mj_iload_n C dX10_falls_31 rfl ?_
    obtain ⟨hg5, hF⟩ := mj_og hF
    refine mj_iaload C dX10_falls_32 rfl hg5 ?_
    refine mj_iconstV (v := 1) C dX10_falls_33 mc_i_1 ?_
    refine mj_iadd C dX10_falls_34 ?_
    refine mj_istore_n C dX10_falls_35 (by decide) ?_
    refine mj_to ?_ (w_X10_falls_36 C hr hlk mj_fu p1 r4.1 ((r4.2.1 69 p1.toNatClampNeg) + 1) r4.2 R hF)
    exact ⟨rfl, rfl, rfl, rfl, trivial⟩
  · refine mj_iconstV (v := (-1)) C dX10_falls_8 mc_i_m1 ?_
    have hF := mj_oi hF; subst hF
    exact mj_iret C hr hlk dX10_falls_9
set_option maxRecDepth 100000 in
set_option maxHeartbeats 4000000 in
theorem w_X10_overtakes_87 {p : Program} {l : Launch} {e : Env} {s : State} {m : MethodId} {args : Array Value} {below : List Frame} {meth : Method} {c : Code} {G : mj_G} (C : mj_X p s m args meth c G cX10_overtakes 6 RX10) (hr : meth.sig.returnType = some .int) (hlk : meth.locks = false) : ∀ (n : Nat) (v2 : Int32) (v3 : Int32) (v5 : Int32) (σ : mj_S) (R : (Int32 × mj_S)), b_X10_overtakes_87 n v2 v3 v5 σ = some R → mj_W p l e (mj_rm 109) s m args below meth c G 0 0 6 (MQ below (mj_Q G (some (.int R.1)) R.2) args s 0 0 G.2.2.2) 87 [(0, .ref (G.2.1 64)), (2, .int v2), (3, .int v3), (5, .int v5)] [] σ := by
  intro n
  induction n with
  | zero =>
    intro v2 v3 v5 σ R hF
    cases hF
  | succ n ih =>
    intro v2 v3 v5 σ R hF
    rw [b_X10_overtakes_87] at hF
    refine mj_iload C dX10_overtakes_87 rfl ?_
    refine mj_sipushV (v := 600) C dX10_overtakes_89 mc_s_600 ?_
    refine mj_ic_ge C dX10_overtakes_92 rfl hF (fun hc9 hF => ?_) (fun hc9 hF => ?_)
    · refine mj_bipushV (v := (-2)) C dX10_overtakes_142 mc_b_m2 ?_
      have hF := mj_oi hF; subst hF
      exact mj_iret C hr hlk dX10_overtakes_144
    · refine mj_aload_n C dX10_overtakes_95 rfl ?_
      refine mj_iload_n C dX10_overtakes_96 rfl ?_
      refine mj_iload C dX10_overtakes_97 rfl ?_
      obtain ⟨r10, hq10, hF⟩ := mj_ob hF
      refine mj_callVi C (c_X10_heightOf σ v2 v5 r10 hq10) yv_X10_heightOf kl_X10_223 (mo_64 G _) rfl rfl rfl rfl (Nat.le_of_ble_eq_true rfl) (mj_roomC (by decide) (by decide)) ⟨Nat.zero_le _, Nat.zero_le _⟩ dX10_overtakes_99 ?_
      refine mj_aload_n C dX10_overtakes_102 rfl ?_
      refine mj_iload_n C dX10_overtakes_103 rfl ?_
      refine mj_iload C dX10_overtakes_104 rfl ?_
      obtain ⟨r11, hq11, hF⟩ := mj_ob hF
      refine mj_callVi C (c_X10_heightOf r10.2 v3 v5 r11 hq11) yv_X10_heightOf kl_X10_223 (mo_64 G _) rfl rfl rfl rfl (Nat.le_of_ble_eq_true rfl) (mj_roomC (by decide) (by decide)) ⟨Nat.zero_le _, Nat.zero_le _⟩ dX10_overtakes_106 ?_
      refine mj_ic_le C dX10_overtakes_109 rfl hF (fun hc12 hF => ?_) (fun hc12 hF => ?_)
      · refine mj_iinc (v := v5 + 1) C dX10_overtakes_136 rfl rfl (by decide) ?_
        refine mj_goto C dX10_overtakes_139 rfl ?_
        refine mj_to ?_ (ih v2 v3 (v5 + 1) r11.2 R hF)
        exact ⟨rfl, rfl, rfl, rfl, trivial⟩
      · refine mj_aload_n C dX10_overtakes_112 rfl ?_
        refine mj_iload_n C dX10_overtakes_113 rfl ?_
        refine mj_iload C dX10_overtakes_114 rfl ?_
        refine mj_iconstV (v := 1) C dX10_overtakes_116 mc_i_1 ?_
        refine mj_isub C dX10_overtakes_117 ?_
        obtain ⟨r13, hq13, hF⟩ := mj_ob hF
        refine mj_callVi C (c_X10_heightOf r11.2 v2 (v5 - 1) r13 hq13) yv_X10_heightOf kl_X10_223 (mo_64 G _) rfl rfl rfl rfl (Nat.le_of_ble_eq_true rfl) (mj_roomC (by decide) (by decide)) ⟨Nat.zero_le _, Nat.zero_le _⟩ dX10_overtakes_118 ?_
        refine mj_aload_n C dX10_overtakes_121 rfl ?_
        refine mj_iload_n C dX10_overtakes_122 rfl ?_
        refine mj_iload C dX10_overtakes_123 rfl ?_
        refine mj_iconstV (v := 1) C dX10_overtakes_125 mc_i_1 ?_
        refine mj_isub C dX10_overtakes_126 ?_
        obtain ⟨r14, hq14, hF⟩ := mj_ob hF
        refine mj_callVi C (c_X10_heightOf r13.2 v3 (v5 - 1) r14 hq14) yv_X10_heightOf kl_X10_223 (mo_64 G _) rfl rfl rfl rfl (Nat.le_of_ble_eq_true rfl) (mj_roomC (by decide) (by decide)) ⟨Nat.zero_le _, Nat.zero_le _⟩ dX10_overtakes_127 ?_
        refine mj_ic_gt C dX10_overtakes_130 rfl hF (fun hc15 hF => ?_) (fun hc15 hF => ?_)
        · refine mj_iinc (v := v5 + 1) C dX10_overtakes_136 rfl rfl (by decide) ?_
          refine mj_goto C dX10_overtakes_139 rfl ?_
          refine mj_to ?_ (ih v2 v3 (v5 + 1) r14.2 R hF)
          exact ⟨rfl, rfl, rfl, rfl, trivial⟩
        · refine mj_iload C dX10_overtakes_133 rfl ?_
          have hF := mj_oi hF; subst hF
          exact mj_iret C hr hlk dX10_overtakes_135
set_option maxRecDepth 100000 in
set_option maxHeartbeats 4000000 in
theorem c_X10_overtakes {G : mj_G} {l : Launch} (σ : mj_S) (p1 : Int32) (R : (Int32 × mj_S)) (hF : f_X10_overtakes σ p1 = some R) : mj_C G l yX10_overtakes cX10_overtakes 6 (some .int) 109 [.ref (G.2.1 64), .int p1] σ (some (.int R.1)) R.2 := by
  unfold f_X10_overtakes at hF
  refine mj_of (ls := [(0, .ref (G.2.1 64)), (1, .int p1)]) (by decide) (Nat.le_of_ble_eq_true rfl) rfl (fun p e s m args below meth c C hr hlk => ?_)
  refine mj_iload_n C dX10_overtakes_0 rfl ?_
  refine mj_if_lt C dX10_overtakes_1 rfl hF (fun hc1 hF => ?_) (fun hc1 hF => ?_)
  · refine mj_iconstV (v := (-1)) C dX10_overtakes_37 mc_i_m1 ?_
    have hF := mj_oi hF; subst hF
    exact mj_iret C hr hlk dX10_overtakes_38
  · refine mj_aload_n C dX10_overtakes_4 rfl ?_
    refine mj_iload_n C dX10_overtakes_5 rfl ?_
    refine mj_bipushV (v := 10) C dX10_overtakes_6 mc_b_10 ?_
    refine mj_idiv C dX10_overtakes_8 (by decide) ?_
    refine mj_callVi C (c_X10_isChild σ (p1 / 10)) yv_X10_isChild kl_X10_220 (mo_64 G _) rfl rfl rfl rfl (Nat.le_of_ble_eq_true rfl) (mj_roomC (by decide) (by decide)) ⟨Nat.zero_le _, Nat.zero_le _⟩ dX10_overtakes_9 ?_
    refine mj_if_eq C dX10_overtakes_12 rfl hF (fun hc2 hF => ?_) (fun hc2 hF => ?_)
    · refine mj_iconstV (v := (-1)) C dX10_overtakes_37 mc_i_m1 ?_
      have hF := mj_oi hF; subst hF
      exact mj_iret C hr hlk dX10_overtakes_38
    · refine mj_aload_n C dX10_overtakes_15 rfl ?_
      refine mj_iload_n C dX10_overtakes_16 rfl ?_
      refine mj_bipushV (v := 10) C dX10_overtakes_17 mc_b_10 ?_
      refine mj_irem C dX10_overtakes_19 (by decide) ?_
      refine mj_callVi C (c_X10_isChild σ (mj_rem p1 10)) yv_X10_isChild kl_X10_220 (mo_64 G _) rfl rfl rfl rfl (Nat.le_of_ble_eq_true rfl) (mj_roomC (by decide) (by decide)) ⟨Nat.zero_le _, Nat.zero_le _⟩ dX10_overtakes_20 ?_
      refine mj_if_eq C dX10_overtakes_23 rfl hF (fun hc3 hF => ?_) (fun hc3 hF => ?_)
      · refine mj_iconstV (v := (-1)) C dX10_overtakes_37 mc_i_m1 ?_
        have hF := mj_oi hF; subst hF
        exact mj_iret C hr hlk dX10_overtakes_38
      · refine mj_iload_n C dX10_overtakes_26 rfl ?_
        refine mj_bipushV (v := 10) C dX10_overtakes_27 mc_b_10 ?_
        refine mj_idiv C dX10_overtakes_29 (by decide) ?_
        refine mj_iload_n C dX10_overtakes_30 rfl ?_
        refine mj_bipushV (v := 10) C dX10_overtakes_31 mc_b_10 ?_
        refine mj_irem C dX10_overtakes_33 (by decide) ?_
        refine mj_ic_ne C dX10_overtakes_34 rfl hF (fun hc4 hF => ?_) (fun hc4 hF => ?_)
        · refine mj_iload_n C dX10_overtakes_39 rfl ?_
          refine mj_bipushV (v := 10) C dX10_overtakes_40 mc_b_10 ?_
          refine mj_idiv C dX10_overtakes_42 (by decide) ?_
          refine mj_istore_n C dX10_overtakes_43 (by decide) ?_
          refine mj_iload_n C dX10_overtakes_44 rfl ?_
          refine mj_bipushV (v := 10) C dX10_overtakes_45 mc_b_10 ?_
          refine mj_irem C dX10_overtakes_47 (by decide) ?_
          refine mj_istore_n C dX10_overtakes_48 (by decide) ?_
          refine mj_aload_n C dX10_overtakes_49 rfl ?_
          refine mg_X10_22 C dX10_overtakes_50 ?_
          refine mj_iload_n C dX10_overtakes_53 rfl ?_
          obtain ⟨hg5, hF⟩ := mj_og hF
          refine mj_iaload C dX10_overtakes_54 rfl hg5 ?_
          refine mj_aload_n C dX10_overtakes_55 rfl ?_
          refine mg_X10_22 C dX10_overtakes_56 ?_
          refine mj_iload_n C dX10_overtakes_59 rfl ?_
          obtain ⟨hg6, hF⟩ := mj_og hF
          refine mj_iaload C dX10_overtakes_60 rfl hg6 ?_
          refine mj_ic_le C dX10_overtakes_61 rfl hF (fun hc7 hF => ?_) (fun hc7 hF => ?_)
          · refine mj_aload_n C dX10_overtakes_73 rfl ?_
            refine mg_X10_22 C dX10_overtakes_74 ?_
            refine mj_iload_n C dX10_overtakes_77 rfl ?_
            obtain ⟨hg8, hF⟩ := mj_og hF
            refine mj_iaload C dX10_overtakes_78 rfl hg8 ?_
            refine mj_istore C dX10_overtakes_79 (by decide) ?_
            refine mj_iload C dX10_overtakes_81 rfl ?_
            refine mj_iconstV (v := 1) C dX10_overtakes_83 mc_i_1 ?_
            refine mj_iadd C dX10_overtakes_84 ?_
            refine mj_istore C dX10_overtakes_85 (by decide) ?_
            refine mj_to ?_ (w_X10_overtakes_87 C hr hlk mj_fu (p1 / 10) (mj_rem p1 10) ((σ.1 69 (mj_rem p1 10).toNatClampNeg) + 1) σ R hF)
            exact ⟨rfl, rfl, rfl, rfl, trivial⟩
          · refine mj_aload_n C dX10_overtakes_64 rfl ?_
            refine mg_X10_22 C dX10_overtakes_65 ?_
            refine mj_iload_n C dX10_overtakes_68 rfl ?_
            obtain ⟨hg16, hF⟩ := mj_og hF
            refine mj_iaload C dX10_overtakes_69 rfl hg16 ?_
            refine mj_goto C dX10_overtakes_70 rfl ?_
            refine mj_istore C dX10_overtakes_79 (by decide) ?_
            refine mj_iload C dX10_overtakes_81 rfl ?_
            refine mj_iconstV (v := 1) C dX10_overtakes_83 mc_i_1 ?_
            refine mj_iadd C dX10_overtakes_84 ?_
            refine mj_istore C dX10_overtakes_85 (by decide) ?_
            refine mj_to ?_ (w_X10_overtakes_87 C hr hlk mj_fu (p1 / 10) (mj_rem p1 10) ((σ.1 69 (p1 / 10).toNatClampNeg) + 1) σ R hF)
            exact ⟨rfl, rfl, rfl, rfl, trivial⟩
        · refine mj_iconstV (v := (-1)) C dX10_overtakes_37 mc_i_m1 ?_
          have hF := mj_oi hF; subst hF
          exact mj_iret C hr hlk dX10_overtakes_38
set_option maxRecDepth 100000 in
set_option maxHeartbeats 4000000 in
theorem c_X10_enough {G : mj_G} {l : Launch} (σ : mj_S) (p1 : Int32) (p2 : Int32) (p3 : Int32) (R : (Int32 × mj_S)) (hF : f_X10_enough σ p1 p2 p3 = some R) : mj_C G l yX10_enough cX10_enough 6 (some .int) 110 [.ref (G.2.1 64), .int p1, .int p2, .int p3] σ (some (.int R.1)) R.2 := by
  unfold f_X10_enough at hF
  refine mj_of (ls := [(0, .ref (G.2.1 64)), (1, .int p1), (2, .int p2), (3, .int p3)]) (by decide) (Nat.le_of_ble_eq_true rfl) rfl (fun p e s m args below meth c C hr hlk => ?_)
  refine mj_aload_n C dX10_enough_0 rfl ?_
  refine mj_iload_n C dX10_enough_1 rfl ?_
  refine mj_callVi C (c_X10_isChild σ p1) yv_X10_isChild kl_X10_220 (mo_64 G _) rfl rfl rfl rfl (Nat.le_of_ble_eq_true rfl) (mj_roomC (by decide) (by decide)) ⟨Nat.zero_le _, Nat.zero_le _⟩ dX10_enough_2 ?_
  refine mj_if_eq C dX10_enough_5 rfl hF (fun hc1 hF => ?_) (fun hc1 hF => ?_)
  · refine mj_ldcw C dX10_enough_27 kc_X10_259 ?_
    have hF := mj_oi hF; subst hF
    exact mj_iret C hr hlk dX10_enough_30
  · refine mj_iload_n C dX10_enough_8 rfl ?_
    refine mj_callSi C (c_X10_isSpan σ p2) ys_X10_isSpan kl_X10_138 rfl rfl (Nat.le_of_ble_eq_true rfl) (mj_roomC (by decide) (by decide)) ⟨Nat.zero_le _, Nat.zero_le _⟩ dX10_enough_9 ?_
    refine mj_if_eq C dX10_enough_12 rfl hF (fun hc2 hF => ?_) (fun hc2 hF => ?_)
    · refine mj_ldcw C dX10_enough_27 kc_X10_259 ?_
      have hF := mj_oi hF; subst hF
      exact mj_iret C hr hlk dX10_enough_30
    · refine mj_iload_n C dX10_enough_15 rfl ?_
      refine mj_i2l C dX10_enough_16 ?_
      refine mj_lconstV (v := 1) C dX10_enough_17 mc_l_1 ?_
      refine mj_ldc2 C dX10_enough_18 kc_X10_141 ?_
      refine mj_callSi C (c_X10_within σ p3.toInt64 1 9) ys_X10_within kl_X10_110 rfl rfl (Nat.le_of_ble_eq_true rfl) (mj_roomC (by decide) (by decide)) ⟨Nat.zero_le _, Nat.zero_le _⟩ dX10_enough_21 ?_
      refine mj_if_ne C dX10_enough_24 rfl hF (fun hc3 hF => ?_) (fun hc3 hF => ?_)
      · refine mj_aload_n C dX10_enough_31 rfl ?_
        refine mj_iload_n C dX10_enough_32 rfl ?_
        obtain ⟨r4, hq4, hF⟩ := mj_ob hF
        refine mj_callVi C (c_X10_endOf σ p1 r4 hq4) yv_X10_endOf kl_X10_316 (mo_64 G _) rfl rfl rfl rfl (Nat.le_of_ble_eq_true rfl) (mj_roomC (by decide) (by decide)) ⟨Nat.zero_le _, Nat.zero_le _⟩ dX10_enough_33 ?_
        refine mj_istore C dX10_enough_36 (by decide) ?_
        refine mj_aload_n C dX10_enough_38 rfl ?_
        refine mj_iload_n C dX10_enough_39 rfl ?_
        refine mj_iload_n C dX10_enough_40 rfl ?_
        obtain ⟨r5, hq5, hF⟩ := mj_ob hF
        refine mj_callVv C (c_X10_tellsWant r4.2 p2 p3 r5 hq5) yv_X10_tellsWant kl_X10_146 (mo_64 G _) rfl rfl rfl rfl (Nat.le_of_ble_eq_true rfl) (mj_roomC (by decide) (by decide)) ⟨Nat.zero_le _, Nat.zero_le _⟩ dX10_enough_41 ?_
        refine mj_aload_n C dX10_enough_44 rfl ?_
        refine mj_iload_n C dX10_enough_45 rfl ?_
        obtain ⟨r6, hq6, hF⟩ := mj_ob hF
        refine mj_callVi C (c_X10_endOf r5 p1 r6 hq6) yv_X10_endOf kl_X10_316 (mo_64 G _) rfl rfl rfl rfl (Nat.le_of_ble_eq_true rfl) (mj_roomC (by decide) (by decide)) ⟨Nat.zero_le _, Nat.zero_le _⟩ dX10_enough_46 ?_
        refine mj_istore C dX10_enough_49 (by decide) ?_
        refine mj_aload_n C dX10_enough_51 rfl ?_
        refine mj_dup C dX10_enough_52 rfl ?_
        refine mg_X10_143 C dX10_enough_53 ?_
        refine mj_iconstV (v := 1) C dX10_enough_56 mc_i_1 ?_
        refine mj_isub C dX10_enough_57 ?_
        refine mp_X10_143 C dX10_enough_58 ?_
        refine mj_aload_n C dX10_enough_61 rfl ?_
        refine mj_iconstV (v := 0) C dX10_enough_62 mc_i_0 ?_
        refine mp_X10_103 C rfl rfl dX10_enough_63 ?_
        refine mj_iload C dX10_enough_66 rfl ?_
        refine mj_iload C dX10_enough_68 rfl ?_
        refine mj_isub C dX10_enough_70 ?_
        have hF := mj_oi hF; subst hF
        exact mj_iret C hr hlk dX10_enough_71
      · refine mj_ldcw C dX10_enough_27 kc_X10_259 ?_
        have hF := mj_oi hF; subst hF
        exact mj_iret C hr hlk dX10_enough_30
set_option maxRecDepth 100000 in
set_option maxHeartbeats 4000000 in
theorem w_X10_nearest_9 {p : Program} {l : Launch} {e : Env} {s : State} {m : MethodId} {args : Array Value} {below : List Frame} {meth : Method} {c : Code} {G : mj_G} (C : mj_X p s m args meth c G cX10_nearest 7 RX10) (hr : meth.sig.returnType = some .int) (hlk : meth.locks = false) : ∀ (n : Nat) (v1 : Int32) (v2 : Int32) (v3 : Int32) (v4 : Int32) (v5 : Int32) (σ : mj_S) (R : (Int32 × mj_S)), b_X10_nearest_9 n v1 v2 v3 v4 v5 σ = some R → mj_W p l e (mj_rm 110) s m args below meth c G 0 0 7 (MQ below (mj_Q G (some (.int R.1)) R.2) args s 0 0 G.2.2.2) 9 [(0, .ref (G.2.1 64)), (1, .int v1), (2, .int v2), (3, .int v3), (4, .int v4), (5, .int v5)] [] σ := by
  intro n
  induction n with
  | zero =>
    intro v1 v2 v3 v4 v5 σ R hF
    cases hF
  | succ n ih =>
    intro v1 v2 v3 v4 v5 σ R hF
    rw [b_X10_nearest_9] at hF
    refine mj_iload C dX10_nearest_9 rfl ?_
    refine mj_aload_n C dX10_nearest_11 rfl ?_
    refine mg_X10_107 C dX10_nearest_12 ?_
    refine mj_ic_ge C dX10_nearest_15 rfl hF (fun hc1 hF => ?_) (fun hc1 hF => ?_)
    · refine mj_iload_n C dX10_nearest_58 rfl ?_
      have hF := mj_oi hF; subst hF
      exact mj_iret C hr hlk dX10_nearest_59
    · refine mj_aload_n C dX10_nearest_18 rfl ?_
      refine mj_iload_n C dX10_nearest_19 rfl ?_
      refine mj_iload C dX10_nearest_20 rfl ?_
      refine mj_iload_n C dX10_nearest_22 rfl ?_
      refine mj_iconstV (v := 0) C dX10_nearest_23 mc_i_0 ?_
      obtain ⟨r2, hq2, hF⟩ := mj_ob hF
      refine mj_callVi C (c_X10_offBy σ v1 v5 v2 0 r2 hq2) yv_X10_offBy kl_X10_276 (mo_64 G _) rfl rfl rfl rfl (Nat.le_of_ble_eq_true rfl) (mj_roomC (by decide) (by decide)) ⟨Nat.zero_le _, Nat.zero_le _⟩ dX10_nearest_24 ?_
      refine mj_istore C dX10_nearest_27 (by decide) ?_
      refine mj_iload C dX10_nearest_29 rfl ?_
      refine mj_if_lt C dX10_nearest_31 rfl hF (fun hc3 hF => ?_) (fun hc3 hF => ?_)
      · refine mj_iinc (v := v5 + 1) C dX10_nearest_52 rfl rfl (by decide) ?_
        refine mj_goto C dX10_nearest_55 rfl ?_
        refine mj_to ?_ (ih v1 v2 v3 v4 (v5 + 1) r2.2 R hF)
        exact ⟨rfl, rfl, rfl, rfl, rfl, rfl, trivial⟩
      · refine mj_iload_n C dX10_nearest_34 rfl ?_
        refine mj_if_lt C dX10_nearest_35 rfl hF (fun hc4 hF => ?_) (fun hc4 hF => ?_)
        · refine mj_iload C dX10_nearest_45 rfl ?_
          refine mj_istore_n C dX10_nearest_47 (by decide) ?_
          refine mj_iload C dX10_nearest_48 rfl ?_
          refine mj_istore C dX10_nearest_50 (by decide) ?_
          refine mj_iinc (v := v5 + 1) C dX10_nearest_52 rfl rfl (by decide) ?_
          refine mj_goto C dX10_nearest_55 rfl ?_
          refine mj_to ?_ (ih v1 v2 v5 r2.1 (v5 + 1) r2.2 R hF)
          exact ⟨rfl, rfl, rfl, rfl, rfl, rfl, trivial⟩
        · refine mj_iload C dX10_nearest_38 rfl ?_
          refine mj_iload C dX10_nearest_40 rfl ?_
          refine mj_ic_ge C dX10_nearest_42 rfl hF (fun hc5 hF => ?_) (fun hc5 hF => ?_)
          · refine mj_iinc (v := v5 + 1) C dX10_nearest_52 rfl rfl (by decide) ?_
            refine mj_goto C dX10_nearest_55 rfl ?_
            refine mj_to ?_ (ih v1 v2 v3 v4 (v5 + 1) r2.2 R hF)
            exact ⟨rfl, rfl, rfl, rfl, rfl, rfl, trivial⟩
          · refine mj_iload C dX10_nearest_45 rfl ?_
            refine mj_istore_n C dX10_nearest_47 (by decide) ?_
            refine mj_iload C dX10_nearest_48 rfl ?_
            refine mj_istore C dX10_nearest_50 (by decide) ?_
            refine mj_iinc (v := v5 + 1) C dX10_nearest_52 rfl rfl (by decide) ?_
            refine mj_goto C dX10_nearest_55 rfl ?_
            refine mj_to ?_ (ih v1 v2 v5 r2.1 (v5 + 1) r2.2 R hF)
            exact ⟨rfl, rfl, rfl, rfl, rfl, rfl, trivial⟩
set_option maxRecDepth 100000 in
set_option maxHeartbeats 4000000 in
theorem c_X10_nearest {G : mj_G} {l : Launch} (σ : mj_S) (p1 : Int32) (p2 : Int32) (R : (Int32 × mj_S)) (hF : f_X10_nearest σ p1 p2 = some R) : mj_C G l yX10_nearest cX10_nearest 7 (some .int) 110 [.ref (G.2.1 64), .int p1, .int p2] σ (some (.int R.1)) R.2 := by
  unfold f_X10_nearest at hF
  refine mj_of (ls := [(0, .ref (G.2.1 64)), (1, .int p1), (2, .int p2)]) (by decide) (Nat.le_of_ble_eq_true rfl) rfl (fun p e s m args below meth c C hr hlk => ?_)
  refine mj_bipushV (v := (-2)) C dX10_nearest_0 mc_b_m2 ?_
  refine mj_istore_n C dX10_nearest_2 (by decide) ?_
  refine mj_iconstV (v := 0) C dX10_nearest_3 mc_i_0 ?_
  refine mj_istore C dX10_nearest_4 (by decide) ?_
  refine mj_iconstV (v := 0) C dX10_nearest_6 mc_i_0 ?_
  refine mj_istore C dX10_nearest_7 (by decide) ?_
  refine mj_to ?_ (w_X10_nearest_9 C hr hlk mj_fu p1 p2 (-2) 0 0 σ R hF)
  exact ⟨rfl, rfl, rfl, rfl, rfl, rfl, trivial⟩
set_option maxRecDepth 100000 in
set_option maxHeartbeats 4000000 in
theorem w_X10_slips_67 {p : Program} {l : Launch} {e : Env} {s : State} {m : MethodId} {args : Array Value} {below : List Frame} {meth : Method} {c : Code} {G : mj_G} (C : mj_X p s m args meth c G cX10_slips 9 RX10) (hr : meth.sig.returnType = some .int) (hlk : meth.locks = false) : ∀ (n : Nat) (v1 : Int32) (v2 : Int32) (v4 : Int32) (v5 : Int32) (v6 : Int32) (v7 : Int32) (v8 : Int32) (σ : mj_S) (R : (Int32 × mj_S)), b_X10_slips_67 n v1 v2 v4 v5 v6 v7 v8 σ = some R → mj_W p l e (mj_rm 111) s m args below meth c G 0 0 9 (MQ below (mj_Q G (some (.int R.1)) R.2) args s 0 0 G.2.2.2) 67 [(0, .ref (G.2.1 64)), (1, .int v1), (2, .int v2), (4, .int v4), (5, .int v5), (6, .int v6), (7, .int v7), (8, .int v8)] [] σ := by
  intro n
  induction n with
  | zero =>
    intro v1 v2 v4 v5 v6 v7 v8 σ R hF
    cases hF
  | succ n ih =>
    intro v1 v2 v4 v5 v6 v7 v8 σ R hF
    rw [b_X10_slips_67] at hF
    refine mj_iload C dX10_slips_67 rfl ?_
    refine mj_iload C dX10_slips_69 rfl ?_
    refine mj_bipushV (v := 100) C dX10_slips_71 mc_b_100 ?_
    refine mj_idiv C dX10_slips_73 (by decide) ?_
    refine mj_ic_ge C dX10_slips_74 rfl hF (fun hc7 hF => ?_) (fun hc7 hF => ?_)
    · refine mj_iload C dX10_slips_136 rfl ?_
      have hF := mj_oi hF; subst hF
      exact mj_iret C hr hlk dX10_slips_138
    · refine mj_iload C dX10_slips_77 rfl ?_
      refine mj_ldcw C dX10_slips_79 kc_X10_335 ?_
      refine mj_imul C dX10_slips_82 ?_
      refine mj_sipushV (v := 12345) C dX10_slips_83 mc_s_12345 ?_
      refine mj_iadd C dX10_slips_86 ?_
      refine mj_istore C dX10_slips_87 (by decide) ?_
      refine mj_iload C dX10_slips_89 rfl ?_
      refine mj_aload_n C dX10_slips_91 rfl ?_
      refine mj_aload_n C dX10_slips_92 rfl ?_
      refine mj_iload_n C dX10_slips_93 rfl ?_
      refine mj_iload_n C dX10_slips_94 rfl ?_
      obtain ⟨r8, hq8, hF⟩ := mj_ob hF
      refine mj_callVi C (c_X10_heightOf σ v1 v2 r8 hq8) yv_X10_heightOf kl_X10_223 (mo_64 G _) rfl rfl rfl rfl (Nat.le_of_ble_eq_true rfl) (mj_roomC (by decide) (by decide)) ⟨Nat.zero_le _, Nat.zero_le _⟩ dX10_slips_95 ?_
      refine mj_iload C dX10_slips_98 rfl ?_
      refine mj_bipushV (v := 8) C dX10_slips_100 mc_b_8 ?_
      refine mj_iushr C dX10_slips_102 ?_
      refine mj_iconstV (v := 2) C dX10_slips_103 mc_i_2 ?_
      refine mj_iload C dX10_slips_104 rfl ?_
      refine mj_imul C dX10_slips_106 ?_
      refine mj_iconstV (v := 1) C dX10_slips_107 mc_i_1 ?_
      refine mj_iadd C dX10_slips_108 ?_
      obtain ⟨hz9, hF⟩ := mj_oz hF
      refine mj_irem C dX10_slips_109 hz9 ?_
      refine mj_iadd C dX10_slips_110 ?_
      refine mj_iload C dX10_slips_111 rfl ?_
      refine mj_isub C dX10_slips_113 ?_
      refine mj_iload_n C dX10_slips_114 rfl ?_
      obtain ⟨r10, hq10, hF⟩ := mj_ob hF
      refine mj_callVi C (c_X10_nearest r8.2 ((r8.1 + (mj_rem (mj_ushr ((v6 * 1103515245) + 12345) 8) ((2 * v5) + 1))) - v5) v2 r10 hq10) yv_X10_nearest kl_X10_336 (mo_64 G _) rfl rfl rfl rfl (Nat.le_of_ble_eq_true rfl) (mj_roomC (by decide) (by decide)) ⟨Nat.zero_le _, Nat.zero_le _⟩ dX10_slips_115 ?_
      refine mj_iload_n C dX10_slips_118 rfl ?_
      refine mj_ic_ne C dX10_slips_119 rfl hF (fun hc11 hF => ?_) (fun hc11 hF => ?_)
      · refine mj_iconstV (v := 0) C dX10_slips_126 mc_i_0 ?_
        refine mj_iadd C dX10_slips_127 ?_
        refine mj_istore C dX10_slips_128 (by decide) ?_
        refine mj_iinc (v := v8 + 1) C dX10_slips_130 rfl rfl (by decide) ?_
        refine mj_goto C dX10_slips_133 rfl ?_
        refine mj_to ?_ (ih v1 v2 v4 v5 ((v6 * 1103515245) + 12345) (v7 + 0) (v8 + 1) r10.2 R hF)
        exact ⟨rfl, rfl, rfl, rfl, rfl, rfl, rfl, rfl, trivial⟩
      · refine mj_iconstV (v := 1) C dX10_slips_122 mc_i_1 ?_
        refine mj_goto C dX10_slips_123 rfl ?_
        refine mj_iadd C dX10_slips_127 ?_
        refine mj_istore C dX10_slips_128 (by decide) ?_
        refine mj_iinc (v := v8 + 1) C dX10_slips_130 rfl rfl (by decide) ?_
        refine mj_goto C dX10_slips_133 rfl ?_
        refine mj_to ?_ (ih v1 v2 v4 v5 ((v6 * 1103515245) + 12345) (v7 + 1) (v8 + 1) r10.2 R hF)
        exact ⟨rfl, rfl, rfl, rfl, rfl, rfl, rfl, rfl, trivial⟩
set_option maxRecDepth 100000 in
set_option maxHeartbeats 4000000 in
theorem c_X10_slips {G : mj_G} {l : Launch} (σ : mj_S) (p1 : Int32) (p2 : Int32) (p3 : Int32) (p4 : Int32) (R : (Int32 × mj_S)) (hF : f_X10_slips σ p1 p2 p3 p4 = some R) : mj_C G l yX10_slips cX10_slips 9 (some .int) 111 [.ref (G.2.1 64), .int p1, .int p2, .int p3, .int p4] σ (some (.int R.1)) R.2 := by
  unfold f_X10_slips at hF
  refine mj_of (ls := [(0, .ref (G.2.1 64)), (1, .int p1), (2, .int p2), (3, .int p3), (4, .int p4)]) (by decide) (Nat.le_of_ble_eq_true rfl) rfl (fun p e s m args below meth c C hr hlk => ?_)
  refine mj_aload_n C dX10_slips_0 rfl ?_
  refine mj_iload_n C dX10_slips_1 rfl ?_
  refine mj_callVi C (c_X10_isChild σ p1) yv_X10_isChild kl_X10_220 (mo_64 G _) rfl rfl rfl rfl (Nat.le_of_ble_eq_true rfl) (mj_roomC (by decide) (by decide)) ⟨Nat.zero_le _, Nat.zero_le _⟩ dX10_slips_2 ?_
  refine mj_if_eq C dX10_slips_5 rfl hF (fun hc1 hF => ?_) (fun hc1 hF => ?_)
  · refine mj_iconstV (v := (-1)) C dX10_slips_36 mc_i_m1 ?_
    have hF := mj_oi hF; subst hF
    exact mj_iret C hr hlk dX10_slips_37
  · refine mj_iload_n C dX10_slips_8 rfl ?_
    refine mj_callSi C (c_X10_isMonth σ p2) ys_X10_isMonth kl_X10_124 rfl rfl (Nat.le_of_ble_eq_true rfl) (mj_roomC (by decide) (by decide)) ⟨Nat.zero_le _, Nat.zero_le _⟩ dX10_slips_9 ?_
    refine mj_if_eq C dX10_slips_12 rfl hF (fun hc2 hF => ?_) (fun hc2 hF => ?_)
    · refine mj_iconstV (v := (-1)) C dX10_slips_36 mc_i_m1 ?_
      have hF := mj_oi hF; subst hF
      exact mj_iret C hr hlk dX10_slips_37
    · refine mj_iload C dX10_slips_15 rfl ?_
      refine mj_if_lt C dX10_slips_17 rfl hF (fun hc3 hF => ?_) (fun hc3 hF => ?_)
      · refine mj_iconstV (v := (-1)) C dX10_slips_36 mc_i_m1 ?_
        have hF := mj_oi hF; subst hF
        exact mj_iret C hr hlk dX10_slips_37
      · refine mj_iload C dX10_slips_20 rfl ?_
        refine mj_bipushV (v := 100) C dX10_slips_22 mc_b_100 ?_
        refine mj_idiv C dX10_slips_24 (by decide) ?_
        refine mj_i2l C dX10_slips_25 ?_
        refine mj_lconstV (v := 1) C dX10_slips_26 mc_l_1 ?_
        refine mj_ldc2 C dX10_slips_27 kc_X10_333 ?_
        refine mj_callSi C (c_X10_within σ ((p4 / 100).toInt64) 1 50) ys_X10_within kl_X10_110 rfl rfl (Nat.le_of_ble_eq_true rfl) (mj_roomC (by decide) (by decide)) ⟨Nat.zero_le _, Nat.zero_le _⟩ dX10_slips_30 ?_
        refine mj_if_ne C dX10_slips_33 rfl hF (fun hc4 hF => ?_) (fun hc4 hF => ?_)
        · refine mj_iload_n C dX10_slips_38 rfl ?_
          refine mj_aload_n C dX10_slips_39 rfl ?_
          refine mg_X10_22 C dX10_slips_40 ?_
          refine mj_iload_n C dX10_slips_43 rfl ?_
          obtain ⟨hg5, hF⟩ := mj_og hF
          refine mj_iaload C dX10_slips_44 rfl hg5 ?_
          refine mj_ic_ge C dX10_slips_45 rfl hF (fun hc6 hF => ?_) (fun hc6 hF => ?_)
          · refine mj_iload C dX10_slips_51 rfl ?_
            refine mj_bipushV (v := 100) C dX10_slips_53 mc_b_100 ?_
            refine mj_irem C dX10_slips_55 (by decide) ?_
            refine mj_istore C dX10_slips_56 (by decide) ?_
            refine mj_iload_n C dX10_slips_58 rfl ?_
            refine mj_istore C dX10_slips_59 (by decide) ?_
            refine mj_iconstV (v := 0) C dX10_slips_61 mc_i_0 ?_
            refine mj_istore C dX10_slips_62 (by decide) ?_
            refine mj_iconstV (v := 0) C dX10_slips_64 mc_i_0 ?_
            refine mj_istore C dX10_slips_65 (by decide) ?_
            refine mj_to ?_ (w_X10_slips_67 C hr hlk mj_fu p1 p2 p4 (mj_rem p4 100) p3 0 0 σ R hF)
            exact ⟨rfl, rfl, rfl, rfl, rfl, rfl, rfl, rfl, trivial⟩
          · refine mj_bipushV (v := (-2)) C dX10_slips_48 mc_b_m2 ?_
            have hF := mj_oi hF; subst hF
            exact mj_iret C hr hlk dX10_slips_50
        · refine mj_iconstV (v := (-1)) C dX10_slips_36 mc_i_m1 ?_
          have hF := mj_oi hF; subst hF
          exact mj_iret C hr hlk dX10_slips_37
set_option maxRecDepth 100000 in
set_option maxHeartbeats 4000000 in
theorem c_X10_isBody {G : mj_G} {l : Launch} (σ : mj_S) (p1 : Int32) : mj_C G l yX10_isBody cX10_isBody 2 (some .boolean) 2 [.ref (G.2.1 64), .int p1] σ (some (.int (f_X10_isBody σ p1))) σ := by
  generalize hF : f_X10_isBody σ p1 = R
  unfold f_X10_isBody at hF
  refine mj_of (ls := [(0, .ref (G.2.1 64)), (1, .int p1)]) (by decide) (Nat.le_of_ble_eq_true rfl) rfl (fun p e s m args below meth c C hr hlk => ?_)
  refine mj_iload_n C dX10_isBody_0 rfl ?_
  refine mj_i2l C dX10_isBody_1 ?_
  refine mj_lconstV (v := 0) C dX10_isBody_2 mc_l_0 ?_
  refine mj_aload_n C dX10_isBody_3 rfl ?_
  refine mg_X10_339 C dX10_isBody_4 ?_
  refine mj_iconstV (v := 1) C dX10_isBody_7 mc_i_1 ?_
  refine mj_isub C dX10_isBody_8 ?_
  refine mj_i2l C dX10_isBody_9 ?_
  refine mj_callSi C (c_X10_within σ p1.toInt64 0 (((σ.1 64 38) - 1).toInt64)) ys_X10_within kl_X10_110 rfl rfl (Nat.le_of_ble_eq_true rfl) (mj_roomC (by decide) (by decide)) ⟨Nat.zero_le _, Nat.zero_le _⟩ dX10_isBody_10 ?_
  subst hF
  exact mj_zbret C hr hlk dX10_isBody_13
set_option maxRecDepth 100000 in
set_option maxHeartbeats 4000000 in
theorem c_X10_kindOf {G : mj_G} {l : Launch} (σ : mj_S) (p1 : Int32) (R : Int32) (hF : f_X10_kindOf σ p1 = some R) : mj_C G l yX10_kindOf cX10_kindOf 2 (some .int) 1 [.ref (G.2.1 64), .int p1] σ (some (.int R)) σ := by
  unfold f_X10_kindOf at hF
  refine mj_of (ls := [(0, .ref (G.2.1 64)), (1, .int p1)]) (by decide) (Nat.le_of_ble_eq_true rfl) rfl (fun p e s m args below meth c C hr hlk => ?_)
  refine mj_aload_n C dX10_kindOf_0 rfl ?_
  refine mg_X10_71 C dX10_kindOf_1 ?_
  refine mj_iload_n C dX10_kindOf_4 rfl ?_
  obtain ⟨hg1, hF⟩ := mj_og hF
  refine mj_iaload C dX10_kindOf_5 rfl hg1 ?_
  have hF := mj_oi hF; subst hF
  exact mj_iret C hr hlk dX10_kindOf_6
set_option maxRecDepth 100000 in
set_option maxHeartbeats 4000000 in
theorem c_X10_body {G : mj_G} {l : Launch} (σ : mj_S) (p1 : Int32) (R : (Int32 × mj_S)) (hF : f_X10_body σ p1 = some R) : mj_C G l yX10_body cX10_body 2 (some .int) 2 [.ref (G.2.1 64), .int p1] σ (some (.int R.1)) R.2 := by
  unfold f_X10_body at hF
  refine mj_of (ls := [(0, .ref (G.2.1 64)), (1, .int p1)]) (by decide) (Nat.le_of_ble_eq_true rfl) rfl (fun p e s m args below meth c C hr hlk => ?_)
  refine mj_iload_n C dX10_body_0 rfl ?_
  refine mj_i2l C dX10_body_1 ?_
  refine mj_lconstV (v := 0) C dX10_body_2 mc_l_0 ?_
  refine mj_ldc2 C dX10_body_3 kc_X10_342 ?_
  refine mj_callSi C (c_X10_within σ p1.toInt64 0 7) ys_X10_within kl_X10_110 rfl rfl (Nat.le_of_ble_eq_true rfl) (mj_roomC (by decide) (by decide)) ⟨Nat.zero_le _, Nat.zero_le _⟩ dX10_body_6 ?_
  refine mj_if_ne C dX10_body_9 rfl hF (fun hc1 hF => ?_) (fun hc1 hF => ?_)
  · refine mj_aload_n C dX10_body_14 rfl ?_
    refine mg_X10_339 C dX10_body_15 ?_
    refine mj_bipushV (v := 50) C dX10_body_18 mc_b_50 ?_
    refine mj_ic_ne C dX10_body_20 rfl hF (fun hc2 hF => ?_) (fun hc2 hF => ?_)
    · refine mj_aload_n C dX10_body_26 rfl ?_
      refine mg_X10_71 C dX10_body_27 ?_
      refine mj_aload_n C dX10_body_30 rfl ?_
      refine mg_X10_339 C dX10_body_31 ?_
      refine mj_iload_n C dX10_body_34 rfl ?_
      obtain ⟨hg3, hF⟩ := mj_og hF
      refine mj_iastore C dX10_body_35 rfl hg3 ?_
      refine mj_aload_n C dX10_body_36 rfl ?_
      refine mj_dup C dX10_body_37 rfl ?_
      refine mg_X10_339 C dX10_body_38 ?_
      refine mj_iconstV (v := 1) C dX10_body_41 mc_i_1 ?_
      refine mj_iadd C dX10_body_42 ?_
      refine mp_X10_339 C dX10_body_43 ?_
      refine mj_aload_n C dX10_body_46 rfl ?_
      refine mg_X10_339 C dX10_body_47 ?_
      refine mj_iconstV (v := 1) C dX10_body_50 mc_i_1 ?_
      refine mj_isub C dX10_body_51 ?_
      have hF := mj_oi hF; subst hF
      exact mj_iret C hr hlk dX10_body_52
    · refine mj_bipushV (v := (-3)) C dX10_body_23 mc_b_m3 ?_
      have hF := mj_oi hF; subst hF
      exact mj_iret C hr hlk dX10_body_25
  · refine mj_iconstV (v := (-1)) C dX10_body_12 mc_i_m1 ?_
    have hF := mj_oi hF; subst hF
    exact mj_iret C hr hlk dX10_body_13
set_option maxRecDepth 100000 in
set_option maxHeartbeats 4000000 in
theorem c_X10_above {G : mj_G} {l : Launch} (σ : mj_S) (p0 : Int32) : mj_C G l yX10_above cX10_above 1 (some .int) 1 [.int p0] σ (some (.int (f_X10_above σ p0))) σ := by
  generalize hF : f_X10_above σ p0 = R
  unfold f_X10_above at hF
  refine mj_of (ls := [(0, .int p0)]) (by decide) (Nat.le_of_ble_eq_true rfl) rfl (fun p e s m args below meth c C hr hlk => ?_)
  refine mj_iload_n C dX10_above_0 rfl ?_
  refine mj_iconstV (v := 3) C dX10_above_1 mc_i_3 ?_
  refine mj_ic_ne C dX10_above_2 rfl hF (fun hc1 hF => ?_) (fun hc1 hF => ?_)
  · refine mj_iload_n C dX10_above_9 rfl ?_
    refine mj_iconstV (v := 5) C dX10_above_10 mc_i_5 ?_
    refine mj_ic_ne C dX10_above_11 rfl hF (fun hc2 hF => ?_) (fun hc2 hF => ?_)
    · refine mj_iload_n C dX10_above_18 rfl ?_
      refine mj_bipushV (v := 6) C dX10_above_19 mc_b_6 ?_
      refine mj_ic_ne C dX10_above_21 rfl hF (fun hc3 hF => ?_) (fun hc3 hF => ?_)
      · refine mj_iload_n C dX10_above_28 rfl ?_
        refine mj_bipushV (v := 7) C dX10_above_29 mc_b_7 ?_
        refine mj_ic_ne C dX10_above_31 rfl hF (fun hc4 hF => ?_) (fun hc4 hF => ?_)
        · refine mj_iconstV (v := 0) C dX10_above_38 mc_i_0 ?_
          subst hF
          exact mj_iret C hr hlk dX10_above_39
        · refine mj_iconstV (v := 2) C dX10_above_34 mc_i_2 ?_
          refine mj_goto C dX10_above_35 rfl ?_
          subst hF
          exact mj_iret C hr hlk dX10_above_39
      · refine mj_iconstV (v := 3) C dX10_above_24 mc_i_3 ?_
        refine mj_goto C dX10_above_25 rfl ?_
        subst hF
        exact mj_iret C hr hlk dX10_above_39
    · refine mj_iconstV (v := 4) C dX10_above_14 mc_i_4 ?_
      refine mj_goto C dX10_above_15 rfl ?_
      subst hF
      exact mj_iret C hr hlk dX10_above_39
  · refine mj_iconstV (v := 1) C dX10_above_5 mc_i_1 ?_
    refine mj_goto C dX10_above_6 rfl ?_
    subst hF
    exact mj_iret C hr hlk dX10_above_39
set_option maxRecDepth 100000 in
set_option maxHeartbeats 4000000 in
theorem w_X10_begins_19 {p : Program} {l : Launch} {e : Env} {s : State} {m : MethodId} {args : Array Value} {below : List Frame} {meth : Method} {c : Code} {G : mj_G} (C : mj_X p s m args meth c G cX10_begins 2 RX10) (hr : meth.sig.returnType = none) (hlk : meth.locks = false) : ∀ (σ : mj_S) (R : mj_S), b_X10_begins_19 σ = some R → mj_W p l e (mj_rm 1) s m args below meth c G 0 0 2 (MQ below (mj_Q G none R) args s 0 0 G.2.2.2) 19 [(0, .ref (G.2.1 64))] [] σ := by
  intro σ R hF
  unfold b_X10_begins_19 at hF
  refine mj_aload_n C dX10_begins_19 rfl ?_
  refine mj_dup C dX10_begins_20 rfl ?_
  refine mg_X10_344 C dX10_begins_21 ?_
  refine mj_iconstV (v := 1) C dX10_begins_24 mc_i_1 ?_
  refine mj_iadd C dX10_begins_25 ?_
  refine mp_X10_344 C dX10_begins_26 ?_
  have hF := mj_oi hF; subst hF
  exact mj_vret C hr hlk dX10_begins_29
set_option maxRecDepth 100000 in
set_option maxHeartbeats 4000000 in
theorem c_X10_begins {G : mj_G} {l : Launch} (σ : mj_S) (p1 : Int32) (R : mj_S) (hF : f_X10_begins σ p1 = some R) : mj_C G l yX10_begins cX10_begins 2 (none) 1 [.ref (G.2.1 64), .int p1] σ none R := by
  unfold f_X10_begins at hF
  refine mj_of (ls := [(0, .ref (G.2.1 64)), (1, .int p1)]) (by decide) (Nat.le_of_ble_eq_true rfl) rfl (fun p e s m args below meth c C hr hlk => ?_)
  refine mj_aload_n C dX10_begins_0 rfl ?_
  refine mg_X10_344 C dX10_begins_1 ?_
  refine mj_bipushV (v := 24) C dX10_begins_4 mc_b_24 ?_
  refine mj_ic_ge C dX10_begins_6 rfl hF (fun hc1 hF => ?_) (fun hc1 hF => ?_)
  · refine mj_to ?_ (w_X10_begins_19 C hr hlk σ R hF)
    exact ⟨rfl, trivial⟩
  · refine mj_aload_n C dX10_begins_9 rfl ?_
    refine mg_X10_74 C dX10_begins_10 ?_
    refine mj_aload_n C dX10_begins_13 rfl ?_
    refine mg_X10_344 C dX10_begins_14 ?_
    refine mj_iload_n C dX10_begins_17 rfl ?_
    obtain ⟨hg2, hF⟩ := mj_og hF
    refine mj_iastore C dX10_begins_18 rfl hg2 ?_
    refine mj_to ?_ (w_X10_begins_19 C hr hlk (mj_sI σ 86 (σ.1 64 41).toNatClampNeg p1) R hF)
    exact ⟨rfl, trivial⟩
set_option maxRecDepth 100000 in
set_option maxHeartbeats 4000000 in
theorem w_X10_growsAs_31 {p : Program} {l : Launch} {e : Env} {s : State} {m : MethodId} {args : Array Value} {below : List Frame} {meth : Method} {c : Code} {G : mj_G} {k : Nat} {rec : Int32 → Int32 → mj_S → Option (Int32 × mj_S)} (C : mj_X p s m args meth c G cX10_growsAs 3 RX10) (hr : meth.sig.returnType = some .int) (hlk : meth.locks = false) (hr0 : ∀ (x0 x1 : Int32) (σ : mj_S) (R : (Int32 × mj_S)), rec x0 x1 σ = some R → mj_C G l yX10_growsAs cX10_growsAs 3 (some .int) (2 + k) [.ref (G.2.1 64), .int x0, .int x1] σ (some (.int R.1)) R.2) : ∀ (v2 : Int32) (σ : mj_S) (R : (Int32 × mj_S)), b_X10_growsAs_31 rec v2 σ = some R → mj_W p l e (mj_rm (2 + (k + 1))) s m args below meth c G 0 0 3 (MQ below (mj_Q G (some (.int R.1)) R.2) args s 0 0 G.2.2.2) 31 [(0, .ref (G.2.1 64)), (2, .int v2)] [] σ := by
  intro v2 σ R hF
  unfold b_X10_growsAs_31 at hF
  refine mj_aload_n C dX10_growsAs_31 rfl ?_
  refine mj_bipushV (v := 20) C dX10_growsAs_32 mc_b_20 ?_
  obtain ⟨r3, hq3, hF⟩ := mj_ob hF
  refine mj_callVv C (c_X10_begins σ 20 r3 hq3) yv_X10_begins kl_X10_347 (mo_64 G _) rfl rfl rfl rfl (Nat.le_of_ble_eq_true rfl) (mj_roomR (by decide) (by decide)) ⟨Nat.zero_le _, Nat.zero_le _⟩ dX10_growsAs_34 ?_
  refine mj_aload_n C dX10_growsAs_37 rfl ?_
  refine mj_iconstV (v := 0) C dX10_growsAs_38 mc_i_0 ?_
  refine mj_iload_n C dX10_growsAs_39 rfl ?_
  obtain ⟨r4, hq4, hF⟩ := mj_ob hF
  refine mj_callVi C (hr0 0 v2 r3 r4 hq4) yv_X10_growsAs kl_X10_350 (mo_64 G _) rfl rfl rfl rfl (Nat.le_of_ble_eq_true rfl) (mj_roomK (by decide)) ⟨Nat.zero_le _, Nat.zero_le _⟩ dX10_growsAs_40 ?_
  refine mj_iconstV (v := 3) C dX10_growsAs_43 mc_i_3 ?_
  refine mj_iadd C dX10_growsAs_44 ?_
  have hF := mj_oi hF; subst hF
  exact mj_iret C hr hlk dX10_growsAs_45
set_option maxRecDepth 100000 in
set_option maxHeartbeats 4000000 in
theorem cF_X10_growsAs {G : mj_G} {l : Launch} {k : Nat} {rec : Int32 → Int32 → mj_S → Option (Int32 × mj_S)} (hr0 : ∀ (x0 x1 : Int32) (σ : mj_S) (R : (Int32 × mj_S)), rec x0 x1 σ = some R → mj_C G l yX10_growsAs cX10_growsAs 3 (some .int) (2 + k) [.ref (G.2.1 64), .int x0, .int x1] σ (some (.int R.1)) R.2) (σ : mj_S) (p1 : Int32) (p2 : Int32) (R : (Int32 × mj_S)) (hF : F_X10_growsAs rec σ p1 p2 = some R) : mj_C G l yX10_growsAs cX10_growsAs 3 (some .int) (2 + (k + 1)) [.ref (G.2.1 64), .int p1, .int p2] σ (some (.int R.1)) R.2 := by
  unfold F_X10_growsAs at hF
  refine mj_of (ls := [(0, .ref (G.2.1 64)), (1, .int p1), (2, .int p2)]) (by decide) (Nat.le_of_ble_eq_true rfl) rfl (fun p e s m args below meth c C hr hlk => ?_)
  refine mj_iload_n C dX10_growsAs_0 rfl ?_
  refine mj_bipushV (v := 6) C dX10_growsAs_1 mc_b_6 ?_
  refine mj_ic_ne C dX10_growsAs_3 rfl hF (fun hc1 hF => ?_) (fun hc1 hF => ?_)
  · refine mj_iload_n C dX10_growsAs_21 rfl ?_
    refine mj_iconstV (v := 1) C dX10_growsAs_22 mc_i_1 ?_
    refine mj_ic_eq C dX10_growsAs_23 rfl hF (fun hc2 hF => ?_) (fun hc2 hF => ?_)
    · refine mj_to ?_ (w_X10_growsAs_31 C hr hlk hr0 p2 σ R hF)
      exact ⟨rfl, rfl, trivial⟩
    · refine mj_iload_n C dX10_growsAs_26 rfl ?_
      refine mj_iconstV (v := 3) C dX10_growsAs_27 mc_i_3 ?_
      refine mj_ic_ne C dX10_growsAs_28 rfl hF (fun hc5 hF => ?_) (fun hc5 hF => ?_)
      · refine mj_aload_n C dX10_growsAs_46 rfl ?_
        refine mj_iconstV (v := 1) C dX10_growsAs_47 mc_i_1 ?_
        obtain ⟨r6, hq6, hF⟩ := mj_ob hF
        refine mj_callVv C (c_X10_begins σ 1 r6 hq6) yv_X10_begins kl_X10_347 (mo_64 G _) rfl rfl rfl rfl (Nat.le_of_ble_eq_true rfl) (mj_roomR (by decide) (by decide)) ⟨Nat.zero_le _, Nat.zero_le _⟩ dX10_growsAs_48 ?_
        refine mj_iload_n C dX10_growsAs_51 rfl ?_
        refine mj_aload_n C dX10_growsAs_52 rfl ?_
        refine mg_X10_353 C dX10_growsAs_53 ?_
        refine mj_iadd C dX10_growsAs_56 ?_
        have hF := mj_oi hF; subst hF
        exact mj_iret C hr hlk dX10_growsAs_57
      · refine mj_to ?_ (w_X10_growsAs_31 C hr hlk hr0 p2 σ R hF)
        exact ⟨rfl, rfl, trivial⟩
  · refine mj_aload_n C dX10_growsAs_6 rfl ?_
    refine mj_bipushV (v := 70) C dX10_growsAs_7 mc_b_70 ?_
    obtain ⟨r7, hq7, hF⟩ := mj_ob hF
    refine mj_callVv C (c_X10_begins σ 70 r7 hq7) yv_X10_begins kl_X10_347 (mo_64 G _) rfl rfl rfl rfl (Nat.le_of_ble_eq_true rfl) (mj_roomR (by decide) (by decide)) ⟨Nat.zero_le _, Nat.zero_le _⟩ dX10_growsAs_9 ?_
    refine mj_aload_n C dX10_growsAs_12 rfl ?_
    refine mj_iconstV (v := 3) C dX10_growsAs_13 mc_i_3 ?_
    refine mj_iload_n C dX10_growsAs_14 rfl ?_
    obtain ⟨r8, hq8, hF⟩ := mj_ob hF
    refine mj_callVi C (hr0 3 p2 r7 r8 hq8) yv_X10_growsAs kl_X10_350 (mo_64 G _) rfl rfl rfl rfl (Nat.le_of_ble_eq_true rfl) (mj_roomK (by decide)) ⟨Nat.zero_le _, Nat.zero_le _⟩ dX10_growsAs_15 ?_
    refine mj_iconstV (v := 2) C dX10_growsAs_18 mc_i_2 ?_
    refine mj_imul C dX10_growsAs_19 ?_
    have hF := mj_oi hF; subst hF
    exact mj_iret C hr hlk dX10_growsAs_20
theorem cr_X10_growsAs {G : mj_G} {l : Launch} : ∀ k : Nat, (∀ (x0 x1 : Int32) (σ : mj_S) (R : (Int32 × mj_S)), rc_X10_growsAs k x0 x1 σ = some R → mj_C G l yX10_growsAs cX10_growsAs 3 (some .int) (2 + k) [.ref (G.2.1 64), .int x0, .int x1] σ (some (.int R.1)) R.2) := by
  intro k
  induction k with
  | zero =>
    intros; rename_i h; cases h
  | succ k ih =>
    exact fun x0 x1 σ R h => cF_X10_growsAs (ih) σ x0 x1 R (by rw [rc_X10_growsAs] at h; exact h)
theorem c_X10_growsAs {G : mj_G} {l : Launch} (σ : mj_S) (p1 : Int32) (p2 : Int32) (R : (Int32 × mj_S)) (hF : f_X10_growsAs σ p1 p2 = some R) : mj_C G l yX10_growsAs cX10_growsAs 3 (some .int) 102 [.ref (G.2.1 64), .int p1, .int p2] σ (some (.int R.1)) R.2 := (cr_X10_growsAs 100) p1 p2 σ R hF
set_option maxRecDepth 100000 in
set_option maxHeartbeats 4000000 in
theorem w_X10_marksAs_11 {p : Program} {l : Launch} {e : Env} {s : State} {m : MethodId} {args : Array Value} {below : List Frame} {meth : Method} {c : Code} {G : mj_G} {k : Nat} {rec : Int32 → Int32 → mj_S → Option (Int32 × mj_S)} (C : mj_X p s m args meth c G cX10_marksAs 4 RX10) (hr : meth.sig.returnType = some .int) (hlk : meth.locks = false) (hr0 : ∀ (x0 x1 : Int32) (σ : mj_S) (R : (Int32 × mj_S)), rec x0 x1 σ = some R → mj_C G l yX10_marksAs cX10_marksAs 4 (some .int) (103 + k) [.ref (G.2.1 64), .int x0, .int x1] σ (some (.int R.1)) R.2) : ∀ (v2 : Int32) (σ : mj_S) (R : (Int32 × mj_S)), b_X10_marksAs_11 rec v2 σ = some R → mj_W p l e (mj_rm (103 + (k + 1))) s m args below meth c G 0 0 4 (MQ below (mj_Q G (some (.int R.1)) R.2) args s 0 0 G.2.2.2) 11 [(0, .ref (G.2.1 64)), (2, .int v2)] [] σ := by
  intro v2 σ R hF
  unfold b_X10_marksAs_11 at hF
  refine mj_aload_n C dX10_marksAs_11 rfl ?_
  refine mj_bipushV (v := 40) C dX10_marksAs_12 mc_b_40 ?_
  obtain ⟨r2, hq2, hF⟩ := mj_ob hF
  refine mj_callVv C (c_X10_begins σ 40 r2 hq2) yv_X10_begins kl_X10_347 (mo_64 G _) rfl rfl rfl rfl (Nat.le_of_ble_eq_true rfl) (mj_roomR (by decide) (by decide)) ⟨Nat.zero_le _, Nat.zero_le _⟩ dX10_marksAs_14 ?_
  refine mj_aload_n C dX10_marksAs_17 rfl ?_
  refine mj_iconstV (v := 1) C dX10_marksAs_18 mc_i_1 ?_
  refine mj_iload_n C dX10_marksAs_19 rfl ?_
  obtain ⟨r3, hq3, hF⟩ := mj_ob hF
  refine mj_callVi C (hr0 1 v2 r2 r3 hq3) yv_X10_marksAs kl_X10_362 (mo_64 G _) rfl rfl rfl rfl (Nat.le_of_ble_eq_true rfl) (mj_roomK (by decide)) ⟨Nat.zero_le _, Nat.zero_le _⟩ dX10_marksAs_20 ?_
  refine mj_iconstV (v := 3) C dX10_marksAs_23 mc_i_3 ?_
  refine mj_imul C dX10_marksAs_24 ?_
  have hF := mj_oi hF; subst hF
  exact mj_iret C hr hlk dX10_marksAs_25
set_option maxRecDepth 100000 in
set_option maxHeartbeats 4000000 in
theorem w_X10_marksAs_36 {p : Program} {l : Launch} {e : Env} {s : State} {m : MethodId} {args : Array Value} {below : List Frame} {meth : Method} {c : Code} {G : mj_G} {k : Nat} {rec : Int32 → Int32 → mj_S → Option (Int32 × mj_S)} (C : mj_X p s m args meth c G cX10_marksAs 4 RX10) (hr : meth.sig.returnType = some .int) (hlk : meth.locks = false) (hr0 : ∀ (x0 x1 : Int32) (σ : mj_S) (R : (Int32 × mj_S)), rec x0 x1 σ = some R → mj_C G l yX10_marksAs cX10_marksAs 4 (some .int) (103 + k) [.ref (G.2.1 64), .int x0, .int x1] σ (some (.int R.1)) R.2) : ∀ (v2 : Int32) (σ : mj_S) (R : (Int32 × mj_S)), b_X10_marksAs_36 rec v2 σ = some R → mj_W p l e (mj_rm (103 + (k + 1))) s m args below meth c G 0 0 4 (MQ below (mj_Q G (some (.int R.1)) R.2) args s 0 0 G.2.2.2) 36 [(0, .ref (G.2.1 64)), (2, .int v2)] [] σ := by
  intro v2 σ R hF
  unfold b_X10_marksAs_36 at hF
  refine mj_aload_n C dX10_marksAs_36 rfl ?_
  refine mj_bipushV (v := 50) C dX10_marksAs_37 mc_b_50 ?_
  obtain ⟨r6, hq6, hF⟩ := mj_ob hF
  refine mj_callVv C (c_X10_begins σ 50 r6 hq6) yv_X10_begins kl_X10_347 (mo_64 G _) rfl rfl rfl rfl (Nat.le_of_ble_eq_true rfl) (mj_roomR (by decide) (by decide)) ⟨Nat.zero_le _, Nat.zero_le _⟩ dX10_marksAs_39 ?_
  refine mj_aload_n C dX10_marksAs_42 rfl ?_
  refine mj_iconstV (v := 0) C dX10_marksAs_43 mc_i_0 ?_
  refine mj_iload_n C dX10_marksAs_44 rfl ?_
  obtain ⟨r7, hq7, hF⟩ := mj_ob hF
  refine mj_callVi C (hr0 0 v2 r6 r7 hq7) yv_X10_marksAs kl_X10_362 (mo_64 G _) rfl rfl rfl rfl (Nat.le_of_ble_eq_true rfl) (mj_roomK (by decide)) ⟨Nat.zero_le _, Nat.zero_le _⟩ dX10_marksAs_45 ?_
  refine mj_istore_n C dX10_marksAs_48 (by decide) ?_
  refine mj_iload_n C dX10_marksAs_49 rfl ?_
  refine mj_aload_n C dX10_marksAs_50 rfl ?_
  refine mj_aload_n C dX10_marksAs_51 rfl ?_
  refine mg_X10_359 C dX10_marksAs_52 ?_
  refine mj_iconstV (v := 2) C dX10_marksAs_55 mc_i_2 ?_
  obtain ⟨r8, hq8, hF⟩ := mj_ob hF
  refine mj_callVi C (c_X10_growsAs r7.2 (r7.2.1 64 42) 2 r8 hq8) yv_X10_growsAs kl_X10_350 (mo_64 G _) rfl rfl rfl rfl (Nat.le_of_ble_eq_true rfl) (mj_roomR (by decide) (by decide)) ⟨Nat.zero_le _, Nat.zero_le _⟩ dX10_marksAs_56 ?_
  refine mj_isub C dX10_marksAs_59 ?_
  have hF := mj_oi hF; subst hF
  exact mj_iret C hr hlk dX10_marksAs_60
set_option maxRecDepth 100000 in
set_option maxHeartbeats 4000000 in
theorem cF_X10_marksAs {G : mj_G} {l : Launch} {k : Nat} {rec : Int32 → Int32 → mj_S → Option (Int32 × mj_S)} (hr0 : ∀ (x0 x1 : Int32) (σ : mj_S) (R : (Int32 × mj_S)), rec x0 x1 σ = some R → mj_C G l yX10_marksAs cX10_marksAs 4 (some .int) (103 + k) [.ref (G.2.1 64), .int x0, .int x1] σ (some (.int R.1)) R.2) (σ : mj_S) (p1 : Int32) (p2 : Int32) (R : (Int32 × mj_S)) (hF : F_X10_marksAs rec σ p1 p2 = some R) : mj_C G l yX10_marksAs cX10_marksAs 4 (some .int) (103 + (k + 1)) [.ref (G.2.1 64), .int p1, .int p2] σ (some (.int R.1)) R.2 := by
  unfold F_X10_marksAs at hF
  refine mj_of (ls := [(0, .ref (G.2.1 64)), (1, .int p1), (2, .int p2)]) (by decide) (Nat.le_of_ble_eq_true rfl) rfl (fun p e s m args below meth c C hr hlk => ?_)
  refine mj_iload_n C dX10_marksAs_0 rfl ?_
  refine mj_iconstV (v := 3) C dX10_marksAs_1 mc_i_3 ?_
  refine mj_ic_eq C dX10_marksAs_2 rfl hF (fun hc1 hF => ?_) (fun hc1 hF => ?_)
  · refine mj_to ?_ (w_X10_marksAs_11 C hr hlk hr0 p2 σ R hF)
    exact ⟨rfl, rfl, trivial⟩
  · refine mj_iload_n C dX10_marksAs_5 rfl ?_
    refine mj_bipushV (v := 6) C dX10_marksAs_6 mc_b_6 ?_
    refine mj_ic_ne C dX10_marksAs_8 rfl hF (fun hc4 hF => ?_) (fun hc4 hF => ?_)
    · refine mj_iload_n C dX10_marksAs_26 rfl ?_
      refine mj_iconstV (v := 4) C dX10_marksAs_27 mc_i_4 ?_
      refine mj_ic_eq C dX10_marksAs_28 rfl hF (fun hc5 hF => ?_) (fun hc5 hF => ?_)
      · refine mj_to ?_ (w_X10_marksAs_36 C hr hlk hr0 p2 σ R hF)
        exact ⟨rfl, rfl, trivial⟩
      · refine mj_iload_n C dX10_marksAs_31 rfl ?_
        refine mj_iconstV (v := 5) C dX10_marksAs_32 mc_i_5 ?_
        refine mj_ic_ne C dX10_marksAs_33 rfl hF (fun hc9 hF => ?_) (fun hc9 hF => ?_)
        · refine mj_aload_n C dX10_marksAs_61 rfl ?_
          refine mj_bipushV (v := 11) C dX10_marksAs_62 mc_b_11 ?_
          obtain ⟨r10, hq10, hF⟩ := mj_ob hF
          refine mj_callVv C (c_X10_begins σ 11 r10 hq10) yv_X10_begins kl_X10_347 (mo_64 G _) rfl rfl rfl rfl (Nat.le_of_ble_eq_true rfl) (mj_roomR (by decide) (by decide)) ⟨Nat.zero_le _, Nat.zero_le _⟩ dX10_marksAs_64 ?_
          refine mj_iload_n C dX10_marksAs_67 rfl ?_
          refine mj_aload_n C dX10_marksAs_68 rfl ?_
          refine mg_X10_353 C dX10_marksAs_69 ?_
          refine mj_ixor C dX10_marksAs_72 ?_
          have hF := mj_oi hF; subst hF
          exact mj_iret C hr hlk dX10_marksAs_73
        · refine mj_to ?_ (w_X10_marksAs_36 C hr hlk hr0 p2 σ R hF)
          exact ⟨rfl, rfl, trivial⟩
    · refine mj_to ?_ (w_X10_marksAs_11 C hr hlk hr0 p2 σ R hF)
      exact ⟨rfl, rfl, trivial⟩
theorem cr_X10_marksAs {G : mj_G} {l : Launch} : ∀ k : Nat, (∀ (x0 x1 : Int32) (σ : mj_S) (R : (Int32 × mj_S)), rc_X10_marksAs k x0 x1 σ = some R → mj_C G l yX10_marksAs cX10_marksAs 4 (some .int) (103 + k) [.ref (G.2.1 64), .int x0, .int x1] σ (some (.int R.1)) R.2) := by
  intro k
  induction k with
  | zero =>
    intros; rename_i h; cases h
  | succ k ih =>
    exact fun x0 x1 σ R h => cF_X10_marksAs (ih) σ x0 x1 R (by rw [rc_X10_marksAs] at h; exact h)
theorem c_X10_marksAs {G : mj_G} {l : Launch} (σ : mj_S) (p1 : Int32) (p2 : Int32) (R : (Int32 × mj_S)) (hF : f_X10_marksAs σ p1 p2 = some R) : mj_C G l yX10_marksAs cX10_marksAs 4 (some .int) 203 [.ref (G.2.1 64), .int p1, .int p2] σ (some (.int R.1)) R.2 := (cr_X10_marksAs 100) p1 p2 σ R hF
set_option maxRecDepth 100000 in
set_option maxHeartbeats 4000000 in
theorem w_X10_standsAs_11 {p : Program} {l : Launch} {e : Env} {s : State} {m : MethodId} {args : Array Value} {below : List Frame} {meth : Method} {c : Code} {G : mj_G} {k : Nat} {rec : Int32 → Int32 → mj_S → Option (Int32 × mj_S)} (C : mj_X p s m args meth c G cX10_standsAs 4 RX10) (hr : meth.sig.returnType = some .int) (hlk : meth.locks = false) (hr0 : ∀ (x0 x1 : Int32) (σ : mj_S) (R : (Int32 × mj_S)), rec x0 x1 σ = some R → mj_C G l yX10_standsAs cX10_standsAs 4 (some .int) (204 + k) [.ref (G.2.1 64), .int x0, .int x1] σ (some (.int R.1)) R.2) : ∀ (v2 : Int32) (σ : mj_S) (R : (Int32 × mj_S)), b_X10_standsAs_11 rec v2 σ = some R → mj_W p l e (mj_rm (204 + (k + 1))) s m args below meth c G 0 0 4 (MQ below (mj_Q G (some (.int R.1)) R.2) args s 0 0 G.2.2.2) 11 [(0, .ref (G.2.1 64)), (2, .int v2)] [] σ := by
  intro v2 σ R hF
  unfold b_X10_standsAs_11 at hF
  refine mj_aload_n C dX10_standsAs_11 rfl ?_
  refine mj_bipushV (v := 41) C dX10_standsAs_12 mc_b_41 ?_
  obtain ⟨r2, hq2, hF⟩ := mj_ob hF
  refine mj_callVv C (c_X10_begins σ 41 r2 hq2) yv_X10_begins kl_X10_347 (mo_64 G _) rfl rfl rfl rfl (Nat.le_of_ble_eq_true rfl) (mj_roomR (by decide) (by decide)) ⟨Nat.zero_le _, Nat.zero_le _⟩ dX10_standsAs_14 ?_
  refine mj_aload_n C dX10_standsAs_17 rfl ?_
  refine mj_iconstV (v := 1) C dX10_standsAs_18 mc_i_1 ?_
  refine mj_iload_n C dX10_standsAs_19 rfl ?_
  refine mj_iconstV (v := 1) C dX10_standsAs_20 mc_i_1 ?_
  refine mj_iadd C dX10_standsAs_21 ?_
  obtain ⟨r3, hq3, hF⟩ := mj_ob hF
  refine mj_callVi C (hr0 1 (v2 + 1) r2 r3 hq3) yv_X10_standsAs kl_X10_356 (mo_64 G _) rfl rfl rfl rfl (Nat.le_of_ble_eq_true rfl) (mj_roomK (by decide)) ⟨Nat.zero_le _, Nat.zero_le _⟩ dX10_standsAs_22 ?_
  have hF := mj_oi hF; subst hF
  exact mj_iret C hr hlk dX10_standsAs_25
set_option maxRecDepth 100000 in
set_option maxHeartbeats 4000000 in
theorem cF_X10_standsAs {G : mj_G} {l : Launch} {k : Nat} {rec : Int32 → Int32 → mj_S → Option (Int32 × mj_S)} (hr0 : ∀ (x0 x1 : Int32) (σ : mj_S) (R : (Int32 × mj_S)), rec x0 x1 σ = some R → mj_C G l yX10_standsAs cX10_standsAs 4 (some .int) (204 + k) [.ref (G.2.1 64), .int x0, .int x1] σ (some (.int R.1)) R.2) (σ : mj_S) (p1 : Int32) (p2 : Int32) (R : (Int32 × mj_S)) (hF : F_X10_standsAs rec σ p1 p2 = some R) : mj_C G l yX10_standsAs cX10_standsAs 4 (some .int) (204 + (k + 1)) [.ref (G.2.1 64), .int p1, .int p2] σ (some (.int R.1)) R.2 := by
  unfold F_X10_standsAs at hF
  refine mj_of (ls := [(0, .ref (G.2.1 64)), (1, .int p1), (2, .int p2)]) (by decide) (Nat.le_of_ble_eq_true rfl) rfl (fun p e s m args below meth c C hr hlk => ?_)
  refine mj_iload_n C dX10_standsAs_0 rfl ?_
  refine mj_iconstV (v := 3) C dX10_standsAs_1 mc_i_3 ?_
  refine mj_ic_eq C dX10_standsAs_2 rfl hF (fun hc1 hF => ?_) (fun hc1 hF => ?_)
  · refine mj_to ?_ (w_X10_standsAs_11 C hr hlk hr0 p2 σ R hF)
    exact ⟨rfl, rfl, trivial⟩
  · refine mj_iload_n C dX10_standsAs_5 rfl ?_
    refine mj_bipushV (v := 6) C dX10_standsAs_6 mc_b_6 ?_
    refine mj_ic_ne C dX10_standsAs_8 rfl hF (fun hc4 hF => ?_) (fun hc4 hF => ?_)
    · refine mj_iload_n C dX10_standsAs_26 rfl ?_
      refine mj_bipushV (v := 7) C dX10_standsAs_27 mc_b_7 ?_
      refine mj_ic_ne C dX10_standsAs_29 rfl hF (fun hc5 hF => ?_) (fun hc5 hF => ?_)
      · refine mj_iload_n C dX10_standsAs_57 rfl ?_
        refine mj_iconstV (v := 2) C dX10_standsAs_58 mc_i_2 ?_
        refine mj_ic_ne C dX10_standsAs_59 rfl hF (fun hc6 hF => ?_) (fun hc6 hF => ?_)
        · refine mj_aload_n C dX10_standsAs_76 rfl ?_
          refine mj_bipushV (v := 10) C dX10_standsAs_77 mc_b_10 ?_
          obtain ⟨r7, hq7, hF⟩ := mj_ob hF
          refine mj_callVv C (c_X10_begins σ 10 r7 hq7) yv_X10_begins kl_X10_347 (mo_64 G _) rfl rfl rfl rfl (Nat.le_of_ble_eq_true rfl) (mj_roomR (by decide) (by decide)) ⟨Nat.zero_le _, Nat.zero_le _⟩ dX10_standsAs_79 ?_
          refine mj_aload_n C dX10_standsAs_82 rfl ?_
          refine mj_aload_n C dX10_standsAs_83 rfl ?_
          refine mg_X10_359 C dX10_standsAs_84 ?_
          refine mj_iload_n C dX10_standsAs_87 rfl ?_
          obtain ⟨r8, hq8, hF⟩ := mj_ob hF
          refine mj_callVi C (c_X10_growsAs r7 (r7.1 64 42) p2 r8 hq8) yv_X10_growsAs kl_X10_350 (mo_64 G _) rfl rfl rfl rfl (Nat.le_of_ble_eq_true rfl) (mj_roomR (by decide) (by decide)) ⟨Nat.zero_le _, Nat.zero_le _⟩ dX10_standsAs_88 ?_
          refine mj_iconstV (v := 2) C dX10_standsAs_91 mc_i_2 ?_
          refine mj_imul C dX10_standsAs_92 ?_
          have hF := mj_oi hF; subst hF
          exact mj_iret C hr hlk dX10_standsAs_93
        · refine mj_aload_n C dX10_standsAs_62 rfl ?_
          refine mj_bipushV (v := 30) C dX10_standsAs_63 mc_b_30 ?_
          obtain ⟨r9, hq9, hF⟩ := mj_ob hF
          refine mj_callVv C (c_X10_begins σ 30 r9 hq9) yv_X10_begins kl_X10_347 (mo_64 G _) rfl rfl rfl rfl (Nat.le_of_ble_eq_true rfl) (mj_roomR (by decide) (by decide)) ⟨Nat.zero_le _, Nat.zero_le _⟩ dX10_standsAs_65 ?_
          refine mj_aload_n C dX10_standsAs_68 rfl ?_
          refine mj_iconstV (v := 0) C dX10_standsAs_69 mc_i_0 ?_
          refine mj_iload_n C dX10_standsAs_70 rfl ?_
          obtain ⟨r10, hq10, hF⟩ := mj_ob hF
          refine mj_callVi C (hr0 0 p2 r9 r10 hq10) yv_X10_standsAs kl_X10_356 (mo_64 G _) rfl rfl rfl rfl (Nat.le_of_ble_eq_true rfl) (mj_roomK (by decide)) ⟨Nat.zero_le _, Nat.zero_le _⟩ dX10_standsAs_71 ?_
          refine mj_ineg C dX10_standsAs_74 ?_
          have hF := mj_oi hF; subst hF
          exact mj_iret C hr hlk dX10_standsAs_75
      · refine mj_aload_n C dX10_standsAs_32 rfl ?_
        refine mj_bipushV (v := 80) C dX10_standsAs_33 mc_b_80 ?_
        obtain ⟨r11, hq11, hF⟩ := mj_ob hF
        refine mj_callVv C (c_X10_begins σ 80 r11 hq11) yv_X10_begins kl_X10_347 (mo_64 G _) rfl rfl rfl rfl (Nat.le_of_ble_eq_true rfl) (mj_roomR (by decide) (by decide)) ⟨Nat.zero_le _, Nat.zero_le _⟩ dX10_standsAs_35 ?_
        refine mj_aload_n C dX10_standsAs_38 rfl ?_
        refine mj_iconstV (v := 2) C dX10_standsAs_39 mc_i_2 ?_
        refine mj_iload_n C dX10_standsAs_40 rfl ?_
        obtain ⟨r12, hq12, hF⟩ := mj_ob hF
        refine mj_callVi C (hr0 2 p2 r11 r12 hq12) yv_X10_standsAs kl_X10_356 (mo_64 G _) rfl rfl rfl rfl (Nat.le_of_ble_eq_true rfl) (mj_roomK (by decide)) ⟨Nat.zero_le _, Nat.zero_le _⟩ dX10_standsAs_41 ?_
        refine mj_istore_n C dX10_standsAs_44 (by decide) ?_
        refine mj_iload_n C dX10_standsAs_45 rfl ?_
        refine mj_aload_n C dX10_standsAs_46 rfl ?_
        refine mj_aload_n C dX10_standsAs_47 rfl ?_
        refine mg_X10_359 C dX10_standsAs_48 ?_
        refine mj_iconstV (v := 2) C dX10_standsAs_51 mc_i_2 ?_
        obtain ⟨r13, hq13, hF⟩ := mj_ob hF
        refine mj_callVi C (c_X10_marksAs r12.2 (r12.2.1 64 42) 2 r13 hq13) yv_X10_marksAs kl_X10_362 (mo_64 G _) rfl rfl rfl rfl (Nat.le_of_ble_eq_true rfl) (mj_roomR (by decide) (by decide)) ⟨Nat.zero_le _, Nat.zero_le _⟩ dX10_standsAs_52 ?_
        refine mj_iadd C dX10_standsAs_55 ?_
        have hF := mj_oi hF; subst hF
        exact mj_iret C hr hlk dX10_standsAs_56
    · refine mj_to ?_ (w_X10_standsAs_11 C hr hlk hr0 p2 σ R hF)
      exact ⟨rfl, rfl, trivial⟩
theorem cr_X10_standsAs {G : mj_G} {l : Launch} : ∀ k : Nat, (∀ (x0 x1 : Int32) (σ : mj_S) (R : (Int32 × mj_S)), rc_X10_standsAs k x0 x1 σ = some R → mj_C G l yX10_standsAs cX10_standsAs 4 (some .int) (204 + k) [.ref (G.2.1 64), .int x0, .int x1] σ (some (.int R.1)) R.2) := by
  intro k
  induction k with
  | zero =>
    intros; rename_i h; cases h
  | succ k ih =>
    exact fun x0 x1 σ R h => cF_X10_standsAs (ih) σ x0 x1 R (by rw [rc_X10_standsAs] at h; exact h)
theorem c_X10_standsAs {G : mj_G} {l : Launch} (σ : mj_S) (p1 : Int32) (p2 : Int32) (R : (Int32 × mj_S)) (hF : f_X10_standsAs σ p1 p2 = some R) : mj_C G l yX10_standsAs cX10_standsAs 4 (some .int) 304 [.ref (G.2.1 64), .int p1, .int p2] σ (some (.int R.1)) R.2 := (cr_X10_standsAs 100) p1 p2 σ R hF
set_option maxRecDepth 100000 in
set_option maxHeartbeats 4000000 in
theorem cF_X10_tellsAs {G : mj_G} {l : Launch} {k : Nat} {rec : Int32 → Int32 → mj_S → Option (Int32 × mj_S)} (hr0 : ∀ (x0 x1 : Int32) (σ : mj_S) (R : (Int32 × mj_S)), rec x0 x1 σ = some R → mj_C G l yX10_tellsAs cX10_tellsAs 4 (some .int) (305 + k) [.ref (G.2.1 64), .int x0, .int x1] σ (some (.int R.1)) R.2) (σ : mj_S) (p1 : Int32) (p2 : Int32) (R : (Int32 × mj_S)) (hF : F_X10_tellsAs rec σ p1 p2 = some R) : mj_C G l yX10_tellsAs cX10_tellsAs 4 (some .int) (305 + (k + 1)) [.ref (G.2.1 64), .int p1, .int p2] σ (some (.int R.1)) R.2 := by
  unfold F_X10_tellsAs at hF
  refine mj_of (ls := [(0, .ref (G.2.1 64)), (1, .int p1), (2, .int p2)]) (by decide) (Nat.le_of_ble_eq_true rfl) rfl (fun p e s m args below meth c C hr hlk => ?_)
  refine mj_iload_n C dX10_tellsAs_0 rfl ?_
  refine mj_iconstV (v := 5) C dX10_tellsAs_1 mc_i_5 ?_
  refine mj_ic_ne C dX10_tellsAs_2 rfl hF (fun hc1 hF => ?_) (fun hc1 hF => ?_)
  · refine mj_iload_n C dX10_tellsAs_20 rfl ?_
    refine mj_bipushV (v := 7) C dX10_tellsAs_21 mc_b_7 ?_
    refine mj_ic_ne C dX10_tellsAs_23 rfl hF (fun hc2 hF => ?_) (fun hc2 hF => ?_)
    · refine mj_aload_n C dX10_tellsAs_41 rfl ?_
      refine mj_iconstV (v := 2) C dX10_tellsAs_42 mc_i_2 ?_
      obtain ⟨r3, hq3, hF⟩ := mj_ob hF
      refine mj_callVv C (c_X10_begins σ 2 r3 hq3) yv_X10_begins kl_X10_347 (mo_64 G _) rfl rfl rfl rfl (Nat.le_of_ble_eq_true rfl) (mj_roomR (by decide) (by decide)) ⟨Nat.zero_le _, Nat.zero_le _⟩ dX10_tellsAs_43 ?_
      refine mj_aload_n C dX10_tellsAs_46 rfl ?_
      refine mj_aload_n C dX10_tellsAs_47 rfl ?_
      refine mg_X10_359 C dX10_tellsAs_48 ?_
      refine mj_iload_n C dX10_tellsAs_51 rfl ?_
      obtain ⟨r4, hq4, hF⟩ := mj_ob hF
      refine mj_callVi C (c_X10_standsAs r3 (r3.1 64 42) p2 r4 hq4) yv_X10_standsAs kl_X10_356 (mo_64 G _) rfl rfl rfl rfl (Nat.le_of_ble_eq_true rfl) (mj_roomR (by decide) (by decide)) ⟨Nat.zero_le _, Nat.zero_le _⟩ dX10_tellsAs_52 ?_
      refine mj_istore_n C dX10_tellsAs_55 (by decide) ?_
      refine mj_iload_n C dX10_tellsAs_56 rfl ?_
      refine mj_aload_n C dX10_tellsAs_57 rfl ?_
      refine mj_aload_n C dX10_tellsAs_58 rfl ?_
      refine mg_X10_359 C dX10_tellsAs_59 ?_
      refine mj_iconstV (v := 1) C dX10_tellsAs_62 mc_i_1 ?_
      obtain ⟨r5, hq5, hF⟩ := mj_ob hF
      refine mj_callVi C (c_X10_marksAs r4.2 (r4.2.1 64 42) 1 r5 hq5) yv_X10_marksAs kl_X10_362 (mo_64 G _) rfl rfl rfl rfl (Nat.le_of_ble_eq_true rfl) (mj_roomR (by decide) (by decide)) ⟨Nat.zero_le _, Nat.zero_le _⟩ dX10_tellsAs_63 ?_
      refine mj_isub C dX10_tellsAs_66 ?_
      have hF := mj_oi hF; subst hF
      exact mj_iret C hr hlk dX10_tellsAs_67
    · refine mj_aload_n C dX10_tellsAs_26 rfl ?_
      refine mj_bipushV (v := 81) C dX10_tellsAs_27 mc_b_81 ?_
      obtain ⟨r6, hq6, hF⟩ := mj_ob hF
      refine mj_callVv C (c_X10_begins σ 81 r6 hq6) yv_X10_begins kl_X10_347 (mo_64 G _) rfl rfl rfl rfl (Nat.le_of_ble_eq_true rfl) (mj_roomR (by decide) (by decide)) ⟨Nat.zero_le _, Nat.zero_le _⟩ dX10_tellsAs_29 ?_
      refine mj_aload_n C dX10_tellsAs_32 rfl ?_
      refine mj_iconstV (v := 2) C dX10_tellsAs_33 mc_i_2 ?_
      refine mj_iload_n C dX10_tellsAs_34 rfl ?_
      obtain ⟨r7, hq7, hF⟩ := mj_ob hF
      refine mj_callVi C (hr0 2 p2 r6 r7 hq7) yv_X10_tellsAs kl_X10_365 (mo_64 G _) rfl rfl rfl rfl (Nat.le_of_ble_eq_true rfl) (mj_roomK (by decide)) ⟨Nat.zero_le _, Nat.zero_le _⟩ dX10_tellsAs_35 ?_
      refine mj_iconstV (v := 1) C dX10_tellsAs_38 mc_i_1 ?_
      refine mj_isub C dX10_tellsAs_39 ?_
      have hF := mj_oi hF; subst hF
      exact mj_iret C hr hlk dX10_tellsAs_40
  · refine mj_aload_n C dX10_tellsAs_5 rfl ?_
    refine mj_bipushV (v := 60) C dX10_tellsAs_6 mc_b_60 ?_
    obtain ⟨r8, hq8, hF⟩ := mj_ob hF
    refine mj_callVv C (c_X10_begins σ 60 r8 hq8) yv_X10_begins kl_X10_347 (mo_64 G _) rfl rfl rfl rfl (Nat.le_of_ble_eq_true rfl) (mj_roomR (by decide) (by decide)) ⟨Nat.zero_le _, Nat.zero_le _⟩ dX10_tellsAs_8 ?_
    refine mj_aload_n C dX10_tellsAs_11 rfl ?_
    refine mj_iconstV (v := 4) C dX10_tellsAs_12 mc_i_4 ?_
    refine mj_iload_n C dX10_tellsAs_13 rfl ?_
    obtain ⟨r9, hq9, hF⟩ := mj_ob hF
    refine mj_callVi C (hr0 4 p2 r8 r9 hq9) yv_X10_tellsAs kl_X10_365 (mo_64 G _) rfl rfl rfl rfl (Nat.le_of_ble_eq_true rfl) (mj_roomK (by decide)) ⟨Nat.zero_le _, Nat.zero_le _⟩ dX10_tellsAs_14 ?_
    refine mj_iconstV (v := 5) C dX10_tellsAs_17 mc_i_5 ?_
    refine mj_ixor C dX10_tellsAs_18 ?_
    have hF := mj_oi hF; subst hF
    exact mj_iret C hr hlk dX10_tellsAs_19
theorem cr_X10_tellsAs {G : mj_G} {l : Launch} : ∀ k : Nat, (∀ (x0 x1 : Int32) (σ : mj_S) (R : (Int32 × mj_S)), rc_X10_tellsAs k x0 x1 σ = some R → mj_C G l yX10_tellsAs cX10_tellsAs 4 (some .int) (305 + k) [.ref (G.2.1 64), .int x0, .int x1] σ (some (.int R.1)) R.2) := by
  intro k
  induction k with
  | zero =>
    intros; rename_i h; cases h
  | succ k ih =>
    exact fun x0 x1 σ R h => cF_X10_tellsAs (ih) σ x0 x1 R (by rw [rc_X10_tellsAs] at h; exact h)
theorem c_X10_tellsAs {G : mj_G} {l : Launch} (σ : mj_S) (p1 : Int32) (p2 : Int32) (R : (Int32 × mj_S)) (hF : f_X10_tellsAs σ p1 p2 = some R) : mj_C G l yX10_tellsAs cX10_tellsAs 4 (some .int) 405 [.ref (G.2.1 64), .int p1, .int p2] σ (some (.int R.1)) R.2 := (cr_X10_tellsAs 100) p1 p2 σ R hF
set_option maxRecDepth 100000 in
set_option maxHeartbeats 4000000 in
theorem c_X10_act {G : mj_G} {l : Launch} (σ : mj_S) (p1 : Int32) (p2 : Int32) (p3 : Int32) (R : (Int32 × mj_S)) (hF : f_X10_act σ p1 p2 p3 = some R) : mj_C G l yX10_act cX10_act 4 (some .int) 406 [.ref (G.2.1 64), .int p1, .int p2, .int p3] σ (some (.int R.1)) R.2 := by
  unfold f_X10_act at hF
  refine mj_of (ls := [(0, .ref (G.2.1 64)), (1, .int p1), (2, .int p2), (3, .int p3)]) (by decide) (Nat.le_of_ble_eq_true rfl) rfl (fun p e s m args below meth c C hr hlk => ?_)
  refine mj_aload_n C dX10_act_0 rfl ?_
  refine mj_iconstV (v := 0) C dX10_act_1 mc_i_0 ?_
  refine mp_X10_344 C dX10_act_2 ?_
  refine mj_aload_n C dX10_act_5 rfl ?_
  refine mj_iload_n C dX10_act_6 rfl ?_
  refine mj_callVi C (c_X10_isBody (mj_sI σ 64 41 0) p1) yv_X10_isBody kl_X10_368 (mo_64 G _) rfl rfl rfl rfl (Nat.le_of_ble_eq_true rfl) (mj_roomC (by decide) (by decide)) ⟨Nat.zero_le _, Nat.zero_le _⟩ dX10_act_7 ?_
  refine mj_if_ne C dX10_act_10 rfl hF (fun hc1 hF => ?_) (fun hc1 hF => ?_)
  · refine mj_aload_n C dX10_act_15 rfl ?_
    refine mj_aload_n C dX10_act_16 rfl ?_
    refine mg_X10_71 C dX10_act_17 ?_
    refine mj_iload_n C dX10_act_20 rfl ?_
    obtain ⟨hg2, hF⟩ := mj_og hF
    refine mj_iaload C dX10_act_21 rfl hg2 ?_
    refine mp_X10_359 C dX10_act_22 ?_
    refine mj_aload_n C dX10_act_25 rfl ?_
    refine mj_iload_n C dX10_act_26 rfl ?_
    refine mp_X10_353 C dX10_act_27 ?_
    refine mj_iload_n C dX10_act_30 rfl ?_
    by_cases hw3_0 : p2 = 0
    · rw [if_pos hw3_0] at hF
      refine mj_tsIn (off := 29) C dX10_act_31 (by rw [hw3_0]; decide) (by rw [hw3_0]; decide) (by rw [hw3_0]; rfl) rfl ?_
      refine mj_aload_n C dX10_act_60 rfl ?_
      refine mj_aload_n C dX10_act_61 rfl ?_
      refine mg_X10_359 C dX10_act_62 ?_
      refine mj_iload_n C dX10_act_65 rfl ?_
      obtain ⟨r4, hq4, hF⟩ := mj_ob hF
      refine mj_callVi C (c_X10_growsAs (mj_sI (mj_sI (mj_sI σ 64 41 0) 64 42 (σ.1 85 p1.toNatClampNeg)) 64 43 p1) (σ.1 85 p1.toNatClampNeg) p3 r4 hq4) yv_X10_growsAs kl_X10_350 (mo_64 G _) rfl rfl rfl rfl (Nat.le_of_ble_eq_true rfl) (mj_roomC (by decide) (by decide)) ⟨Nat.zero_le _, Nat.zero_le _⟩ dX10_act_66 ?_
      have hF := mj_oi hF; subst hF
      exact mj_iret C hr hlk dX10_act_69
    rw [if_neg hw3_0] at hF
    by_cases hw3_1 : p2 = 1
    · rw [if_pos hw3_1] at hF
      refine mj_tsIn (off := 39) C dX10_act_31 (by rw [hw3_1]; decide) (by rw [hw3_1]; decide) (by rw [hw3_1]; rfl) rfl ?_
      refine mj_aload_n C dX10_act_70 rfl ?_
      refine mj_aload_n C dX10_act_71 rfl ?_
      refine mg_X10_359 C dX10_act_72 ?_
      refine mj_iload_n C dX10_act_75 rfl ?_
      obtain ⟨r5, hq5, hF⟩ := mj_ob hF
      refine mj_callVi C (c_X10_standsAs (mj_sI (mj_sI (mj_sI σ 64 41 0) 64 42 (σ.1 85 p1.toNatClampNeg)) 64 43 p1) (σ.1 85 p1.toNatClampNeg) p3 r5 hq5) yv_X10_standsAs kl_X10_356 (mo_64 G _) rfl rfl rfl rfl (Nat.le_of_ble_eq_true rfl) (mj_roomC (by decide) (by decide)) ⟨Nat.zero_le _, Nat.zero_le _⟩ dX10_act_76 ?_
      have hF := mj_oi hF; subst hF
      exact mj_iret C hr hlk dX10_act_79
    rw [if_neg hw3_1] at hF
    by_cases hw3_2 : p2 = 2
    · rw [if_pos hw3_2] at hF
      refine mj_tsIn (off := 49) C dX10_act_31 (by rw [hw3_2]; decide) (by rw [hw3_2]; decide) (by rw [hw3_2]; rfl) rfl ?_
      refine mj_aload_n C dX10_act_80 rfl ?_
      refine mj_aload_n C dX10_act_81 rfl ?_
      refine mg_X10_359 C dX10_act_82 ?_
      refine mj_iload_n C dX10_act_85 rfl ?_
      obtain ⟨r6, hq6, hF⟩ := mj_ob hF
      refine mj_callVi C (c_X10_marksAs (mj_sI (mj_sI (mj_sI σ 64 41 0) 64 42 (σ.1 85 p1.toNatClampNeg)) 64 43 p1) (σ.1 85 p1.toNatClampNeg) p3 r6 hq6) yv_X10_marksAs kl_X10_362 (mo_64 G _) rfl rfl rfl rfl (Nat.le_of_ble_eq_true rfl) (mj_roomC (by decide) (by decide)) ⟨Nat.zero_le _, Nat.zero_le _⟩ dX10_act_86 ?_
      have hF := mj_oi hF; subst hF
      exact mj_iret C hr hlk dX10_act_89
    rw [if_neg hw3_2] at hF
    by_cases hw3_3 : p2 = 3
    · rw [if_pos hw3_3] at hF
      refine mj_tsIn (off := 59) C dX10_act_31 (by rw [hw3_3]; decide) (by rw [hw3_3]; decide) (by rw [hw3_3]; rfl) rfl ?_
      refine mj_aload_n C dX10_act_90 rfl ?_
      refine mj_aload_n C dX10_act_91 rfl ?_
      refine mg_X10_359 C dX10_act_92 ?_
      refine mj_iload_n C dX10_act_95 rfl ?_
      obtain ⟨r7, hq7, hF⟩ := mj_ob hF
      refine mj_callVi C (c_X10_tellsAs (mj_sI (mj_sI (mj_sI σ 64 41 0) 64 42 (σ.1 85 p1.toNatClampNeg)) 64 43 p1) (σ.1 85 p1.toNatClampNeg) p3 r7 hq7) yv_X10_tellsAs kl_X10_365 (mo_64 G _) rfl rfl rfl rfl (Nat.le_of_ble_eq_true rfl) (mj_roomC (by decide) (by decide)) ⟨Nat.zero_le _, Nat.zero_le _⟩ dX10_act_96 ?_
      have hF := mj_oi hF; subst hF
      exact mj_iret C hr hlk dX10_act_99
    rw [if_neg hw3_3] at hF
    refine mj_tsOut C dX10_act_31 (mj_sw_0_4 hw3_0 hw3_1 hw3_2 hw3_3) rfl ?_
    refine mj_iconstV (v := 0) C dX10_act_100 mc_i_0 ?_
    have hF := mj_oi hF; subst hF
    exact mj_iret C hr hlk dX10_act_101
  · refine mj_iconstV (v := 0) C dX10_act_13 mc_i_0 ?_
    have hF := mj_oi hF; subst hF
    exact mj_iret C hr hlk dX10_act_14
set_option maxRecDepth 100000 in
set_option maxHeartbeats 4000000 in
theorem c_X10_trace {G : mj_G} {l : Launch} (σ : mj_S) (p1 : Int32) (R : Int32) (hF : f_X10_trace σ p1 = some R) : mj_C G l yX10_trace cX10_trace 2 (some .int) 1 [.ref (G.2.1 64), .int p1] σ (some (.int R)) σ := by
  unfold f_X10_trace at hF
  refine mj_of (ls := [(0, .ref (G.2.1 64)), (1, .int p1)]) (by decide) (Nat.le_of_ble_eq_true rfl) rfl (fun p e s m args below meth c C hr hlk => ?_)
  refine mj_iload_n C dX10_trace_0 rfl ?_
  refine mj_if_lt C dX10_trace_1 rfl hF (fun hc1 hF => ?_) (fun hc1 hF => ?_)
  · refine mj_iconstV (v := (-1)) C dX10_trace_27 mc_i_m1 ?_
    have hF := mj_oi hF; subst hF
    exact mj_iret C hr hlk dX10_trace_28
  · refine mj_iload_n C dX10_trace_4 rfl ?_
    refine mj_aload_n C dX10_trace_5 rfl ?_
    refine mg_X10_344 C dX10_trace_6 ?_
    refine mj_ic_ge C dX10_trace_9 rfl hF (fun hc2 hF => ?_) (fun hc2 hF => ?_)
    · refine mj_iconstV (v := (-1)) C dX10_trace_27 mc_i_m1 ?_
      have hF := mj_oi hF; subst hF
      exact mj_iret C hr hlk dX10_trace_28
    · refine mj_iload_n C dX10_trace_12 rfl ?_
      refine mj_bipushV (v := 24) C dX10_trace_13 mc_b_24 ?_
      refine mj_ic_ge C dX10_trace_15 rfl hF (fun hc3 hF => ?_) (fun hc3 hF => ?_)
      · refine mj_iconstV (v := (-1)) C dX10_trace_27 mc_i_m1 ?_
        have hF := mj_oi hF; subst hF
        exact mj_iret C hr hlk dX10_trace_28
      · refine mj_aload_n C dX10_trace_18 rfl ?_
        refine mg_X10_74 C dX10_trace_19 ?_
        refine mj_iload_n C dX10_trace_22 rfl ?_
        obtain ⟨hg4, hF⟩ := mj_og hF
        refine mj_iaload C dX10_trace_23 rfl hg4 ?_
        refine mj_goto C dX10_trace_24 rfl ?_
        have hF := mj_oi hF; subst hF
        exact mj_iret C hr hlk dX10_trace_28
set_option maxRecDepth 100000 in
set_option maxHeartbeats 4000000 in
theorem w_X10_keep_22 {p : Program} {l : Launch} {e : Env} {s : State} {m : MethodId} {args : Array Value} {below : List Frame} {meth : Method} {c : Code} {G : mj_G} (C : mj_X p s m args meth c G cX10_keep 3 RX10) (hr : meth.sig.returnType = some .int) (hlk : meth.locks = false) : ∀ (v1 : Int32) (v2 : Int32) (σ : mj_S) (R : (Int32 × mj_S)), b_X10_keep_22 v1 v2 σ = some R → mj_W p l e (mj_rm 3) s m args below meth c G 0 0 3 (MQ below (mj_Q G (some (.int R.1)) R.2) args s 0 0 G.2.2.2) 22 [(0, .ref (G.2.1 64)), (1, .int v1), (2, .int v2)] [] σ := by
  intro v1 v2 σ R hF
  unfold b_X10_keep_22 at hF
  refine mj_aload_n C dX10_keep_22 rfl ?_
  refine mg_X10_77 C dX10_keep_23 ?_
  refine mj_iload_n C dX10_keep_26 rfl ?_
  refine mj_iload_n C dX10_keep_27 rfl ?_
  obtain ⟨hg3, hF⟩ := mj_og hF
  refine mj_iastore C dX10_keep_28 rfl hg3 ?_
  refine mj_aload_n C dX10_keep_29 rfl ?_
  refine mg_X10_80 C dX10_keep_30 ?_
  refine mj_iload_n C dX10_keep_33 rfl ?_
  refine mj_iconstV (v := 0) C dX10_keep_34 mc_i_0 ?_
  obtain ⟨hg4, hF⟩ := mj_og hF
  refine mj_iastore C dX10_keep_35 rfl hg4 ?_
  refine mj_iconstV (v := 1) C dX10_keep_36 mc_i_1 ?_
  have hF := mj_oi hF; subst hF
  exact mj_iret C hr hlk dX10_keep_37
set_option maxRecDepth 100000 in
set_option maxHeartbeats 4000000 in
theorem c_X10_keep {G : mj_G} {l : Launch} (σ : mj_S) (p1 : Int32) (p2 : Int32) (R : (Int32 × mj_S)) (hF : f_X10_keep σ p1 p2 = some R) : mj_C G l yX10_keep cX10_keep 3 (some .int) 3 [.ref (G.2.1 64), .int p1, .int p2] σ (some (.int R.1)) R.2 := by
  unfold f_X10_keep at hF
  refine mj_of (ls := [(0, .ref (G.2.1 64)), (1, .int p1), (2, .int p2)]) (by decide) (Nat.le_of_ble_eq_true rfl) rfl (fun p e s m args below meth c C hr hlk => ?_)
  refine mj_iload_n C dX10_keep_0 rfl ?_
  refine mj_callSi C (c_X10_isShelf σ p1) ys_X10_isShelf kl_X10_245 rfl rfl (Nat.le_of_ble_eq_true rfl) (mj_roomC (by decide) (by decide)) ⟨Nat.zero_le _, Nat.zero_le _⟩ dX10_keep_1 ?_
  refine mj_if_eq C dX10_keep_4 rfl hF (fun hc1 hF => ?_) (fun hc1 hF => ?_)
  · refine mj_iconstV (v := (-1)) C dX10_keep_20 mc_i_m1 ?_
    have hF := mj_oi hF; subst hF
    exact mj_iret C hr hlk dX10_keep_21
  · refine mj_iload_n C dX10_keep_7 rfl ?_
    refine mj_iconstV (v := (-1)) C dX10_keep_8 mc_i_m1 ?_
    refine mj_ic_eq C dX10_keep_9 rfl hF (fun hc2 hF => ?_) (fun hc2 hF => ?_)
    · refine mj_to ?_ (w_X10_keep_22 C hr hlk p1 p2 σ R hF)
      exact ⟨rfl, rfl, rfl, trivial⟩
    · refine mj_aload_n C dX10_keep_12 rfl ?_
      refine mj_iload_n C dX10_keep_13 rfl ?_
      refine mj_callVi C (c_X10_isBody σ p2) yv_X10_isBody kl_X10_368 (mo_64 G _) rfl rfl rfl rfl (Nat.le_of_ble_eq_true rfl) (mj_roomC (by decide) (by decide)) ⟨Nat.zero_le _, Nat.zero_le _⟩ dX10_keep_14 ?_
      refine mj_if_ne C dX10_keep_17 rfl hF (fun hc5 hF => ?_) (fun hc5 hF => ?_)
      · refine mj_to ?_ (w_X10_keep_22 C hr hlk p1 p2 σ R hF)
        exact ⟨rfl, rfl, rfl, trivial⟩
      · refine mj_iconstV (v := (-1)) C dX10_keep_20 mc_i_m1 ?_
        have hF := mj_oi hF; subst hF
        exact mj_iret C hr hlk dX10_keep_21
set_option maxRecDepth 100000 in
set_option maxHeartbeats 4000000 in
theorem w_X10_row_57 {p : Program} {l : Launch} {e : Env} {s : State} {m : MethodId} {args : Array Value} {below : List Frame} {meth : Method} {c : Code} {G : mj_G} (C : mj_X p s m args meth c G cX10_row 5 RX10) (hr : meth.sig.returnType = some .int) (hlk : meth.locks = false) : ∀ (n : Nat) (v1 : Int32) (v4 : Int32) (σ : mj_S) (R : (Int32 × mj_S)), b_X10_row_57 n v1 v4 σ = some R → mj_W p l e (mj_rm 3) s m args below meth c G 0 0 5 (MQ below (mj_Q G (some (.int R.1)) R.2) args s 0 0 G.2.2.2) 57 [(0, .ref (G.2.1 64)), (1, .int v1), (4, .int v4)] [] σ := by
  intro n
  induction n with
  | zero =>
    intro v1 v4 σ R hF
    cases hF
  | succ n ih =>
    intro v1 v4 σ R hF
    rw [b_X10_row_57] at hF
    refine mj_iload C dX10_row_57 rfl ?_
    refine mj_bipushV (v := 60) C dX10_row_59 mc_b_60 ?_
    refine mj_iload_n C dX10_row_61 rfl ?_
    refine mj_imul C dX10_row_62 ?_
    refine mj_bipushV (v := 60) C dX10_row_63 mc_b_60 ?_
    refine mj_iadd C dX10_row_65 ?_
    refine mj_ic_ge C dX10_row_66 rfl hF (fun hc7 hF => ?_) (fun hc7 hF => ?_)
    · refine mj_iconstV (v := 1) C dX10_row_83 mc_i_1 ?_
      have hF := mj_oi hF; subst hF
      exact mj_iret C hr hlk dX10_row_84
    · refine mj_aload_n C dX10_row_69 rfl ?_
      refine mg_X10_83 C dX10_row_70 ?_
      refine mj_iload C dX10_row_73 rfl ?_
      refine mj_lconstV (v := 0) C dX10_row_75 mc_l_0 ?_
      obtain ⟨hg8, hF⟩ := mj_og hF
      refine mj_lastore C dX10_row_76 rfl hg8 ?_
      refine mj_iinc (v := v4 + 1) C dX10_row_77 rfl rfl (by decide) ?_
      refine mj_goto C dX10_row_80 rfl ?_
      refine mj_to ?_ (ih v1 (v4 + 1) (mj_sL σ 89 v4.toNatClampNeg 0) R hF)
      exact ⟨rfl, rfl, rfl, trivial⟩
set_option maxRecDepth 100000 in
set_option maxHeartbeats 4000000 in
theorem c_X10_row {G : mj_G} {l : Launch} (σ : mj_S) (p1 : Int32) (p2 : Int32) (p3 : Int32) (R : (Int32 × mj_S)) (hF : f_X10_row σ p1 p2 p3 = some R) : mj_C G l yX10_row cX10_row 5 (some .int) 3 [.ref (G.2.1 64), .int p1, .int p2, .int p3] σ (some (.int R.1)) R.2 := by
  unfold f_X10_row at hF
  refine mj_of (ls := [(0, .ref (G.2.1 64)), (1, .int p1), (2, .int p2), (3, .int p3)]) (by decide) (Nat.le_of_ble_eq_true rfl) rfl (fun p e s m args below meth c C hr hlk => ?_)
  refine mj_iload_n C dX10_row_0 rfl ?_
  refine mj_callSi C (c_X10_isShelf σ p1) ys_X10_isShelf kl_X10_245 rfl rfl (Nat.le_of_ble_eq_true rfl) (mj_roomC (by decide) (by decide)) ⟨Nat.zero_le _, Nat.zero_le _⟩ dX10_row_1 ?_
  refine mj_if_eq C dX10_row_4 rfl hF (fun hc1 hF => ?_) (fun hc1 hF => ?_)
  · refine mj_iconstV (v := (-1)) C dX10_row_25 mc_i_m1 ?_
    have hF := mj_oi hF; subst hF
    exact mj_iret C hr hlk dX10_row_26
  · refine mj_iload_n C dX10_row_7 rfl ?_
    refine mj_i2l C dX10_row_8 ?_
    refine mj_lconstV (v := 0) C dX10_row_9 mc_l_0 ?_
    refine mj_ldc2 C dX10_row_10 kc_X10_235 ?_
    refine mj_callSi C (c_X10_within σ p2.toInt64 0 4) ys_X10_within kl_X10_110 rfl rfl (Nat.le_of_ble_eq_true rfl) (mj_roomC (by decide) (by decide)) ⟨Nat.zero_le _, Nat.zero_le _⟩ dX10_row_13 ?_
    refine mj_if_eq C dX10_row_16 rfl hF (fun hc2 hF => ?_) (fun hc2 hF => ?_)
    · refine mj_iconstV (v := (-1)) C dX10_row_25 mc_i_m1 ?_
      have hF := mj_oi hF; subst hF
      exact mj_iret C hr hlk dX10_row_26
    · refine mj_iload_n C dX10_row_19 rfl ?_
      refine mj_bipushV (v := 60) C dX10_row_20 mc_b_60 ?_
      refine mj_ic_le C dX10_row_22 rfl hF (fun hc3 hF => ?_) (fun hc3 hF => ?_)
      · refine mj_iload_n C dX10_row_27 rfl ?_
        refine mj_if_ge C dX10_row_28 rfl hF (fun hc4 hF => ?_) (fun hc4 hF => ?_)
        · refine mj_aload_n C dX10_row_34 rfl ?_
          refine mg_X10_77 C dX10_row_35 ?_
          refine mj_iload_n C dX10_row_38 rfl ?_
          refine mj_bipushV (v := 50) C dX10_row_39 mc_b_50 ?_
          refine mj_iload_n C dX10_row_41 rfl ?_
          refine mj_iadd C dX10_row_42 ?_
          obtain ⟨hg5, hF⟩ := mj_og hF
          refine mj_iastore C dX10_row_43 rfl hg5 ?_
          refine mj_aload_n C dX10_row_44 rfl ?_
          refine mg_X10_80 C dX10_row_45 ?_
          refine mj_iload_n C dX10_row_48 rfl ?_
          refine mj_iload_n C dX10_row_49 rfl ?_
          obtain ⟨hg6, hF⟩ := mj_og hF
          refine mj_iastore C dX10_row_50 rfl hg6 ?_
          refine mj_bipushV (v := 60) C dX10_row_51 mc_b_60 ?_
          refine mj_iload_n C dX10_row_53 rfl ?_
          refine mj_imul C dX10_row_54 ?_
          refine mj_istore C dX10_row_55 (by decide) ?_
          refine mj_to ?_ (w_X10_row_57 C hr hlk mj_fu p1 (60 * p1) (mj_sI (mj_sI σ 87 p1.toNatClampNeg (50 + p2)) 88 p1.toNatClampNeg p3) R hF)
          exact ⟨rfl, rfl, rfl, trivial⟩
        · refine mj_bipushV (v := (-14)) C dX10_row_31 mc_b_m14 ?_
          have hF := mj_oi hF; subst hF
          exact mj_iret C hr hlk dX10_row_33
      · refine mj_iconstV (v := (-1)) C dX10_row_25 mc_i_m1 ?_
        have hF := mj_oi hF; subst hF
        exact mj_iret C hr hlk dX10_row_26
set_option maxRecDepth 100000 in
set_option maxHeartbeats 4000000 in
theorem c_X10_refusal {G : mj_G} {l : Launch} (σ : mj_S) (p1 : Int32) (p2 : Int32) (R : Int32) (hF : f_X10_refusal σ p1 p2 = some R) : mj_C G l yX10_refusal cX10_refusal 3 (some .int) 3 [.ref (G.2.1 64), .int p1, .int p2] σ (some (.int R)) σ := by
  unfold f_X10_refusal at hF
  refine mj_of (ls := [(0, .ref (G.2.1 64)), (1, .int p1), (2, .int p2)]) (by decide) (Nat.le_of_ble_eq_true rfl) rfl (fun p e s m args below meth c C hr hlk => ?_)
  refine mj_iload_n C dX10_refusal_0 rfl ?_
  refine mj_callSi C (c_X10_isShelf σ p1) ys_X10_isShelf kl_X10_245 rfl rfl (Nat.le_of_ble_eq_true rfl) (mj_roomC (by decide) (by decide)) ⟨Nat.zero_le _, Nat.zero_le _⟩ dX10_refusal_1 ?_
  refine mj_if_ne C dX10_refusal_4 rfl hF (fun hc1 hF => ?_) (fun hc1 hF => ?_)
  · refine mj_aload_n C dX10_refusal_9 rfl ?_
    refine mg_X10_77 C dX10_refusal_10 ?_
    refine mj_iload_n C dX10_refusal_13 rfl ?_
    obtain ⟨hg2, hF⟩ := mj_og hF
    refine mj_iaload C dX10_refusal_14 rfl hg2 ?_
    refine mj_if_ge C dX10_refusal_15 rfl hF (fun hc3 hF => ?_) (fun hc3 hF => ?_)
    · refine mj_aload_n C dX10_refusal_21 rfl ?_
      refine mg_X10_77 C dX10_refusal_22 ?_
      refine mj_iload_n C dX10_refusal_25 rfl ?_
      obtain ⟨hg4, hF⟩ := mj_og hF
      refine mj_iaload C dX10_refusal_26 rfl hg4 ?_
      refine mj_bipushV (v := 50) C dX10_refusal_27 mc_b_50 ?_
      refine mj_ic_ge C dX10_refusal_29 rfl hF (fun hc5 hF => ?_) (fun hc5 hF => ?_)
      · refine mj_iload_n C dX10_refusal_35 rfl ?_
        refine mj_if_lt C dX10_refusal_36 rfl hF (fun hc6 hF => ?_) (fun hc6 hF => ?_)
        · refine mj_bipushV (v := (-13)) C dX10_refusal_53 mc_b_m13 ?_
          have hF := mj_oi hF; subst hF
          exact mj_iret C hr hlk dX10_refusal_55
        · refine mj_iload_n C dX10_refusal_39 rfl ?_
          refine mj_aload_n C dX10_refusal_40 rfl ?_
          refine mg_X10_80 C dX10_refusal_41 ?_
          refine mj_iload_n C dX10_refusal_44 rfl ?_
          obtain ⟨hg7, hF⟩ := mj_og hF
          refine mj_iaload C dX10_refusal_45 rfl hg7 ?_
          refine mj_ic_ge C dX10_refusal_46 rfl hF (fun hc8 hF => ?_) (fun hc8 hF => ?_)
          · refine mj_bipushV (v := (-13)) C dX10_refusal_53 mc_b_m13 ?_
            have hF := mj_oi hF; subst hF
            exact mj_iret C hr hlk dX10_refusal_55
          · refine mj_iconstV (v := 0) C dX10_refusal_49 mc_i_0 ?_
            refine mj_goto C dX10_refusal_50 rfl ?_
            have hF := mj_oi hF; subst hF
            exact mj_iret C hr hlk dX10_refusal_55
      · refine mj_bipushV (v := (-12)) C dX10_refusal_32 mc_b_m12 ?_
        have hF := mj_oi hF; subst hF
        exact mj_iret C hr hlk dX10_refusal_34
    · refine mj_bipushV (v := (-11)) C dX10_refusal_18 mc_b_m11 ?_
      have hF := mj_oi hF; subst hF
      exact mj_iret C hr hlk dX10_refusal_20
  · refine mj_iconstV (v := (-1)) C dX10_refusal_7 mc_i_m1 ?_
    have hF := mj_oi hF; subst hF
    exact mj_iret C hr hlk dX10_refusal_8
set_option maxRecDepth 100000 in
set_option maxHeartbeats 4000000 in
theorem c_X10_asSort {G : mj_G} {l : Launch} (σ : mj_S) (p0 : Int32) (p1 : Int64) : mj_C G l yX10_asSort cX10_asSort 3 (some .long) 1 [.int p0, .long p1] σ (some (.long (f_X10_asSort σ p0 p1))) σ := by
  generalize hF : f_X10_asSort σ p0 p1 = R
  unfold f_X10_asSort at hF
  refine mj_of (ls := [(0, .int p0), (1, .long p1)]) (by decide) (Nat.le_of_ble_eq_true rfl) rfl (fun p e s m args below meth c C hr hlk => ?_)
  refine mj_iload_n C dX10_asSort_0 rfl ?_
  refine mj_if_ne C dX10_asSort_1 rfl hF (fun hc1 hF => ?_) (fun hc1 hF => ?_)
  · refine mj_iload_n C dX10_asSort_11 rfl ?_
    refine mj_iconstV (v := 1) C dX10_asSort_12 mc_i_1 ?_
    refine mj_ic_ne C dX10_asSort_13 rfl hF (fun hc2 hF => ?_) (fun hc2 hF => ?_)
    · refine mj_iload_n C dX10_asSort_23 rfl ?_
      refine mj_iconstV (v := 2) C dX10_asSort_24 mc_i_2 ?_
      refine mj_ic_ne C dX10_asSort_25 rfl hF (fun hc3 hF => ?_) (fun hc3 hF => ?_)
      · refine mj_iload_n C dX10_asSort_34 rfl ?_
        refine mj_iconstV (v := 4) C dX10_asSort_35 mc_i_4 ?_
        refine mj_ic_ne C dX10_asSort_36 rfl hF (fun hc4 hF => ?_) (fun hc4 hF => ?_)
        · refine mj_lload_n C dX10_asSort_53 rfl ?_
          subst hF
          exact mj_lret C hr hlk dX10_asSort_54
        · refine mj_lload_n C dX10_asSort_39 rfl ?_
          refine mj_lconstV (v := 0) C dX10_asSort_40 mc_l_0 ?_
          refine mj_lcmp C dX10_asSort_41 ?_
          refine mj_if_eq C dX10_asSort_42 rfl hF (fun hc5 hF => ?_) (fun hc5 hF => ?_)
          · refine mj_lconstV (v := 0) C dX10_asSort_49 mc_l_0 ?_
            refine mj_goto C dX10_asSort_50 rfl ?_
            subst hF
            exact mj_lret C hr hlk dX10_asSort_54
          · refine mj_lconstV (v := 1) C dX10_asSort_45 mc_l_1 ?_
            refine mj_goto C dX10_asSort_46 rfl ?_
            subst hF
            exact mj_lret C hr hlk dX10_asSort_54
      · refine mj_lload_n C dX10_asSort_28 rfl ?_
        refine mj_l2i C dX10_asSort_29 ?_
        refine mj_i2l C dX10_asSort_30 ?_
        refine mj_goto C dX10_asSort_31 rfl ?_
        subst hF
        exact mj_lret C hr hlk dX10_asSort_54
    · refine mj_lload_n C dX10_asSort_16 rfl ?_
      refine mj_l2i C dX10_asSort_17 ?_
      refine mj_i2s C dX10_asSort_18 ?_
      refine mj_i2l C dX10_asSort_19 ?_
      refine mj_goto C dX10_asSort_20 rfl ?_
      subst hF
      exact mj_lret C hr hlk dX10_asSort_54
  · refine mj_lload_n C dX10_asSort_4 rfl ?_
    refine mj_l2i C dX10_asSort_5 ?_
    refine mj_i2b C dX10_asSort_6 ?_
    refine mj_i2l C dX10_asSort_7 ?_
    refine mj_goto C dX10_asSort_8 rfl ?_
    subst hF
    exact mj_lret C hr hlk dX10_asSort_54
set_option maxRecDepth 100000 in
set_option maxHeartbeats 4000000 in
theorem w_X10_put_37 {p : Program} {l : Launch} {e : Env} {s : State} {m : MethodId} {args : Array Value} {below : List Frame} {meth : Method} {c : Code} {G : mj_G} (C : mj_X p s m args meth c G cX10_put 6 RX10) (hr : meth.sig.returnType = some .int) (hlk : meth.locks = false) : ∀ (v5 : Int32) (σ : mj_S) (R : (Int32 × mj_S)), b_X10_put_37 v5 σ = some R → mj_W p l e (mj_rm 4) s m args below meth c G 0 0 6 (MQ below (mj_Q G (some (.int R.1)) R.2) args s 0 0 G.2.2.2) 37 [(5, .int v5)] [] σ := by
  intro v5 σ R hF
  unfold b_X10_put_37 at hF
  refine mj_iload C dX10_put_37 rfl ?_
  refine mj_if_ne C dX10_put_39 rfl hF (fun hc3 hF => ?_) (fun hc3 hF => ?_)
  · refine mj_iload C dX10_put_46 rfl ?_
    have hF := mj_oi hF; subst hF
    exact mj_iret C hr hlk dX10_put_48
  · refine mj_iconstV (v := 1) C dX10_put_42 mc_i_1 ?_
    refine mj_goto C dX10_put_43 rfl ?_
    have hF := mj_oi hF; subst hF
    exact mj_iret C hr hlk dX10_put_48
set_option maxRecDepth 100000 in
set_option maxHeartbeats 4000000 in
theorem c_X10_put {G : mj_G} {l : Launch} (σ : mj_S) (p1 : Int32) (p2 : Int32) (p3 : Int64) (R : (Int32 × mj_S)) (hF : f_X10_put σ p1 p2 p3 = some R) : mj_C G l yX10_put cX10_put 6 (some .int) 4 [.ref (G.2.1 64), .int p1, .int p2, .long p3] σ (some (.int R.1)) R.2 := by
  unfold f_X10_put at hF
  refine mj_of (ls := [(0, .ref (G.2.1 64)), (1, .int p1), (2, .int p2), (3, .long p3)]) (by decide) (Nat.le_of_ble_eq_true rfl) rfl (fun p e s m args below meth c C hr hlk => ?_)
  refine mj_aload_n C dX10_put_0 rfl ?_
  refine mj_iload_n C dX10_put_1 rfl ?_
  refine mj_iload_n C dX10_put_2 rfl ?_
  obtain ⟨r1, hq1, hF⟩ := mj_ob hF
  refine mj_callVi C (c_X10_refusal σ p1 p2 r1 hq1) yv_X10_refusal kl_X10_373 (mo_64 G _) rfl rfl rfl rfl (Nat.le_of_ble_eq_true rfl) (mj_roomC (by decide) (by decide)) ⟨Nat.zero_le _, Nat.zero_le _⟩ dX10_put_3 ?_
  refine mj_istore C dX10_put_6 (by decide) ?_
  refine mj_iload C dX10_put_8 rfl ?_
  refine mj_if_ne C dX10_put_10 rfl hF (fun hc2 hF => ?_) (fun hc2 hF => ?_)
  · refine mj_to ?_ (w_X10_put_37 C hr hlk r1 σ R hF)
    exact ⟨rfl, trivial⟩
  · refine mj_aload_n C dX10_put_13 rfl ?_
    refine mg_X10_83 C dX10_put_14 ?_
    refine mj_bipushV (v := 60) C dX10_put_17 mc_b_60 ?_
    refine mj_iload_n C dX10_put_19 rfl ?_
    refine mj_imul C dX10_put_20 ?_
    refine mj_iload_n C dX10_put_21 rfl ?_
    refine mj_iadd C dX10_put_22 ?_
    refine mj_aload_n C dX10_put_23 rfl ?_
    refine mg_X10_77 C dX10_put_24 ?_
    refine mj_iload_n C dX10_put_27 rfl ?_
    obtain ⟨hg4, hF⟩ := mj_og hF
    refine mj_iaload C dX10_put_28 rfl hg4 ?_
    refine mj_bipushV (v := 50) C dX10_put_29 mc_b_50 ?_
    refine mj_isub C dX10_put_31 ?_
    refine mj_lload_n C dX10_put_32 rfl ?_
    refine mj_callSl C (c_X10_asSort σ ((σ.1 87 p1.toNatClampNeg) - 50) p3) ys_X10_asSort kl_X10_376 rfl rfl (Nat.le_of_ble_eq_true rfl) (mj_roomC (by decide) (by decide)) ⟨Nat.zero_le _, Nat.zero_le _⟩ dX10_put_33 ?_
    obtain ⟨hg5, hF⟩ := mj_og hF
    refine mj_lastore C dX10_put_36 rfl hg5 ?_
    refine mj_to ?_ (w_X10_put_37 C hr hlk r1 (mj_sL σ 89 ((60 * p1) + p2).toNatClampNeg (f_X10_asSort σ ((σ.1 87 p1.toNatClampNeg) - 50) p3)) R hF)
    exact ⟨rfl, trivial⟩
set_option maxRecDepth 100000 in
set_option maxHeartbeats 4000000 in
theorem c_X10_element {G : mj_G} {l : Launch} (σ : mj_S) (p1 : Int32) (p2 : Int32) (R : Int64) (hF : f_X10_element σ p1 p2 = some R) : mj_C G l yX10_element cX10_element 3 (some .long) 4 [.ref (G.2.1 64), .int p1, .int p2] σ (some (.long R)) σ := by
  unfold f_X10_element at hF
  refine mj_of (ls := [(0, .ref (G.2.1 64)), (1, .int p1), (2, .int p2)]) (by decide) (Nat.le_of_ble_eq_true rfl) rfl (fun p e s m args below meth c C hr hlk => ?_)
  refine mj_aload_n C dX10_element_0 rfl ?_
  refine mj_iload_n C dX10_element_1 rfl ?_
  refine mj_iload_n C dX10_element_2 rfl ?_
  obtain ⟨r1, hq1, hF⟩ := mj_ob hF
  refine mj_callVi C (c_X10_refusal σ p1 p2 r1 hq1) yv_X10_refusal kl_X10_373 (mo_64 G _) rfl rfl rfl rfl (Nat.le_of_ble_eq_true rfl) (mj_roomC (by decide) (by decide)) ⟨Nat.zero_le _, Nat.zero_le _⟩ dX10_element_3 ?_
  refine mj_if_eq C dX10_element_6 rfl hF (fun hc2 hF => ?_) (fun hc2 hF => ?_)
  · refine mj_aload_n C dX10_element_15 rfl ?_
    refine mg_X10_83 C dX10_element_16 ?_
    refine mj_bipushV (v := 60) C dX10_element_19 mc_b_60 ?_
    refine mj_iload_n C dX10_element_21 rfl ?_
    refine mj_imul C dX10_element_22 ?_
    refine mj_iload_n C dX10_element_23 rfl ?_
    refine mj_iadd C dX10_element_24 ?_
    obtain ⟨hg3, hF⟩ := mj_og hF
    refine mj_laload C dX10_element_25 rfl hg3 ?_
    have hF := mj_oi hF; subst hF
    exact mj_lret C hr hlk dX10_element_26
  · refine mj_ldc2 C dX10_element_9 kc_X10_382 ?_
    refine mj_goto C dX10_element_12 rfl ?_
    have hF := mj_oi hF; subst hF
    exact mj_lret C hr hlk dX10_element_26
set_option maxRecDepth 100000 in
set_option maxHeartbeats 4000000 in
theorem w_X10_shift_150 {p : Program} {l : Launch} {e : Env} {s : State} {m : MethodId} {args : Array Value} {below : List Frame} {meth : Method} {c : Code} {G : mj_G} (C : mj_X p s m args meth c G cX10_shift 7 RX10) (hr : meth.sig.returnType = some .int) (hlk : meth.locks = false) : ∀ (n : Nat) (v3 : Int32) (v4 : Int32) (v5 : Int32) (v6 : Int32) (σ : mj_S) (R : (Int32 × mj_S)), b_X10_shift_150 n v3 v4 v5 v6 σ = some R → mj_W p l e (mj_rm 3) s m args below meth c G 0 0 7 (MQ below (mj_Q G (some (.int R.1)) R.2) args s 0 0 G.2.2.2) 150 [(0, .ref (G.2.1 64)), (3, .int v3), (4, .int v4), (5, .int v5), (6, .int v6)] [] σ := by
  intro n
  induction n with
  | zero =>
    intro v3 v4 v5 v6 σ R hF
    cases hF
  | succ n ih =>
    intro v3 v4 v5 v6 σ R hF
    rw [b_X10_shift_150] at hF
    refine mj_iload C dX10_shift_150 rfl ?_
    refine mj_iload C dX10_shift_152 rfl ?_
    refine mj_ic_ge C dX10_shift_154 rfl hF (fun hc20 hF => ?_) (fun hc20 hF => ?_)
    · refine mj_iload C dX10_shift_185 rfl ?_
      have hF := mj_oi hF; subst hF
      exact mj_iret C hr hlk dX10_shift_187
    · refine mj_aload_n C dX10_shift_157 rfl ?_
      refine mg_X10_83 C dX10_shift_158 ?_
      refine mj_bipushV (v := 60) C dX10_shift_161 mc_b_60 ?_
      refine mj_iload_n C dX10_shift_163 rfl ?_
      refine mj_imul C dX10_shift_164 ?_
      refine mj_iload C dX10_shift_165 rfl ?_
      refine mj_iadd C dX10_shift_167 ?_
      refine mj_iload C dX10_shift_168 rfl ?_
      refine mj_iadd C dX10_shift_170 ?_
      refine mj_aload_n C dX10_shift_171 rfl ?_
      refine mg_X10_87 C dX10_shift_172 ?_
      refine mj_iload C dX10_shift_175 rfl ?_
      obtain ⟨hg21, hF⟩ := mj_og hF
      refine mj_laload C dX10_shift_177 rfl hg21 ?_
      obtain ⟨hg22, hF⟩ := mj_og hF
      refine mj_lastore C dX10_shift_178 rfl hg22 ?_
      refine mj_iinc (v := v6 + 1) C dX10_shift_179 rfl rfl (by decide) ?_
      refine mj_goto C dX10_shift_182 rfl ?_
      refine mj_to ?_ (ih v3 v4 v5 (v6 + 1) (mj_sL σ 89 (((60 * v3) + v4) + v6).toNatClampNeg (σ.2 90 v6.toNatClampNeg)) R hF)
      exact ⟨rfl, rfl, rfl, rfl, rfl, trivial⟩
set_option maxRecDepth 100000 in
set_option maxHeartbeats 4000000 in
theorem w_X10_shift_113 {p : Program} {l : Launch} {e : Env} {s : State} {m : MethodId} {args : Array Value} {below : List Frame} {meth : Method} {c : Code} {G : mj_G} (C : mj_X p s m args meth c G cX10_shift 7 RX10) (hr : meth.sig.returnType = some .int) (hlk : meth.locks = false) : ∀ (n : Nat) (v1 : Int32) (v2 : Int32) (v3 : Int32) (v4 : Int32) (v5 : Int32) (v6 : Int32) (σ : mj_S) (R : (Int32 × mj_S)), b_X10_shift_113 n v1 v2 v3 v4 v5 v6 σ = some R → mj_W p l e (mj_rm 3) s m args below meth c G 0 0 7 (MQ below (mj_Q G (some (.int R.1)) R.2) args s 0 0 G.2.2.2) 113 [(0, .ref (G.2.1 64)), (1, .int v1), (2, .int v2), (3, .int v3), (4, .int v4), (5, .int v5), (6, .int v6)] [] σ := by
  intro n
  induction n with
  | zero =>
    intro v1 v2 v3 v4 v5 v6 σ R hF
    cases hF
  | succ n ih =>
    intro v1 v2 v3 v4 v5 v6 σ R hF
    rw [b_X10_shift_113] at hF
    refine mj_iload C dX10_shift_113 rfl ?_
    refine mj_iload C dX10_shift_115 rfl ?_
    refine mj_ic_ge C dX10_shift_117 rfl hF (fun hc19 hF => ?_) (fun hc19 hF => ?_)
    · refine mj_iconstV (v := 0) C dX10_shift_147 mc_i_0 ?_
      refine mj_istore C dX10_shift_148 (by decide) ?_
      refine mj_to ?_ (w_X10_shift_150 C hr hlk mj_fu v3 v4 v5 0 σ R hF)
      exact ⟨rfl, rfl, rfl, rfl, rfl, trivial⟩
    · refine mj_aload_n C dX10_shift_120 rfl ?_
      refine mg_X10_87 C dX10_shift_121 ?_
      refine mj_iload C dX10_shift_124 rfl ?_
      refine mj_aload_n C dX10_shift_126 rfl ?_
      refine mg_X10_83 C dX10_shift_127 ?_
      refine mj_bipushV (v := 60) C dX10_shift_130 mc_b_60 ?_
      refine mj_iload_n C dX10_shift_132 rfl ?_
      refine mj_imul C dX10_shift_133 ?_
      refine mj_iload_n C dX10_shift_134 rfl ?_
      refine mj_iadd C dX10_shift_135 ?_
      refine mj_iload C dX10_shift_136 rfl ?_
      refine mj_iadd C dX10_shift_138 ?_
      obtain ⟨hg23, hF⟩ := mj_og hF
      refine mj_laload C dX10_shift_139 rfl hg23 ?_
      obtain ⟨hg24, hF⟩ := mj_og hF
      refine mj_lastore C dX10_shift_140 rfl hg24 ?_
      refine mj_iinc (v := v6 + 1) C dX10_shift_141 rfl rfl (by decide) ?_
      refine mj_goto C dX10_shift_144 rfl ?_
      refine mj_to ?_ (ih v1 v2 v3 v4 v5 (v6 + 1) (mj_sL σ 90 v6.toNatClampNeg (σ.2 89 (((60 * v1) + v2) + v6).toNatClampNeg)) R hF)
      exact ⟨rfl, rfl, rfl, rfl, rfl, rfl, rfl, trivial⟩
set_option maxRecDepth 100000 in
set_option maxHeartbeats 4000000 in
theorem c_X10_shift {G : mj_G} {l : Launch} (σ : mj_S) (p1 : Int32) (p2 : Int32) (p3 : Int32) (p4 : Int32) (p5 : Int32) (R : (Int32 × mj_S)) (hF : f_X10_shift σ p1 p2 p3 p4 p5 = some R) : mj_C G l yX10_shift cX10_shift 7 (some .int) 3 [.ref (G.2.1 64), .int p1, .int p2, .int p3, .int p4, .int p5] σ (some (.int R.1)) R.2 := by
  unfold f_X10_shift at hF
  refine mj_of (ls := [(0, .ref (G.2.1 64)), (1, .int p1), (2, .int p2), (3, .int p3), (4, .int p4), (5, .int p5)]) (by decide) (Nat.le_of_ble_eq_true rfl) rfl (fun p e s m args below meth c C hr hlk => ?_)
  refine mj_iload_n C dX10_shift_0 rfl ?_
  refine mj_callSi C (c_X10_isShelf σ p1) ys_X10_isShelf kl_X10_245 rfl rfl (Nat.le_of_ble_eq_true rfl) (mj_roomC (by decide) (by decide)) ⟨Nat.zero_le _, Nat.zero_le _⟩ dX10_shift_1 ?_
  refine mj_if_eq C dX10_shift_4 rfl hF (fun hc1 hF => ?_) (fun hc1 hF => ?_)
  · refine mj_iconstV (v := (-1)) C dX10_shift_14 mc_i_m1 ?_
    have hF := mj_oi hF; subst hF
    exact mj_iret C hr hlk dX10_shift_15
  · refine mj_iload_n C dX10_shift_7 rfl ?_
    refine mj_callSi C (c_X10_isShelf σ p3) ys_X10_isShelf kl_X10_245 rfl rfl (Nat.le_of_ble_eq_true rfl) (mj_roomC (by decide) (by decide)) ⟨Nat.zero_le _, Nat.zero_le _⟩ dX10_shift_8 ?_
    refine mj_if_ne C dX10_shift_11 rfl hF (fun hc2 hF => ?_) (fun hc2 hF => ?_)
    · refine mj_aload_n C dX10_shift_16 rfl ?_
      refine mg_X10_77 C dX10_shift_17 ?_
      refine mj_iload_n C dX10_shift_20 rfl ?_
      obtain ⟨hg3, hF⟩ := mj_og hF
      refine mj_iaload C dX10_shift_21 rfl hg3 ?_
      refine mj_if_lt C dX10_shift_22 rfl hF (fun hc4 hF => ?_) (fun hc4 hF => ?_)
      · refine mj_bipushV (v := (-11)) C dX10_shift_34 mc_b_m11 ?_
        have hF := mj_oi hF; subst hF
        exact mj_iret C hr hlk dX10_shift_36
      · refine mj_aload_n C dX10_shift_25 rfl ?_
        refine mg_X10_77 C dX10_shift_26 ?_
        refine mj_iload_n C dX10_shift_29 rfl ?_
        obtain ⟨hg5, hF⟩ := mj_og hF
        refine mj_iaload C dX10_shift_30 rfl hg5 ?_
        refine mj_if_ge C dX10_shift_31 rfl hF (fun hc6 hF => ?_) (fun hc6 hF => ?_)
        · refine mj_aload_n C dX10_shift_37 rfl ?_
          refine mg_X10_77 C dX10_shift_38 ?_
          refine mj_iload_n C dX10_shift_41 rfl ?_
          obtain ⟨hg7, hF⟩ := mj_og hF
          refine mj_iaload C dX10_shift_42 rfl hg7 ?_
          refine mj_bipushV (v := 50) C dX10_shift_43 mc_b_50 ?_
          refine mj_ic_lt C dX10_shift_45 rfl hF (fun hc8 hF => ?_) (fun hc8 hF => ?_)
          · refine mj_bipushV (v := (-12)) C dX10_shift_63 mc_b_m12 ?_
            have hF := mj_oi hF; subst hF
            exact mj_iret C hr hlk dX10_shift_65
          · refine mj_aload_n C dX10_shift_48 rfl ?_
            refine mg_X10_77 C dX10_shift_49 ?_
            refine mj_iload_n C dX10_shift_52 rfl ?_
            obtain ⟨hg9, hF⟩ := mj_og hF
            refine mj_iaload C dX10_shift_53 rfl hg9 ?_
            refine mj_aload_n C dX10_shift_54 rfl ?_
            refine mg_X10_77 C dX10_shift_55 ?_
            refine mj_iload_n C dX10_shift_58 rfl ?_
            obtain ⟨hg10, hF⟩ := mj_og hF
            refine mj_iaload C dX10_shift_59 rfl hg10 ?_
            refine mj_ic_eq C dX10_shift_60 rfl hF (fun hc11 hF => ?_) (fun hc11 hF => ?_)
            · refine mj_iload C dX10_shift_66 rfl ?_
              refine mj_if_lt C dX10_shift_68 rfl hF (fun hc12 hF => ?_) (fun hc12 hF => ?_)
              · refine mj_bipushV (v := (-13)) C dX10_shift_107 mc_b_m13 ?_
                have hF := mj_oi hF; subst hF
                exact mj_iret C hr hlk dX10_shift_109
              · refine mj_iload_n C dX10_shift_71 rfl ?_
                refine mj_if_lt C dX10_shift_72 rfl hF (fun hc13 hF => ?_) (fun hc13 hF => ?_)
                · refine mj_bipushV (v := (-13)) C dX10_shift_107 mc_b_m13 ?_
                  have hF := mj_oi hF; subst hF
                  exact mj_iret C hr hlk dX10_shift_109
                · refine mj_iload C dX10_shift_75 rfl ?_
                  refine mj_if_lt C dX10_shift_77 rfl hF (fun hc14 hF => ?_) (fun hc14 hF => ?_)
                  · refine mj_bipushV (v := (-13)) C dX10_shift_107 mc_b_m13 ?_
                    have hF := mj_oi hF; subst hF
                    exact mj_iret C hr hlk dX10_shift_109
                  · refine mj_iload_n C dX10_shift_80 rfl ?_
                    refine mj_aload_n C dX10_shift_81 rfl ?_
                    refine mg_X10_80 C dX10_shift_82 ?_
                    refine mj_iload_n C dX10_shift_85 rfl ?_
                    obtain ⟨hg15, hF⟩ := mj_og hF
                    refine mj_iaload C dX10_shift_86 rfl hg15 ?_
                    refine mj_iload C dX10_shift_87 rfl ?_
                    refine mj_isub C dX10_shift_89 ?_
                    refine mj_ic_gt C dX10_shift_90 rfl hF (fun hc16 hF => ?_) (fun hc16 hF => ?_)
                    · refine mj_bipushV (v := (-13)) C dX10_shift_107 mc_b_m13 ?_
                      have hF := mj_oi hF; subst hF
                      exact mj_iret C hr hlk dX10_shift_109
                    · refine mj_iload C dX10_shift_93 rfl ?_
                      refine mj_aload_n C dX10_shift_95 rfl ?_
                      refine mg_X10_80 C dX10_shift_96 ?_
                      refine mj_iload_n C dX10_shift_99 rfl ?_
                      obtain ⟨hg17, hF⟩ := mj_og hF
                      refine mj_iaload C dX10_shift_100 rfl hg17 ?_
                      refine mj_iload C dX10_shift_101 rfl ?_
                      refine mj_isub C dX10_shift_103 ?_
                      refine mj_ic_le C dX10_shift_104 rfl hF (fun hc18 hF => ?_) (fun hc18 hF => ?_)
                      · refine mj_iconstV (v := 0) C dX10_shift_110 mc_i_0 ?_
                        refine mj_istore C dX10_shift_111 (by decide) ?_
                        refine mj_to ?_ (w_X10_shift_113 C hr hlk mj_fu p1 p2 p3 p4 p5 0 σ R hF)
                        exact ⟨rfl, rfl, rfl, rfl, rfl, rfl, rfl, trivial⟩
                      · refine mj_bipushV (v := (-13)) C dX10_shift_107 mc_b_m13 ?_
                        have hF := mj_oi hF; subst hF
                        exact mj_iret C hr hlk dX10_shift_109
            · refine mj_bipushV (v := (-12)) C dX10_shift_63 mc_b_m12 ?_
              have hF := mj_oi hF; subst hF
              exact mj_iret C hr hlk dX10_shift_65
        · refine mj_bipushV (v := (-11)) C dX10_shift_34 mc_b_m11 ?_
          have hF := mj_oi hF; subst hF
          exact mj_iret C hr hlk dX10_shift_36
    · refine mj_iconstV (v := (-1)) C dX10_shift_14 mc_i_m1 ?_
      have hF := mj_oi hF; subst hF
      exact mj_iret C hr hlk dX10_shift_15
set_option maxRecDepth 100000 in
set_option maxHeartbeats 4000000 in
theorem w_X10_taken_75 {p : Program} {l : Launch} {e : Env} {s : State} {m : MethodId} {args : Array Value} {below : List Frame} {meth : Method} {c : Code} {G : mj_G} {σ : mj_S} (C : mj_X p s m args meth c G cX10_taken 4 RX10) (hr : meth.sig.returnType = some .int) (hlk : meth.locks = false) : ∀ (v1 : Int32) (v2 : Int32) (v3 : Int32) (R : Int32), b_X10_taken_75 σ v1 v2 v3 = some R → mj_W p l e (mj_rm 3) s m args below meth c G 0 0 4 (MQ below (mj_Q G (some (.int R)) σ) args s 0 0 G.2.2.2) 75 [(0, .ref (G.2.1 64)), (1, .int v1), (2, .int v2), (3, .int v3)] [] σ := by
  intro v1 v2 v3 R hF
  unfold b_X10_taken_75 at hF
  refine mj_iload_n C dX10_taken_75 rfl ?_
  refine mj_iload_n C dX10_taken_76 rfl ?_
  refine mj_ic_ne C dX10_taken_77 rfl hF (fun hc10 hF => ?_) (fun hc10 hF => ?_)
  · refine mj_bipushV (v := (-12)) C dX10_taken_93 mc_b_m12 ?_
    have hF := mj_oi hF; subst hF
    exact mj_iret C hr hlk dX10_taken_95
  · refine mj_aload_n C dX10_taken_80 rfl ?_
    refine mj_aload_n C dX10_taken_81 rfl ?_
    refine mg_X10_77 C dX10_taken_82 ?_
    refine mj_iload_n C dX10_taken_85 rfl ?_
    obtain ⟨hg11, hF⟩ := mj_og hF
    refine mj_iaload C dX10_taken_86 rfl hg11 ?_
    obtain ⟨r12, hq12, hF⟩ := mj_ob hF
    refine mj_callVi C (c_X10_kindOf σ (σ.1 87 v1.toNatClampNeg) r12 hq12) yv_X10_kindOf kl_X10_384 (mo_64 G _) rfl rfl rfl rfl (Nat.le_of_ble_eq_true rfl) (mj_roomC (by decide) (by decide)) ⟨Nat.zero_le _, Nat.zero_le _⟩ dX10_taken_87 ?_
    refine mj_goto C dX10_taken_90 rfl ?_
    have hF := mj_oi hF; subst hF
    exact mj_iret C hr hlk dX10_taken_95
set_option maxRecDepth 100000 in
set_option maxHeartbeats 4000000 in
theorem w_X10_taken_58 {p : Program} {l : Launch} {e : Env} {s : State} {m : MethodId} {args : Array Value} {below : List Frame} {meth : Method} {c : Code} {G : mj_G} {σ : mj_S} (C : mj_X p s m args meth c G cX10_taken 4 RX10) (hr : meth.sig.returnType = some .int) (hlk : meth.locks = false) : ∀ (n : Nat) (v1 : Int32) (v2 : Int32) (v3 : Int32) (R : Int32), b_X10_taken_58 σ n v1 v2 v3 = some R → mj_W p l e (mj_rm 3) s m args below meth c G 0 0 4 (MQ below (mj_Q G (some (.int R)) σ) args s 0 0 G.2.2.2) 58 [(0, .ref (G.2.1 64)), (1, .int v1), (2, .int v2), (3, .int v3)] [] σ := by
  intro n
  induction n with
  | zero =>
    intro v1 v2 v3 R hF
    cases hF
  | succ n ih =>
    intro v1 v2 v3 R hF
    rw [b_X10_taken_58] at hF
    refine mj_iload_n C dX10_taken_58 rfl ?_
    refine mj_iload_n C dX10_taken_59 rfl ?_
    refine mj_ic_eq C dX10_taken_60 rfl hF (fun hc9 hF => ?_) (fun hc9 hF => ?_)
    · refine mj_to ?_ (w_X10_taken_75 C hr hlk v1 v2 v3 R hF)
      exact ⟨rfl, rfl, rfl, rfl, trivial⟩
    · refine mj_iload_n C dX10_taken_63 rfl ?_
      refine mj_if_le C dX10_taken_64 rfl hF (fun hc13 hF => ?_) (fun hc13 hF => ?_)
      · refine mj_to ?_ (w_X10_taken_75 C hr hlk v1 v2 v3 R hF)
        exact ⟨rfl, rfl, rfl, rfl, trivial⟩
      · refine mj_iload_n C dX10_taken_67 rfl ?_
        refine mj_callSi C (c_X10_above σ v3) ys_X10_above kl_X10_387 rfl rfl (Nat.le_of_ble_eq_true rfl) (mj_roomC (by decide) (by decide)) ⟨Nat.zero_le _, Nat.zero_le _⟩ dX10_taken_68 ?_
        refine mj_istore_n C dX10_taken_71 (by decide) ?_
        refine mj_goto C dX10_taken_72 rfl ?_
        refine mj_to ?_ (ih v1 v2 (f_X10_above σ v3) R hF)
        exact ⟨rfl, rfl, rfl, rfl, trivial⟩
set_option maxRecDepth 100000 in
set_option maxHeartbeats 4000000 in
theorem c_X10_taken {G : mj_G} {l : Launch} (σ : mj_S) (p1 : Int32) (p2 : Int32) (R : Int32) (hF : f_X10_taken σ p1 p2 = some R) : mj_C G l yX10_taken cX10_taken 4 (some .int) 3 [.ref (G.2.1 64), .int p1, .int p2] σ (some (.int R)) σ := by
  unfold f_X10_taken at hF
  refine mj_of (ls := [(0, .ref (G.2.1 64)), (1, .int p1), (2, .int p2)]) (by decide) (Nat.le_of_ble_eq_true rfl) rfl (fun p e s m args below meth c C hr hlk => ?_)
  refine mj_iload_n C dX10_taken_0 rfl ?_
  refine mj_callSi C (c_X10_isShelf σ p1) ys_X10_isShelf kl_X10_245 rfl rfl (Nat.le_of_ble_eq_true rfl) (mj_roomC (by decide) (by decide)) ⟨Nat.zero_le _, Nat.zero_le _⟩ dX10_taken_1 ?_
  refine mj_if_eq C dX10_taken_4 rfl hF (fun hc1 hF => ?_) (fun hc1 hF => ?_)
  · refine mj_iconstV (v := (-1)) C dX10_taken_19 mc_i_m1 ?_
    have hF := mj_oi hF; subst hF
    exact mj_iret C hr hlk dX10_taken_20
  · refine mj_iload_n C dX10_taken_7 rfl ?_
    refine mj_i2l C dX10_taken_8 ?_
    refine mj_lconstV (v := 0) C dX10_taken_9 mc_l_0 ?_
    refine mj_ldc2 C dX10_taken_10 kc_X10_342 ?_
    refine mj_callSi C (c_X10_within σ p2.toInt64 0 7) ys_X10_within kl_X10_110 rfl rfl (Nat.le_of_ble_eq_true rfl) (mj_roomC (by decide) (by decide)) ⟨Nat.zero_le _, Nat.zero_le _⟩ dX10_taken_13 ?_
    refine mj_if_ne C dX10_taken_16 rfl hF (fun hc2 hF => ?_) (fun hc2 hF => ?_)
    · refine mj_aload_n C dX10_taken_21 rfl ?_
      refine mg_X10_77 C dX10_taken_22 ?_
      refine mj_iload_n C dX10_taken_25 rfl ?_
      obtain ⟨hg3, hF⟩ := mj_og hF
      refine mj_iaload C dX10_taken_26 rfl hg3 ?_
      refine mj_if_ge C dX10_taken_27 rfl hF (fun hc4 hF => ?_) (fun hc4 hF => ?_)
      · refine mj_aload_n C dX10_taken_33 rfl ?_
        refine mg_X10_77 C dX10_taken_34 ?_
        refine mj_iload_n C dX10_taken_37 rfl ?_
        obtain ⟨hg5, hF⟩ := mj_og hF
        refine mj_iaload C dX10_taken_38 rfl hg5 ?_
        refine mj_bipushV (v := 50) C dX10_taken_39 mc_b_50 ?_
        refine mj_ic_lt C dX10_taken_41 rfl hF (fun hc6 hF => ?_) (fun hc6 hF => ?_)
        · refine mj_aload_n C dX10_taken_47 rfl ?_
          refine mj_aload_n C dX10_taken_48 rfl ?_
          refine mg_X10_77 C dX10_taken_49 ?_
          refine mj_iload_n C dX10_taken_52 rfl ?_
          obtain ⟨hg7, hF⟩ := mj_og hF
          refine mj_iaload C dX10_taken_53 rfl hg7 ?_
          obtain ⟨r8, hq8, hF⟩ := mj_ob hF
          refine mj_callVi C (c_X10_kindOf σ (σ.1 87 p1.toNatClampNeg) r8 hq8) yv_X10_kindOf kl_X10_384 (mo_64 G _) rfl rfl rfl rfl (Nat.le_of_ble_eq_true rfl) (mj_roomC (by decide) (by decide)) ⟨Nat.zero_le _, Nat.zero_le _⟩ dX10_taken_54 ?_
          refine mj_istore_n C dX10_taken_57 (by decide) ?_
          refine mj_to ?_ (w_X10_taken_58 C hr hlk mj_fu p1 p2 r8 R hF)
          exact ⟨rfl, rfl, rfl, rfl, trivial⟩
        · refine mj_bipushV (v := (-12)) C dX10_taken_44 mc_b_m12 ?_
          have hF := mj_oi hF; subst hF
          exact mj_iret C hr hlk dX10_taken_46
      · refine mj_bipushV (v := (-11)) C dX10_taken_30 mc_b_m11 ?_
        have hF := mj_oi hF; subst hF
        exact mj_iret C hr hlk dX10_taken_32
    · refine mj_iconstV (v := (-1)) C dX10_taken_19 mc_i_m1 ?_
      have hF := mj_oi hF; subst hF
      exact mj_iret C hr hlk dX10_taken_20
set_option maxRecDepth 100000 in
set_option maxHeartbeats 4000000 in
theorem c_X10_count {G : mj_G} {l : Launch} (σ : mj_S) (p1 : Int32) : mj_C G l yX10_count cX10_count 2 (some .int) 1 [.ref (G.2.1 64), .int p1] σ (some (.int (f_X10_count σ p1))) σ := by
  generalize hF : f_X10_count σ p1 = R
  unfold f_X10_count at hF
  refine mj_of (ls := [(0, .ref (G.2.1 64)), (1, .int p1)]) (by decide) (Nat.le_of_ble_eq_true rfl) rfl (fun p e s m args below meth c C hr hlk => ?_)
  refine mj_iload_n C dX10_count_0 rfl ?_
  by_cases hw1_0 : p1 = 0
  · rw [if_pos hw1_0] at hF
    refine mj_tsIn (off := 43) C dX10_count_1 (by rw [hw1_0]; decide) (by rw [hw1_0]; decide) (by rw [hw1_0]; rfl) rfl ?_
    refine mj_aload_n C dX10_count_44 rfl ?_
    refine mg_X10_107 C dX10_count_45 ?_
    subst hF
    exact mj_iret C hr hlk dX10_count_48
  rw [if_neg hw1_0] at hF
  by_cases hw1_1 : p1 = 1
  · rw [if_pos hw1_1] at hF
    refine mj_tsIn (off := 48) C dX10_count_1 (by rw [hw1_1]; decide) (by rw [hw1_1]; decide) (by rw [hw1_1]; rfl) rfl ?_
    refine mj_aload_n C dX10_count_49 rfl ?_
    refine mg_X10_143 C dX10_count_50 ?_
    subst hF
    exact mj_iret C hr hlk dX10_count_53
  rw [if_neg hw1_1] at hF
  by_cases hw1_2 : p1 = 2
  · rw [if_pos hw1_2] at hF
    refine mj_tsIn (off := 53) C dX10_count_1 (by rw [hw1_2]; decide) (by rw [hw1_2]; decide) (by rw [hw1_2]; rfl) rfl ?_
    refine mj_aload_n C dX10_count_54 rfl ?_
    refine mg_X10_226 C dX10_count_55 ?_
    subst hF
    exact mj_iret C hr hlk dX10_count_58
  rw [if_neg hw1_2] at hF
  by_cases hw1_3 : p1 = 3
  · rw [if_pos hw1_3] at hF
    refine mj_tsIn (off := 58) C dX10_count_1 (by rw [hw1_3]; decide) (by rw [hw1_3]; decide) (by rw [hw1_3]; rfl) rfl ?_
    refine mj_aload_n C dX10_count_59 rfl ?_
    refine mg_X10_156 C dX10_count_60 ?_
    subst hF
    exact mj_iret C hr hlk dX10_count_63
  rw [if_neg hw1_3] at hF
  by_cases hw1_4 : p1 = 4
  · rw [if_pos hw1_4] at hF
    refine mj_tsIn (off := 63) C dX10_count_1 (by rw [hw1_4]; decide) (by rw [hw1_4]; decide) (by rw [hw1_4]; rfl) rfl ?_
    refine mj_aload_n C dX10_count_64 rfl ?_
    refine mg_X10_97 C dX10_count_65 ?_
    subst hF
    exact mj_iret C hr hlk dX10_count_68
  rw [if_neg hw1_4] at hF
  by_cases hw1_5 : p1 = 5
  · rw [if_pos hw1_5] at hF
    refine mj_tsIn (off := 68) C dX10_count_1 (by rw [hw1_5]; decide) (by rw [hw1_5]; decide) (by rw [hw1_5]; rfl) rfl ?_
    refine mj_aload_n C dX10_count_69 rfl ?_
    refine mg_X10_339 C dX10_count_70 ?_
    subst hF
    exact mj_iret C hr hlk dX10_count_73
  rw [if_neg hw1_5] at hF
  by_cases hw1_6 : p1 = 6
  · rw [if_pos hw1_6] at hF
    refine mj_tsIn (off := 73) C dX10_count_1 (by rw [hw1_6]; decide) (by rw [hw1_6]; decide) (by rw [hw1_6]; rfl) rfl ?_
    refine mj_aload_n C dX10_count_74 rfl ?_
    refine mg_X10_344 C dX10_count_75 ?_
    subst hF
    exact mj_iret C hr hlk dX10_count_78
  rw [if_neg hw1_6] at hF
  refine mj_tsOut C dX10_count_1 (mj_sw_0_7 hw1_0 hw1_1 hw1_2 hw1_3 hw1_4 hw1_5 hw1_6) rfl ?_
  refine mj_iconstV (v := (-1)) C dX10_count_79 mc_i_m1 ?_
  subst hF
  exact mj_iret C hr hlk dX10_count_80
