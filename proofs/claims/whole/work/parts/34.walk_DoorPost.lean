set_option maxRecDepth 100000 in
set_option maxHeartbeats 4000000 in
theorem c_X9_markFromRow {G : mj_G} {l : Launch} (σ : mj_S) (p1 : Int32) (p2 : Int32) (R : (Int32 × mj_S)) (hF : f_X9_markFromRow σ p1 p2 = some R) : mj_C G l yX9_markFromRow cX9_markFromRow 7 (some .boolean) 4 [.ref (G.2.1 0), .int p1, .int p2] σ (some (.int R.1)) R.2 := by
  unfold f_X9_markFromRow at hF
  refine mj_of (ls := [(0, .ref (G.2.1 0)), (1, .int p1), (2, .int p2)]) (by decide) (Nat.le_of_ble_eq_true rfl) rfl (fun p e s m args below meth c C hr hlk => ?_)
  refine mj_aload_n C dX9_markFromRow_0 rfl ?_
  refine mg_X9_35 C dX9_markFromRow_1 ?_
  refine mj_callVi C (c_X5_size σ) yv_X5_size kl_X9_146 (mo_35 G _) rfl rfl rfl rfl (Nat.le_of_ble_eq_true rfl) (mj_roomC (by decide) (by decide)) ⟨Nat.zero_le _, Nat.zero_le _⟩ dX9_markFromRow_4 ?_
  refine mj_bipushV (v := 30) C dX9_markFromRow_7 mc_b_30 ?_
  refine mj_ic_ge C dX9_markFromRow_9 rfl hF (fun hc1 hF => ?_) (fun hc1 hF => ?_)
  · refine mj_iconstV (v := 0) C dX9_markFromRow_25 mc_i_0 ?_
    have hF := mj_oi hF; subst hF
    exact mj_zret (v := 0) rfl C hr hlk dX9_markFromRow_26
  · refine mj_aload_n C dX9_markFromRow_12 rfl ?_
    refine mg_X9_74 C dX9_markFromRow_13 ?_
    refine mj_iload_n C dX9_markFromRow_16 rfl ?_
    refine mj_iload_n C dX9_markFromRow_17 rfl ?_
    refine mj_iconstV (v := 4) C dX9_markFromRow_18 mc_i_4 ?_
    obtain ⟨r2, hq2, hF⟩ := mj_ob hF
    refine mj_callVi C (c_X8_hasPlaces σ p1 p2 4 r2 hq2) yv_X8_hasPlaces kl_X9_329 (mo_53 G _) rfl rfl rfl rfl (Nat.le_of_ble_eq_true rfl) (mj_roomC (by decide) (by decide)) ⟨Nat.zero_le _, Nat.zero_le _⟩ dX9_markFromRow_19 ?_
    refine mj_if_ne C dX9_markFromRow_22 rfl hF (fun hc3 hF => ?_) (fun hc3 hF => ?_)
    · refine mj_aload_n C dX9_markFromRow_27 rfl ?_
      refine mg_X9_74 C dX9_markFromRow_28 ?_
      refine mj_iload_n C dX9_markFromRow_31 rfl ?_
      refine mj_iload_n C dX9_markFromRow_32 rfl ?_
      obtain ⟨r4, hq4, hF⟩ := mj_ob hF
      refine mj_callVl C (c_X8_get σ p1 p2 r4 hq4) yv_X8_get kl_X9_319 (mo_53 G _) rfl rfl rfl rfl (Nat.le_of_ble_eq_true rfl) (mj_roomC (by decide) (by decide)) ⟨Nat.zero_le _, Nat.zero_le _⟩ dX9_markFromRow_33 ?_
      refine mj_l2i C dX9_markFromRow_36 ?_
      refine mj_istore_n C dX9_markFromRow_37 (by decide) ?_
      refine mj_aload_n C dX9_markFromRow_38 rfl ?_
      refine mg_X9_74 C dX9_markFromRow_39 ?_
      refine mj_iload_n C dX9_markFromRow_42 rfl ?_
      refine mj_iload_n C dX9_markFromRow_43 rfl ?_
      refine mj_iconstV (v := 1) C dX9_markFromRow_44 mc_i_1 ?_
      refine mj_iadd C dX9_markFromRow_45 ?_
      obtain ⟨r5, hq5, hF⟩ := mj_ob hF
      refine mj_callVl C (c_X8_get σ p1 (p2 + 1) r5 hq5) yv_X8_get kl_X9_319 (mo_53 G _) rfl rfl rfl rfl (Nat.le_of_ble_eq_true rfl) (mj_roomC (by decide) (by decide)) ⟨Nat.zero_le _, Nat.zero_le _⟩ dX9_markFromRow_46 ?_
      refine mj_l2i C dX9_markFromRow_49 ?_
      refine mj_istore C dX9_markFromRow_50 (by decide) ?_
      refine mj_aload_n C dX9_markFromRow_52 rfl ?_
      refine mg_X9_74 C dX9_markFromRow_53 ?_
      refine mj_iload_n C dX9_markFromRow_56 rfl ?_
      refine mj_iload_n C dX9_markFromRow_57 rfl ?_
      refine mj_iconstV (v := 2) C dX9_markFromRow_58 mc_i_2 ?_
      refine mj_iadd C dX9_markFromRow_59 ?_
      obtain ⟨r6, hq6, hF⟩ := mj_ob hF
      refine mj_callVl C (c_X8_get σ p1 (p2 + 2) r6 hq6) yv_X8_get kl_X9_319 (mo_53 G _) rfl rfl rfl rfl (Nat.le_of_ble_eq_true rfl) (mj_roomC (by decide) (by decide)) ⟨Nat.zero_le _, Nat.zero_le _⟩ dX9_markFromRow_60 ?_
      refine mj_l2i C dX9_markFromRow_63 ?_
      refine mj_istore C dX9_markFromRow_64 (by decide) ?_
      refine mj_aload_n C dX9_markFromRow_66 rfl ?_
      refine mg_X9_74 C dX9_markFromRow_67 ?_
      refine mj_iload_n C dX9_markFromRow_70 rfl ?_
      refine mj_iload_n C dX9_markFromRow_71 rfl ?_
      refine mj_iconstV (v := 3) C dX9_markFromRow_72 mc_i_3 ?_
      refine mj_iadd C dX9_markFromRow_73 ?_
      obtain ⟨r7, hq7, hF⟩ := mj_ob hF
      refine mj_callVl C (c_X8_get σ p1 (p2 + 3) r7 hq7) yv_X8_get kl_X9_319 (mo_53 G _) rfl rfl rfl rfl (Nat.le_of_ble_eq_true rfl) (mj_roomC (by decide) (by decide)) ⟨Nat.zero_le _, Nat.zero_le _⟩ dX9_markFromRow_74 ?_
      refine mj_l2i C dX9_markFromRow_77 ?_
      refine mj_istore C dX9_markFromRow_78 (by decide) ?_
      refine mj_iload_n C dX9_markFromRow_80 rfl ?_
      refine mj_iload C dX9_markFromRow_81 rfl ?_
      refine mj_iload C dX9_markFromRow_83 rfl ?_
      refine mj_iload C dX9_markFromRow_85 rfl ?_
      refine mj_callSi C (c_X9_isMark σ r4.toInt32 r5.toInt32 r6.toInt32 r7.toInt32) ys_X9_isMark kl_X9_142 rfl rfl (Nat.le_of_ble_eq_true rfl) (mj_roomC (by decide) (by decide)) ⟨Nat.zero_le _, Nat.zero_le _⟩ dX9_markFromRow_87 ?_
      refine mj_if_ne C dX9_markFromRow_90 rfl hF (fun hc8 hF => ?_) (fun hc8 hF => ?_)
      · refine mj_aload_n C dX9_markFromRow_95 rfl ?_
        refine mg_X9_35 C dX9_markFromRow_96 ?_
        refine mj_iload_n C dX9_markFromRow_99 rfl ?_
        refine mj_iload C dX9_markFromRow_100 rfl ?_
        refine mj_iload C dX9_markFromRow_102 rfl ?_
        refine mj_iload C dX9_markFromRow_104 rfl ?_
        obtain ⟨r9, hq9, hF⟩ := mj_ob hF
        refine mj_callVi C (c_X5_add σ r4.toInt32 r5.toInt32 r6.toInt32 r7.toInt32 r9 hq9) yv_X5_add kl_X9_147 (mo_35 G _) rfl rfl rfl rfl (Nat.le_of_ble_eq_true rfl) (mj_roomC (by decide) (by decide)) ⟨Nat.zero_le _, Nat.zero_le _⟩ dX9_markFromRow_106 ?_
        refine mj_pop C dX9_markFromRow_109 rfl ?_
        refine mj_iconstV (v := 1) C dX9_markFromRow_110 mc_i_1 ?_
        have hF := mj_oi hF; subst hF
        exact mj_zret (v := 1) rfl C hr hlk dX9_markFromRow_111
      · refine mj_iconstV (v := 0) C dX9_markFromRow_93 mc_i_0 ?_
        have hF := mj_oi hF; subst hF
        exact mj_zret (v := 0) rfl C hr hlk dX9_markFromRow_94
    · refine mj_iconstV (v := 0) C dX9_markFromRow_25 mc_i_0 ?_
      have hF := mj_oi hF; subst hF
      exact mj_zret (v := 0) rfl C hr hlk dX9_markFromRow_26
set_option maxRecDepth 100000 in
set_option maxHeartbeats 4000000 in
theorem w_X9_marks_54 {p : Program} {l : Launch} {e : Env} {s : State} {m : MethodId} {args : Array Value} {below : List Frame} {meth : Method} {c : Code} {G : mj_G} (C : mj_X p s m args meth c G cX9_marks 6 RX9) (hr : meth.sig.returnType = some .int) (hlk : meth.locks = false) : ∀ (n : Nat) (v1 : Int32) (v2 : Int32) (v3 : Int32) (v4 : Int32) (v5 : Int32) (σ : mj_S) (R : (Int32 × mj_S)), b_X9_marks_54 n v1 v2 v3 v4 v5 σ = some R → mj_W p l e (mj_rm 5) s m args below meth c G 0 0 6 (MQ below (mj_Q G (some (.int R.1)) R.2) args s 0 0 G.2.2.2) 54 [(0, .ref (G.2.1 0)), (1, .int v1), (2, .int v2), (3, .int v3), (4, .int v4), (5, .int v5)] [] σ := by
  intro n
  induction n with
  | zero =>
    intro v1 v2 v3 v4 v5 σ R hF
    cases hF
  | succ n ih =>
    intro v1 v2 v3 v4 v5 σ R hF
    rw [b_X9_marks_54] at hF
    refine mj_iload C dX9_marks_54 rfl ?_
    refine mj_iload_n C dX9_marks_56 rfl ?_
    refine mj_ic_ge C dX9_marks_57 rfl hF (fun hc5 hF => ?_) (fun hc5 hF => ?_)
    · refine mj_iload C dX9_marks_83 rfl ?_
      have hF := mj_oi hF; subst hF
      exact mj_iret C hr hlk dX9_marks_85
    · refine mj_aload_n C dX9_marks_60 rfl ?_
      refine mj_iload_n C dX9_marks_61 rfl ?_
      refine mj_iload_n C dX9_marks_62 rfl ?_
      refine mj_iconstV (v := 4) C dX9_marks_63 mc_i_4 ?_
      refine mj_iload C dX9_marks_64 rfl ?_
      refine mj_imul C dX9_marks_66 ?_
      refine mj_iadd C dX9_marks_67 ?_
      obtain ⟨r6, hq6, hF⟩ := mj_ob hF
      refine mj_callVi C (c_X9_markFromRow σ v1 (v2 + (4 * v5)) r6 hq6) yv_X9_markFromRow kl_X9_157 (mo_0 G _) rfl rfl rfl rfl (Nat.le_of_ble_eq_true rfl) (mj_roomC (by decide) (by decide)) ⟨Nat.zero_le _, Nat.zero_le _⟩ dX9_marks_68 ?_
      refine mj_if_eq C dX9_marks_71 rfl hF (fun hc7 hF => ?_) (fun hc7 hF => ?_)
      · refine mj_iload C dX9_marks_83 rfl ?_
        have hF := mj_oi hF; subst hF
        exact mj_iret C hr hlk dX9_marks_85
      · refine mj_iinc (v := v4 + 1) C dX9_marks_74 rfl rfl (by decide) ?_
        refine mj_iinc (v := v5 + 1) C dX9_marks_77 rfl rfl (by decide) ?_
        refine mj_goto C dX9_marks_80 rfl ?_
        refine mj_to ?_ (ih v1 v2 v3 (v4 + 1) (v5 + 1) r6.2 R hF)
        exact ⟨rfl, rfl, rfl, rfl, rfl, rfl, trivial⟩
set_option maxRecDepth 100000 in
set_option maxHeartbeats 4000000 in
theorem c_X9_marks {G : mj_G} {l : Launch} (σ : mj_S) (p1 : Int32) (p2 : Int32) (p3 : Int32) (R : (Int32 × mj_S)) (hF : f_X9_marks σ p1 p2 p3 = some R) : mj_C G l yX9_marks cX9_marks 6 (some .int) 5 [.ref (G.2.1 0), .int p1, .int p2, .int p3] σ (some (.int R.1)) R.2 := by
  unfold f_X9_marks at hF
  refine mj_of (ls := [(0, .ref (G.2.1 0)), (1, .int p1), (2, .int p2), (3, .int p3)]) (by decide) (Nat.le_of_ble_eq_true rfl) rfl (fun p e s m args below meth c C hr hlk => ?_)
  refine mj_aload_n C dX9_marks_0 rfl ?_
  refine mg_X9_74 C dX9_marks_1 ?_
  refine mj_iload_n C dX9_marks_4 rfl ?_
  refine mj_callVi C (c_X8_has σ p1) yv_X8_has kl_X9_150 (mo_53 G _) rfl rfl rfl rfl (Nat.le_of_ble_eq_true rfl) (mj_roomC (by decide) (by decide)) ⟨Nat.zero_le _, Nat.zero_le _⟩ dX9_marks_5 ?_
  refine mj_if_eq C dX9_marks_8 rfl hF (fun hc1 hF => ?_) (fun hc1 hF => ?_)
  · refine mj_iconstV (v := (-1)) C dX9_marks_21 mc_i_m1 ?_
    have hF := mj_oi hF; subst hF
    exact mj_iret C hr hlk dX9_marks_22
  · refine mj_iload_n C dX9_marks_11 rfl ?_
    refine mj_iconstV (v := 1) C dX9_marks_12 mc_i_1 ?_
    refine mj_bipushV (v := 15) C dX9_marks_13 mc_b_15 ?_
    refine mj_callSi C (c_X9_within σ p3 1 15) ys_X9_within kl_X9_82 rfl rfl (Nat.le_of_ble_eq_true rfl) (mj_roomC (by decide) (by decide)) ⟨Nat.zero_le _, Nat.zero_le _⟩ dX9_marks_15 ?_
    refine mj_if_ne C dX9_marks_18 rfl hF (fun hc2 hF => ?_) (fun hc2 hF => ?_)
    · refine mj_aload_n C dX9_marks_23 rfl ?_
      refine mg_X9_74 C dX9_marks_24 ?_
      refine mj_iload_n C dX9_marks_27 rfl ?_
      obtain ⟨r3, hq3, hF⟩ := mj_ob hF
      refine mj_callVi C (c_X8_holdsNothing σ p1 r3 hq3) yv_X8_holdsNothing kl_X9_151 (mo_53 G _) rfl rfl rfl rfl (Nat.le_of_ble_eq_true rfl) (mj_roomC (by decide) (by decide)) ⟨Nat.zero_le _, Nat.zero_le _⟩ dX9_marks_28 ?_
      refine mj_if_ne C dX9_marks_31 rfl hF (fun hc4 hF => ?_) (fun hc4 hF => ?_)
      · refine mj_iconstV (v := 0) C dX9_marks_48 mc_i_0 ?_
        refine mj_istore C dX9_marks_49 (by decide) ?_
        refine mj_iconstV (v := 0) C dX9_marks_51 mc_i_0 ?_
        refine mj_istore C dX9_marks_52 (by decide) ?_
        refine mj_to ?_ (w_X9_marks_54 C hr hlk mj_fu p1 p2 p3 0 0 σ R hF)
        exact ⟨rfl, rfl, rfl, rfl, rfl, rfl, trivial⟩
      · refine mj_aload_n C dX9_marks_34 rfl ?_
        refine mg_X9_74 C dX9_marks_35 ?_
        refine mj_iload_n C dX9_marks_38 rfl ?_
        obtain ⟨r8, hq8, hF⟩ := mj_ob hF
        refine mj_callVi C (c_X8_holdsShorts σ p1 r8 hq8) yv_X8_holdsShorts kl_X9_154 (mo_53 G _) rfl rfl rfl rfl (Nat.le_of_ble_eq_true rfl) (mj_roomC (by decide) (by decide)) ⟨Nat.zero_le _, Nat.zero_le _⟩ dX9_marks_39 ?_
        refine mj_if_ne C dX9_marks_42 rfl hF (fun hc9 hF => ?_) (fun hc9 hF => ?_)
        · refine mj_iconstV (v := 0) C dX9_marks_48 mc_i_0 ?_
          refine mj_istore C dX9_marks_49 (by decide) ?_
          refine mj_iconstV (v := 0) C dX9_marks_51 mc_i_0 ?_
          refine mj_istore C dX9_marks_52 (by decide) ?_
          refine mj_to ?_ (w_X9_marks_54 C hr hlk mj_fu p1 p2 p3 0 0 σ R hF)
          exact ⟨rfl, rfl, rfl, rfl, rfl, rfl, trivial⟩
        · refine mj_bipushV (v := (-12)) C dX9_marks_45 mc_b_m12 ?_
          have hF := mj_oi hF; subst hF
          exact mj_iret C hr hlk dX9_marks_47
    · refine mj_iconstV (v := (-1)) C dX9_marks_21 mc_i_m1 ?_
      have hF := mj_oi hF; subst hF
      exact mj_iret C hr hlk dX9_marks_22
set_option maxRecDepth 100000 in
set_option maxHeartbeats 4000000 in
theorem w_X9_keep_29 {p : Program} {l : Launch} {e : Env} {s : State} {m : MethodId} {args : Array Value} {below : List Frame} {meth : Method} {c : Code} {G : mj_G} (C : mj_X p s m args meth c G cX9_keep 3 RX9) (hr : meth.sig.returnType = some .int) (hlk : meth.locks = false) : ∀ (v1 : Int32) (v2 : Int32) (σ : mj_S) (R : (Int32 × mj_S)), b_X9_keep_29 v1 v2 σ = some R → mj_W p l e (mj_rm 3) s m args below meth c G 0 0 3 (MQ below (mj_Q G (some (.int R.1)) R.2) args s 0 0 G.2.2.2) 29 [(0, .ref (G.2.1 0)), (1, .int v1), (2, .int v2)] [] σ := by
  intro v1 v2 σ R hF
  unfold b_X9_keep_29 at hF
  refine mj_aload_n C dX9_keep_29 rfl ?_
  refine mg_X9_74 C dX9_keep_30 ?_
  refine mj_iload_n C dX9_keep_33 rfl ?_
  refine mj_iload_n C dX9_keep_34 rfl ?_
  obtain ⟨r3, hq3, hF⟩ := mj_ob hF
  refine mj_callVv C (c_X8_holdBody σ v1 v2 r3 hq3) yv_X8_holdBody kl_X9_297 (mo_53 G _) rfl rfl rfl rfl (Nat.le_of_ble_eq_true rfl) (mj_roomC (by decide) (by decide)) ⟨Nat.zero_le _, Nat.zero_le _⟩ dX9_keep_35 ?_
  refine mj_iconstV (v := 1) C dX9_keep_38 mc_i_1 ?_
  have hF := mj_oi hF; subst hF
  exact mj_iret C hr hlk dX9_keep_39
set_option maxRecDepth 100000 in
set_option maxHeartbeats 4000000 in
theorem c_X9_keep {G : mj_G} {l : Launch} (σ : mj_S) (p1 : Int32) (p2 : Int32) (R : (Int32 × mj_S)) (hF : f_X9_keep σ p1 p2 = some R) : mj_C G l yX9_keep cX9_keep 3 (some .int) 3 [.ref (G.2.1 0), .int p1, .int p2] σ (some (.int R.1)) R.2 := by
  unfold f_X9_keep at hF
  refine mj_of (ls := [(0, .ref (G.2.1 0)), (1, .int p1), (2, .int p2)]) (by decide) (Nat.le_of_ble_eq_true rfl) rfl (fun p e s m args below meth c C hr hlk => ?_)
  refine mj_aload_n C dX9_keep_0 rfl ?_
  refine mg_X9_74 C dX9_keep_1 ?_
  refine mj_iload_n C dX9_keep_4 rfl ?_
  refine mj_callVi C (c_X8_has σ p1) yv_X8_has kl_X9_150 (mo_53 G _) rfl rfl rfl rfl (Nat.le_of_ble_eq_true rfl) (mj_roomC (by decide) (by decide)) ⟨Nat.zero_le _, Nat.zero_le _⟩ dX9_keep_5 ?_
  refine mj_if_eq C dX9_keep_8 rfl hF (fun hc1 hF => ?_) (fun hc1 hF => ?_)
  · refine mj_iconstV (v := (-1)) C dX9_keep_27 mc_i_m1 ?_
    have hF := mj_oi hF; subst hF
    exact mj_iret C hr hlk dX9_keep_28
  · refine mj_iload_n C dX9_keep_11 rfl ?_
    refine mj_iconstV (v := (-1)) C dX9_keep_12 mc_i_m1 ?_
    refine mj_ic_eq C dX9_keep_13 rfl hF (fun hc2 hF => ?_) (fun hc2 hF => ?_)
    · refine mj_to ?_ (w_X9_keep_29 C hr hlk p1 p2 σ R hF)
      exact ⟨rfl, rfl, rfl, trivial⟩
    · refine mj_aload_n C dX9_keep_16 rfl ?_
      refine mg_X9_67 C dX9_keep_17 ?_
      refine mj_iload_n C dX9_keep_20 rfl ?_
      refine mj_callVi C (c_X0_has σ p2) yv_X0_has kl_X9_296 (mo_50 G _) rfl rfl rfl rfl (Nat.le_of_ble_eq_true rfl) (mj_roomC (by decide) (by decide)) ⟨Nat.zero_le _, Nat.zero_le _⟩ dX9_keep_21 ?_
      refine mj_if_ne C dX9_keep_24 rfl hF (fun hc4 hF => ?_) (fun hc4 hF => ?_)
      · refine mj_to ?_ (w_X9_keep_29 C hr hlk p1 p2 σ R hF)
        exact ⟨rfl, rfl, rfl, trivial⟩
      · refine mj_iconstV (v := (-1)) C dX9_keep_27 mc_i_m1 ?_
        have hF := mj_oi hF; subst hF
        exact mj_iret C hr hlk dX9_keep_28
set_option maxRecDepth 100000 in
set_option maxHeartbeats 4000000 in
theorem c_X9_row {G : mj_G} {l : Launch} (σ : mj_S) (p1 : Int32) (p2 : Int32) (p3 : Int32) (R : (Int32 × mj_S)) (hF : f_X9_row σ p1 p2 p3 = some R) : mj_C G l yX9_row cX9_row 4 (some .int) 3 [.ref (G.2.1 0), .int p1, .int p2, .int p3] σ (some (.int R.1)) R.2 := by
  unfold f_X9_row at hF
  refine mj_of (ls := [(0, .ref (G.2.1 0)), (1, .int p1), (2, .int p2), (3, .int p3)]) (by decide) (Nat.le_of_ble_eq_true rfl) rfl (fun p e s m args below meth c C hr hlk => ?_)
  refine mj_aload_n C dX9_row_0 rfl ?_
  refine mg_X9_74 C dX9_row_1 ?_
  refine mj_iload_n C dX9_row_4 rfl ?_
  refine mj_callVi C (c_X8_has σ p1) yv_X8_has kl_X9_150 (mo_53 G _) rfl rfl rfl rfl (Nat.le_of_ble_eq_true rfl) (mj_roomC (by decide) (by decide)) ⟨Nat.zero_le _, Nat.zero_le _⟩ dX9_row_5 ?_
  refine mj_if_eq C dX9_row_8 rfl hF (fun hc1 hF => ?_) (fun hc1 hF => ?_)
  · refine mj_iconstV (v := (-1)) C dX9_row_24 mc_i_m1 ?_
    have hF := mj_oi hF; subst hF
    exact mj_iret C hr hlk dX9_row_25
  · refine mj_iload_n C dX9_row_11 rfl ?_
    refine mj_callSi C (c_X8_isSort σ p2) ys_X8_isSort kl_X9_301 rfl rfl (Nat.le_of_ble_eq_true rfl) (mj_roomC (by decide) (by decide)) ⟨Nat.zero_le _, Nat.zero_le _⟩ dX9_row_12 ?_
    refine mj_if_eq C dX9_row_15 rfl hF (fun hc2 hF => ?_) (fun hc2 hF => ?_)
    · refine mj_iconstV (v := (-1)) C dX9_row_24 mc_i_m1 ?_
      have hF := mj_oi hF; subst hF
      exact mj_iret C hr hlk dX9_row_25
    · refine mj_iload_n C dX9_row_18 rfl ?_
      refine mj_bipushV (v := 60) C dX9_row_19 mc_b_60 ?_
      refine mj_ic_le C dX9_row_21 rfl hF (fun hc3 hF => ?_) (fun hc3 hF => ?_)
      · refine mj_iload_n C dX9_row_26 rfl ?_
        refine mj_if_ge C dX9_row_27 rfl hF (fun hc4 hF => ?_) (fun hc4 hF => ?_)
        · refine mj_aload_n C dX9_row_33 rfl ?_
          refine mg_X9_74 C dX9_row_34 ?_
          refine mj_iload_n C dX9_row_37 rfl ?_
          refine mj_iload_n C dX9_row_38 rfl ?_
          refine mj_iload_n C dX9_row_39 rfl ?_
          obtain ⟨r5, hq5, hF⟩ := mj_ob hF
          refine mj_callVv C (c_X8_holdRow σ p1 p2 p3 r5 hq5) yv_X8_holdRow kl_X9_304 (mo_53 G _) rfl rfl rfl rfl (Nat.le_of_ble_eq_true rfl) (mj_roomC (by decide) (by decide)) ⟨Nat.zero_le _, Nat.zero_le _⟩ dX9_row_40 ?_
          refine mj_iconstV (v := 1) C dX9_row_43 mc_i_1 ?_
          have hF := mj_oi hF; subst hF
          exact mj_iret C hr hlk dX9_row_44
        · refine mj_bipushV (v := (-14)) C dX9_row_30 mc_b_m14 ?_
          have hF := mj_oi hF; subst hF
          exact mj_iret C hr hlk dX9_row_32
      · refine mj_iconstV (v := (-1)) C dX9_row_24 mc_i_m1 ?_
        have hF := mj_oi hF; subst hF
        exact mj_iret C hr hlk dX9_row_25
set_option maxRecDepth 100000 in
set_option maxHeartbeats 4000000 in
theorem c_X9_refusalAt {G : mj_G} {l : Launch} (σ : mj_S) (p1 : Int32) (p2 : Int32) (R : Int32) (hF : f_X9_refusalAt σ p1 p2 = some R) : mj_C G l yX9_refusalAt cX9_refusalAt 3 (some .int) 3 [.ref (G.2.1 0), .int p1, .int p2] σ (some (.int R)) σ := by
  unfold f_X9_refusalAt at hF
  refine mj_of (ls := [(0, .ref (G.2.1 0)), (1, .int p1), (2, .int p2)]) (by decide) (Nat.le_of_ble_eq_true rfl) rfl (fun p e s m args below meth c C hr hlk => ?_)
  refine mj_aload_n C dX9_refusalAt_0 rfl ?_
  refine mg_X9_74 C dX9_refusalAt_1 ?_
  refine mj_iload_n C dX9_refusalAt_4 rfl ?_
  refine mj_callVi C (c_X8_has σ p1) yv_X8_has kl_X9_150 (mo_53 G _) rfl rfl rfl rfl (Nat.le_of_ble_eq_true rfl) (mj_roomC (by decide) (by decide)) ⟨Nat.zero_le _, Nat.zero_le _⟩ dX9_refusalAt_5 ?_
  refine mj_if_ne C dX9_refusalAt_8 rfl hF (fun hc1 hF => ?_) (fun hc1 hF => ?_)
  · refine mj_aload_n C dX9_refusalAt_13 rfl ?_
    refine mg_X9_74 C dX9_refusalAt_14 ?_
    refine mj_iload_n C dX9_refusalAt_17 rfl ?_
    obtain ⟨r2, hq2, hF⟩ := mj_ob hF
    refine mj_callVi C (c_X8_holdsNothing σ p1 r2 hq2) yv_X8_holdsNothing kl_X9_151 (mo_53 G _) rfl rfl rfl rfl (Nat.le_of_ble_eq_true rfl) (mj_roomC (by decide) (by decide)) ⟨Nat.zero_le _, Nat.zero_le _⟩ dX9_refusalAt_18 ?_
    refine mj_if_eq C dX9_refusalAt_21 rfl hF (fun hc3 hF => ?_) (fun hc3 hF => ?_)
    · refine mj_aload_n C dX9_refusalAt_27 rfl ?_
      refine mg_X9_74 C dX9_refusalAt_28 ?_
      refine mj_iload_n C dX9_refusalAt_31 rfl ?_
      obtain ⟨r4, hq4, hF⟩ := mj_ob hF
      refine mj_callVi C (c_X8_holdsRow σ p1 r4 hq4) yv_X8_holdsRow kl_X9_323 (mo_53 G _) rfl rfl rfl rfl (Nat.le_of_ble_eq_true rfl) (mj_roomC (by decide) (by decide)) ⟨Nat.zero_le _, Nat.zero_le _⟩ dX9_refusalAt_32 ?_
      refine mj_if_ne C dX9_refusalAt_35 rfl hF (fun hc5 hF => ?_) (fun hc5 hF => ?_)
      · refine mj_aload_n C dX9_refusalAt_41 rfl ?_
        refine mg_X9_74 C dX9_refusalAt_42 ?_
        refine mj_iload_n C dX9_refusalAt_45 rfl ?_
        refine mj_iload_n C dX9_refusalAt_46 rfl ?_
        refine mj_iconstV (v := 1) C dX9_refusalAt_47 mc_i_1 ?_
        obtain ⟨r6, hq6, hF⟩ := mj_ob hF
        refine mj_callVi C (c_X8_hasPlaces σ p1 p2 1 r6 hq6) yv_X8_hasPlaces kl_X9_329 (mo_53 G _) rfl rfl rfl rfl (Nat.le_of_ble_eq_true rfl) (mj_roomC (by decide) (by decide)) ⟨Nat.zero_le _, Nat.zero_le _⟩ dX9_refusalAt_48 ?_
        refine mj_if_eq C dX9_refusalAt_51 rfl hF (fun hc7 hF => ?_) (fun hc7 hF => ?_)
        · refine mj_bipushV (v := (-13)) C dX9_refusalAt_58 mc_b_m13 ?_
          have hF := mj_oi hF; subst hF
          exact mj_iret C hr hlk dX9_refusalAt_60
        · refine mj_iconstV (v := 0) C dX9_refusalAt_54 mc_i_0 ?_
          refine mj_goto C dX9_refusalAt_55 rfl ?_
          have hF := mj_oi hF; subst hF
          exact mj_iret C hr hlk dX9_refusalAt_60
      · refine mj_bipushV (v := (-12)) C dX9_refusalAt_38 mc_b_m12 ?_
        have hF := mj_oi hF; subst hF
        exact mj_iret C hr hlk dX9_refusalAt_40
    · refine mj_bipushV (v := (-11)) C dX9_refusalAt_24 mc_b_m11 ?_
      have hF := mj_oi hF; subst hF
      exact mj_iret C hr hlk dX9_refusalAt_26
  · refine mj_iconstV (v := (-1)) C dX9_refusalAt_11 mc_i_m1 ?_
    have hF := mj_oi hF; subst hF
    exact mj_iret C hr hlk dX9_refusalAt_12
set_option maxRecDepth 100000 in
set_option maxHeartbeats 4000000 in
theorem c_X9_put {G : mj_G} {l : Launch} (σ : mj_S) (p1 : Int32) (p2 : Int32) (p3 : Int64) (R : (Int32 × mj_S)) (hF : f_X9_put σ p1 p2 p3 = some R) : mj_C G l yX9_put cX9_put 6 (some .int) 4 [.ref (G.2.1 0), .int p1, .int p2, .long p3] σ (some (.int R.1)) R.2 := by
  unfold f_X9_put at hF
  refine mj_of (ls := [(0, .ref (G.2.1 0)), (1, .int p1), (2, .int p2), (3, .long p3)]) (by decide) (Nat.le_of_ble_eq_true rfl) rfl (fun p e s m args below meth c C hr hlk => ?_)
  refine mj_aload_n C dX9_put_0 rfl ?_
  refine mj_iload_n C dX9_put_1 rfl ?_
  refine mj_iload_n C dX9_put_2 rfl ?_
  obtain ⟨r1, hq1, hF⟩ := mj_ob hF
  refine mj_callVi C (c_X9_refusalAt σ p1 p2 r1 hq1) yv_X9_refusalAt kl_X9_308 (mo_0 G _) rfl rfl rfl rfl (Nat.le_of_ble_eq_true rfl) (mj_roomC (by decide) (by decide)) ⟨Nat.zero_le _, Nat.zero_le _⟩ dX9_put_3 ?_
  refine mj_istore C dX9_put_6 (by decide) ?_
  refine mj_iload C dX9_put_8 rfl ?_
  refine mj_if_eq C dX9_put_10 rfl hF (fun hc2 hF => ?_) (fun hc2 hF => ?_)
  · refine mj_aload_n C dX9_put_16 rfl ?_
    refine mg_X9_74 C dX9_put_17 ?_
    refine mj_iload_n C dX9_put_20 rfl ?_
    refine mj_iload_n C dX9_put_21 rfl ?_
    refine mj_lload_n C dX9_put_22 rfl ?_
    obtain ⟨r3, hq3, hF⟩ := mj_ob hF
    refine mj_callVv C (c_X8_set σ p1 p2 p3 r3 hq3) yv_X8_set kl_X9_311 (mo_53 G _) rfl rfl rfl rfl (Nat.le_of_ble_eq_true rfl) (mj_roomC (by decide) (by decide)) ⟨Nat.zero_le _, Nat.zero_le _⟩ dX9_put_23 ?_
    refine mj_iconstV (v := 1) C dX9_put_26 mc_i_1 ?_
    have hF := mj_oi hF; subst hF
    exact mj_iret C hr hlk dX9_put_27
  · refine mj_iload C dX9_put_13 rfl ?_
    have hF := mj_oi hF; subst hF
    exact mj_iret C hr hlk dX9_put_15
set_option maxRecDepth 100000 in
set_option maxHeartbeats 4000000 in
theorem c_X9_element {G : mj_G} {l : Launch} (σ : mj_S) (p1 : Int32) (p2 : Int32) (R : Int64) (hF : f_X9_element σ p1 p2 = some R) : mj_C G l yX9_element cX9_element 3 (some .long) 4 [.ref (G.2.1 0), .int p1, .int p2] σ (some (.long R)) σ := by
  unfold f_X9_element at hF
  refine mj_of (ls := [(0, .ref (G.2.1 0)), (1, .int p1), (2, .int p2)]) (by decide) (Nat.le_of_ble_eq_true rfl) rfl (fun p e s m args below meth c C hr hlk => ?_)
  refine mj_aload_n C dX9_element_0 rfl ?_
  refine mj_iload_n C dX9_element_1 rfl ?_
  refine mj_iload_n C dX9_element_2 rfl ?_
  obtain ⟨r1, hq1, hF⟩ := mj_ob hF
  refine mj_callVi C (c_X9_refusalAt σ p1 p2 r1 hq1) yv_X9_refusalAt kl_X9_308 (mo_0 G _) rfl rfl rfl rfl (Nat.le_of_ble_eq_true rfl) (mj_roomC (by decide) (by decide)) ⟨Nat.zero_le _, Nat.zero_le _⟩ dX9_element_3 ?_
  refine mj_if_eq C dX9_element_6 rfl hF (fun hc2 hF => ?_) (fun hc2 hF => ?_)
  · refine mj_aload_n C dX9_element_15 rfl ?_
    refine mg_X9_74 C dX9_element_16 ?_
    refine mj_iload_n C dX9_element_19 rfl ?_
    refine mj_iload_n C dX9_element_20 rfl ?_
    obtain ⟨r3, hq3, hF⟩ := mj_ob hF
    refine mj_callVl C (c_X8_get σ p1 p2 r3 hq3) yv_X8_get kl_X9_319 (mo_53 G _) rfl rfl rfl rfl (Nat.le_of_ble_eq_true rfl) (mj_roomC (by decide) (by decide)) ⟨Nat.zero_le _, Nat.zero_le _⟩ dX9_element_21 ?_
    have hF := mj_oi hF; subst hF
    exact mj_lret C hr hlk dX9_element_24
  · refine mj_ldc2 C dX9_element_9 kc_X9_317 ?_
    refine mj_goto C dX9_element_12 rfl ?_
    have hF := mj_oi hF; subst hF
    exact mj_lret C hr hlk dX9_element_24
set_option maxRecDepth 100000 in
set_option maxHeartbeats 4000000 in
theorem c_X9_shift {G : mj_G} {l : Launch} (σ : mj_S) (p1 : Int32) (p2 : Int32) (p3 : Int32) (p4 : Int32) (p5 : Int32) (R : (Int32 × mj_S)) (hF : f_X9_shift σ p1 p2 p3 p4 p5 = some R) : mj_C G l yX9_shift cX9_shift 6 (some .int) 4 [.ref (G.2.1 0), .int p1, .int p2, .int p3, .int p4, .int p5] σ (some (.int R.1)) R.2 := by
  unfold f_X9_shift at hF
  refine mj_of (ls := [(0, .ref (G.2.1 0)), (1, .int p1), (2, .int p2), (3, .int p3), (4, .int p4), (5, .int p5)]) (by decide) (Nat.le_of_ble_eq_true rfl) rfl (fun p e s m args below meth c C hr hlk => ?_)
  refine mj_aload_n C dX9_shift_0 rfl ?_
  refine mg_X9_74 C dX9_shift_1 ?_
  refine mj_iload_n C dX9_shift_4 rfl ?_
  refine mj_callVi C (c_X8_has σ p1) yv_X8_has kl_X9_150 (mo_53 G _) rfl rfl rfl rfl (Nat.le_of_ble_eq_true rfl) (mj_roomC (by decide) (by decide)) ⟨Nat.zero_le _, Nat.zero_le _⟩ dX9_shift_5 ?_
  refine mj_if_eq C dX9_shift_8 rfl hF (fun hc1 hF => ?_) (fun hc1 hF => ?_)
  · refine mj_iconstV (v := (-1)) C dX9_shift_22 mc_i_m1 ?_
    have hF := mj_oi hF; subst hF
    exact mj_iret C hr hlk dX9_shift_23
  · refine mj_aload_n C dX9_shift_11 rfl ?_
    refine mg_X9_74 C dX9_shift_12 ?_
    refine mj_iload_n C dX9_shift_15 rfl ?_
    refine mj_callVi C (c_X8_has σ p3) yv_X8_has kl_X9_150 (mo_53 G _) rfl rfl rfl rfl (Nat.le_of_ble_eq_true rfl) (mj_roomC (by decide) (by decide)) ⟨Nat.zero_le _, Nat.zero_le _⟩ dX9_shift_16 ?_
    refine mj_if_ne C dX9_shift_19 rfl hF (fun hc2 hF => ?_) (fun hc2 hF => ?_)
    · refine mj_aload_n C dX9_shift_24 rfl ?_
      refine mg_X9_74 C dX9_shift_25 ?_
      refine mj_iload_n C dX9_shift_28 rfl ?_
      obtain ⟨r3, hq3, hF⟩ := mj_ob hF
      refine mj_callVi C (c_X8_holdsNothing σ p1 r3 hq3) yv_X8_holdsNothing kl_X9_151 (mo_53 G _) rfl rfl rfl rfl (Nat.le_of_ble_eq_true rfl) (mj_roomC (by decide) (by decide)) ⟨Nat.zero_le _, Nat.zero_le _⟩ dX9_shift_29 ?_
      refine mj_if_ne C dX9_shift_32 rfl hF (fun hc4 hF => ?_) (fun hc4 hF => ?_)
      · refine mj_bipushV (v := (-11)) C dX9_shift_46 mc_b_m11 ?_
        have hF := mj_oi hF; subst hF
        exact mj_iret C hr hlk dX9_shift_48
      · refine mj_aload_n C dX9_shift_35 rfl ?_
        refine mg_X9_74 C dX9_shift_36 ?_
        refine mj_iload_n C dX9_shift_39 rfl ?_
        obtain ⟨r5, hq5, hF⟩ := mj_ob hF
        refine mj_callVi C (c_X8_holdsNothing σ p3 r5 hq5) yv_X8_holdsNothing kl_X9_151 (mo_53 G _) rfl rfl rfl rfl (Nat.le_of_ble_eq_true rfl) (mj_roomC (by decide) (by decide)) ⟨Nat.zero_le _, Nat.zero_le _⟩ dX9_shift_40 ?_
        refine mj_if_eq C dX9_shift_43 rfl hF (fun hc6 hF => ?_) (fun hc6 hF => ?_)
        · refine mj_aload_n C dX9_shift_49 rfl ?_
          refine mg_X9_74 C dX9_shift_50 ?_
          refine mj_iload_n C dX9_shift_53 rfl ?_
          obtain ⟨r7, hq7, hF⟩ := mj_ob hF
          refine mj_callVi C (c_X8_holdsRow σ p1 r7 hq7) yv_X8_holdsRow kl_X9_323 (mo_53 G _) rfl rfl rfl rfl (Nat.le_of_ble_eq_true rfl) (mj_roomC (by decide) (by decide)) ⟨Nat.zero_le _, Nat.zero_le _⟩ dX9_shift_54 ?_
          refine mj_if_eq C dX9_shift_57 rfl hF (fun hc8 hF => ?_) (fun hc8 hF => ?_)
          · refine mj_bipushV (v := (-12)) C dX9_shift_83 mc_b_m12 ?_
            have hF := mj_oi hF; subst hF
            exact mj_iret C hr hlk dX9_shift_85
          · refine mj_aload_n C dX9_shift_60 rfl ?_
            refine mg_X9_74 C dX9_shift_61 ?_
            refine mj_iload_n C dX9_shift_64 rfl ?_
            obtain ⟨r9, hq9, hF⟩ := mj_ob hF
            refine mj_callVi C (c_X8_holdsRow σ p3 r9 hq9) yv_X8_holdsRow kl_X9_323 (mo_53 G _) rfl rfl rfl rfl (Nat.le_of_ble_eq_true rfl) (mj_roomC (by decide) (by decide)) ⟨Nat.zero_le _, Nat.zero_le _⟩ dX9_shift_65 ?_
            refine mj_if_eq C dX9_shift_68 rfl hF (fun hc10 hF => ?_) (fun hc10 hF => ?_)
            · refine mj_bipushV (v := (-12)) C dX9_shift_83 mc_b_m12 ?_
              have hF := mj_oi hF; subst hF
              exact mj_iret C hr hlk dX9_shift_85
            · refine mj_aload_n C dX9_shift_71 rfl ?_
              refine mg_X9_74 C dX9_shift_72 ?_
              refine mj_iload_n C dX9_shift_75 rfl ?_
              refine mj_iload_n C dX9_shift_76 rfl ?_
              obtain ⟨r11, hq11, hF⟩ := mj_ob hF
              refine mj_callVi C (c_X8_areAlike σ p1 p3 r11 hq11) yv_X8_areAlike kl_X9_326 (mo_53 G _) rfl rfl rfl rfl (Nat.le_of_ble_eq_true rfl) (mj_roomC (by decide) (by decide)) ⟨Nat.zero_le _, Nat.zero_le _⟩ dX9_shift_77 ?_
              refine mj_if_ne C dX9_shift_80 rfl hF (fun hc12 hF => ?_) (fun hc12 hF => ?_)
              · refine mj_aload_n C dX9_shift_86 rfl ?_
                refine mg_X9_74 C dX9_shift_87 ?_
                refine mj_iload_n C dX9_shift_90 rfl ?_
                refine mj_iload_n C dX9_shift_91 rfl ?_
                refine mj_iload C dX9_shift_92 rfl ?_
                obtain ⟨r13, hq13, hF⟩ := mj_ob hF
                refine mj_callVi C (c_X8_hasPlaces σ p1 p2 p5 r13 hq13) yv_X8_hasPlaces kl_X9_329 (mo_53 G _) rfl rfl rfl rfl (Nat.le_of_ble_eq_true rfl) (mj_roomC (by decide) (by decide)) ⟨Nat.zero_le _, Nat.zero_le _⟩ dX9_shift_94 ?_
                refine mj_if_eq C dX9_shift_97 rfl hF (fun hc14 hF => ?_) (fun hc14 hF => ?_)
                · refine mj_bipushV (v := (-13)) C dX9_shift_115 mc_b_m13 ?_
                  have hF := mj_oi hF; subst hF
                  exact mj_iret C hr hlk dX9_shift_117
                · refine mj_aload_n C dX9_shift_100 rfl ?_
                  refine mg_X9_74 C dX9_shift_101 ?_
                  refine mj_iload_n C dX9_shift_104 rfl ?_
                  refine mj_iload C dX9_shift_105 rfl ?_
                  refine mj_iload C dX9_shift_107 rfl ?_
                  obtain ⟨r15, hq15, hF⟩ := mj_ob hF
                  refine mj_callVi C (c_X8_hasPlaces σ p3 p4 p5 r15 hq15) yv_X8_hasPlaces kl_X9_329 (mo_53 G _) rfl rfl rfl rfl (Nat.le_of_ble_eq_true rfl) (mj_roomC (by decide) (by decide)) ⟨Nat.zero_le _, Nat.zero_le _⟩ dX9_shift_109 ?_
                  refine mj_if_ne C dX9_shift_112 rfl hF (fun hc16 hF => ?_) (fun hc16 hF => ?_)
                  · refine mj_aload_n C dX9_shift_118 rfl ?_
                    refine mg_X9_74 C dX9_shift_119 ?_
                    refine mj_iload_n C dX9_shift_122 rfl ?_
                    refine mj_iload_n C dX9_shift_123 rfl ?_
                    refine mj_iload_n C dX9_shift_124 rfl ?_
                    refine mj_iload C dX9_shift_125 rfl ?_
                    refine mj_iload C dX9_shift_127 rfl ?_
                    obtain ⟨r17, hq17, hF⟩ := mj_ob hF
                    refine mj_callVv C (c_X8_move σ p1 p2 p3 p4 p5 r17 hq17) yv_X8_move kl_X9_332 (mo_53 G _) rfl rfl rfl rfl (Nat.le_of_ble_eq_true rfl) (mj_roomC (by decide) (by decide)) ⟨Nat.zero_le _, Nat.zero_le _⟩ dX9_shift_129 ?_
                    refine mj_iload C dX9_shift_132 rfl ?_
                    have hF := mj_oi hF; subst hF
                    exact mj_iret C hr hlk dX9_shift_134
                  · refine mj_bipushV (v := (-13)) C dX9_shift_115 mc_b_m13 ?_
                    have hF := mj_oi hF; subst hF
                    exact mj_iret C hr hlk dX9_shift_117
              · refine mj_bipushV (v := (-12)) C dX9_shift_83 mc_b_m12 ?_
                have hF := mj_oi hF; subst hF
                exact mj_iret C hr hlk dX9_shift_85
        · refine mj_bipushV (v := (-11)) C dX9_shift_46 mc_b_m11 ?_
          have hF := mj_oi hF; subst hF
          exact mj_iret C hr hlk dX9_shift_48
    · refine mj_iconstV (v := (-1)) C dX9_shift_22 mc_i_m1 ?_
      have hF := mj_oi hF; subst hF
      exact mj_iret C hr hlk dX9_shift_23
