set_option maxRecDepth 100000 in
set_option maxHeartbeats 4000000 in
theorem c_X6_endMonth {G : mj_G} {l : Launch} (σ : mj_S) (p1 : Int32) (R : Int32) (hF : f_X6_endMonth σ p1 = some R) : mj_C G l yX6_endMonth cX6_endMonth 2 (some .int) 3 [.ref (G.2.1 44), .int p1] σ (some (.int R)) σ := by
  unfold f_X6_endMonth at hF
  refine mj_of (ls := [(0, .ref (G.2.1 44)), (1, .int p1)]) (by decide) (Nat.le_of_ble_eq_true rfl) rfl (fun p e s m args below meth c C hr hlk => ?_)
  refine mj_aload_n C dX6_endMonth_0 rfl ?_
  refine mg_X6_9 C dX6_endMonth_1 ?_
  refine mj_iload_n C dX6_endMonth_4 rfl ?_
  obtain ⟨r1, hq1, hF⟩ := mj_ob hF
  refine mj_callVi C (c_X2_bornIn σ p1 r1 hq1) yv_X2_bornIn kl_X6_15 (mo_9 G _) rfl rfl rfl rfl (Nat.le_of_ble_eq_true rfl) (mj_roomC (by decide) (by decide)) ⟨Nat.zero_le _, Nat.zero_le _⟩ dX6_endMonth_5 ?_
  refine mj_sipushV (v := 240) C dX6_endMonth_8 mc_s_240 ?_
  refine mj_iadd C dX6_endMonth_11 ?_
  refine mj_sipushV (v := 599) C dX6_endMonth_12 mc_s_599 ?_
  refine mj_mmin C kl_X6_21 (mj_room13 (by decide) (Nat.le_of_ble_eq_true rfl)) ⟨Nat.zero_le _, Nat.zero_le _⟩ dX6_endMonth_15 ?_
  have hF := mj_oi hF; subst hF
  exact mj_iret C hr hlk dX6_endMonth_18
set_option maxRecDepth 100000 in
set_option maxHeartbeats 4000000 in
theorem c_X6_endOf {G : mj_G} {l : Launch} (σ : mj_S) (p1 : Int32) (R : Int32) (hF : f_X6_endOf σ p1 = some R) : mj_C G l yX6_endOf cX6_endOf 2 (some .int) 4 [.ref (G.2.1 44), .int p1] σ (some (.int R)) σ := by
  unfold f_X6_endOf at hF
  refine mj_of (ls := [(0, .ref (G.2.1 44)), (1, .int p1)]) (by decide) (Nat.le_of_ble_eq_true rfl) rfl (fun p e s m args below meth c C hr hlk => ?_)
  refine mj_aload_n C dX6_endOf_0 rfl ?_
  refine mg_X6_9 C dX6_endOf_1 ?_
  refine mj_iload_n C dX6_endOf_4 rfl ?_
  refine mj_aload_n C dX6_endOf_5 rfl ?_
  refine mj_iload_n C dX6_endOf_6 rfl ?_
  obtain ⟨r1, hq1, hF⟩ := mj_ob hF
  refine mj_callVi C (c_X6_endMonth σ p1 r1 hq1) yv_X6_endMonth kl_X6_27 (mo_44 G _) rfl rfl rfl rfl (Nat.le_of_ble_eq_true rfl) (mj_roomC (by decide) (by decide)) ⟨Nat.zero_le _, Nat.zero_le _⟩ dX6_endOf_7 ?_
  obtain ⟨r2, hq2, hF⟩ := mj_ob hF
  refine mj_callVi C (c_X2_heightAt σ p1 r1 r2 hq2) yv_X2_heightAt kl_X6_30 (mo_9 G _) rfl rfl rfl rfl (Nat.le_of_ble_eq_true rfl) (mj_roomC (by decide) (by decide)) ⟨Nat.zero_le _, Nat.zero_le _⟩ dX6_endOf_10 ?_
  have hF := mj_oi hF; subst hF
  exact mj_iret C hr hlk dX6_endOf_13
set_option maxRecDepth 100000 in
set_option maxHeartbeats 4000000 in
theorem c_X6_byParents {G : mj_G} {l : Launch} (σ : mj_S) (p1 : Int32) (R : Int32) (hF : f_X6_byParents σ p1 = some R) : mj_C G l yX6_byParents cX6_byParents 3 (some .int) 3 [.ref (G.2.1 44), .int p1] σ (some (.int R)) σ := by
  unfold f_X6_byParents at hF
  refine mj_of (ls := [(0, .ref (G.2.1 44)), (1, .int p1)]) (by decide) (Nat.le_of_ble_eq_true rfl) rfl (fun p e s m args below meth c C hr hlk => ?_)
  refine mj_aload_n C dX6_byParents_0 rfl ?_
  refine mg_X6_9 C dX6_byParents_1 ?_
  refine mj_iload_n C dX6_byParents_4 rfl ?_
  refine mj_iconstV (v := 4) C dX6_byParents_5 mc_i_4 ?_
  obtain ⟨r1, hq1, hF⟩ := mj_ob hF
  refine mj_callVi C (c_X2_told σ p1 4 r1 hq1) yv_X2_told kl_X6_37 (mo_9 G _) rfl rfl rfl rfl (Nat.le_of_ble_eq_true rfl) (mj_roomC (by decide) (by decide)) ⟨Nat.zero_le _, Nat.zero_le _⟩ dX6_byParents_6 ?_
  refine mj_istore_n C dX6_byParents_9 (by decide) ?_
  refine mj_aload_n C dX6_byParents_10 rfl ?_
  refine mg_X6_9 C dX6_byParents_11 ?_
  refine mj_iload_n C dX6_byParents_14 rfl ?_
  refine mj_iconstV (v := 1) C dX6_byParents_15 mc_i_1 ?_
  obtain ⟨r2, hq2, hF⟩ := mj_ob hF
  refine mj_callVi C (c_X2_told σ p1 1 r2 hq2) yv_X2_told kl_X6_37 (mo_9 G _) rfl rfl rfl rfl (Nat.le_of_ble_eq_true rfl) (mj_roomC (by decide) (by decide)) ⟨Nat.zero_le _, Nat.zero_le _⟩ dX6_byParents_16 ?_
  refine mj_iconstV (v := 1) C dX6_byParents_19 mc_i_1 ?_
  refine mj_ic_ne C dX6_byParents_20 rfl hF (fun hc3 hF => ?_) (fun hc3 hF => ?_)
  · refine mj_iload_n C dX6_byParents_31 rfl ?_
    refine mj_sipushV (v := 160) C dX6_byParents_32 mc_s_160 ?_
    refine mj_isub C dX6_byParents_35 ?_
    have hF := mj_oi hF; subst hF
    exact mj_iret C hr hlk dX6_byParents_36
  · refine mj_iload_n C dX6_byParents_23 rfl ?_
    refine mj_sipushV (v := 160) C dX6_byParents_24 mc_s_160 ?_
    refine mj_iadd C dX6_byParents_27 ?_
    refine mj_goto C dX6_byParents_28 rfl ?_
    have hF := mj_oi hF; subst hF
    exact mj_iret C hr hlk dX6_byParents_36
set_option maxRecDepth 100000 in
set_option maxHeartbeats 4000000 in
theorem c_X6_growthInYear {G : mj_G} {l : Launch} (σ : mj_S) (p1 : Int32) (p2 : Int32) (R : Int32) (hF : f_X6_growthInYear σ p1 p2 = some R) : mj_C G l yX6_growthInYear cX6_growthInYear 4 (some .int) 3 [.ref (G.2.1 44), .int p1, .int p2] σ (some (.int R)) σ := by
  unfold f_X6_growthInYear at hF
  refine mj_of (ls := [(0, .ref (G.2.1 44)), (1, .int p1), (2, .int p2)]) (by decide) (Nat.le_of_ble_eq_true rfl) rfl (fun p e s m args below meth c C hr hlk => ?_)
  refine mj_aload_n C dX6_growthInYear_0 rfl ?_
  refine mg_X6_9 C dX6_growthInYear_1 ?_
  refine mj_iload_n C dX6_growthInYear_4 rfl ?_
  obtain ⟨r1, hq1, hF⟩ := mj_ob hF
  refine mj_callVi C (c_X2_bornIn σ p1 r1 hq1) yv_X2_bornIn kl_X6_15 (mo_9 G _) rfl rfl rfl rfl (Nat.le_of_ble_eq_true rfl) (mj_roomC (by decide) (by decide)) ⟨Nat.zero_le _, Nat.zero_le _⟩ dX6_growthInYear_5 ?_
  refine mj_bipushV (v := 12) C dX6_growthInYear_8 mc_b_12 ?_
  refine mj_iload_n C dX6_growthInYear_10 rfl ?_
  refine mj_imul C dX6_growthInYear_11 ?_
  refine mj_iadd C dX6_growthInYear_12 ?_
  refine mj_istore_n C dX6_growthInYear_13 (by decide) ?_
  refine mj_aload_n C dX6_growthInYear_14 rfl ?_
  refine mg_X6_9 C dX6_growthInYear_15 ?_
  refine mj_iload_n C dX6_growthInYear_18 rfl ?_
  refine mj_iload_n C dX6_growthInYear_19 rfl ?_
  refine mj_bipushV (v := 12) C dX6_growthInYear_20 mc_b_12 ?_
  refine mj_iadd C dX6_growthInYear_22 ?_
  obtain ⟨r2, hq2, hF⟩ := mj_ob hF
  refine mj_callVi C (c_X2_heightAt σ p1 ((r1 + (12 * p2)) + 12) r2 hq2) yv_X2_heightAt kl_X6_30 (mo_9 G _) rfl rfl rfl rfl (Nat.le_of_ble_eq_true rfl) (mj_roomC (by decide) (by decide)) ⟨Nat.zero_le _, Nat.zero_le _⟩ dX6_growthInYear_23 ?_
  refine mj_aload_n C dX6_growthInYear_26 rfl ?_
  refine mg_X6_9 C dX6_growthInYear_27 ?_
  refine mj_iload_n C dX6_growthInYear_30 rfl ?_
  refine mj_iload_n C dX6_growthInYear_31 rfl ?_
  obtain ⟨r3, hq3, hF⟩ := mj_ob hF
  refine mj_callVi C (c_X2_heightAt σ p1 (r1 + (12 * p2)) r3 hq3) yv_X2_heightAt kl_X6_30 (mo_9 G _) rfl rfl rfl rfl (Nat.le_of_ble_eq_true rfl) (mj_roomC (by decide) (by decide)) ⟨Nat.zero_le _, Nat.zero_le _⟩ dX6_growthInYear_32 ?_
  refine mj_isub C dX6_growthInYear_35 ?_
  have hF := mj_oi hF; subst hF
  exact mj_iret C hr hlk dX6_growthInYear_36
set_option maxRecDepth 100000 in
set_option maxHeartbeats 4000000 in
theorem c_X6_isBetter {G : mj_G} {l : Launch} (σ : mj_S) (p0 : Int32) (p1 : Int32) (p2 : Int32) : mj_C G l yX6_isBetter cX6_isBetter 3 (some .boolean) 1 [.int p0, .int p1, .int p2] σ (some (.int (f_X6_isBetter σ p0 p1 p2))) σ := by
  generalize hF : f_X6_isBetter σ p0 p1 p2 = R
  unfold f_X6_isBetter at hF
  refine mj_of (ls := [(0, .int p0), (1, .int p1), (2, .int p2)]) (by decide) (Nat.le_of_ble_eq_true rfl) rfl (fun p e s m args below meth c C hr hlk => ?_)
  refine mj_iload_n C dX6_isBetter_0 rfl ?_
  refine mj_if_eq C dX6_isBetter_1 rfl hF (fun hc1 hF => ?_) (fun hc1 hF => ?_)
  · refine mj_iload_n C dX6_isBetter_17 rfl ?_
    refine mj_iload_n C dX6_isBetter_18 rfl ?_
    refine mj_ic_ge C dX6_isBetter_19 rfl hF (fun hc2 hF => ?_) (fun hc2 hF => ?_)
    · refine mj_iconstV (v := 0) C dX6_isBetter_26 mc_i_0 ?_
      subst hF
      exact mj_zret (v := 0) rfl C hr hlk dX6_isBetter_27
    · refine mj_iconstV (v := 1) C dX6_isBetter_22 mc_i_1 ?_
      refine mj_goto C dX6_isBetter_23 rfl ?_
      subst hF
      exact mj_zret (v := 1) rfl C hr hlk dX6_isBetter_27
  · refine mj_iload_n C dX6_isBetter_4 rfl ?_
    refine mj_iload_n C dX6_isBetter_5 rfl ?_
    refine mj_ic_le C dX6_isBetter_6 rfl hF (fun hc3 hF => ?_) (fun hc3 hF => ?_)
    · refine mj_iconstV (v := 0) C dX6_isBetter_13 mc_i_0 ?_
      refine mj_goto C dX6_isBetter_14 rfl ?_
      subst hF
      exact mj_zret (v := 0) rfl C hr hlk dX6_isBetter_27
    · refine mj_iconstV (v := 1) C dX6_isBetter_9 mc_i_1 ?_
      refine mj_goto C dX6_isBetter_10 rfl ?_
      subst hF
      exact mj_zret (v := 1) rfl C hr hlk dX6_isBetter_27
set_option maxRecDepth 100000 in
set_option maxHeartbeats 4000000 in
theorem c_X6_lineAt {G : mj_G} {l : Launch} (σ : mj_S) (p1 : Int32) (p2 : Int32) (R : Int32) (hF : f_X6_lineAt σ p1 p2 = some R) : mj_C G l yX6_lineAt cX6_lineAt 4 (some .int) 3 [.ref (G.2.1 44), .int p1, .int p2] σ (some (.int R)) σ := by
  unfold f_X6_lineAt at hF
  refine mj_of (ls := [(0, .ref (G.2.1 44)), (1, .int p1), (2, .int p2)]) (by decide) (Nat.le_of_ble_eq_true rfl) rfl (fun p e s m args below meth c C hr hlk => ?_)
  refine mj_aload_n C dX6_lineAt_0 rfl ?_
  refine mg_X6_9 C dX6_lineAt_1 ?_
  refine mj_iload_n C dX6_lineAt_4 rfl ?_
  refine mj_iload_n C dX6_lineAt_5 rfl ?_
  obtain ⟨r1, hq1, hF⟩ := mj_ob hF
  refine mj_callVi C (c_X2_modelHeightAt σ p1 p2 r1 hq1) yv_X2_modelHeightAt kl_X6_51 (mo_9 G _) rfl rfl rfl rfl (Nat.le_of_ble_eq_true rfl) (mj_roomC (by decide) (by decide)) ⟨Nat.zero_le _, Nat.zero_le _⟩ dX6_lineAt_6 ?_
  refine mj_istore_n C dX6_lineAt_9 (by decide) ?_
  refine mj_iload_n C dX6_lineAt_10 rfl ?_
  refine mj_if_ne C dX6_lineAt_11 rfl hF (fun hc2 hF => ?_) (fun hc2 hF => ?_)
  · refine mj_bipushV (v := 100) C dX6_lineAt_18 mc_b_100 ?_
    refine mj_aload_n C dX6_lineAt_20 rfl ?_
    refine mg_X6_9 C dX6_lineAt_21 ?_
    refine mj_iload_n C dX6_lineAt_24 rfl ?_
    refine mj_iload_n C dX6_lineAt_25 rfl ?_
    obtain ⟨r3, hq3, hF⟩ := mj_ob hF
    refine mj_callVi C (c_X2_heightAt σ p1 p2 r3 hq3) yv_X2_heightAt kl_X6_30 (mo_9 G _) rfl rfl rfl rfl (Nat.le_of_ble_eq_true rfl) (mj_roomC (by decide) (by decide)) ⟨Nat.zero_le _, Nat.zero_le _⟩ dX6_lineAt_26 ?_
    refine mj_imul C dX6_lineAt_29 ?_
    refine mj_iload_n C dX6_lineAt_30 rfl ?_
    obtain ⟨hz4, hF⟩ := mj_oz hF
    refine mj_idiv C dX6_lineAt_31 hz4 ?_
    refine mj_bipushV (v := 100) C dX6_lineAt_32 mc_b_100 ?_
    refine mj_isub C dX6_lineAt_34 ?_
    refine mj_iconstV (v := 4) C dX6_lineAt_35 mc_i_4 ?_
    refine mj_idiv C dX6_lineAt_36 (by decide) ?_
    have hF := mj_oi hF; subst hF
    exact mj_iret C hr hlk dX6_lineAt_37
  · refine mj_iconstV (v := 0) C dX6_lineAt_14 mc_i_0 ?_
    refine mj_goto C dX6_lineAt_15 rfl ?_
    have hF := mj_oi hF; subst hF
    exact mj_iret C hr hlk dX6_lineAt_37
set_option maxRecDepth 100000 in
set_option maxHeartbeats 4000000 in
theorem w_X6_firstFall_21 {p : Program} {l : Launch} {e : Env} {s : State} {m : MethodId} {args : Array Value} {below : List Frame} {meth : Method} {c : Code} {G : mj_G} {σ : mj_S} (C : mj_X p s m args meth c G cX6_firstFall 6 RX6) (hr : meth.sig.returnType = some .int) (hlk : meth.locks = false) : ∀ (n : Nat) (v1 : Int32) (v3 : Int32) (v4 : Int32) (R : Int32), b_X6_firstFall_21 σ n v1 v3 v4 = some R → mj_W p l e (mj_rm 4) s m args below meth c G 0 0 6 (MQ below (mj_Q G (some (.int R)) σ) args s 0 0 G.2.2.2) 21 [(0, .ref (G.2.1 44)), (1, .int v1), (3, .int v3), (4, .int v4)] [] σ := by
  intro n
  induction n with
  | zero =>
    intro v1 v3 v4 R hF
    cases hF
  | succ n ih =>
    intro v1 v3 v4 R hF
    rw [b_X6_firstFall_21] at hF
    refine mj_iload C dX6_firstFall_21 rfl ?_
    refine mj_sipushV (v := 600) C dX6_firstFall_23 mc_s_600 ?_
    refine mj_ic_ge C dX6_firstFall_26 rfl hF (fun hc3 hF => ?_) (fun hc3 hF => ?_)
    · refine mj_bipushV (v := (-2)) C dX6_firstFall_62 mc_b_m2 ?_
      have hF := mj_oi hF; subst hF
      exact mj_iret C hr hlk dX6_firstFall_64
    · refine mj_aload_n C dX6_firstFall_29 rfl ?_
      refine mj_iload_n C dX6_firstFall_30 rfl ?_
      refine mj_iload C dX6_firstFall_31 rfl ?_
      obtain ⟨r4, hq4, hF⟩ := mj_ob hF
      refine mj_callVi C (c_X6_lineAt σ v1 v4 r4 hq4) yv_X6_lineAt kl_X6_54 (mo_44 G _) rfl rfl rfl rfl (Nat.le_of_ble_eq_true rfl) (mj_roomC (by decide) (by decide)) ⟨Nat.zero_le _, Nat.zero_le _⟩ dX6_firstFall_33 ?_
      refine mj_istore C dX6_firstFall_36 (by decide) ?_
      refine mj_iload_n C dX6_firstFall_38 rfl ?_
      refine mj_iload C dX6_firstFall_39 rfl ?_
      refine mj_isub C dX6_firstFall_41 ?_
      refine mj_iconstV (v := 2) C dX6_firstFall_42 mc_i_2 ?_
      refine mj_ic_lt C dX6_firstFall_43 rfl hF (fun hc5 hF => ?_) (fun hc5 hF => ?_)
      · refine mj_iload_n C dX6_firstFall_49 rfl ?_
        refine mj_iload C dX6_firstFall_50 rfl ?_
        refine mj_mmax C kl_X6_57 (mj_room13 (by decide) (Nat.le_of_ble_eq_true rfl)) ⟨Nat.zero_le _, Nat.zero_le _⟩ dX6_firstFall_52 ?_
        refine mj_istore_n C dX6_firstFall_55 (by decide) ?_
        refine mj_iinc (v := v4 + 1) C dX6_firstFall_56 rfl rfl (by decide) ?_
        refine mj_goto C dX6_firstFall_59 rfl ?_
        refine mj_to ?_ (ih v1 (mj_max v3 r4) (v4 + 1) R hF)
        exact ⟨rfl, rfl, rfl, rfl, trivial⟩
      · refine mj_iload C dX6_firstFall_46 rfl ?_
        have hF := mj_oi hF; subst hF
        exact mj_iret C hr hlk dX6_firstFall_48
set_option maxRecDepth 100000 in
set_option maxHeartbeats 4000000 in
theorem c_X6_firstFall {G : mj_G} {l : Launch} (σ : mj_S) (p1 : Int32) (R : Int32) (hF : f_X6_firstFall σ p1 = some R) : mj_C G l yX6_firstFall cX6_firstFall 6 (some .int) 4 [.ref (G.2.1 44), .int p1] σ (some (.int R)) σ := by
  unfold f_X6_firstFall at hF
  refine mj_of (ls := [(0, .ref (G.2.1 44)), (1, .int p1)]) (by decide) (Nat.le_of_ble_eq_true rfl) rfl (fun p e s m args below meth c C hr hlk => ?_)
  refine mj_aload_n C dX6_firstFall_0 rfl ?_
  refine mg_X6_9 C dX6_firstFall_1 ?_
  refine mj_iload_n C dX6_firstFall_4 rfl ?_
  obtain ⟨r1, hq1, hF⟩ := mj_ob hF
  refine mj_callVi C (c_X2_bornIn σ p1 r1 hq1) yv_X2_bornIn kl_X6_15 (mo_9 G _) rfl rfl rfl rfl (Nat.le_of_ble_eq_true rfl) (mj_roomC (by decide) (by decide)) ⟨Nat.zero_le _, Nat.zero_le _⟩ dX6_firstFall_5 ?_
  refine mj_istore_n C dX6_firstFall_8 (by decide) ?_
  refine mj_aload_n C dX6_firstFall_9 rfl ?_
  refine mj_iload_n C dX6_firstFall_10 rfl ?_
  refine mj_iload_n C dX6_firstFall_11 rfl ?_
  obtain ⟨r2, hq2, hF⟩ := mj_ob hF
  refine mj_callVi C (c_X6_lineAt σ p1 r1 r2 hq2) yv_X6_lineAt kl_X6_54 (mo_44 G _) rfl rfl rfl rfl (Nat.le_of_ble_eq_true rfl) (mj_roomC (by decide) (by decide)) ⟨Nat.zero_le _, Nat.zero_le _⟩ dX6_firstFall_12 ?_
  refine mj_istore_n C dX6_firstFall_15 (by decide) ?_
  refine mj_iload_n C dX6_firstFall_16 rfl ?_
  refine mj_iconstV (v := 1) C dX6_firstFall_17 mc_i_1 ?_
  refine mj_iadd C dX6_firstFall_18 ?_
  refine mj_istore C dX6_firstFall_19 (by decide) ?_
  refine mj_to ?_ (w_X6_firstFall_21 C hr hlk mj_fu p1 r2 (r1 + 1) R hF)
  exact ⟨rfl, rfl, rfl, rfl, trivial⟩
set_option maxRecDepth 100000 in
set_option maxHeartbeats 4000000 in
theorem c_X6_isHigher {G : mj_G} {l : Launch} (σ : mj_S) (p1 : Int32) (p2 : Int32) (p3 : Int32) (R : Int32) (hF : f_X6_isHigher σ p1 p2 p3 = some R) : mj_C G l yX6_isHigher cX6_isHigher 4 (some .boolean) 3 [.ref (G.2.1 44), .int p1, .int p2, .int p3] σ (some (.int R)) σ := by
  unfold f_X6_isHigher at hF
  refine mj_of (ls := [(0, .ref (G.2.1 44)), (1, .int p1), (2, .int p2), (3, .int p3)]) (by decide) (Nat.le_of_ble_eq_true rfl) rfl (fun p e s m args below meth c C hr hlk => ?_)
  refine mj_aload_n C dX6_isHigher_0 rfl ?_
  refine mg_X6_9 C dX6_isHigher_1 ?_
  refine mj_iload_n C dX6_isHigher_4 rfl ?_
  refine mj_iload_n C dX6_isHigher_5 rfl ?_
  obtain ⟨r1, hq1, hF⟩ := mj_ob hF
  refine mj_callVi C (c_X2_heightAt σ p1 p3 r1 hq1) yv_X2_heightAt kl_X6_30 (mo_9 G _) rfl rfl rfl rfl (Nat.le_of_ble_eq_true rfl) (mj_roomC (by decide) (by decide)) ⟨Nat.zero_le _, Nat.zero_le _⟩ dX6_isHigher_6 ?_
  refine mj_aload_n C dX6_isHigher_9 rfl ?_
  refine mg_X6_9 C dX6_isHigher_10 ?_
  refine mj_iload_n C dX6_isHigher_13 rfl ?_
  refine mj_iload_n C dX6_isHigher_14 rfl ?_
  obtain ⟨r2, hq2, hF⟩ := mj_ob hF
  refine mj_callVi C (c_X2_heightAt σ p2 p3 r2 hq2) yv_X2_heightAt kl_X6_30 (mo_9 G _) rfl rfl rfl rfl (Nat.le_of_ble_eq_true rfl) (mj_roomC (by decide) (by decide)) ⟨Nat.zero_le _, Nat.zero_le _⟩ dX6_isHigher_15 ?_
  refine mj_ic_le C dX6_isHigher_18 rfl hF (fun hc3 hF => ?_) (fun hc3 hF => ?_)
  · refine mj_iconstV (v := 0) C dX6_isHigher_25 mc_i_0 ?_
    have hF := mj_oi hF; subst hF
    exact mj_zret (v := 0) rfl C hr hlk dX6_isHigher_26
  · refine mj_iconstV (v := 1) C dX6_isHigher_21 mc_i_1 ?_
    refine mj_goto C dX6_isHigher_22 rfl ?_
    have hF := mj_oi hF; subst hF
    exact mj_zret (v := 1) rfl C hr hlk dX6_isHigher_26
set_option maxRecDepth 100000 in
set_option maxHeartbeats 4000000 in
theorem w_X6_firstOvertaking_25 {p : Program} {l : Launch} {e : Env} {s : State} {m : MethodId} {args : Array Value} {below : List Frame} {meth : Method} {c : Code} {G : mj_G} {σ : mj_S} (C : mj_X p s m args meth c G cX6_firstOvertaking 5 RX6) (hr : meth.sig.returnType = some .int) (hlk : meth.locks = false) : ∀ (n : Nat) (v1 : Int32) (v2 : Int32) (v4 : Int32) (R : Int32), b_X6_firstOvertaking_25 σ n v1 v2 v4 = some R → mj_W p l e (mj_rm 4) s m args below meth c G 0 0 5 (MQ below (mj_Q G (some (.int R)) σ) args s 0 0 G.2.2.2) 25 [(0, .ref (G.2.1 44)), (1, .int v1), (2, .int v2), (4, .int v4)] [] σ := by
  intro n
  induction n with
  | zero =>
    intro v1 v2 v4 R hF
    cases hF
  | succ n ih =>
    intro v1 v2 v4 R hF
    rw [b_X6_firstOvertaking_25] at hF
    refine mj_iload C dX6_firstOvertaking_25 rfl ?_
    refine mj_sipushV (v := 600) C dX6_firstOvertaking_27 mc_s_600 ?_
    refine mj_ic_ge C dX6_firstOvertaking_30 rfl hF (fun hc3 hF => ?_) (fun hc3 hF => ?_)
    · refine mj_bipushV (v := (-2)) C dX6_firstOvertaking_66 mc_b_m2 ?_
      have hF := mj_oi hF; subst hF
      exact mj_iret C hr hlk dX6_firstOvertaking_68
    · refine mj_aload_n C dX6_firstOvertaking_33 rfl ?_
      refine mj_iload_n C dX6_firstOvertaking_34 rfl ?_
      refine mj_iload_n C dX6_firstOvertaking_35 rfl ?_
      refine mj_iload C dX6_firstOvertaking_36 rfl ?_
      obtain ⟨r4, hq4, hF⟩ := mj_ob hF
      refine mj_callVi C (c_X6_isHigher σ v1 v2 v4 r4 hq4) yv_X6_isHigher kl_X6_60 (mo_44 G _) rfl rfl rfl rfl (Nat.le_of_ble_eq_true rfl) (mj_roomC (by decide) (by decide)) ⟨Nat.zero_le _, Nat.zero_le _⟩ dX6_firstOvertaking_38 ?_
      refine mj_if_eq C dX6_firstOvertaking_41 rfl hF (fun hc5 hF => ?_) (fun hc5 hF => ?_)
      · refine mj_iinc (v := v4 + 1) C dX6_firstOvertaking_60 rfl rfl (by decide) ?_
        refine mj_goto C dX6_firstOvertaking_63 rfl ?_
        refine mj_to ?_ (ih v1 v2 (v4 + 1) R hF)
        exact ⟨rfl, rfl, rfl, rfl, trivial⟩
      · refine mj_aload_n C dX6_firstOvertaking_44 rfl ?_
        refine mj_iload_n C dX6_firstOvertaking_45 rfl ?_
        refine mj_iload_n C dX6_firstOvertaking_46 rfl ?_
        refine mj_iload C dX6_firstOvertaking_47 rfl ?_
        refine mj_iconstV (v := 1) C dX6_firstOvertaking_49 mc_i_1 ?_
        refine mj_isub C dX6_firstOvertaking_50 ?_
        obtain ⟨r6, hq6, hF⟩ := mj_ob hF
        refine mj_callVi C (c_X6_isHigher σ v1 v2 (v4 - 1) r6 hq6) yv_X6_isHigher kl_X6_60 (mo_44 G _) rfl rfl rfl rfl (Nat.le_of_ble_eq_true rfl) (mj_roomC (by decide) (by decide)) ⟨Nat.zero_le _, Nat.zero_le _⟩ dX6_firstOvertaking_51 ?_
        refine mj_if_ne C dX6_firstOvertaking_54 rfl hF (fun hc7 hF => ?_) (fun hc7 hF => ?_)
        · refine mj_iinc (v := v4 + 1) C dX6_firstOvertaking_60 rfl rfl (by decide) ?_
          refine mj_goto C dX6_firstOvertaking_63 rfl ?_
          refine mj_to ?_ (ih v1 v2 (v4 + 1) R hF)
          exact ⟨rfl, rfl, rfl, rfl, trivial⟩
        · refine mj_iload C dX6_firstOvertaking_57 rfl ?_
          have hF := mj_oi hF; subst hF
          exact mj_iret C hr hlk dX6_firstOvertaking_59
set_option maxRecDepth 100000 in
set_option maxHeartbeats 4000000 in
theorem c_X6_firstOvertaking {G : mj_G} {l : Launch} (σ : mj_S) (p1 : Int32) (p2 : Int32) (R : Int32) (hF : f_X6_firstOvertaking σ p1 p2 = some R) : mj_C G l yX6_firstOvertaking cX6_firstOvertaking 5 (some .int) 4 [.ref (G.2.1 44), .int p1, .int p2] σ (some (.int R)) σ := by
  unfold f_X6_firstOvertaking at hF
  refine mj_of (ls := [(0, .ref (G.2.1 44)), (1, .int p1), (2, .int p2)]) (by decide) (Nat.le_of_ble_eq_true rfl) rfl (fun p e s m args below meth c C hr hlk => ?_)
  refine mj_aload_n C dX6_firstOvertaking_0 rfl ?_
  refine mg_X6_9 C dX6_firstOvertaking_1 ?_
  refine mj_iload_n C dX6_firstOvertaking_4 rfl ?_
  obtain ⟨r1, hq1, hF⟩ := mj_ob hF
  refine mj_callVi C (c_X2_bornIn σ p1 r1 hq1) yv_X2_bornIn kl_X6_15 (mo_9 G _) rfl rfl rfl rfl (Nat.le_of_ble_eq_true rfl) (mj_roomC (by decide) (by decide)) ⟨Nat.zero_le _, Nat.zero_le _⟩ dX6_firstOvertaking_5 ?_
  refine mj_aload_n C dX6_firstOvertaking_8 rfl ?_
  refine mg_X6_9 C dX6_firstOvertaking_9 ?_
  refine mj_iload_n C dX6_firstOvertaking_12 rfl ?_
  obtain ⟨r2, hq2, hF⟩ := mj_ob hF
  refine mj_callVi C (c_X2_bornIn σ p2 r2 hq2) yv_X2_bornIn kl_X6_15 (mo_9 G _) rfl rfl rfl rfl (Nat.le_of_ble_eq_true rfl) (mj_roomC (by decide) (by decide)) ⟨Nat.zero_le _, Nat.zero_le _⟩ dX6_firstOvertaking_13 ?_
  refine mj_mmax C kl_X6_57 (mj_room13 (by decide) (Nat.le_of_ble_eq_true rfl)) ⟨Nat.zero_le _, Nat.zero_le _⟩ dX6_firstOvertaking_16 ?_
  refine mj_istore_n C dX6_firstOvertaking_19 (by decide) ?_
  refine mj_iload_n C dX6_firstOvertaking_20 rfl ?_
  refine mj_iconstV (v := 1) C dX6_firstOvertaking_21 mc_i_1 ?_
  refine mj_iadd C dX6_firstOvertaking_22 ?_
  refine mj_istore C dX6_firstOvertaking_23 (by decide) ?_
  refine mj_to ?_ (w_X6_firstOvertaking_25 C hr hlk mj_fu p1 p2 ((mj_max r1 r2) + 1) R hF)
  exact ⟨rfl, rfl, rfl, rfl, trivial⟩
