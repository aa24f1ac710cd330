set_option maxRecDepth 100000 in
set_option maxHeartbeats 4000000 in
theorem c_X0_size {G : mj_G} {l : Launch} (σ : mj_S) : mj_C G l yX0_size cX0_size 1 (some .int) 1 [.ref (G.2.1 50)] σ (some (.int (f_X0_size σ))) σ := by
  generalize hF : f_X0_size σ = R
  unfold f_X0_size at hF
  refine mj_of (ls := [(0, .ref (G.2.1 50))]) (by decide) (Nat.le_of_ble_eq_true rfl) rfl (fun p e s m args below meth c C hr hlk => ?_)
  refine mj_aload_n C dX0_size_0 rfl ?_
  refine mg_X0_15 C dX0_size_1 ?_
  subst hF
  exact mj_iret C hr hlk dX0_size_4
set_option maxRecDepth 100000 in
set_option maxHeartbeats 4000000 in
theorem c_X0_has {G : mj_G} {l : Launch} (σ : mj_S) (p1 : Int32) : mj_C G l yX0_has cX0_has 2 (some .boolean) 1 [.ref (G.2.1 50), .int p1] σ (some (.int (f_X0_has σ p1))) σ := by
  generalize hF : f_X0_has σ p1 = R
  unfold f_X0_has at hF
  refine mj_of (ls := [(0, .ref (G.2.1 50)), (1, .int p1)]) (by decide) (Nat.le_of_ble_eq_true rfl) rfl (fun p e s m args below meth c C hr hlk => ?_)
  refine mj_iconstV (v := 0) C dX0_has_0 mc_i_0 ?_
  refine mj_iload_n C dX0_has_1 rfl ?_
  refine mj_ic_gt C dX0_has_2 rfl hF (fun hc1 hF => ?_) (fun hc1 hF => ?_)
  · refine mj_iconstV (v := 0) C dX0_has_17 mc_i_0 ?_
    subst hF
    exact mj_zret (v := 0) rfl C hr hlk dX0_has_18
  · refine mj_iload_n C dX0_has_5 rfl ?_
    refine mj_aload_n C dX0_has_6 rfl ?_
    refine mg_X0_15 C dX0_has_7 ?_
    refine mj_ic_ge C dX0_has_10 rfl hF (fun hc2 hF => ?_) (fun hc2 hF => ?_)
    · refine mj_iconstV (v := 0) C dX0_has_17 mc_i_0 ?_
      subst hF
      exact mj_zret (v := 0) rfl C hr hlk dX0_has_18
    · refine mj_iconstV (v := 1) C dX0_has_13 mc_i_1 ?_
      refine mj_goto C dX0_has_14 rfl ?_
      subst hF
      exact mj_zret (v := 1) rfl C hr hlk dX0_has_18
set_option maxRecDepth 100000 in
set_option maxHeartbeats 4000000 in
theorem c_X0_add {G : mj_G} {l : Launch} (σ : mj_S) (p1 : Int32) (R : (Int32 × mj_S)) (hF : f_X0_add σ p1 = some R) : mj_C G l yX0_add cX0_add 2 (some .int) 1 [.ref (G.2.1 50), .int p1] σ (some (.int R.1)) R.2 := by
  unfold f_X0_add at hF
  refine mj_of (ls := [(0, .ref (G.2.1 50)), (1, .int p1)]) (by decide) (Nat.le_of_ble_eq_true rfl) rfl (fun p e s m args below meth c C hr hlk => ?_)
  refine mj_aload_n C dX0_add_0 rfl ?_
  refine mg_X0_15 C dX0_add_1 ?_
  refine mj_bipushV (v := 50) C dX0_add_4 mc_b_50 ?_
  refine mj_ic_lt C dX0_add_6 rfl hF (fun hc1 hF => ?_) (fun hc1 hF => ?_)
  · refine mj_aload_n C dX0_add_12 rfl ?_
    refine mg_X0_11 C dX0_add_13 ?_
    refine mj_aload_n C dX0_add_16 rfl ?_
    refine mg_X0_15 C dX0_add_17 ?_
    refine mj_iload_n C dX0_add_20 rfl ?_
    obtain ⟨hg2, hF⟩ := mj_og hF
    refine mj_iastore C dX0_add_21 rfl hg2 ?_
    refine mj_aload_n C dX0_add_22 rfl ?_
    refine mj_dup C dX0_add_23 rfl ?_
    refine mg_X0_15 C dX0_add_24 ?_
    refine mj_iconstV (v := 1) C dX0_add_27 mc_i_1 ?_
    refine mj_iadd C dX0_add_28 ?_
    refine mp_X0_15 C dX0_add_29 ?_
    refine mj_aload_n C dX0_add_32 rfl ?_
    refine mg_X0_15 C dX0_add_33 ?_
    refine mj_iconstV (v := 1) C dX0_add_36 mc_i_1 ?_
    refine mj_isub C dX0_add_37 ?_
    have hF := mj_oi hF; subst hF
    exact mj_iret C hr hlk dX0_add_38
  · refine mj_bipushV (v := (-3)) C dX0_add_9 mc_b_m3 ?_
    have hF := mj_oi hF; subst hF
    exact mj_iret C hr hlk dX0_add_11
set_option maxRecDepth 100000 in
set_option maxHeartbeats 4000000 in
theorem c_X0_kindOf {G : mj_G} {l : Launch} (σ : mj_S) (p1 : Int32) (R : Int32) (hF : f_X0_kindOf σ p1 = some R) : mj_C G l yX0_kindOf cX0_kindOf 2 (some .int) 2 [.ref (G.2.1 50), .int p1] σ (some (.int R)) σ := by
  unfold f_X0_kindOf at hF
  refine mj_of (ls := [(0, .ref (G.2.1 50)), (1, .int p1)]) (by decide) (Nat.le_of_ble_eq_true rfl) rfl (fun p e s m args below meth c C hr hlk => ?_)
  refine mj_aload_n C dX0_kindOf_0 rfl ?_
  refine mj_iload_n C dX0_kindOf_1 rfl ?_
  refine mj_callVi C (c_X0_has σ p1) yv_X0_has kl_X0_42 (mo_50 G _) rfl rfl rfl rfl (Nat.le_of_ble_eq_true rfl) (mj_roomC (by decide) (by decide)) ⟨Nat.zero_le _, Nat.zero_le _⟩ dX0_kindOf_2 ?_
  refine mj_if_eq C dX0_kindOf_5 rfl hF (fun hc1 hF => ?_) (fun hc1 hF => ?_)
  · refine mj_iconstV (v := (-1)) C dX0_kindOf_17 mc_i_m1 ?_
    have hF := mj_oi hF; subst hF
    exact mj_iret C hr hlk dX0_kindOf_18
  · refine mj_aload_n C dX0_kindOf_8 rfl ?_
    refine mg_X0_11 C dX0_kindOf_9 ?_
    refine mj_iload_n C dX0_kindOf_12 rfl ?_
    obtain ⟨hg2, hF⟩ := mj_og hF
    refine mj_iaload C dX0_kindOf_13 rfl hg2 ?_
    refine mj_goto C dX0_kindOf_14 rfl ?_
    have hF := mj_oi hF; subst hF
    exact mj_iret C hr hlk dX0_kindOf_18
set_option maxRecDepth 100000 in
set_option maxHeartbeats 4000000 in
theorem c_X0_ranInAll {G : mj_G} {l : Launch} (σ : mj_S) : mj_C G l yX0_ranInAll cX0_ranInAll 1 (some .int) 1 [.ref (G.2.1 50)] σ (some (.int (f_X0_ranInAll σ))) σ := by
  generalize hF : f_X0_ranInAll σ = R
  unfold f_X0_ranInAll at hF
  refine mj_of (ls := [(0, .ref (G.2.1 50))]) (by decide) (Nat.le_of_ble_eq_true rfl) rfl (fun p e s m args below meth c C hr hlk => ?_)
  refine mj_aload_n C dX0_ranInAll_0 rfl ?_
  refine mg_X0_22 C dX0_ranInAll_1 ?_
  subst hF
  exact mj_iret C hr hlk dX0_ranInAll_4
set_option maxRecDepth 100000 in
set_option maxHeartbeats 4000000 in
theorem c_X0_ranAt {G : mj_G} {l : Launch} (σ : mj_S) (p1 : Int32) (R : Int32) (hF : f_X0_ranAt σ p1 = some R) : mj_C G l yX0_ranAt cX0_ranAt 2 (some .int) 1 [.ref (G.2.1 50), .int p1] σ (some (.int R)) σ := by
  unfold f_X0_ranAt at hF
  refine mj_of (ls := [(0, .ref (G.2.1 50)), (1, .int p1)]) (by decide) (Nat.le_of_ble_eq_true rfl) rfl (fun p e s m args below meth c C hr hlk => ?_)
  refine mj_iconstV (v := 0) C dX0_ranAt_0 mc_i_0 ?_
  refine mj_iload_n C dX0_ranAt_1 rfl ?_
  refine mj_ic_gt C dX0_ranAt_2 rfl hF (fun hc1 hF => ?_) (fun hc1 hF => ?_)
  · refine mj_iconstV (v := (-1)) C dX0_ranAt_28 mc_i_m1 ?_
    have hF := mj_oi hF; subst hF
    exact mj_iret C hr hlk dX0_ranAt_29
  · refine mj_iload_n C dX0_ranAt_5 rfl ?_
    refine mj_aload_n C dX0_ranAt_6 rfl ?_
    refine mg_X0_22 C dX0_ranAt_7 ?_
    refine mj_ic_ge C dX0_ranAt_10 rfl hF (fun hc2 hF => ?_) (fun hc2 hF => ?_)
    · refine mj_iconstV (v := (-1)) C dX0_ranAt_28 mc_i_m1 ?_
      have hF := mj_oi hF; subst hF
      exact mj_iret C hr hlk dX0_ranAt_29
    · refine mj_iload_n C dX0_ranAt_13 rfl ?_
      refine mj_bipushV (v := 24) C dX0_ranAt_14 mc_b_24 ?_
      refine mj_ic_ge C dX0_ranAt_16 rfl hF (fun hc3 hF => ?_) (fun hc3 hF => ?_)
      · refine mj_iconstV (v := (-1)) C dX0_ranAt_28 mc_i_m1 ?_
        have hF := mj_oi hF; subst hF
        exact mj_iret C hr hlk dX0_ranAt_29
      · refine mj_aload_n C dX0_ranAt_19 rfl ?_
        refine mg_X0_19 C dX0_ranAt_20 ?_
        refine mj_iload_n C dX0_ranAt_23 rfl ?_
        obtain ⟨hg4, hF⟩ := mj_og hF
        refine mj_iaload C dX0_ranAt_24 rfl hg4 ?_
        refine mj_goto C dX0_ranAt_25 rfl ?_
        have hF := mj_oi hF; subst hF
        exact mj_iret C hr hlk dX0_ranAt_29
set_option maxRecDepth 100000 in
set_option maxHeartbeats 4000000 in
theorem w_X0_note_19 {p : Program} {l : Launch} {e : Env} {s : State} {m : MethodId} {args : Array Value} {below : List Frame} {meth : Method} {c : Code} {G : mj_G} (C : mj_X p s m args meth c G cX0_note 2 RX0) (hr : meth.sig.returnType = none) (hlk : meth.locks = false) : ∀ (σ : mj_S) (R : mj_S), b_X0_note_19 σ = some R → mj_W p l e (mj_rm 1) s m args below meth c G 0 0 2 (MQ below (mj_Q G none R) args s 0 0 G.2.2.2) 19 [(0, .ref (G.2.1 50))] [] σ := by
  intro σ R hF
  unfold b_X0_note_19 at hF
  refine mj_aload_n C dX0_note_19 rfl ?_
  refine mj_dup C dX0_note_20 rfl ?_
  refine mg_X0_22 C dX0_note_21 ?_
  refine mj_iconstV (v := 1) C dX0_note_24 mc_i_1 ?_
  refine mj_iadd C dX0_note_25 ?_
  refine mp_X0_22 C dX0_note_26 ?_
  have hF := mj_oi hF; subst hF
  exact mj_vret C hr hlk dX0_note_29
set_option maxRecDepth 100000 in
set_option maxHeartbeats 4000000 in
theorem c_X0_note {G : mj_G} {l : Launch} (σ : mj_S) (p1 : Int32) (R : mj_S) (hF : f_X0_note σ p1 = some R) : mj_C G l yX0_note cX0_note 2 (none) 1 [.ref (G.2.1 50), .int p1] σ none R := by
  unfold f_X0_note at hF
  refine mj_of (ls := [(0, .ref (G.2.1 50)), (1, .int p1)]) (by decide) (Nat.le_of_ble_eq_true rfl) rfl (fun p e s m args below meth c C hr hlk => ?_)
  refine mj_aload_n C dX0_note_0 rfl ?_
  refine mg_X0_22 C dX0_note_1 ?_
  refine mj_bipushV (v := 24) C dX0_note_4 mc_b_24 ?_
  refine mj_ic_ge C dX0_note_6 rfl hF (fun hc1 hF => ?_) (fun hc1 hF => ?_)
  · refine mj_to ?_ (w_X0_note_19 C hr hlk σ R hF)
    exact ⟨rfl, trivial⟩
  · refine mj_aload_n C dX0_note_9 rfl ?_
    refine mg_X0_19 C dX0_note_10 ?_
    refine mj_aload_n C dX0_note_13 rfl ?_
    refine mg_X0_22 C dX0_note_14 ?_
    refine mj_iload_n C dX0_note_17 rfl ?_
    obtain ⟨hg2, hF⟩ := mj_og hF
    refine mj_iastore C dX0_note_18 rfl hg2 ?_
    refine mj_to ?_ (w_X0_note_19 C hr hlk (mj_sI σ 52 (σ.1 50 3).toNatClampNeg p1) R hF)
    exact ⟨rfl, trivial⟩
set_option maxRecDepth 100000 in
set_option maxHeartbeats 4000000 in
theorem c_X0_ownBody {G : mj_G} {l : Launch} (σ : mj_S) (p0 : Int32) (p1 : Int32) (R : Int32) (hF : f_X0_ownBody σ p0 p1 = some R) : mj_C G l yX0_ownBody cX0_ownBody 3 (some .int) 1 [.int p0, .int p1] σ (some (.int R)) σ := by
  unfold f_X0_ownBody at hF
  refine mj_of (ls := [(0, .int p0), (1, .int p1)]) (by decide) (Nat.le_of_ble_eq_true rfl) rfl (fun p e s m args below meth c C hr hlk => ?_)
  refine mj_iload_n C dX0_ownBody_0 rfl ?_
  refine mj_iconstV (v := 4) C dX0_ownBody_1 mc_i_4 ?_
  refine mj_imul C dX0_ownBody_2 ?_
  refine mj_iload_n C dX0_ownBody_3 rfl ?_
  refine mj_iadd C dX0_ownBody_4 ?_
  refine mj_istore_n C dX0_ownBody_5 (by decide) ?_
  refine mj_iconstV (v := 0) C dX0_ownBody_6 mc_i_0 ?_
  refine mj_iload_n C dX0_ownBody_7 rfl ?_
  refine mj_ic_gt C dX0_ownBody_8 rfl hF (fun hc1 hF => ?_) (fun hc1 hF => ?_)
  · refine mj_iconstV (v := 0) C dX0_ownBody_27 mc_i_0 ?_
    have hF := mj_oi hF; subst hF
    exact mj_iret C hr hlk dX0_ownBody_28
  · refine mj_iload_n C dX0_ownBody_11 rfl ?_
    refine mj_st_OWN_BODIES C dX0_ownBody_12 ?_
    refine mj_sl_OWN_BODIES (v := 32) C rfl dX0_ownBody_15 ?_
    refine mj_ic_ge C dX0_ownBody_16 rfl hF (fun hc2 hF => ?_) (fun hc2 hF => ?_)
    · refine mj_iconstV (v := 0) C dX0_ownBody_27 mc_i_0 ?_
      have hF := mj_oi hF; subst hF
      exact mj_iret C hr hlk dX0_ownBody_28
    · refine mj_st_OWN_BODIES C dX0_ownBody_19 ?_
      refine mj_iload_n C dX0_ownBody_22 rfl ?_
      obtain ⟨hg3, hF⟩ := mj_og hF
      refine mj_sa_OWN_BODIES C hg3 dX0_ownBody_23 ?_
      refine mj_goto C dX0_ownBody_24 rfl ?_
      have hF := mj_oi hF; subst hF
      exact mj_iret C hr hlk dX0_ownBody_28
