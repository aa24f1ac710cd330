set_option maxRecDepth 100000 in
set_option maxHeartbeats 4000000 in
theorem c_X8_isSort {G : mj_G} {l : Launch} (σ : mj_S) (p0 : Int32) : mj_C G l yX8_isSort cX8_isSort 1 (some .boolean) 2 [.int p0] σ (some (.int (f_X8_isSort σ p0))) σ := by
  generalize hF : f_X8_isSort σ p0 = R
  unfold f_X8_isSort at hF
  refine mj_of (ls := [(0, .int p0)]) (by decide) (Nat.le_of_ble_eq_true rfl) rfl (fun p e s m args below meth c C hr hlk => ?_)
  refine mj_iload_n C dX8_isSort_0 rfl ?_
  refine mj_iconstV (v := 0) C dX8_isSort_1 mc_i_0 ?_
  refine mj_iconstV (v := 4) C dX8_isSort_2 mc_i_4 ?_
  refine mj_callNi C (c_X9_within σ p0 0 4) ys_X9_within kn_X8_24 rfl rfl (Nat.le_of_ble_eq_true rfl) (mj_roomC (by decide) (by decide)) ⟨Nat.zero_le _, Nat.zero_le _⟩ dX8_isSort_3 ?_
  subst hF
  exact mj_zbret C hr hlk dX8_isSort_6
set_option maxRecDepth 100000 in
set_option maxHeartbeats 4000000 in
theorem c_X8_has {G : mj_G} {l : Launch} (σ : mj_S) (p1 : Int32) : mj_C G l yX8_has cX8_has 2 (some .boolean) 1 [.ref (G.2.1 53), .int p1] σ (some (.int (f_X8_has σ p1))) σ := by
  generalize hF : f_X8_has σ p1 = R
  unfold f_X8_has at hF
  refine mj_of (ls := [(0, .ref (G.2.1 53)), (1, .int p1)]) (by decide) (Nat.le_of_ble_eq_true rfl) rfl (fun p e s m args below meth c C hr hlk => ?_)
  refine mj_iconstV (v := 0) C dX8_has_0 mc_i_0 ?_
  refine mj_iload_n C dX8_has_1 rfl ?_
  refine mj_ic_gt C dX8_has_2 rfl hF (fun hc1 hF => ?_) (fun hc1 hF => ?_)
  · refine mj_iconstV (v := 0) C dX8_has_15 mc_i_0 ?_
    subst hF
    exact mj_zret (v := 0) rfl C hr hlk dX8_has_16
  · refine mj_iload_n C dX8_has_5 rfl ?_
    refine mj_bipushV (v := 6) C dX8_has_6 mc_b_6 ?_
    refine mj_ic_ge C dX8_has_8 rfl hF (fun hc2 hF => ?_) (fun hc2 hF => ?_)
    · refine mj_iconstV (v := 0) C dX8_has_15 mc_i_0 ?_
      subst hF
      exact mj_zret (v := 0) rfl C hr hlk dX8_has_16
    · refine mj_iconstV (v := 1) C dX8_has_11 mc_i_1 ?_
      refine mj_goto C dX8_has_12 rfl ?_
      subst hF
      exact mj_zret (v := 1) rfl C hr hlk dX8_has_16
set_option maxRecDepth 100000 in
set_option maxHeartbeats 4000000 in
theorem c_X8_holdsRow {G : mj_G} {l : Launch} (σ : mj_S) (p1 : Int32) (R : Int32) (hF : f_X8_holdsRow σ p1 = some R) : mj_C G l yX8_holdsRow cX8_holdsRow 2 (some .boolean) 2 [.ref (G.2.1 53), .int p1] σ (some (.int R)) σ := by
  unfold f_X8_holdsRow at hF
  refine mj_of (ls := [(0, .ref (G.2.1 53)), (1, .int p1)]) (by decide) (Nat.le_of_ble_eq_true rfl) rfl (fun p e s m args below meth c C hr hlk => ?_)
  refine mj_aload_n C dX8_holdsRow_0 rfl ?_
  refine mj_iload_n C dX8_holdsRow_1 rfl ?_
  refine mj_callVi C (c_X8_has σ p1) yv_X8_has kl_X8_30 (mo_53 G _) rfl rfl rfl rfl (Nat.le_of_ble_eq_true rfl) (mj_roomC (by decide) (by decide)) ⟨Nat.zero_le _, Nat.zero_le _⟩ dX8_holdsRow_2 ?_
  refine mj_if_eq C dX8_holdsRow_5 rfl hF (fun hc1 hF => ?_) (fun hc1 hF => ?_)
  · refine mj_iconstV (v := 0) C dX8_holdsRow_22 mc_i_0 ?_
    have hF := mj_oi hF; subst hF
    exact mj_zret (v := 0) rfl C hr hlk dX8_holdsRow_23
  · refine mj_aload_n C dX8_holdsRow_8 rfl ?_
    refine mg_X8_13 C dX8_holdsRow_9 ?_
    refine mj_iload_n C dX8_holdsRow_12 rfl ?_
    obtain ⟨hg2, hF⟩ := mj_og hF
    refine mj_iaload C dX8_holdsRow_13 rfl hg2 ?_
    refine mj_iconstV (v := (-1)) C dX8_holdsRow_14 mc_i_m1 ?_
    refine mj_ic_eq C dX8_holdsRow_15 rfl hF (fun hc3 hF => ?_) (fun hc3 hF => ?_)
    · refine mj_iconstV (v := 0) C dX8_holdsRow_22 mc_i_0 ?_
      have hF := mj_oi hF; subst hF
      exact mj_zret (v := 0) rfl C hr hlk dX8_holdsRow_23
    · refine mj_iconstV (v := 1) C dX8_holdsRow_18 mc_i_1 ?_
      refine mj_goto C dX8_holdsRow_19 rfl ?_
      have hF := mj_oi hF; subst hF
      exact mj_zret (v := 1) rfl C hr hlk dX8_holdsRow_23
set_option maxRecDepth 100000 in
set_option maxHeartbeats 4000000 in
theorem c_X8_holdsShorts {G : mj_G} {l : Launch} (σ : mj_S) (p1 : Int32) (R : Int32) (hF : f_X8_holdsShorts σ p1 = some R) : mj_C G l yX8_holdsShorts cX8_holdsShorts 2 (some .boolean) 2 [.ref (G.2.1 53), .int p1] σ (some (.int R)) σ := by
  unfold f_X8_holdsShorts at hF
  refine mj_of (ls := [(0, .ref (G.2.1 53)), (1, .int p1)]) (by decide) (Nat.le_of_ble_eq_true rfl) rfl (fun p e s m args below meth c C hr hlk => ?_)
  refine mj_aload_n C dX8_holdsShorts_0 rfl ?_
  refine mj_iload_n C dX8_holdsShorts_1 rfl ?_
  refine mj_callVi C (c_X8_has σ p1) yv_X8_has kl_X8_30 (mo_53 G _) rfl rfl rfl rfl (Nat.le_of_ble_eq_true rfl) (mj_roomC (by decide) (by decide)) ⟨Nat.zero_le _, Nat.zero_le _⟩ dX8_holdsShorts_2 ?_
  refine mj_if_eq C dX8_holdsShorts_5 rfl hF (fun hc1 hF => ?_) (fun hc1 hF => ?_)
  · refine mj_iconstV (v := 0) C dX8_holdsShorts_22 mc_i_0 ?_
    have hF := mj_oi hF; subst hF
    exact mj_zret (v := 0) rfl C hr hlk dX8_holdsShorts_23
  · refine mj_aload_n C dX8_holdsShorts_8 rfl ?_
    refine mg_X8_13 C dX8_holdsShorts_9 ?_
    refine mj_iload_n C dX8_holdsShorts_12 rfl ?_
    obtain ⟨hg2, hF⟩ := mj_og hF
    refine mj_iaload C dX8_holdsShorts_13 rfl hg2 ?_
    refine mj_iconstV (v := 1) C dX8_holdsShorts_14 mc_i_1 ?_
    refine mj_ic_ne C dX8_holdsShorts_15 rfl hF (fun hc3 hF => ?_) (fun hc3 hF => ?_)
    · refine mj_iconstV (v := 0) C dX8_holdsShorts_22 mc_i_0 ?_
      have hF := mj_oi hF; subst hF
      exact mj_zret (v := 0) rfl C hr hlk dX8_holdsShorts_23
    · refine mj_iconstV (v := 1) C dX8_holdsShorts_18 mc_i_1 ?_
      refine mj_goto C dX8_holdsShorts_19 rfl ?_
      have hF := mj_oi hF; subst hF
      exact mj_zret (v := 1) rfl C hr hlk dX8_holdsShorts_23
set_option maxRecDepth 100000 in
set_option maxHeartbeats 4000000 in
theorem c_X8_holdsNothing {G : mj_G} {l : Launch} (σ : mj_S) (p1 : Int32) (R : Int32) (hF : f_X8_holdsNothing σ p1 = some R) : mj_C G l yX8_holdsNothing cX8_holdsNothing 2 (some .boolean) 2 [.ref (G.2.1 53), .int p1] σ (some (.int R)) σ := by
  unfold f_X8_holdsNothing at hF
  refine mj_of (ls := [(0, .ref (G.2.1 53)), (1, .int p1)]) (by decide) (Nat.le_of_ble_eq_true rfl) rfl (fun p e s m args below meth c C hr hlk => ?_)
  refine mj_aload_n C dX8_holdsNothing_0 rfl ?_
  refine mj_iload_n C dX8_holdsNothing_1 rfl ?_
  refine mj_callVi C (c_X8_has σ p1) yv_X8_has kl_X8_30 (mo_53 G _) rfl rfl rfl rfl (Nat.le_of_ble_eq_true rfl) (mj_roomC (by decide) (by decide)) ⟨Nat.zero_le _, Nat.zero_le _⟩ dX8_holdsNothing_2 ?_
  refine mj_if_eq C dX8_holdsNothing_5 rfl hF (fun hc1 hF => ?_) (fun hc1 hF => ?_)
  · refine mj_iconstV (v := 0) C dX8_holdsNothing_32 mc_i_0 ?_
    have hF := mj_oi hF; subst hF
    exact mj_zret (v := 0) rfl C hr hlk dX8_holdsNothing_33
  · refine mj_aload_n C dX8_holdsNothing_8 rfl ?_
    refine mg_X8_13 C dX8_holdsNothing_9 ?_
    refine mj_iload_n C dX8_holdsNothing_12 rfl ?_
    obtain ⟨hg2, hF⟩ := mj_og hF
    refine mj_iaload C dX8_holdsNothing_13 rfl hg2 ?_
    refine mj_iconstV (v := (-1)) C dX8_holdsNothing_14 mc_i_m1 ?_
    refine mj_ic_ne C dX8_holdsNothing_15 rfl hF (fun hc3 hF => ?_) (fun hc3 hF => ?_)
    · refine mj_iconstV (v := 0) C dX8_holdsNothing_32 mc_i_0 ?_
      have hF := mj_oi hF; subst hF
      exact mj_zret (v := 0) rfl C hr hlk dX8_holdsNothing_33
    · refine mj_aload_n C dX8_holdsNothing_18 rfl ?_
      refine mg_X8_9 C dX8_holdsNothing_19 ?_
      refine mj_iload_n C dX8_holdsNothing_22 rfl ?_
      obtain ⟨hg4, hF⟩ := mj_og hF
      refine mj_iaload C dX8_holdsNothing_23 rfl hg4 ?_
      refine mj_iconstV (v := (-1)) C dX8_holdsNothing_24 mc_i_m1 ?_
      refine mj_ic_ne C dX8_holdsNothing_25 rfl hF (fun hc5 hF => ?_) (fun hc5 hF => ?_)
      · refine mj_iconstV (v := 0) C dX8_holdsNothing_32 mc_i_0 ?_
        have hF := mj_oi hF; subst hF
        exact mj_zret (v := 0) rfl C hr hlk dX8_holdsNothing_33
      · refine mj_iconstV (v := 1) C dX8_holdsNothing_28 mc_i_1 ?_
        refine mj_goto C dX8_holdsNothing_29 rfl ?_
        have hF := mj_oi hF; subst hF
        exact mj_zret (v := 1) rfl C hr hlk dX8_holdsNothing_33
set_option maxRecDepth 100000 in
set_option maxHeartbeats 4000000 in
theorem c_X8_bodyOn {G : mj_G} {l : Launch} (σ : mj_S) (p1 : Int32) (R : Int32) (hF : f_X8_bodyOn σ p1 = some R) : mj_C G l yX8_bodyOn cX8_bodyOn 2 (some .int) 2 [.ref (G.2.1 53), .int p1] σ (some (.int R)) σ := by
  unfold f_X8_bodyOn at hF
  refine mj_of (ls := [(0, .ref (G.2.1 53)), (1, .int p1)]) (by decide) (Nat.le_of_ble_eq_true rfl) rfl (fun p e s m args below meth c C hr hlk => ?_)
  refine mj_aload_n C dX8_bodyOn_0 rfl ?_
  refine mj_iload_n C dX8_bodyOn_1 rfl ?_
  refine mj_callVi C (c_X8_has σ p1) yv_X8_has kl_X8_30 (mo_53 G _) rfl rfl rfl rfl (Nat.le_of_ble_eq_true rfl) (mj_roomC (by decide) (by decide)) ⟨Nat.zero_le _, Nat.zero_le _⟩ dX8_bodyOn_2 ?_
  refine mj_if_eq C dX8_bodyOn_5 rfl hF (fun hc1 hF => ?_) (fun hc1 hF => ?_)
  · refine mj_iconstV (v := (-1)) C dX8_bodyOn_17 mc_i_m1 ?_
    have hF := mj_oi hF; subst hF
    exact mj_iret C hr hlk dX8_bodyOn_18
  · refine mj_aload_n C dX8_bodyOn_8 rfl ?_
    refine mg_X8_9 C dX8_bodyOn_9 ?_
    refine mj_iload_n C dX8_bodyOn_12 rfl ?_
    obtain ⟨hg2, hF⟩ := mj_og hF
    refine mj_iaload C dX8_bodyOn_13 rfl hg2 ?_
    refine mj_goto C dX8_bodyOn_14 rfl ?_
    have hF := mj_oi hF; subst hF
    exact mj_iret C hr hlk dX8_bodyOn_18
set_option maxRecDepth 100000 in
set_option maxHeartbeats 4000000 in
theorem c_X8_holdBody {G : mj_G} {l : Launch} (σ : mj_S) (p1 : Int32) (p2 : Int32) (R : mj_S) (hF : f_X8_holdBody σ p1 p2 = some R) : mj_C G l yX8_holdBody cX8_holdBody 3 (none) 2 [.ref (G.2.1 53), .int p1, .int p2] σ none R := by
  unfold f_X8_holdBody at hF
  refine mj_of (ls := [(0, .ref (G.2.1 53)), (1, .int p1), (2, .int p2)]) (by decide) (Nat.le_of_ble_eq_true rfl) rfl (fun p e s m args below meth c C hr hlk => ?_)
  refine mj_aload_n C dX8_holdBody_0 rfl ?_
  refine mj_iload_n C dX8_holdBody_1 rfl ?_
  refine mj_callVi C (c_X8_has σ p1) yv_X8_has kl_X8_30 (mo_53 G _) rfl rfl rfl rfl (Nat.le_of_ble_eq_true rfl) (mj_roomC (by decide) (by decide)) ⟨Nat.zero_le _, Nat.zero_le _⟩ dX8_holdBody_2 ?_
  refine mj_if_eq C dX8_holdBody_5 rfl hF (fun hc1 hF => ?_) (fun hc1 hF => ?_)
  · have hF := mj_oi hF; subst hF
    exact mj_vret C hr hlk dX8_holdBody_29
  · refine mj_aload_n C dX8_holdBody_8 rfl ?_
    refine mg_X8_9 C dX8_holdBody_9 ?_
    refine mj_iload_n C dX8_holdBody_12 rfl ?_
    refine mj_iload_n C dX8_holdBody_13 rfl ?_
    obtain ⟨hg2, hF⟩ := mj_og hF
    refine mj_iastore C dX8_holdBody_14 rfl hg2 ?_
    refine mj_aload_n C dX8_holdBody_15 rfl ?_
    refine mg_X8_13 C dX8_holdBody_16 ?_
    refine mj_iload_n C dX8_holdBody_19 rfl ?_
    refine mj_iconstV (v := (-1)) C dX8_holdBody_20 mc_i_m1 ?_
    obtain ⟨hg3, hF⟩ := mj_og hF
    refine mj_iastore C dX8_holdBody_21 rfl hg3 ?_
    refine mj_aload_n C dX8_holdBody_22 rfl ?_
    refine mg_X8_16 C dX8_holdBody_23 ?_
    refine mj_iload_n C dX8_holdBody_26 rfl ?_
    refine mj_iconstV (v := 0) C dX8_holdBody_27 mc_i_0 ?_
    obtain ⟨hg4, hF⟩ := mj_og hF
    refine mj_iastore C dX8_holdBody_28 rfl hg4 ?_
    have hF := mj_oi hF; subst hF
    exact mj_vret C hr hlk dX8_holdBody_29
set_option maxRecDepth 100000 in
set_option maxHeartbeats 4000000 in
theorem w_X8_holdRow_43 {p : Program} {l : Launch} {e : Env} {s : State} {m : MethodId} {args : Array Value} {below : List Frame} {meth : Method} {c : Code} {G : mj_G} (C : mj_X p s m args meth c G cX8_holdRow 5 RX8) (hr : meth.sig.returnType = none) (hlk : meth.locks = false) : ∀ (n : Nat) (v1 : Int32) (v4 : Int32) (σ : mj_S) (R : mj_S), b_X8_holdRow_43 n v1 v4 σ = some R → mj_W p l e (mj_rm 2) s m args below meth c G 0 0 5 (MQ below (mj_Q G none R) args s 0 0 G.2.2.2) 43 [(0, .ref (G.2.1 53)), (1, .int v1), (4, .int v4)] [] σ := by
  intro n
  induction n with
  | zero =>
    intro v1 v4 σ R hF
    cases hF
  | succ n ih =>
    intro v1 v4 σ R hF
    rw [b_X8_holdRow_43] at hF
    refine mj_iload C dX8_holdRow_43 rfl ?_
    refine mj_bipushV (v := 60) C dX8_holdRow_45 mc_b_60 ?_
    refine mj_ic_ge C dX8_holdRow_47 rfl hF (fun hc6 hF => ?_) (fun hc6 hF => ?_)
    · have hF := mj_oi hF; subst hF
      exact mj_vret C hr hlk dX8_holdRow_66
    · refine mj_aload_n C dX8_holdRow_50 rfl ?_
      refine mg_X8_21 C dX8_holdRow_51 ?_
      refine mj_iload_n C dX8_holdRow_54 rfl ?_
      obtain ⟨hg7, hF⟩ := mj_og hF
      have hA8 := mj_row_57 hg7
      refine mj_aaL C rfl (Nat.le_of_ble_eq_true rfl) hg7 dX8_holdRow_55 ?_
      refine mj_iload C dX8_holdRow_56 rfl ?_
      refine mj_lconstV (v := 0) C dX8_holdRow_58 mc_l_0 ?_
      obtain ⟨hg9, hF⟩ := mj_og hF
      refine mj_lastore C dX8_holdRow_59 hA8 hg9 ?_
      refine mj_iinc (v := v4 + 1) C dX8_holdRow_60 rfl rfl (by decide) ?_
      refine mj_goto C dX8_holdRow_63 rfl ?_
      refine mj_to ?_ (ih v1 (v4 + 1) (mj_sL σ (57 + 1 + v1.toNatClampNeg) v4.toNatClampNeg 0) R hF)
      exact ⟨rfl, rfl, rfl, trivial⟩
set_option maxRecDepth 100000 in
set_option maxHeartbeats 4000000 in
theorem c_X8_holdRow {G : mj_G} {l : Launch} (σ : mj_S) (p1 : Int32) (p2 : Int32) (p3 : Int32) (R : mj_S) (hF : f_X8_holdRow σ p1 p2 p3 = some R) : mj_C G l yX8_holdRow cX8_holdRow 5 (none) 2 [.ref (G.2.1 53), .int p1, .int p2, .int p3] σ none R := by
  unfold f_X8_holdRow at hF
  refine mj_of (ls := [(0, .ref (G.2.1 53)), (1, .int p1), (2, .int p2), (3, .int p3)]) (by decide) (Nat.le_of_ble_eq_true rfl) rfl (fun p e s m args below meth c C hr hlk => ?_)
  refine mj_aload_n C dX8_holdRow_0 rfl ?_
  refine mj_iload_n C dX8_holdRow_1 rfl ?_
  refine mj_callVi C (c_X8_has σ p1) yv_X8_has kl_X8_30 (mo_53 G _) rfl rfl rfl rfl (Nat.le_of_ble_eq_true rfl) (mj_roomC (by decide) (by decide)) ⟨Nat.zero_le _, Nat.zero_le _⟩ dX8_holdRow_2 ?_
  refine mj_if_eq C dX8_holdRow_5 rfl hF (fun hc1 hF => ?_) (fun hc1 hF => ?_)
  · have hF := mj_oi hF; subst hF
    exact mj_vret C hr hlk dX8_holdRow_18
  · refine mj_iload_n C dX8_holdRow_8 rfl ?_
    refine mj_iconstV (v := 0) C dX8_holdRow_9 mc_i_0 ?_
    refine mj_bipushV (v := 60) C dX8_holdRow_10 mc_b_60 ?_
    refine mj_callNi C (c_X9_within σ p3 0 60) ys_X9_within kn_X8_24 rfl rfl (Nat.le_of_ble_eq_true rfl) (mj_roomC (by decide) (by decide)) ⟨Nat.zero_le _, Nat.zero_le _⟩ dX8_holdRow_12 ?_
    refine mj_if_ne C dX8_holdRow_15 rfl hF (fun hc2 hF => ?_) (fun hc2 hF => ?_)
    · refine mj_aload_n C dX8_holdRow_19 rfl ?_
      refine mg_X8_9 C dX8_holdRow_20 ?_
      refine mj_iload_n C dX8_holdRow_23 rfl ?_
      refine mj_iconstV (v := (-1)) C dX8_holdRow_24 mc_i_m1 ?_
      obtain ⟨hg3, hF⟩ := mj_og hF
      refine mj_iastore C dX8_holdRow_25 rfl hg3 ?_
      refine mj_aload_n C dX8_holdRow_26 rfl ?_
      refine mg_X8_13 C dX8_holdRow_27 ?_
      refine mj_iload_n C dX8_holdRow_30 rfl ?_
      refine mj_iload_n C dX8_holdRow_31 rfl ?_
      obtain ⟨hg4, hF⟩ := mj_og hF
      refine mj_iastore C dX8_holdRow_32 rfl hg4 ?_
      refine mj_aload_n C dX8_holdRow_33 rfl ?_
      refine mg_X8_16 C dX8_holdRow_34 ?_
      refine mj_iload_n C dX8_holdRow_37 rfl ?_
      refine mj_iload_n C dX8_holdRow_38 rfl ?_
      obtain ⟨hg5, hF⟩ := mj_og hF
      refine mj_iastore C dX8_holdRow_39 rfl hg5 ?_
      refine mj_iconstV (v := 0) C dX8_holdRow_40 mc_i_0 ?_
      refine mj_istore C dX8_holdRow_41 (by decide) ?_
      refine mj_to ?_ (w_X8_holdRow_43 C hr hlk mj_fu p1 0 (mj_sI (mj_sI (mj_sI σ 54 p1.toNatClampNeg (-1)) 55 p1.toNatClampNeg p2) 56 p1.toNatClampNeg p3) R hF)
      exact ⟨rfl, rfl, rfl, trivial⟩
    · have hF := mj_oi hF; subst hF
      exact mj_vret C hr hlk dX8_holdRow_18
set_option maxRecDepth 100000 in
set_option maxHeartbeats 4000000 in
theorem c_X8_areAlike {G : mj_G} {l : Launch} (σ : mj_S) (p1 : Int32) (p2 : Int32) (R : Int32) (hF : f_X8_areAlike σ p1 p2 = some R) : mj_C G l yX8_areAlike cX8_areAlike 3 (some .boolean) 2 [.ref (G.2.1 53), .int p1, .int p2] σ (some (.int R)) σ := by
  unfold f_X8_areAlike at hF
  refine mj_of (ls := [(0, .ref (G.2.1 53)), (1, .int p1), (2, .int p2)]) (by decide) (Nat.le_of_ble_eq_true rfl) rfl (fun p e s m args below meth c C hr hlk => ?_)
  refine mj_aload_n C dX8_areAlike_0 rfl ?_
  refine mj_iload_n C dX8_areAlike_1 rfl ?_
  refine mj_callVi C (c_X8_has σ p1) yv_X8_has kl_X8_30 (mo_53 G _) rfl rfl rfl rfl (Nat.le_of_ble_eq_true rfl) (mj_roomC (by decide) (by decide)) ⟨Nat.zero_le _, Nat.zero_le _⟩ dX8_areAlike_2 ?_
  refine mj_if_eq C dX8_areAlike_5 rfl hF (fun hc1 hF => ?_) (fun hc1 hF => ?_)
  · refine mj_iconstV (v := 0) C dX8_areAlike_35 mc_i_0 ?_
    have hF := mj_oi hF; subst hF
    exact mj_zret (v := 0) rfl C hr hlk dX8_areAlike_36
  · refine mj_aload_n C dX8_areAlike_8 rfl ?_
    refine mj_iload_n C dX8_areAlike_9 rfl ?_
    refine mj_callVi C (c_X8_has σ p2) yv_X8_has kl_X8_30 (mo_53 G _) rfl rfl rfl rfl (Nat.le_of_ble_eq_true rfl) (mj_roomC (by decide) (by decide)) ⟨Nat.zero_le _, Nat.zero_le _⟩ dX8_areAlike_10 ?_
    refine mj_if_eq C dX8_areAlike_13 rfl hF (fun hc2 hF => ?_) (fun hc2 hF => ?_)
    · refine mj_iconstV (v := 0) C dX8_areAlike_35 mc_i_0 ?_
      have hF := mj_oi hF; subst hF
      exact mj_zret (v := 0) rfl C hr hlk dX8_areAlike_36
    · refine mj_aload_n C dX8_areAlike_16 rfl ?_
      refine mg_X8_13 C dX8_areAlike_17 ?_
      refine mj_iload_n C dX8_areAlike_20 rfl ?_
      obtain ⟨hg3, hF⟩ := mj_og hF
      refine mj_iaload C dX8_areAlike_21 rfl hg3 ?_
      refine mj_aload_n C dX8_areAlike_22 rfl ?_
      refine mg_X8_13 C dX8_areAlike_23 ?_
      refine mj_iload_n C dX8_areAlike_26 rfl ?_
      obtain ⟨hg4, hF⟩ := mj_og hF
      refine mj_iaload C dX8_areAlike_27 rfl hg4 ?_
      refine mj_ic_ne C dX8_areAlike_28 rfl hF (fun hc5 hF => ?_) (fun hc5 hF => ?_)
      · refine mj_iconstV (v := 0) C dX8_areAlike_35 mc_i_0 ?_
        have hF := mj_oi hF; subst hF
        exact mj_zret (v := 0) rfl C hr hlk dX8_areAlike_36
      · refine mj_iconstV (v := 1) C dX8_areAlike_31 mc_i_1 ?_
        refine mj_goto C dX8_areAlike_32 rfl ?_
        have hF := mj_oi hF; subst hF
        exact mj_zret (v := 1) rfl C hr hlk dX8_areAlike_36
set_option maxRecDepth 100000 in
set_option maxHeartbeats 4000000 in
theorem c_X8_hasPlaces {G : mj_G} {l : Launch} (σ : mj_S) (p1 : Int32) (p2 : Int32) (p3 : Int32) (R : Int32) (hF : f_X8_hasPlaces σ p1 p2 p3 = some R) : mj_C G l yX8_hasPlaces cX8_hasPlaces 4 (some .boolean) 2 [.ref (G.2.1 53), .int p1, .int p2, .int p3] σ (some (.int R)) σ := by
  unfold f_X8_hasPlaces at hF
  refine mj_of (ls := [(0, .ref (G.2.1 53)), (1, .int p1), (2, .int p2), (3, .int p3)]) (by decide) (Nat.le_of_ble_eq_true rfl) rfl (fun p e s m args below meth c C hr hlk => ?_)
  refine mj_aload_n C dX8_hasPlaces_0 rfl ?_
  refine mj_iload_n C dX8_hasPlaces_1 rfl ?_
  refine mj_callVi C (c_X8_has σ p1) yv_X8_has kl_X8_30 (mo_53 G _) rfl rfl rfl rfl (Nat.le_of_ble_eq_true rfl) (mj_roomC (by decide) (by decide)) ⟨Nat.zero_le _, Nat.zero_le _⟩ dX8_hasPlaces_2 ?_
  refine mj_if_eq C dX8_hasPlaces_5 rfl hF (fun hc1 hF => ?_) (fun hc1 hF => ?_)
  · refine mj_iconstV (v := 0) C dX8_hasPlaces_42 mc_i_0 ?_
    have hF := mj_oi hF; subst hF
    exact mj_zret (v := 0) rfl C hr hlk dX8_hasPlaces_43
  · refine mj_iload_n C dX8_hasPlaces_8 rfl ?_
    refine mj_if_lt C dX8_hasPlaces_9 rfl hF (fun hc2 hF => ?_) (fun hc2 hF => ?_)
    · refine mj_iconstV (v := 0) C dX8_hasPlaces_42 mc_i_0 ?_
      have hF := mj_oi hF; subst hF
      exact mj_zret (v := 0) rfl C hr hlk dX8_hasPlaces_43
    · refine mj_iload_n C dX8_hasPlaces_12 rfl ?_
      refine mj_if_lt C dX8_hasPlaces_13 rfl hF (fun hc3 hF => ?_) (fun hc3 hF => ?_)
      · refine mj_iconstV (v := 0) C dX8_hasPlaces_42 mc_i_0 ?_
        have hF := mj_oi hF; subst hF
        exact mj_zret (v := 0) rfl C hr hlk dX8_hasPlaces_43
      · refine mj_iload_n C dX8_hasPlaces_16 rfl ?_
        refine mj_aload_n C dX8_hasPlaces_17 rfl ?_
        refine mg_X8_16 C dX8_hasPlaces_18 ?_
        refine mj_iload_n C dX8_hasPlaces_21 rfl ?_
        obtain ⟨hg4, hF⟩ := mj_og hF
        refine mj_iaload C dX8_hasPlaces_22 rfl hg4 ?_
        refine mj_ic_gt C dX8_hasPlaces_23 rfl hF (fun hc5 hF => ?_) (fun hc5 hF => ?_)
        · refine mj_iconstV (v := 0) C dX8_hasPlaces_42 mc_i_0 ?_
          have hF := mj_oi hF; subst hF
          exact mj_zret (v := 0) rfl C hr hlk dX8_hasPlaces_43
        · refine mj_iload_n C dX8_hasPlaces_26 rfl ?_
          refine mj_aload_n C dX8_hasPlaces_27 rfl ?_
          refine mg_X8_16 C dX8_hasPlaces_28 ?_
          refine mj_iload_n C dX8_hasPlaces_31 rfl ?_
          obtain ⟨hg6, hF⟩ := mj_og hF
          refine mj_iaload C dX8_hasPlaces_32 rfl hg6 ?_
          refine mj_iload_n C dX8_hasPlaces_33 rfl ?_
          refine mj_isub C dX8_hasPlaces_34 ?_
          refine mj_ic_gt C dX8_hasPlaces_35 rfl hF (fun hc7 hF => ?_) (fun hc7 hF => ?_)
          · refine mj_iconstV (v := 0) C dX8_hasPlaces_42 mc_i_0 ?_
            have hF := mj_oi hF; subst hF
            exact mj_zret (v := 0) rfl C hr hlk dX8_hasPlaces_43
          · refine mj_iconstV (v := 1) C dX8_hasPlaces_38 mc_i_1 ?_
            refine mj_goto C dX8_hasPlaces_39 rfl ?_
            have hF := mj_oi hF; subst hF
            exact mj_zret (v := 1) rfl C hr hlk dX8_hasPlaces_43
set_option maxRecDepth 100000 in
set_option maxHeartbeats 4000000 in
theorem c_X8_get {G : mj_G} {l : Launch} (σ : mj_S) (p1 : Int32) (p2 : Int32) (R : Int64) (hF : f_X8_get σ p1 p2 = some R) : mj_C G l yX8_get cX8_get 3 (some .long) 3 [.ref (G.2.1 53), .int p1, .int p2] σ (some (.long R)) σ := by
  unfold f_X8_get at hF
  refine mj_of (ls := [(0, .ref (G.2.1 53)), (1, .int p1), (2, .int p2)]) (by decide) (Nat.le_of_ble_eq_true rfl) rfl (fun p e s m args below meth c C hr hlk => ?_)
  refine mj_aload_n C dX8_get_0 rfl ?_
  refine mj_iload_n C dX8_get_1 rfl ?_
  refine mj_iload_n C dX8_get_2 rfl ?_
  refine mj_iconstV (v := 1) C dX8_get_3 mc_i_1 ?_
  obtain ⟨r1, hq1, hF⟩ := mj_ob hF
  refine mj_callVi C (c_X8_hasPlaces σ p1 p2 1 r1 hq1) yv_X8_hasPlaces kl_X8_34 (mo_53 G _) rfl rfl rfl rfl (Nat.le_of_ble_eq_true rfl) (mj_roomC (by decide) (by decide)) ⟨Nat.zero_le _, Nat.zero_le _⟩ dX8_get_4 ?_
  refine mj_if_eq C dX8_get_7 rfl hF (fun hc2 hF => ?_) (fun hc2 hF => ?_)
  · refine mj_lconstV (v := 0) C dX8_get_21 mc_l_0 ?_
    have hF := mj_oi hF; subst hF
    exact mj_lret C hr hlk dX8_get_22
  · refine mj_aload_n C dX8_get_10 rfl ?_
    refine mg_X8_21 C dX8_get_11 ?_
    refine mj_iload_n C dX8_get_14 rfl ?_
    obtain ⟨hg3, hF⟩ := mj_og hF
    have hA4 := mj_row_57 hg3
    refine mj_aaL C rfl (Nat.le_of_ble_eq_true rfl) hg3 dX8_get_15 ?_
    refine mj_iload_n C dX8_get_16 rfl ?_
    obtain ⟨hg5, hF⟩ := mj_og hF
    refine mj_laload C dX8_get_17 hA4 hg5 ?_
    refine mj_goto C dX8_get_18 rfl ?_
    have hF := mj_oi hF; subst hF
    exact mj_lret C hr hlk dX8_get_22
set_option maxRecDepth 100000 in
set_option maxHeartbeats 4000000 in
theorem c_X8_lowestBits {G : mj_G} {l : Launch} (σ : mj_S) (p0 : Int32) (p1 : Int64) : mj_C G l yX8_lowestBits cX8_lowestBits 3 (some .long) 1 [.int p0, .long p1] σ (some (.long (f_X8_lowestBits σ p0 p1))) σ := by
  generalize hF : f_X8_lowestBits σ p0 p1 = R
  unfold f_X8_lowestBits at hF
  refine mj_of (ls := [(0, .int p0), (1, .long p1)]) (by decide) (Nat.le_of_ble_eq_true rfl) rfl (fun p e s m args below meth c C hr hlk => ?_)
  refine mj_iload_n C dX8_lowestBits_0 rfl ?_
  by_cases hw1_0 : p0 = 0
  · rw [if_pos hw1_0] at hF
    refine mj_tsIn (off := 35) C dX8_lowestBits_1 (by rw [hw1_0]; decide) (by rw [hw1_0]; decide) (by rw [hw1_0]; rfl) rfl ?_
    refine mj_lload_n C dX8_lowestBits_36 rfl ?_
    refine mj_l2i C dX8_lowestBits_37 ?_
    refine mj_i2b C dX8_lowestBits_38 ?_
    refine mj_i2l C dX8_lowestBits_39 ?_
    subst hF
    exact mj_lret C hr hlk dX8_lowestBits_40
  rw [if_neg hw1_0] at hF
  by_cases hw1_1 : p0 = 1
  · rw [if_pos hw1_1] at hF
    refine mj_tsIn (off := 40) C dX8_lowestBits_1 (by rw [hw1_1]; decide) (by rw [hw1_1]; decide) (by rw [hw1_1]; rfl) rfl ?_
    refine mj_lload_n C dX8_lowestBits_41 rfl ?_
    refine mj_l2i C dX8_lowestBits_42 ?_
    refine mj_i2s C dX8_lowestBits_43 ?_
    refine mj_i2l C dX8_lowestBits_44 ?_
    subst hF
    exact mj_lret C hr hlk dX8_lowestBits_45
  rw [if_neg hw1_1] at hF
  by_cases hw1_2 : p0 = 2
  · rw [if_pos hw1_2] at hF
    refine mj_tsIn (off := 45) C dX8_lowestBits_1 (by rw [hw1_2]; decide) (by rw [hw1_2]; decide) (by rw [hw1_2]; rfl) rfl ?_
    refine mj_lload_n C dX8_lowestBits_46 rfl ?_
    refine mj_l2i C dX8_lowestBits_47 ?_
    refine mj_i2l C dX8_lowestBits_48 ?_
    subst hF
    exact mj_lret C hr hlk dX8_lowestBits_49
  rw [if_neg hw1_2] at hF
  by_cases hw1_3 : p0 = 3
  · rw [if_pos hw1_3] at hF
    refine mj_tsIn (off := 49) C dX8_lowestBits_1 (by rw [hw1_3]; decide) (by rw [hw1_3]; decide) (by rw [hw1_3]; rfl) rfl ?_
    refine mj_lload_n C dX8_lowestBits_50 rfl ?_
    subst hF
    exact mj_lret C hr hlk dX8_lowestBits_51
  rw [if_neg hw1_3] at hF
  by_cases hw1_4 : p0 = 4
  · rw [if_pos hw1_4] at hF
    refine mj_tsIn (off := 51) C dX8_lowestBits_1 (by rw [hw1_4]; decide) (by rw [hw1_4]; decide) (by rw [hw1_4]; rfl) rfl ?_
    refine mj_lload_n C dX8_lowestBits_52 rfl ?_
    refine mj_lconstV (v := 0) C dX8_lowestBits_53 mc_l_0 ?_
    refine mj_lcmp C dX8_lowestBits_54 ?_
    refine mj_if_eq C dX8_lowestBits_55 rfl hF (fun hc2 hF => ?_) (fun hc2 hF => ?_)
    · refine mj_lconstV (v := 0) C dX8_lowestBits_62 mc_l_0 ?_
      subst hF
      exact mj_lret C hr hlk dX8_lowestBits_63
    · refine mj_lconstV (v := 1) C dX8_lowestBits_58 mc_l_1 ?_
      refine mj_goto C dX8_lowestBits_59 rfl ?_
      subst hF
      exact mj_lret C hr hlk dX8_lowestBits_63
  rw [if_neg hw1_4] at hF
  refine mj_tsOut C dX8_lowestBits_1 (mj_sw_0_5 hw1_0 hw1_1 hw1_2 hw1_3 hw1_4) rfl ?_
  refine mj_lconstV (v := 0) C dX8_lowestBits_64 mc_l_0 ?_
  subst hF
  exact mj_lret C hr hlk dX8_lowestBits_65
set_option maxRecDepth 100000 in
set_option maxHeartbeats 4000000 in
theorem c_X8_set {G : mj_G} {l : Launch} (σ : mj_S) (p1 : Int32) (p2 : Int32) (p3 : Int64) (R : mj_S) (hF : f_X8_set σ p1 p2 p3 = some R) : mj_C G l yX8_set cX8_set 5 (none) 3 [.ref (G.2.1 53), .int p1, .int p2, .long p3] σ none R := by
  unfold f_X8_set at hF
  refine mj_of (ls := [(0, .ref (G.2.1 53)), (1, .int p1), (2, .int p2), (3, .long p3)]) (by decide) (Nat.le_of_ble_eq_true rfl) rfl (fun p e s m args below meth c C hr hlk => ?_)
  refine mj_aload_n C dX8_set_0 rfl ?_
  refine mj_iload_n C dX8_set_1 rfl ?_
  refine mj_iload_n C dX8_set_2 rfl ?_
  refine mj_iconstV (v := 1) C dX8_set_3 mc_i_1 ?_
  obtain ⟨r1, hq1, hF⟩ := mj_ob hF
  refine mj_callVi C (c_X8_hasPlaces σ p1 p2 1 r1 hq1) yv_X8_hasPlaces kl_X8_34 (mo_53 G _) rfl rfl rfl rfl (Nat.le_of_ble_eq_true rfl) (mj_roomC (by decide) (by decide)) ⟨Nat.zero_le _, Nat.zero_le _⟩ dX8_set_4 ?_
  refine mj_if_eq C dX8_set_7 rfl hF (fun hc2 hF => ?_) (fun hc2 hF => ?_)
  · have hF := mj_oi hF; subst hF
    exact mj_vret C hr hlk dX8_set_28
  · refine mj_aload_n C dX8_set_10 rfl ?_
    refine mg_X8_21 C dX8_set_11 ?_
    refine mj_iload_n C dX8_set_14 rfl ?_
    obtain ⟨hg3, hF⟩ := mj_og hF
    have hA4 := mj_row_57 hg3
    refine mj_aaL C rfl (Nat.le_of_ble_eq_true rfl) hg3 dX8_set_15 ?_
    refine mj_iload_n C dX8_set_16 rfl ?_
    refine mj_aload_n C dX8_set_17 rfl ?_
    refine mg_X8_13 C dX8_set_18 ?_
    refine mj_iload_n C dX8_set_21 rfl ?_
    obtain ⟨hg5, hF⟩ := mj_og hF
    refine mj_iaload C dX8_set_22 rfl hg5 ?_
    refine mj_lload_n C dX8_set_23 rfl ?_
    refine mj_callSl C (c_X8_lowestBits σ (σ.1 55 p1.toNatClampNeg) p3) ys_X8_lowestBits kl_X8_37 rfl rfl (Nat.le_of_ble_eq_true rfl) (mj_roomC (by decide) (by decide)) ⟨Nat.zero_le _, Nat.zero_le _⟩ dX8_set_24 ?_
    obtain ⟨hg6, hF⟩ := mj_og hF
    refine mj_lastore C dX8_set_27 hA4 hg6 ?_
    have hF := mj_oi hF; subst hF
    exact mj_vret C hr hlk dX8_set_28
set_option maxRecDepth 100000 in
set_option maxHeartbeats 4000000 in
theorem c_X8_move {G : mj_G} {l : Launch} (σ : mj_S) (p1 : Int32) (p2 : Int32) (p3 : Int32) (p4 : Int32) (p5 : Int32) (R : mj_S) (hF : f_X8_move σ p1 p2 p3 p4 p5 = some R) : mj_C G l yX8_move cX8_move 6 (none) 3 [.ref (G.2.1 53), .int p1, .int p2, .int p3, .int p4, .int p5] σ none R := by
  unfold f_X8_move at hF
  refine mj_of (ls := [(0, .ref (G.2.1 53)), (1, .int p1), (2, .int p2), (3, .int p3), (4, .int p4), (5, .int p5)]) (by decide) (Nat.le_of_ble_eq_true rfl) rfl (fun p e s m args below meth c C hr hlk => ?_)
  refine mj_aload_n C dX8_move_0 rfl ?_
  refine mj_iload_n C dX8_move_1 rfl ?_
  refine mj_iload_n C dX8_move_2 rfl ?_
  refine mj_iload C dX8_move_3 rfl ?_
  obtain ⟨r1, hq1, hF⟩ := mj_ob hF
  refine mj_callVi C (c_X8_hasPlaces σ p1 p2 p5 r1 hq1) yv_X8_hasPlaces kl_X8_34 (mo_53 G _) rfl rfl rfl rfl (Nat.le_of_ble_eq_true rfl) (mj_roomC (by decide) (by decide)) ⟨Nat.zero_le _, Nat.zero_le _⟩ dX8_move_5 ?_
  refine mj_if_eq C dX8_move_8 rfl hF (fun hc2 hF => ?_) (fun hc2 hF => ?_)
  · have hF := mj_oi hF; subst hF
    exact mj_vret C hr hlk dX8_move_43
  · refine mj_aload_n C dX8_move_11 rfl ?_
    refine mj_iload_n C dX8_move_12 rfl ?_
    refine mj_iload C dX8_move_13 rfl ?_
    refine mj_iload C dX8_move_15 rfl ?_
    obtain ⟨r3, hq3, hF⟩ := mj_ob hF
    refine mj_callVi C (c_X8_hasPlaces σ p3 p4 p5 r3 hq3) yv_X8_hasPlaces kl_X8_34 (mo_53 G _) rfl rfl rfl rfl (Nat.le_of_ble_eq_true rfl) (mj_roomC (by decide) (by decide)) ⟨Nat.zero_le _, Nat.zero_le _⟩ dX8_move_17 ?_
    refine mj_if_eq C dX8_move_20 rfl hF (fun hc4 hF => ?_) (fun hc4 hF => ?_)
    · have hF := mj_oi hF; subst hF
      exact mj_vret C hr hlk dX8_move_43
    · refine mj_aload_n C dX8_move_23 rfl ?_
      refine mg_X8_21 C dX8_move_24 ?_
      refine mj_iload_n C dX8_move_27 rfl ?_
      obtain ⟨hg5, hF⟩ := mj_og hF
      have hA6 := mj_row_57 hg5
      refine mj_aaL C rfl (Nat.le_of_ble_eq_true rfl) hg5 dX8_move_28 ?_
      refine mj_iload_n C dX8_move_29 rfl ?_
      refine mj_aload_n C dX8_move_30 rfl ?_
      refine mg_X8_21 C dX8_move_31 ?_
      refine mj_iload_n C dX8_move_34 rfl ?_
      obtain ⟨hg7, hF⟩ := mj_og hF
      have hA8 := mj_row_57 hg7
      refine mj_aaL C rfl (Nat.le_of_ble_eq_true rfl) hg7 dX8_move_35 ?_
      refine mj_iload C dX8_move_36 rfl ?_
      refine mj_iload C dX8_move_38 rfl ?_
      obtain ⟨hg9, hF⟩ := mj_og hF
      refine mj_copyL C kl_X8_41 hA6 hA8 hg9 (mj_roomCp (by decide) (Nat.le_of_ble_eq_true rfl)) dX8_move_40 ?_
      have hF := mj_oi hF; subst hF
      exact mj_vret C hr hlk dX8_move_43
