set_option maxRecDepth 100000 in
set_option maxHeartbeats 4000000 in
theorem c_X3_foundChild {G : mj_G} {l : Launch} (σ : mj_S) : mj_C G l yX3_foundChild cX3_foundChild 1 (some .int) 1 [.ref (G.2.1 40)] σ (some (.int (f_X3_foundChild σ))) σ := by
  generalize hF : f_X3_foundChild σ = R
  unfold f_X3_foundChild at hF
  refine mj_of (ls := [(0, .ref (G.2.1 40))]) (by decide) (Nat.le_of_ble_eq_true rfl) rfl (fun p e s m args below meth c C hr hlk => ?_)
  refine mj_aload_n C dX3_foundChild_0 rfl ?_
  refine mg_X3_9 C dX3_foundChild_1 ?_
  subst hF
  exact mj_iret C hr hlk dX3_foundChild_4
set_option maxRecDepth 100000 in
set_option maxHeartbeats 4000000 in
theorem c_X3_foundMonth {G : mj_G} {l : Launch} (σ : mj_S) : mj_C G l yX3_foundMonth cX3_foundMonth 1 (some .int) 1 [.ref (G.2.1 40)] σ (some (.int (f_X3_foundMonth σ))) σ := by
  generalize hF : f_X3_foundMonth σ = R
  unfold f_X3_foundMonth at hF
  refine mj_of (ls := [(0, .ref (G.2.1 40))]) (by decide) (Nat.le_of_ble_eq_true rfl) rfl (fun p e s m args below meth c C hr hlk => ?_)
  refine mj_aload_n C dX3_foundMonth_0 rfl ?_
  refine mg_X3_15 C dX3_foundMonth_1 ?_
  subst hF
  exact mj_iret C hr hlk dX3_foundMonth_4
set_option maxRecDepth 100000 in
set_option maxHeartbeats 4000000 in
theorem c_X3_foundDistance {G : mj_G} {l : Launch} (σ : mj_S) : mj_C G l yX3_foundDistance cX3_foundDistance 1 (some .int) 1 [.ref (G.2.1 40)] σ (some (.int (f_X3_foundDistance σ))) σ := by
  generalize hF : f_X3_foundDistance σ = R
  unfold f_X3_foundDistance at hF
  refine mj_of (ls := [(0, .ref (G.2.1 40))]) (by decide) (Nat.le_of_ble_eq_true rfl) rfl (fun p e s m args below meth c C hr hlk => ?_)
  refine mj_aload_n C dX3_foundDistance_0 rfl ?_
  refine mg_X3_18 C dX3_foundDistance_1 ?_
  subst hF
  exact mj_iret C hr hlk dX3_foundDistance_4
set_option maxRecDepth 100000 in
set_option maxHeartbeats 4000000 in
theorem c_X3_made {G : mj_G} {l : Launch} (σ : mj_S) (p0 : Int32) (p1 : Int32) : mj_C G l yX3_made cX3_made 2 (some .int) 1 [.int p0, .int p1] σ (some (.int (f_X3_made σ p0 p1))) σ := by
  generalize hF : f_X3_made σ p0 p1 = R
  unfold f_X3_made at hF
  refine mj_of (ls := [(0, .int p0), (1, .int p1)]) (by decide) (Nat.le_of_ble_eq_true rfl) rfl (fun p e s m args below meth c C hr hlk => ?_)
  refine mj_iload_n C dX3_made_0 rfl ?_
  by_cases hw1_0 : p1 = 1
  · rw [if_pos hw1_0] at hF
    refine mj_tsIn (off := 31) C dX3_made_1 (by rw [hw1_0]; decide) (by rw [hw1_0]; decide) (by rw [hw1_0]; rfl) rfl ?_
    refine mj_iload_n C dX3_made_32 rfl ?_
    refine mj_bipushV (v := 48) C dX3_made_33 mc_b_48 ?_
    refine mj_iadd C dX3_made_35 ?_
    subst hF
    exact mj_iret C hr hlk dX3_made_36
  rw [if_neg hw1_0] at hF
  by_cases hw1_1 : p1 = 2
  · rw [if_pos hw1_1] at hF
    refine mj_tsIn (off := 36) C dX3_made_1 (by rw [hw1_1]; decide) (by rw [hw1_1]; decide) (by rw [hw1_1]; rfl) rfl ?_
    refine mj_iload_n C dX3_made_37 rfl ?_
    refine mj_sipushV (v := 128) C dX3_made_38 mc_s_128 ?_
    refine mj_iadd C dX3_made_41 ?_
    subst hF
    exact mj_iret C hr hlk dX3_made_42
  rw [if_neg hw1_1] at hF
  by_cases hw1_2 : p1 = 3
  · rw [if_pos hw1_2] at hF
    refine mj_tsIn (off := 42) C dX3_made_1 (by rw [hw1_2]; decide) (by rw [hw1_2]; decide) (by rw [hw1_2]; rfl) rfl ?_
    refine mj_iconstV (v := 0) C dX3_made_43 mc_i_0 ?_
    refine mj_iload_n C dX3_made_44 rfl ?_
    refine mj_bipushV (v := 24) C dX3_made_45 mc_b_24 ?_
    refine mj_isub C dX3_made_47 ?_
    refine mj_mmax C kl_X3_64 (mj_room13 (by decide) (Nat.le_of_ble_eq_true rfl)) ⟨Nat.zero_le _, Nat.zero_le _⟩ dX3_made_48 ?_
    subst hF
    exact mj_iret C hr hlk dX3_made_51
  rw [if_neg hw1_2] at hF
  by_cases hw1_3 : p1 = 4
  · rw [if_pos hw1_3] at hF
    refine mj_tsIn (off := 51) C dX3_made_1 (by rw [hw1_3]; decide) (by rw [hw1_3]; decide) (by rw [hw1_3]; rfl) rfl ?_
    refine mj_iload_n C dX3_made_52 rfl ?_
    refine mj_bipushV (v := 32) C dX3_made_53 mc_b_32 ?_
    refine mj_iadd C dX3_made_55 ?_
    refine mj_bipushV (v := 64) C dX3_made_56 mc_b_64 ?_
    refine mj_idiv C dX3_made_58 (by decide) ?_
    refine mj_bipushV (v := 64) C dX3_made_59 mc_b_64 ?_
    refine mj_imul C dX3_made_61 ?_
    subst hF
    exact mj_iret C hr hlk dX3_made_62
  rw [if_neg hw1_3] at hF
  refine mj_tsOut C dX3_made_1 (mj_sw_1_4 hw1_0 hw1_1 hw1_2 hw1_3) rfl ?_
  refine mj_iload_n C dX3_made_63 rfl ?_
  subst hF
  exact mj_iret C hr hlk dX3_made_64
set_option maxRecDepth 100000 in
set_option maxHeartbeats 4000000 in
theorem c_X3_distance {G : mj_G} {l : Launch} (σ : mj_S) (p1 : Int32) (p2 : Int32) (p3 : Int32) (p4 : Int32) (R : Int32) (hF : f_X3_distance σ p1 p2 p3 p4 = some R) : mj_C G l yX3_distance cX3_distance 5 (some .int) 3 [.ref (G.2.1 40), .int p1, .int p2, .int p3, .int p4] σ (some (.int R)) σ := by
  unfold f_X3_distance at hF
  refine mj_of (ls := [(0, .ref (G.2.1 40)), (1, .int p1), (2, .int p2), (3, .int p3), (4, .int p4)]) (by decide) (Nat.le_of_ble_eq_true rfl) rfl (fun p e s m args below meth c C hr hlk => ?_)
  refine mj_aload_n C dX3_distance_0 rfl ?_
  refine mg_X3_37 C dX3_distance_1 ?_
  refine mj_iload_n C dX3_distance_4 rfl ?_
  refine mj_iload_n C dX3_distance_5 rfl ?_
  obtain ⟨r1, hq1, hF⟩ := mj_ob hF
  refine mj_callVi C (c_X2_isBorn σ p2 p3 r1 hq1) yv_X2_isBorn kl_X3_45 (mo_9 G _) rfl rfl rfl rfl (Nat.le_of_ble_eq_true rfl) (mj_roomC (by decide) (by decide)) ⟨Nat.zero_le _, Nat.zero_le _⟩ dX3_distance_6 ?_
  refine mj_if_ne C dX3_distance_9 rfl hF (fun hc2 hF => ?_) (fun hc2 hF => ?_)
  · refine mj_iload_n C dX3_distance_15 rfl ?_
    refine mj_aload_n C dX3_distance_16 rfl ?_
    refine mg_X3_37 C dX3_distance_17 ?_
    refine mj_iload_n C dX3_distance_20 rfl ?_
    refine mj_iload_n C dX3_distance_21 rfl ?_
    obtain ⟨r3, hq3, hF⟩ := mj_ob hF
    refine mj_callVi C (c_X2_heightAt σ p2 p3 r3 hq3) yv_X2_heightAt kl_X3_51 (mo_9 G _) rfl rfl rfl rfl (Nat.le_of_ble_eq_true rfl) (mj_roomC (by decide) (by decide)) ⟨Nat.zero_le _, Nat.zero_le _⟩ dX3_distance_22 ?_
    refine mj_iload C dX3_distance_25 rfl ?_
    refine mj_callSi C (c_X3_made σ r3 p4) ys_X3_made kl_X3_55 rfl rfl (Nat.le_of_ble_eq_true rfl) (mj_roomC (by decide) (by decide)) ⟨Nat.zero_le _, Nat.zero_le _⟩ dX3_distance_27 ?_
    refine mj_isub C dX3_distance_30 ?_
    refine mj_mabs C kl_X3_58 (mj_room13 (by decide) (Nat.le_of_ble_eq_true rfl)) ⟨Nat.zero_le _, Nat.zero_le _⟩ dX3_distance_31 ?_
    have hF := mj_oi hF; subst hF
    exact mj_iret C hr hlk dX3_distance_34
  · refine mj_bipushV (v := (-2)) C dX3_distance_12 mc_b_m2 ?_
    have hF := mj_oi hF; subst hF
    exact mj_iret C hr hlk dX3_distance_14
set_option maxRecDepth 100000 in
set_option maxHeartbeats 4000000 in
theorem w_X3_isTriedBehind_8 {p : Program} {l : Launch} {e : Env} {s : State} {m : MethodId} {args : Array Value} {below : List Frame} {meth : Method} {c : Code} {G : mj_G} {σ : mj_S} (C : mj_X p s m args meth c G cX3_isTriedBehind 4 RX3) (hr : meth.sig.returnType = some .boolean) (hlk : meth.locks = false) : ∀ (n : Nat) (v2 : Int32) (v3 : Int32) (R : Int32), b_X3_isTriedBehind_8 σ n v2 v3 = some R → mj_W p l e (mj_rm 1) s m args below meth c G 0 0 4 (MQ below (mj_Q G (some (.int R)) σ) args s 0 0 G.2.2.2) 8 [(0, .ref (G.2.1 40)), (2, .int v2), (3, .int v3)] [] σ := by
  intro n
  induction n with
  | zero =>
    intro v2 v3 R hF
    cases hF
  | succ n ih =>
    intro v2 v3 R hF
    rw [b_X3_isTriedBehind_8] at hF
    refine mj_iload_n C dX3_isTriedBehind_8 rfl ?_
    refine mj_aload_n C dX3_isTriedBehind_9 rfl ?_
    refine mg_X3_25 C dX3_isTriedBehind_10 ?_
    refine mj_ic_ge C dX3_isTriedBehind_13 rfl hF (fun hc1 hF => ?_) (fun hc1 hF => ?_)
    · refine mj_iconstV (v := 0) C dX3_isTriedBehind_39 mc_i_0 ?_
      have hF := mj_oi hF; subst hF
      exact mj_zret (v := 0) rfl C hr hlk dX3_isTriedBehind_40
    · refine mj_iload_n C dX3_isTriedBehind_16 rfl ?_
      refine mj_iconstV (v := 4) C dX3_isTriedBehind_17 mc_i_4 ?_
      refine mj_ic_ge C dX3_isTriedBehind_18 rfl hF (fun hc2 hF => ?_) (fun hc2 hF => ?_)
      · refine mj_iconstV (v := 0) C dX3_isTriedBehind_39 mc_i_0 ?_
        have hF := mj_oi hF; subst hF
        exact mj_zret (v := 0) rfl C hr hlk dX3_isTriedBehind_40
      · refine mj_aload_n C dX3_isTriedBehind_21 rfl ?_
        refine mg_X3_28 C dX3_isTriedBehind_22 ?_
        refine mj_iload_n C dX3_isTriedBehind_25 rfl ?_
        obtain ⟨hg3, hF⟩ := mj_og hF
        refine mj_iaload C dX3_isTriedBehind_26 rfl hg3 ?_
        refine mj_iload_n C dX3_isTriedBehind_27 rfl ?_
        refine mj_ic_ne C dX3_isTriedBehind_28 rfl hF (fun hc4 hF => ?_) (fun hc4 hF => ?_)
        · refine mj_iinc (v := v3 + 1) C dX3_isTriedBehind_33 rfl rfl (by decide) ?_
          refine mj_goto C dX3_isTriedBehind_36 rfl ?_
          refine mj_to ?_ (ih v2 (v3 + 1) R hF)
          exact ⟨rfl, rfl, rfl, trivial⟩
        · refine mj_iconstV (v := 1) C dX3_isTriedBehind_31 mc_i_1 ?_
          have hF := mj_oi hF; subst hF
          exact mj_zret (v := 1) rfl C hr hlk dX3_isTriedBehind_32
set_option maxRecDepth 100000 in
set_option maxHeartbeats 4000000 in
theorem c_X3_isTriedBehind {G : mj_G} {l : Launch} (σ : mj_S) (p1 : Int32) (p2 : Int32) (R : Int32) (hF : f_X3_isTriedBehind σ p1 p2 = some R) : mj_C G l yX3_isTriedBehind cX3_isTriedBehind 4 (some .boolean) 1 [.ref (G.2.1 40), .int p1, .int p2] σ (some (.int R)) σ := by
  unfold f_X3_isTriedBehind at hF
  refine mj_of (ls := [(0, .ref (G.2.1 40)), (1, .int p1), (2, .int p2)]) (by decide) (Nat.le_of_ble_eq_true rfl) rfl (fun p e s m args below meth c C hr hlk => ?_)
  refine mj_iconstV (v := (-1)) C dX3_isTriedBehind_0 mc_i_m1 ?_
  refine mj_iload_n C dX3_isTriedBehind_1 rfl ?_
  refine mj_mmax C kl_X3_64 (mj_room13 (by decide) (Nat.le_of_ble_eq_true rfl)) ⟨Nat.zero_le _, Nat.zero_le _⟩ dX3_isTriedBehind_2 ?_
  refine mj_iconstV (v := 1) C dX3_isTriedBehind_5 mc_i_1 ?_
  refine mj_iadd C dX3_isTriedBehind_6 ?_
  refine mj_istore_n C dX3_isTriedBehind_7 (by decide) ?_
  refine mj_to ?_ (w_X3_isTriedBehind_8 C hr hlk mj_fu p2 ((mj_max (-1) p1) + 1) R hF)
  exact ⟨rfl, rfl, rfl, trivial⟩
set_option maxRecDepth 100000 in
set_option maxHeartbeats 4000000 in
theorem c_X3_sharedSum {G : mj_G} {l : Launch} (σ : mj_S) : mj_C G l yX3_sharedSum cX3_sharedSum 1 (some .int) 1 [.ref (G.2.1 40)] σ (some (.int (f_X3_sharedSum σ))) σ := by
  generalize hF : f_X3_sharedSum σ = R
  unfold f_X3_sharedSum at hF
  refine mj_of (ls := [(0, .ref (G.2.1 40))]) (by decide) (Nat.le_of_ble_eq_true rfl) rfl (fun p e s m args below meth c C hr hlk => ?_)
  refine mj_aload_n C dX3_sharedSum_0 rfl ?_
  refine mg_X3_34 C dX3_sharedSum_1 ?_
  subst hF
  exact mj_iret C hr hlk dX3_sharedSum_4
set_option maxRecDepth 100000 in
set_option maxHeartbeats 4000000 in
theorem c_X3_sharedChild {G : mj_G} {l : Launch} (σ : mj_S) (p1 : Int32) (R : Int32) (hF : f_X3_sharedChild σ p1 = some R) : mj_C G l yX3_sharedChild cX3_sharedChild 2 (some .int) 1 [.ref (G.2.1 40), .int p1] σ (some (.int R)) σ := by
  unfold f_X3_sharedChild at hF
  refine mj_of (ls := [(0, .ref (G.2.1 40)), (1, .int p1)]) (by decide) (Nat.le_of_ble_eq_true rfl) rfl (fun p e s m args below meth c C hr hlk => ?_)
  refine mj_iconstV (v := 0) C dX3_sharedChild_0 mc_i_0 ?_
  refine mj_iload_n C dX3_sharedChild_1 rfl ?_
  refine mj_ic_gt C dX3_sharedChild_2 rfl hF (fun hc1 hF => ?_) (fun hc1 hF => ?_)
  · refine mj_iconstV (v := (-1)) C dX3_sharedChild_27 mc_i_m1 ?_
    have hF := mj_oi hF; subst hF
    exact mj_iret C hr hlk dX3_sharedChild_28
  · refine mj_iload_n C dX3_sharedChild_5 rfl ?_
    refine mj_aload_n C dX3_sharedChild_6 rfl ?_
    refine mg_X3_25 C dX3_sharedChild_7 ?_
    refine mj_ic_ge C dX3_sharedChild_10 rfl hF (fun hc2 hF => ?_) (fun hc2 hF => ?_)
    · refine mj_iconstV (v := (-1)) C dX3_sharedChild_27 mc_i_m1 ?_
      have hF := mj_oi hF; subst hF
      exact mj_iret C hr hlk dX3_sharedChild_28
    · refine mj_iload_n C dX3_sharedChild_13 rfl ?_
      refine mj_iconstV (v := 4) C dX3_sharedChild_14 mc_i_4 ?_
      refine mj_ic_ge C dX3_sharedChild_15 rfl hF (fun hc3 hF => ?_) (fun hc3 hF => ?_)
      · refine mj_iconstV (v := (-1)) C dX3_sharedChild_27 mc_i_m1 ?_
        have hF := mj_oi hF; subst hF
        exact mj_iret C hr hlk dX3_sharedChild_28
      · refine mj_aload_n C dX3_sharedChild_18 rfl ?_
        refine mg_X3_31 C dX3_sharedChild_19 ?_
        refine mj_iload_n C dX3_sharedChild_22 rfl ?_
        obtain ⟨hg4, hF⟩ := mj_og hF
        refine mj_iaload C dX3_sharedChild_23 rfl hg4 ?_
        refine mj_goto C dX3_sharedChild_24 rfl ?_
        have hF := mj_oi hF; subst hF
        exact mj_iret C hr hlk dX3_sharedChild_28
