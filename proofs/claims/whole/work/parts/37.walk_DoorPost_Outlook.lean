set_option maxRecDepth 100000 in
set_option maxHeartbeats 4000000 in
theorem c_X6_twiceAtTwo {G : mj_G} {l : Launch} (σ : mj_S) (p1 : Int32) (R : Int32) (hF : f_X6_twiceAtTwo σ p1 = some R) : mj_C G l yX6_twiceAtTwo cX6_twiceAtTwo 3 (some .int) 3 [.ref (G.2.1 44), .int p1] σ (some (.int R)) σ := by
  unfold f_X6_twiceAtTwo at hF
  refine mj_of (ls := [(0, .ref (G.2.1 44)), (1, .int p1)]) (by decide) (Nat.le_of_ble_eq_true rfl) rfl (fun p e s m args below meth c C hr hlk => ?_)
  refine mj_aload_n C dX6_twiceAtTwo_0 rfl ?_
  refine mg_X6_9 C dX6_twiceAtTwo_1 ?_
  refine mj_iload_n C dX6_twiceAtTwo_4 rfl ?_
  obtain ⟨r1, hq1, hF⟩ := mj_ob hF
  refine mj_callVi C (c_X2_bornIn σ p1 r1 hq1) yv_X2_bornIn kl_X6_15 (mo_9 G _) rfl rfl rfl rfl (Nat.le_of_ble_eq_true rfl) (mj_roomC (by decide) (by decide)) ⟨Nat.zero_le _, Nat.zero_le _⟩ dX6_twiceAtTwo_5 ?_
  refine mj_bipushV (v := 24) C dX6_twiceAtTwo_8 mc_b_24 ?_
  refine mj_iadd C dX6_twiceAtTwo_10 ?_
  refine mj_istore_n C dX6_twiceAtTwo_11 (by decide) ?_
  refine mj_iload_n C dX6_twiceAtTwo_12 rfl ?_
  refine mj_callNi C (c_X9_isMonth σ (r1 + 24)) ys_X9_isMonth kn_X6_33 rfl rfl (Nat.le_of_ble_eq_true rfl) (mj_roomC (by decide) (by decide)) ⟨Nat.zero_le _, Nat.zero_le _⟩ dX6_twiceAtTwo_13 ?_
  refine mj_if_eq C dX6_twiceAtTwo_16 rfl hF (fun hc2 hF => ?_) (fun hc2 hF => ?_)
  · refine mj_bipushV (v := (-2)) C dX6_twiceAtTwo_33 mc_b_m2 ?_
    have hF := mj_oi hF; subst hF
    exact mj_iret C hr hlk dX6_twiceAtTwo_35
  · refine mj_iconstV (v := 2) C dX6_twiceAtTwo_19 mc_i_2 ?_
    refine mj_aload_n C dX6_twiceAtTwo_20 rfl ?_
    refine mg_X6_9 C dX6_twiceAtTwo_21 ?_
    refine mj_iload_n C dX6_twiceAtTwo_24 rfl ?_
    refine mj_iload_n C dX6_twiceAtTwo_25 rfl ?_
    obtain ⟨r3, hq3, hF⟩ := mj_ob hF
    refine mj_callVi C (c_X2_heightAt σ p1 (r1 + 24) r3 hq3) yv_X2_heightAt kl_X6_30 (mo_9 G _) rfl rfl rfl rfl (Nat.le_of_ble_eq_true rfl) (mj_roomC (by decide) (by decide)) ⟨Nat.zero_le _, Nat.zero_le _⟩ dX6_twiceAtTwo_26 ?_
    refine mj_imul C dX6_twiceAtTwo_29 ?_
    refine mj_goto C dX6_twiceAtTwo_30 rfl ?_
    have hF := mj_oi hF; subst hF
    exact mj_iret C hr hlk dX6_twiceAtTwo_35
set_option maxRecDepth 100000 in
set_option maxHeartbeats 4000000 in
theorem c_X6_isWholeYear {G : mj_G} {l : Launch} (σ : mj_S) (p1 : Int32) (p2 : Int32) (R : Int32) (hF : f_X6_isWholeYear σ p1 p2 = some R) : mj_C G l yX6_isWholeYear cX6_isWholeYear 3 (some .boolean) 3 [.ref (G.2.1 44), .int p1, .int p2] σ (some (.int R)) σ := by
  unfold f_X6_isWholeYear at hF
  refine mj_of (ls := [(0, .ref (G.2.1 44)), (1, .int p1), (2, .int p2)]) (by decide) (Nat.le_of_ble_eq_true rfl) rfl (fun p e s m args below meth c C hr hlk => ?_)
  refine mj_aload_n C dX6_isWholeYear_0 rfl ?_
  refine mg_X6_9 C dX6_isWholeYear_1 ?_
  refine mj_iload_n C dX6_isWholeYear_4 rfl ?_
  obtain ⟨r1, hq1, hF⟩ := mj_ob hF
  refine mj_callVi C (c_X2_bornIn σ p1 r1 hq1) yv_X2_bornIn kl_X6_15 (mo_9 G _) rfl rfl rfl rfl (Nat.le_of_ble_eq_true rfl) (mj_roomC (by decide) (by decide)) ⟨Nat.zero_le _, Nat.zero_le _⟩ dX6_isWholeYear_5 ?_
  refine mj_bipushV (v := 12) C dX6_isWholeYear_8 mc_b_12 ?_
  refine mj_iload_n C dX6_isWholeYear_10 rfl ?_
  refine mj_iconstV (v := 1) C dX6_isWholeYear_11 mc_i_1 ?_
  refine mj_iadd C dX6_isWholeYear_12 ?_
  refine mj_imul C dX6_isWholeYear_13 ?_
  refine mj_iadd C dX6_isWholeYear_14 ?_
  refine mj_callNi C (c_X9_isMonth σ (r1 + (12 * (p2 + 1)))) ys_X9_isMonth kn_X6_33 rfl rfl (Nat.le_of_ble_eq_true rfl) (mj_roomC (by decide) (by decide)) ⟨Nat.zero_le _, Nat.zero_le _⟩ dX6_isWholeYear_15 ?_
  have hF := mj_oi hF; subst hF
  exact mj_zbret C hr hlk dX6_isWholeYear_18
set_option maxRecDepth 100000 in
set_option maxHeartbeats 4000000 in
theorem w_X6_yearOf_6 {p : Program} {l : Launch} {e : Env} {s : State} {m : MethodId} {args : Array Value} {below : List Frame} {meth : Method} {c : Code} {G : mj_G} {σ : mj_S} (C : mj_X p s m args meth c G cX6_yearOf 5 RX6) (hr : meth.sig.returnType = some .int) (hlk : meth.locks = false) : ∀ (n : Nat) (v1 : Int32) (v2 : Int32) (v3 : Int32) (v4 : Int32) (R : Int32), b_X6_yearOf_6 σ n v1 v2 v3 v4 = some R → mj_W p l e (mj_rm 4) s m args below meth c G 0 0 5 (MQ below (mj_Q G (some (.int R)) σ) args s 0 0 G.2.2.2) 6 [(0, .ref (G.2.1 44)), (1, .int v1), (2, .int v2), (3, .int v3), (4, .int v4)] [] σ := by
  intro n
  induction n with
  | zero =>
    intro v1 v2 v3 v4 R hF
    cases hF
  | succ n ih =>
    intro v1 v2 v3 v4 R hF
    rw [b_X6_yearOf_6] at hF
    refine mj_iload C dX6_yearOf_6 rfl ?_
    refine mj_bipushV (v := 20) C dX6_yearOf_8 mc_b_20 ?_
    refine mj_ic_ge C dX6_yearOf_10 rfl hF (fun hc1 hF => ?_) (fun hc1 hF => ?_)
    · refine mj_iload_n C dX6_yearOf_58 rfl ?_
      have hF := mj_oi hF; subst hF
      exact mj_iret C hr hlk dX6_yearOf_59
    · refine mj_aload_n C dX6_yearOf_13 rfl ?_
      refine mj_iload_n C dX6_yearOf_14 rfl ?_
      refine mj_iload C dX6_yearOf_15 rfl ?_
      obtain ⟨r2, hq2, hF⟩ := mj_ob hF
      refine mj_callVi C (c_X6_isWholeYear σ v1 v4 r2 hq2) yv_X6_isWholeYear kl_X6_40 (mo_44 G _) rfl rfl rfl rfl (Nat.le_of_ble_eq_true rfl) (mj_roomC (by decide) (by decide)) ⟨Nat.zero_le _, Nat.zero_le _⟩ dX6_yearOf_17 ?_
      refine mj_if_eq C dX6_yearOf_20 rfl hF (fun hc3 hF => ?_) (fun hc3 hF => ?_)
      · refine mj_iload_n C dX6_yearOf_58 rfl ?_
        have hF := mj_oi hF; subst hF
        exact mj_iret C hr hlk dX6_yearOf_59
      · refine mj_iload_n C dX6_yearOf_23 rfl ?_
        refine mj_bipushV (v := (-2)) C dX6_yearOf_24 mc_b_m2 ?_
        refine mj_ic_eq C dX6_yearOf_26 rfl hF (fun hc4 hF => ?_) (fun hc4 hF => ?_)
        · refine mj_iload C dX6_yearOf_49 rfl ?_
          refine mj_istore_n C dX6_yearOf_51 (by decide) ?_
          refine mj_iinc (v := v4 + 1) C dX6_yearOf_52 rfl rfl (by decide) ?_
          refine mj_goto C dX6_yearOf_55 rfl ?_
          refine mj_to ?_ (ih v1 v2 v4 (v4 + 1) R hF)
          exact ⟨rfl, rfl, rfl, rfl, rfl, trivial⟩
        · refine mj_aload_n C dX6_yearOf_29 rfl ?_
          refine mj_iload_n C dX6_yearOf_30 rfl ?_
          refine mj_iload C dX6_yearOf_31 rfl ?_
          obtain ⟨r5, hq5, hF⟩ := mj_ob hF
          refine mj_callVi C (c_X6_growthInYear σ v1 v4 r5 hq5) yv_X6_growthInYear kl_X6_44 (mo_44 G _) rfl rfl rfl rfl (Nat.le_of_ble_eq_true rfl) (mj_roomC (by decide) (by decide)) ⟨Nat.zero_le _, Nat.zero_le _⟩ dX6_yearOf_33 ?_
          refine mj_aload_n C dX6_yearOf_36 rfl ?_
          refine mj_iload_n C dX6_yearOf_37 rfl ?_
          refine mj_iload_n C dX6_yearOf_38 rfl ?_
          obtain ⟨r6, hq6, hF⟩ := mj_ob hF
          refine mj_callVi C (c_X6_growthInYear σ v1 v3 r6 hq6) yv_X6_growthInYear kl_X6_44 (mo_44 G _) rfl rfl rfl rfl (Nat.le_of_ble_eq_true rfl) (mj_roomC (by decide) (by decide)) ⟨Nat.zero_le _, Nat.zero_le _⟩ dX6_yearOf_39 ?_
          refine mj_iload_n C dX6_yearOf_42 rfl ?_
          refine mj_callSi C (c_X6_isBetter σ r5 r6 v2) ys_X6_isBetter kl_X6_47 rfl rfl (Nat.le_of_ble_eq_true rfl) (mj_roomC (by decide) (by decide)) ⟨Nat.zero_le _, Nat.zero_le _⟩ dX6_yearOf_43 ?_
          refine mj_if_eq C dX6_yearOf_46 rfl hF (fun hc7 hF => ?_) (fun hc7 hF => ?_)
          · refine mj_iinc (v := v4 + 1) C dX6_yearOf_52 rfl rfl (by decide) ?_
            refine mj_goto C dX6_yearOf_55 rfl ?_
            refine mj_to ?_ (ih v1 v2 v3 (v4 + 1) R hF)
            exact ⟨rfl, rfl, rfl, rfl, rfl, trivial⟩
          · refine mj_iload C dX6_yearOf_49 rfl ?_
            refine mj_istore_n C dX6_yearOf_51 (by decide) ?_
            refine mj_iinc (v := v4 + 1) C dX6_yearOf_52 rfl rfl (by decide) ?_
            refine mj_goto C dX6_yearOf_55 rfl ?_
            refine mj_to ?_ (ih v1 v2 v4 (v4 + 1) R hF)
            exact ⟨rfl, rfl, rfl, rfl, rfl, trivial⟩
set_option maxRecDepth 100000 in
set_option maxHeartbeats 4000000 in
theorem c_X6_yearOf {G : mj_G} {l : Launch} (σ : mj_S) (p1 : Int32) (p2 : Int32) (R : Int32) (hF : f_X6_yearOf σ p1 p2 = some R) : mj_C G l yX6_yearOf cX6_yearOf 5 (some .int) 4 [.ref (G.2.1 44), .int p1, .int p2] σ (some (.int R)) σ := by
  unfold f_X6_yearOf at hF
  refine mj_of (ls := [(0, .ref (G.2.1 44)), (1, .int p1), (2, .int p2)]) (by decide) (Nat.le_of_ble_eq_true rfl) rfl (fun p e s m args below meth c C hr hlk => ?_)
  refine mj_bipushV (v := (-2)) C dX6_yearOf_0 mc_b_m2 ?_
  refine mj_istore_n C dX6_yearOf_2 (by decide) ?_
  refine mj_iconstV (v := 0) C dX6_yearOf_3 mc_i_0 ?_
  refine mj_istore C dX6_yearOf_4 (by decide) ?_
  refine mj_to ?_ (w_X6_yearOf_6 C hr hlk mj_fu p1 p2 (-2) 0 R hF)
  exact ⟨rfl, rfl, rfl, rfl, rfl, trivial⟩
