set_option maxRecDepth 100000 in
set_option maxHeartbeats 4000000 in
theorem w_X9_law_37 {p : Program} {l : Launch} {e : Env} {s : State} {m : MethodId} {args : Array Value} {below : List Frame} {meth : Method} {c : Code} {G : mj_G} (C : mj_X p s m args meth c G cX9_law 2 RX9) (hr : meth.sig.returnType = some .int) (hlk : meth.locks = false) : ∀ (v1 : Int32) (σ : mj_S) (R : (Int32 × mj_S)), b_X9_law_37 v1 σ = some R → mj_W p l e (mj_rm 108) s m args below meth c G 0 0 2 (MQ below (mj_Q G (some (.int R.1)) R.2) args s 0 0 G.2.2.2) 37 [(0, .ref (G.2.1 0)), (1, .int v1)] [] σ := by
  intro v1 σ R hF
  unfold b_X9_law_37 at hF
  refine mj_aload_n C dX9_law_37 rfl ?_
  refine mg_X9_19 C dX9_law_38 ?_
  refine mj_callVv C (c_X7_emptyTape σ) yv_X7_emptyTape kl_X9_129 (mo_5 G _) rfl rfl rfl rfl (Nat.le_of_ble_eq_true rfl) (mj_roomC (by decide) (by decide)) ⟨Nat.zero_le _, Nat.zero_le _⟩ dX9_law_41 ?_
  replace hF := mj_letE hF
  generalize f_X7_emptyTape σ = r3 at hF ⊢
  refine mj_iload_n C dX9_law_44 rfl ?_
  refine mj_if_ge C dX9_law_45 rfl hF (fun hc4 hF => ?_) (fun hc4 hF => ?_)
  · refine mj_bipushV (v := (-100)) C dX9_law_52 mc_b_m100 ?_
    refine mj_iload_n C dX9_law_54 rfl ?_
    refine mj_isub C dX9_law_55 ?_
    have hF := mj_oi hF; subst hF
    exact mj_iret C hr hlk dX9_law_56
  · refine mj_iconstV (v := 1) C dX9_law_48 mc_i_1 ?_
    refine mj_goto C dX9_law_49 rfl ?_
    have hF := mj_oi hF; subst hF
    exact mj_iret C hr hlk dX9_law_56
set_option maxRecDepth 100000 in
set_option maxHeartbeats 4000000 in
theorem c_X9_law {G : mj_G} {l : Launch} (σ : mj_S) (R : (Int32 × mj_S)) (hF : f_X9_law σ = some R) : mj_C G l yX9_law cX9_law 2 (some .int) 108 [.ref (G.2.1 0)] σ (some (.int R.1)) R.2 := by
  unfold f_X9_law at hF
  refine mj_of (ls := [(0, .ref (G.2.1 0))]) (by decide) (Nat.le_of_ble_eq_true rfl) rfl (fun p e s m args below meth c C hr hlk => ?_)
  refine mj_aload_n C dX9_law_0 rfl ?_
  refine mg_X9_19 C dX9_law_1 ?_
  obtain ⟨r1, hq1, hF⟩ := mj_ob hF
  refine mj_callVi C (c_X7_read σ r1 hq1) yv_X7_read kl_X9_120 (mo_5 G _) rfl rfl rfl rfl (Nat.le_of_ble_eq_true rfl) (mj_roomC (by decide) (by decide)) ⟨Nat.zero_le _, Nat.zero_le _⟩ dX9_law_4 ?_
  refine mj_istore_n C dX9_law_7 (by decide) ?_
  refine mj_iload_n C dX9_law_8 rfl ?_
  refine mj_if_ge C dX9_law_9 rfl hF (fun hc2 hF => ?_) (fun hc2 hF => ?_)
  · refine mj_to ?_ (w_X9_law_37 C hr hlk r1.1 r1.2 R hF)
    exact ⟨rfl, rfl, trivial⟩
  · refine mj_aload_n C dX9_law_12 rfl ?_
    refine mg_X9_19 C dX9_law_13 ?_
    refine mj_aload_n C dX9_law_16 rfl ?_
    refine mg_X9_10 C dX9_law_17 ?_
    obtain ⟨r5, hq5, hF⟩ := mj_ob hF
    refine mj_callVv C (c_X7_giveTo r1.2 r5 hq5) yv_X7_giveTo kl_X9_123 (mo_5 G _) rfl rfl rfl rfl (Nat.le_of_ble_eq_true rfl) (mj_roomC (by decide) (by decide)) ⟨Nat.zero_le _, Nat.zero_le _⟩ dX9_law_20 ?_
    refine mj_aload_n C dX9_law_23 rfl ?_
    refine mg_X9_28 C dX9_law_24 ?_
    obtain ⟨r6, hq6, hF⟩ := mj_ob hF
    refine mj_callVv C (c_X2_forgetHeights r5 r6 hq6) yv_X2_forgetHeights kl_X9_126 (mo_9 G _) rfl rfl rfl rfl (Nat.le_of_ble_eq_true rfl) (mj_roomC (by decide) (by decide)) ⟨Nat.zero_le _, Nat.zero_le _⟩ dX9_law_27 ?_
    refine mj_aload_n C dX9_law_30 rfl ?_
    refine mg_X9_28 C dX9_law_31 ?_
    obtain ⟨r7, hq7, hF⟩ := mj_ob hF
    refine mj_callVv C (c_X2_refresh r6 r7 hq7) yv_X2_refresh kl_X9_100 (mo_9 G _) rfl rfl rfl rfl (Nat.le_of_ble_eq_true rfl) (mj_roomC (by decide) (by decide)) ⟨Nat.zero_le _, Nat.zero_le _⟩ dX9_law_34 ?_
    refine mj_to ?_ (w_X9_law_37 C hr hlk r1.1 r7 R hF)
    exact ⟨rfl, rfl, trivial⟩
