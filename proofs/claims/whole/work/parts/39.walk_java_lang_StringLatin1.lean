set_option maxRecDepth 100000 in
set_option maxHeartbeats 4000000 in
theorem c_J1_canEncode_9a6ad {G : mj_G} {l : Launch} (σ : mj_S) (p0 : Int32) : mj_C G l yJ1_canEncode_9a6ad cJ1_canEncode_9a6ad 1 (some .boolean) 1 [.int p0] σ (some (.int (f_J1_canEncode_9a6ad σ p0))) σ := by
  generalize hF : f_J1_canEncode_9a6ad σ p0 = R
  unfold f_J1_canEncode_9a6ad at hF
  refine mj_of (ls := [(0, .int p0)]) (by decide) (Nat.le_of_ble_eq_true rfl) rfl (fun p e s m args below meth c C hr hlk => ?_)
  refine mj_iload_n C dJ1_canEncode_9a6ad_0 rfl ?_
  refine mj_if_lt C dJ1_canEncode_9a6ad_1 rfl hF (fun hc1 hF => ?_) (fun hc1 hF => ?_)
  · refine mj_iconstV (v := 0) C dJ1_canEncode_9a6ad_15 mc_i_0 ?_
    subst hF
    exact mj_zret (v := 0) rfl C hr hlk dJ1_canEncode_9a6ad_16
  · refine mj_iload_n C dJ1_canEncode_9a6ad_4 rfl ?_
    refine mj_sipushV (v := 255) C dJ1_canEncode_9a6ad_5 mc_s_255 ?_
    refine mj_ic_gt C dJ1_canEncode_9a6ad_8 rfl hF (fun hc2 hF => ?_) (fun hc2 hF => ?_)
    · refine mj_iconstV (v := 0) C dJ1_canEncode_9a6ad_15 mc_i_0 ?_
      subst hF
      exact mj_zret (v := 0) rfl C hr hlk dJ1_canEncode_9a6ad_16
    · refine mj_iconstV (v := 1) C dJ1_canEncode_9a6ad_11 mc_i_1 ?_
      refine mj_goto C dJ1_canEncode_9a6ad_12 rfl ?_
      subst hF
      exact mj_zret (v := 1) rfl C hr hlk dJ1_canEncode_9a6ad_16
set_option maxRecDepth 100000 in
set_option maxHeartbeats 4000000 in
theorem w_J1_indexOfChar_4cfef_7 {p : Program} {l : Launch} {e : Env} {s : State} {m : MethodId} {args : Array Value} {below : List Frame} {meth : Method} {c : Code} {G : mj_G} {σ : mj_S} (C : mj_X p s m args meth c G cJ1_indexOfChar_4cfef 6 RJ1) (hr : meth.sig.returnType = some .int) (hlk : meth.locks = false) : ∀ (n : Nat) (v3 : Int32) (v4 : Int32) (v5 : Int32) (R : Int32), b_J1_indexOfChar_4cfef_7 σ n v3 v4 v5 = some R → mj_W p l e (mj_rm 1) s m args below meth c G 0 0 6 (MQ below (mj_Q G (some (.int R)) σ) args s 0 0 G.2.2.2) 7 [(0, .ref (G.2.1 1003)), (3, .int v3), (4, .int v4), (5, .int v5)] [] σ := by
  intro n
  induction n with
  | zero =>
    intro v3 v4 v5 R hF
    cases hF
  | succ n ih =>
    intro v3 v4 v5 R hF
    rw [b_J1_indexOfChar_4cfef_7] at hF
    refine mj_iload C dJ1_indexOfChar_4cfef_7 rfl ?_
    refine mj_iload_n C dJ1_indexOfChar_4cfef_9 rfl ?_
    refine mj_ic_ge C dJ1_indexOfChar_4cfef_10 rfl hF (fun hc1 hF => ?_) (fun hc1 hF => ?_)
    · refine mj_iconstV (v := (-1)) C dJ1_indexOfChar_4cfef_31 mc_i_m1 ?_
      have hF := mj_oi hF; subst hF
      exact mj_iret C hr hlk dJ1_indexOfChar_4cfef_32
    · refine mj_aload_n C dJ1_indexOfChar_4cfef_13 rfl ?_
      refine mj_iload C dJ1_indexOfChar_4cfef_14 rfl ?_
      obtain ⟨hg2, hF⟩ := mj_og hF
      refine mj_sb C hg2 dJ1_indexOfChar_4cfef_16 ?_
      refine mj_iload C dJ1_indexOfChar_4cfef_17 rfl ?_
      refine mj_ic_ne C dJ1_indexOfChar_4cfef_19 rfl hF (fun hc3 hF => ?_) (fun hc3 hF => ?_)
      · refine mj_iinc (v := v5 + 1) C dJ1_indexOfChar_4cfef_25 rfl rfl (by decide) ?_
        refine mj_goto C dJ1_indexOfChar_4cfef_28 rfl ?_
        refine mj_to ?_ (ih v3 v4 (v5 + 1) R hF)
        exact ⟨rfl, rfl, rfl, rfl, trivial⟩
      · refine mj_iload C dJ1_indexOfChar_4cfef_22 rfl ?_
        have hF := mj_oi hF; subst hF
        exact mj_iret C hr hlk dJ1_indexOfChar_4cfef_24
set_option maxRecDepth 100000 in
set_option maxHeartbeats 4000000 in
theorem c_J1_indexOfChar_4cfef {G : mj_G} {l : Launch} (σ : mj_S) (p1 : Int32) (p2 : Int32) (p3 : Int32) (R : Int32) (hF : f_J1_indexOfChar_4cfef σ p1 p2 p3 = some R) : mj_C G l yJ1_indexOfChar_4cfef cJ1_indexOfChar_4cfef 6 (some .int) 1 [.ref (G.2.1 1003), .int p1, .int p2, .int p3] σ (some (.int R)) σ := by
  unfold f_J1_indexOfChar_4cfef at hF
  refine mj_of (ls := [(0, .ref (G.2.1 1003)), (1, .int p1), (2, .int p2), (3, .int p3)]) (by decide) (Nat.le_of_ble_eq_true rfl) rfl (fun p e s m args below meth c C hr hlk => ?_)
  refine mj_iload_n C dJ1_indexOfChar_4cfef_0 rfl ?_
  refine mj_i2b C dJ1_indexOfChar_4cfef_1 ?_
  refine mj_istore C dJ1_indexOfChar_4cfef_2 (by decide) ?_
  refine mj_iload_n C dJ1_indexOfChar_4cfef_4 rfl ?_
  refine mj_istore C dJ1_indexOfChar_4cfef_5 (by decide) ?_
  refine mj_to ?_ (w_J1_indexOfChar_4cfef_7 C hr hlk mj_fu p3 p1.toInt8.toInt32 p2 R hF)
  exact ⟨rfl, rfl, rfl, rfl, trivial⟩
set_option maxRecDepth 100000 in
set_option maxHeartbeats 4000000 in
theorem c_J1_indexOf_4cfef {G : mj_G} {l : Launch} (σ : mj_S) (p1 : Int32) (p2 : Int32) (p3 : Int32) (R : Int32) (hF : f_J1_indexOf_4cfef σ p1 p2 p3 = some R) : mj_C G l yJ1_indexOf_4cfef cJ1_indexOf_4cfef 4 (some .int) 2 [.ref (G.2.1 1003), .int p1, .int p2, .int p3] σ (some (.int R)) σ := by
  unfold f_J1_indexOf_4cfef at hF
  refine mj_of (ls := [(0, .ref (G.2.1 1003)), (1, .int p1), (2, .int p2), (3, .int p3)]) (by decide) (Nat.le_of_ble_eq_true rfl) rfl (fun p e s m args below meth c C hr hlk => ?_)
  refine mj_iload_n C dJ1_indexOf_4cfef_0 rfl ?_
  refine mj_callSi C (c_J1_canEncode_9a6ad σ p1) ys_J1_canEncode_9a6ad kl_J1_88 rfl rfl (Nat.le_of_ble_eq_true rfl) (mj_roomC (by decide) (by decide)) ⟨Nat.zero_le _, Nat.zero_le _⟩ dJ1_indexOf_4cfef_1 ?_
  refine mj_if_ne C dJ1_indexOf_4cfef_4 rfl hF (fun hc1 hF => ?_) (fun hc1 hF => ?_)
  · refine mj_iload_n C dJ1_indexOf_4cfef_9 rfl ?_
    refine mj_iconstV (v := 0) C dJ1_indexOf_4cfef_10 mc_i_0 ?_
    refine mj_mmax C kl_J1_92 (mj_room13 (by decide) (Nat.le_of_ble_eq_true rfl)) ⟨Nat.zero_le _, Nat.zero_le _⟩ dJ1_indexOf_4cfef_11 ?_
    refine mj_istore_n C dJ1_indexOf_4cfef_14 (by decide) ?_
    refine mj_iload_n C dJ1_indexOf_4cfef_15 rfl ?_
    refine mj_aload_n C dJ1_indexOf_4cfef_16 rfl ?_
    refine mj_sbl C dJ1_indexOf_4cfef_17 ?_
    refine mj_mmin C kl_J1_38 (mj_room13 (by decide) (Nat.le_of_ble_eq_true rfl)) ⟨Nat.zero_le _, Nat.zero_le _⟩ dJ1_indexOf_4cfef_18 ?_
    refine mj_istore_n C dJ1_indexOf_4cfef_21 (by decide) ?_
    refine mj_iload_n C dJ1_indexOf_4cfef_22 rfl ?_
    refine mj_iload_n C dJ1_indexOf_4cfef_23 rfl ?_
    refine mj_ic_lt C dJ1_indexOf_4cfef_24 rfl hF (fun hc2 hF => ?_) (fun hc2 hF => ?_)
    · refine mj_aload_n C dJ1_indexOf_4cfef_29 rfl ?_
      refine mj_iload_n C dJ1_indexOf_4cfef_30 rfl ?_
      refine mj_iload_n C dJ1_indexOf_4cfef_31 rfl ?_
      refine mj_iload_n C dJ1_indexOf_4cfef_32 rfl ?_
      obtain ⟨r3, hq3, hF⟩ := mj_ob hF
      refine mj_callSi C (c_J1_indexOfChar_4cfef σ p1 (mj_max p2 0) (mj_min p3 7) r3 hq3) ys_J1_indexOfChar_4cfef kl_J1_95 rfl rfl (Nat.le_of_ble_eq_true rfl) (mj_roomC (by decide) (by decide)) ⟨Nat.zero_le _, Nat.zero_le _⟩ dJ1_indexOf_4cfef_33 ?_
      have hF := mj_oi hF; subst hF
      exact mj_iret C hr hlk dJ1_indexOf_4cfef_36
    · refine mj_iconstV (v := (-1)) C dJ1_indexOf_4cfef_27 mc_i_m1 ?_
      have hF := mj_oi hF; subst hF
      exact mj_iret C hr hlk dJ1_indexOf_4cfef_28
  · refine mj_iconstV (v := (-1)) C dJ1_indexOf_4cfef_7 mc_i_m1 ?_
    have hF := mj_oi hF; subst hF
    exact mj_iret C hr hlk dJ1_indexOf_4cfef_8
