set_option maxRecDepth 100000 in
set_option maxHeartbeats 4000000 in
theorem w_X7_readJoined_23 {p : Program} {l : Launch} {e : Env} {s : State} {m : MethodId} {args : Array Value} {below : List Frame} {meth : Method} {c : Code} {G : mj_G} {k : Nat} {rec : Nat → Int32 → Int32 → mj_S → Option (Int32 × mj_S)} (C : mj_X p s m args meth c G cX7_readJoined 7 RX7) (hr : meth.sig.returnType = some .boolean) (hlk : meth.locks = false) (hr0 : ∀ (x0 x1 : Int32) (σ : mj_S) (R : (Int32 × mj_S)), rec 0 x0 x1 σ = some R → mj_C G l yX7_readJoined cX7_readJoined 7 (some .boolean) (5 + k) [.ref (G.2.1 5), .int x0, .int x1] σ (some (.int R.1)) R.2) (hr1 : ∀ (x0 x1 : Int32) (σ : mj_S) (R : (Int32 × mj_S)), rec 1 x0 x1 σ = some R → mj_C G l yX7_readTighter cX7_readTighter 3 (some .boolean) (5 + k) [.ref (G.2.1 5), .int x0, .int x1] σ (some (.int R.1)) R.2) (hr2 : ∀ (x0 x1 : Int32) (σ : mj_S) (R : (Int32 × mj_S)), rec 2 x0 x1 σ = some R → mj_C G l yX7_readOperand cX7_readOperand 4 (some .boolean) (5 + k) [.ref (G.2.1 5), .int x0] σ (some (.int R.1)) R.2) (hr3 : ∀ (x0 x1 : Int32) (σ : mj_S) (R : (Int32 × mj_S)), rec 3 x0 x1 σ = some R → mj_C G l yX7_readOpened cX7_readOpened 4 (some .boolean) (5 + k) [.ref (G.2.1 5), .int x0, .int x1] σ (some (.int R.1)) R.2) : ∀ (n : Nat) (v1 : Int32) (v2 : Int32) (v3 : Int32) (v4 : Int32) (v5 : Int32) (σ : mj_S) (R : (Int32 × mj_S)), b_X7_readJoined_23 rec n v1 v2 v3 v4 v5 σ = some R → mj_W p l e (mj_rm (5 + (k + 1))) s m args below meth c G 0 0 7 (MQ below (mj_Q G (some (.int R.1)) R.2) args s 0 0 G.2.2.2) 23 [(0, .ref (G.2.1 5)), (1, .int v1), (2, .int v2), (3, .int v3), (4, .int v4), (5, .int v5)] [] σ := by
  intro n
  induction n with
  | zero =>
    intro v1 v2 v3 v4 v5 σ R hF
    cases hF
  | succ n ih =>
    intro v1 v2 v3 v4 v5 σ R hF
    rw [b_X7_readJoined_23] at hF
    refine mj_iload C dX7_readJoined_23 rfl ?_
    refine mj_iload C dX7_readJoined_25 rfl ?_
    refine mj_ic_ge C dX7_readJoined_27 rfl hF (fun hc3 hF => ?_) (fun hc3 hF => ?_)
    · refine mj_iload_n C dX7_readJoined_81 rfl ?_
      have hF := mj_oi hF; subst hF
      exact mj_zbret C hr hlk dX7_readJoined_82
    · refine mj_iload_n C dX7_readJoined_30 rfl ?_
      refine mj_if_eq C dX7_readJoined_31 rfl hF (fun hc4 hF => ?_) (fun hc4 hF => ?_)
      · refine mj_iload_n C dX7_readJoined_81 rfl ?_
        have hF := mj_oi hF; subst hF
        exact mj_zbret C hr hlk dX7_readJoined_82
      · refine mj_iload_n C dX7_readJoined_34 rfl ?_
        refine mj_aload_n C dX7_readJoined_35 rfl ?_
        obtain ⟨r5, hq5, hF⟩ := mj_ob hF
        refine mj_callVi C (c_X7_seen σ r5 hq5) yv_X7_seen kl_X7_54 (mo_5 G _) rfl rfl rfl rfl (Nat.le_of_ble_eq_true rfl) (mj_roomR (by decide) (by decide)) ⟨Nat.zero_le _, Nat.zero_le _⟩ dX7_readJoined_36 ?_
        refine mj_callSi C (c_X7_isOperator σ v1 r5) ys_X7_isOperator kl_X7_58 rfl rfl (Nat.le_of_ble_eq_true rfl) (mj_roomR (by decide) (by decide)) ⟨Nat.zero_le _, Nat.zero_le _⟩ dX7_readJoined_39 ?_
        refine mj_if_eq C dX7_readJoined_42 rfl hF (fun hc6 hF => ?_) (fun hc6 hF => ?_)
        · refine mj_iload_n C dX7_readJoined_81 rfl ?_
          have hF := mj_oi hF; subst hF
          exact mj_zbret C hr hlk dX7_readJoined_82
        · refine mj_aload_n C dX7_readJoined_45 rfl ?_
          obtain ⟨r7, hq7, hF⟩ := mj_ob hF
          refine mj_callVi C (c_X7_seen σ r7 hq7) yv_X7_seen kl_X7_54 (mo_5 G _) rfl rfl rfl rfl (Nat.le_of_ble_eq_true rfl) (mj_roomR (by decide) (by decide)) ⟨Nat.zero_le _, Nat.zero_le _⟩ dX7_readJoined_46 ?_
          refine mj_istore C dX7_readJoined_49 (by decide) ?_
          refine mj_aload_n C dX7_readJoined_51 rfl ?_
          refine mj_dup C dX7_readJoined_52 rfl ?_
          refine mg_X7_25 C dX7_readJoined_53 ?_
          refine mj_iconstV (v := 1) C dX7_readJoined_56 mc_i_1 ?_
          refine mj_iadd C dX7_readJoined_57 ?_
          refine mp_X7_25 C dX7_readJoined_58 ?_
          refine mj_aload_n C dX7_readJoined_61 rfl ?_
          refine mj_iload_n C dX7_readJoined_62 rfl ?_
          refine mj_iload_n C dX7_readJoined_63 rfl ?_
          obtain ⟨r8, hq8, hF⟩ := mj_ob hF
          refine mj_callVi C (hr1 v1 v2 (mj_sI σ 5 4 ((σ.1 5 4) + 1)) r8 hq8) yv_X7_readTighter kl_X7_51 (mo_5 G _) rfl rfl rfl rfl (Nat.le_of_ble_eq_true rfl) (mj_roomK (by decide)) ⟨Nat.zero_le _, Nat.zero_le _⟩ dX7_readJoined_64 ?_
          refine mj_istore_n C dX7_readJoined_67 (by decide) ?_
          refine mj_aload_n C dX7_readJoined_68 rfl ?_
          refine mj_iload C dX7_readJoined_69 rfl ?_
          refine mj_iconstV (v := 0) C dX7_readJoined_71 mc_i_0 ?_
          obtain ⟨r9, hq9, hF⟩ := mj_ob hF
          refine mj_callVv C (c_X7_write r8.2 r7 0 r9 hq9) yv_X7_write kl_X7_47 (mo_5 G _) rfl rfl rfl rfl (Nat.le_of_ble_eq_true rfl) (mj_roomR (by decide) (by decide)) ⟨Nat.zero_le _, Nat.zero_le _⟩ dX7_readJoined_72 ?_
          refine mj_iinc (v := v5 + 1) C dX7_readJoined_75 rfl rfl (by decide) ?_
          refine mj_goto C dX7_readJoined_78 rfl ?_
          refine mj_to ?_ (ih v1 v2 r8.1 v4 (v5 + 1) r9 R hF)
          exact ⟨rfl, rfl, rfl, rfl, rfl, rfl, trivial⟩
set_option maxRecDepth 100000 in
set_option maxHeartbeats 4000000 in
theorem cF_X7_readJoined {G : mj_G} {l : Launch} {k : Nat} {rec : Nat → Int32 → Int32 → mj_S → Option (Int32 × mj_S)} (hr0 : ∀ (x0 x1 : Int32) (σ : mj_S) (R : (Int32 × mj_S)), rec 0 x0 x1 σ = some R → mj_C G l yX7_readJoined cX7_readJoined 7 (some .boolean) (5 + k) [.ref (G.2.1 5), .int x0, .int x1] σ (some (.int R.1)) R.2) (hr1 : ∀ (x0 x1 : Int32) (σ : mj_S) (R : (Int32 × mj_S)), rec 1 x0 x1 σ = some R → mj_C G l yX7_readTighter cX7_readTighter 3 (some .boolean) (5 + k) [.ref (G.2.1 5), .int x0, .int x1] σ (some (.int R.1)) R.2) (hr2 : ∀ (x0 x1 : Int32) (σ : mj_S) (R : (Int32 × mj_S)), rec 2 x0 x1 σ = some R → mj_C G l yX7_readOperand cX7_readOperand 4 (some .boolean) (5 + k) [.ref (G.2.1 5), .int x0] σ (some (.int R.1)) R.2) (hr3 : ∀ (x0 x1 : Int32) (σ : mj_S) (R : (Int32 × mj_S)), rec 3 x0 x1 σ = some R → mj_C G l yX7_readOpened cX7_readOpened 4 (some .boolean) (5 + k) [.ref (G.2.1 5), .int x0, .int x1] σ (some (.int R.1)) R.2) (σ : mj_S) (p1 : Int32) (p2 : Int32) (R : (Int32 × mj_S)) (hF : F_X7_readJoined rec σ p1 p2 = some R) : mj_C G l yX7_readJoined cX7_readJoined 7 (some .boolean) (5 + (k + 1)) [.ref (G.2.1 5), .int p1, .int p2] σ (some (.int R.1)) R.2 := by
  unfold F_X7_readJoined at hF
  refine mj_of (ls := [(0, .ref (G.2.1 5)), (1, .int p1), (2, .int p2)]) (by decide) (Nat.le_of_ble_eq_true rfl) rfl (fun p e s m args below meth c C hr hlk => ?_)
  refine mj_aload_n C dX7_readJoined_0 rfl ?_
  refine mj_iload_n C dX7_readJoined_1 rfl ?_
  refine mj_iload_n C dX7_readJoined_2 rfl ?_
  obtain ⟨r1, hq1, hF⟩ := mj_ob hF
  refine mj_callVi C (hr1 p1 p2 σ r1 hq1) yv_X7_readTighter kl_X7_51 (mo_5 G _) rfl rfl rfl rfl (Nat.le_of_ble_eq_true rfl) (mj_roomK (by decide)) ⟨Nat.zero_le _, Nat.zero_le _⟩ dX7_readJoined_3 ?_
  refine mj_istore_n C dX7_readJoined_6 (by decide) ?_
  refine mj_iload_n C dX7_readJoined_7 rfl ?_
  refine mj_iconstV (v := 2) C dX7_readJoined_8 mc_i_2 ?_
  refine mj_ic_ne C dX7_readJoined_9 rfl hF (fun hc2 hF => ?_) (fun hc2 hF => ?_)
  · refine mj_bipushV (v := 120) C dX7_readJoined_16 mc_b_120 ?_
    refine mj_istore C dX7_readJoined_18 (by decide) ?_
    refine mj_iconstV (v := 0) C dX7_readJoined_20 mc_i_0 ?_
    refine mj_istore C dX7_readJoined_21 (by decide) ?_
    refine mj_to ?_ (w_X7_readJoined_23 C hr hlk hr0 hr1 hr2 hr3 mj_fu p1 p2 r1.1 120 0 r1.2 R hF)
    exact ⟨rfl, rfl, rfl, rfl, rfl, rfl, trivial⟩
  · refine mj_iconstV (v := 1) C dX7_readJoined_12 mc_i_1 ?_
    refine mj_goto C dX7_readJoined_13 rfl ?_
    refine mj_istore C dX7_readJoined_18 (by decide) ?_
    refine mj_iconstV (v := 0) C dX7_readJoined_20 mc_i_0 ?_
    refine mj_istore C dX7_readJoined_21 (by decide) ?_
    refine mj_to ?_ (w_X7_readJoined_23 C hr hlk hr0 hr1 hr2 hr3 mj_fu p1 p2 r1.1 1 0 r1.2 R hF)
    exact ⟨rfl, rfl, rfl, rfl, rfl, rfl, trivial⟩
set_option maxRecDepth 100000 in
set_option maxHeartbeats 4000000 in
theorem cF_X7_readTighter {G : mj_G} {l : Launch} {k : Nat} {rec : Nat → Int32 → Int32 → mj_S → Option (Int32 × mj_S)} (hr0 : ∀ (x0 x1 : Int32) (σ : mj_S) (R : (Int32 × mj_S)), rec 0 x0 x1 σ = some R → mj_C G l yX7_readJoined cX7_readJoined 7 (some .boolean) (5 + k) [.ref (G.2.1 5), .int x0, .int x1] σ (some (.int R.1)) R.2) (hr1 : ∀ (x0 x1 : Int32) (σ : mj_S) (R : (Int32 × mj_S)), rec 1 x0 x1 σ = some R → mj_C G l yX7_readTighter cX7_readTighter 3 (some .boolean) (5 + k) [.ref (G.2.1 5), .int x0, .int x1] σ (some (.int R.1)) R.2) (hr2 : ∀ (x0 x1 : Int32) (σ : mj_S) (R : (Int32 × mj_S)), rec 2 x0 x1 σ = some R → mj_C G l yX7_readOperand cX7_readOperand 4 (some .boolean) (5 + k) [.ref (G.2.1 5), .int x0] σ (some (.int R.1)) R.2) (hr3 : ∀ (x0 x1 : Int32) (σ : mj_S) (R : (Int32 × mj_S)), rec 3 x0 x1 σ = some R → mj_C G l yX7_readOpened cX7_readOpened 4 (some .boolean) (5 + k) [.ref (G.2.1 5), .int x0, .int x1] σ (some (.int R.1)) R.2) (σ : mj_S) (p1 : Int32) (p2 : Int32) (R : (Int32 × mj_S)) (hF : F_X7_readTighter rec σ p1 p2 = some R) : mj_C G l yX7_readTighter cX7_readTighter 3 (some .boolean) (5 + (k + 1)) [.ref (G.2.1 5), .int p1, .int p2] σ (some (.int R.1)) R.2 := by
  unfold F_X7_readTighter at hF
  refine mj_of (ls := [(0, .ref (G.2.1 5)), (1, .int p1), (2, .int p2)]) (by decide) (Nat.le_of_ble_eq_true rfl) rfl (fun p e s m args below meth c C hr hlk => ?_)
  refine mj_iload_n C dX7_readTighter_0 rfl ?_
  refine mj_iconstV (v := 4) C dX7_readTighter_1 mc_i_4 ?_
  refine mj_ic_ge C dX7_readTighter_2 rfl hF (fun hc1 hF => ?_) (fun hc1 hF => ?_)
  · refine mj_aload_n C dX7_readTighter_16 rfl ?_
    refine mj_iload_n C dX7_readTighter_17 rfl ?_
    obtain ⟨r2, hq2, hF⟩ := mj_ob hF
    refine mj_callVi C (hr2 p2 0 σ r2 hq2) yv_X7_readOperand kl_X7_61 (mo_5 G _) rfl rfl rfl rfl (Nat.le_of_ble_eq_true rfl) (mj_roomK (by decide)) ⟨Nat.zero_le _, Nat.zero_le _⟩ dX7_readTighter_18 ?_
    have hF := mj_oi hF; subst hF
    exact mj_zbret C hr hlk dX7_readTighter_21
  · refine mj_aload_n C dX7_readTighter_5 rfl ?_
    refine mj_iload_n C dX7_readTighter_6 rfl ?_
    refine mj_iconstV (v := 1) C dX7_readTighter_7 mc_i_1 ?_
    refine mj_iadd C dX7_readTighter_8 ?_
    refine mj_iload_n C dX7_readTighter_9 rfl ?_
    obtain ⟨r3, hq3, hF⟩ := mj_ob hF
    refine mj_callVi C (hr0 (p1 + 1) p2 σ r3 hq3) yv_X7_readJoined kl_X7_43 (mo_5 G _) rfl rfl rfl rfl (Nat.le_of_ble_eq_true rfl) (mj_roomK (by decide)) ⟨Nat.zero_le _, Nat.zero_le _⟩ dX7_readTighter_10 ?_
    refine mj_goto C dX7_readTighter_13 rfl ?_
    have hF := mj_oi hF; subst hF
    exact mj_zbret C hr hlk dX7_readTighter_21
set_option maxRecDepth 100000 in
set_option maxHeartbeats 4000000 in
theorem w_X7_readOperand_23 {p : Program} {l : Launch} {e : Env} {s : State} {m : MethodId} {args : Array Value} {below : List Frame} {meth : Method} {c : Code} {G : mj_G} {k : Nat} {rec : Nat → Int32 → Int32 → mj_S → Option (Int32 × mj_S)} (C : mj_X p s m args meth c G cX7_readOperand 4 RX7) (hr : meth.sig.returnType = some .boolean) (hlk : meth.locks = false) (hr0 : ∀ (x0 x1 : Int32) (σ : mj_S) (R : (Int32 × mj_S)), rec 0 x0 x1 σ = some R → mj_C G l yX7_readJoined cX7_readJoined 7 (some .boolean) (5 + k) [.ref (G.2.1 5), .int x0, .int x1] σ (some (.int R.1)) R.2) (hr1 : ∀ (x0 x1 : Int32) (σ : mj_S) (R : (Int32 × mj_S)), rec 1 x0 x1 σ = some R → mj_C G l yX7_readTighter cX7_readTighter 3 (some .boolean) (5 + k) [.ref (G.2.1 5), .int x0, .int x1] σ (some (.int R.1)) R.2) (hr2 : ∀ (x0 x1 : Int32) (σ : mj_S) (R : (Int32 × mj_S)), rec 2 x0 x1 σ = some R → mj_C G l yX7_readOperand cX7_readOperand 4 (some .boolean) (5 + k) [.ref (G.2.1 5), .int x0] σ (some (.int R.1)) R.2) (hr3 : ∀ (x0 x1 : Int32) (σ : mj_S) (R : (Int32 × mj_S)), rec 3 x0 x1 σ = some R → mj_C G l yX7_readOpened cX7_readOpened 4 (some .boolean) (5 + k) [.ref (G.2.1 5), .int x0, .int x1] σ (some (.int R.1)) R.2) : ∀ (v1 : Int32) (v2 : Int32) (σ : mj_S) (R : (Int32 × mj_S)), b_X7_readOperand_23 rec v1 v2 σ = some R → mj_W p l e (mj_rm (5 + (k + 1))) s m args below meth c G 0 0 4 (MQ below (mj_Q G (some (.int R.1)) R.2) args s 0 0 G.2.2.2) 23 [(0, .ref (G.2.1 5)), (1, .int v1), (2, .int v2)] [] σ := by
  intro v1 v2 σ R hF
  unfold b_X7_readOperand_23 at hF
  refine mj_iload_n C dX7_readOperand_23 rfl ?_
  refine mj_bipushV (v := 6) C dX7_readOperand_24 mc_b_6 ?_
  refine mj_ic_ge C dX7_readOperand_26 rfl hF (fun hc3 hF => ?_) (fun hc3 hF => ?_)
  · refine mj_iconstV (v := 0) C dX7_readOperand_44 mc_i_0 ?_
    have hF := mj_oi hF; subst hF
    exact mj_zret (v := 0) rfl C hr hlk dX7_readOperand_45
  · refine mj_aload_n C dX7_readOperand_29 rfl ?_
    refine mj_iload_n C dX7_readOperand_30 rfl ?_
    refine mj_iload_n C dX7_readOperand_31 rfl ?_
    refine mj_iconstV (v := 1) C dX7_readOperand_32 mc_i_1 ?_
    refine mj_iadd C dX7_readOperand_33 ?_
    obtain ⟨r4, hq4, hF⟩ := mj_ob hF
    refine mj_callVi C (hr3 v2 (v1 + 1) σ r4 hq4) yv_X7_readOpened kl_X7_64 (mo_5 G _) rfl rfl rfl rfl (Nat.le_of_ble_eq_true rfl) (mj_roomK (by decide)) ⟨Nat.zero_le _, Nat.zero_le _⟩ dX7_readOperand_34 ?_
    refine mj_if_eq C dX7_readOperand_37 rfl hF (fun hc5 hF => ?_) (fun hc5 hF => ?_)
    · refine mj_iconstV (v := 0) C dX7_readOperand_44 mc_i_0 ?_
      have hF := mj_oi hF; subst hF
      exact mj_zret (v := 0) rfl C hr hlk dX7_readOperand_45
    · refine mj_iconstV (v := 1) C dX7_readOperand_40 mc_i_1 ?_
      refine mj_goto C dX7_readOperand_41 rfl ?_
      have hF := mj_oi hF; subst hF
      exact mj_zret (v := 1) rfl C hr hlk dX7_readOperand_45
set_option maxRecDepth 100000 in
set_option maxHeartbeats 4000000 in
theorem w_X7_readOperand_74 {p : Program} {l : Launch} {e : Env} {s : State} {m : MethodId} {args : Array Value} {below : List Frame} {meth : Method} {c : Code} {G : mj_G} {k : Nat} {rec : Nat → Int32 → Int32 → mj_S → Option (Int32 × mj_S)} (C : mj_X p s m args meth c G cX7_readOperand 4 RX7) (hr : meth.sig.returnType = some .boolean) (hlk : meth.locks = false) (hr0 : ∀ (x0 x1 : Int32) (σ : mj_S) (R : (Int32 × mj_S)), rec 0 x0 x1 σ = some R → mj_C G l yX7_readJoined cX7_readJoined 7 (some .boolean) (5 + k) [.ref (G.2.1 5), .int x0, .int x1] σ (some (.int R.1)) R.2) (hr1 : ∀ (x0 x1 : Int32) (σ : mj_S) (R : (Int32 × mj_S)), rec 1 x0 x1 σ = some R → mj_C G l yX7_readTighter cX7_readTighter 3 (some .boolean) (5 + k) [.ref (G.2.1 5), .int x0, .int x1] σ (some (.int R.1)) R.2) (hr2 : ∀ (x0 x1 : Int32) (σ : mj_S) (R : (Int32 × mj_S)), rec 2 x0 x1 σ = some R → mj_C G l yX7_readOperand cX7_readOperand 4 (some .boolean) (5 + k) [.ref (G.2.1 5), .int x0] σ (some (.int R.1)) R.2) (hr3 : ∀ (x0 x1 : Int32) (σ : mj_S) (R : (Int32 × mj_S)), rec 3 x0 x1 σ = some R → mj_C G l yX7_readOpened cX7_readOpened 4 (some .boolean) (5 + k) [.ref (G.2.1 5), .int x0, .int x1] σ (some (.int R.1)) R.2) : ∀ (t0 : Int32) (σ : mj_S) (R : (Int32 × mj_S)), b_X7_readOperand_74 rec t0 σ = some R → mj_W p l e (mj_rm (5 + (k + 1))) s m args below meth c G 0 0 4 (MQ below (mj_Q G (some (.int R.1)) R.2) args s 0 0 G.2.2.2) 74 [(0, .ref (G.2.1 5))] [.int t0] σ := by
  intro t0 σ R hF
  unfold b_X7_readOperand_74 at hF
  refine mj_istore_n C dX7_readOperand_74 (by decide) ?_
  refine mj_iload_n C dX7_readOperand_75 rfl ?_
  refine mj_if_ge C dX7_readOperand_76 rfl hF (fun hc11 hF => ?_) (fun hc11 hF => ?_)
  · refine mj_aload_n C dX7_readOperand_81 rfl ?_
    refine mj_dup C dX7_readOperand_82 rfl ?_
    refine mg_X7_25 C dX7_readOperand_83 ?_
    refine mj_iconstV (v := 1) C dX7_readOperand_86 mc_i_1 ?_
    refine mj_iadd C dX7_readOperand_87 ?_
    refine mp_X7_25 C dX7_readOperand_88 ?_
    refine mj_aload_n C dX7_readOperand_91 rfl ?_
    refine mj_bipushV (v := 97) C dX7_readOperand_92 mc_b_97 ?_
    refine mj_iload_n C dX7_readOperand_94 rfl ?_
    obtain ⟨r12, hq12, hF⟩ := mj_ob hF
    refine mj_callVv C (c_X7_write (mj_sI σ 5 4 ((σ.1 5 4) + 1)) 97 t0 r12 hq12) yv_X7_write kl_X7_47 (mo_5 G _) rfl rfl rfl rfl (Nat.le_of_ble_eq_true rfl) (mj_roomR (by decide) (by decide)) ⟨Nat.zero_le _, Nat.zero_le _⟩ dX7_readOperand_95 ?_
    refine mj_iconstV (v := 1) C dX7_readOperand_98 mc_i_1 ?_
    have hF := mj_oi hF; subst hF
    exact mj_zret (v := 1) rfl C hr hlk dX7_readOperand_99
  · refine mj_iconstV (v := 0) C dX7_readOperand_79 mc_i_0 ?_
    have hF := mj_oi hF; subst hF
    exact mj_zret (v := 0) rfl C hr hlk dX7_readOperand_80
set_option maxRecDepth 100000 in
set_option maxHeartbeats 4000000 in
theorem cF_X7_readOperand {G : mj_G} {l : Launch} {k : Nat} {rec : Nat → Int32 → Int32 → mj_S → Option (Int32 × mj_S)} (hr0 : ∀ (x0 x1 : Int32) (σ : mj_S) (R : (Int32 × mj_S)), rec 0 x0 x1 σ = some R → mj_C G l yX7_readJoined cX7_readJoined 7 (some .boolean) (5 + k) [.ref (G.2.1 5), .int x0, .int x1] σ (some (.int R.1)) R.2) (hr1 : ∀ (x0 x1 : Int32) (σ : mj_S) (R : (Int32 × mj_S)), rec 1 x0 x1 σ = some R → mj_C G l yX7_readTighter cX7_readTighter 3 (some .boolean) (5 + k) [.ref (G.2.1 5), .int x0, .int x1] σ (some (.int R.1)) R.2) (hr2 : ∀ (x0 x1 : Int32) (σ : mj_S) (R : (Int32 × mj_S)), rec 2 x0 x1 σ = some R → mj_C G l yX7_readOperand cX7_readOperand 4 (some .boolean) (5 + k) [.ref (G.2.1 5), .int x0] σ (some (.int R.1)) R.2) (hr3 : ∀ (x0 x1 : Int32) (σ : mj_S) (R : (Int32 × mj_S)), rec 3 x0 x1 σ = some R → mj_C G l yX7_readOpened cX7_readOpened 4 (some .boolean) (5 + k) [.ref (G.2.1 5), .int x0, .int x1] σ (some (.int R.1)) R.2) (σ : mj_S) (p1 : Int32) (R : (Int32 × mj_S)) (hF : F_X7_readOperand rec σ p1 = some R) : mj_C G l yX7_readOperand cX7_readOperand 4 (some .boolean) (5 + (k + 1)) [.ref (G.2.1 5), .int p1] σ (some (.int R.1)) R.2 := by
  unfold F_X7_readOperand at hF
  refine mj_of (ls := [(0, .ref (G.2.1 5)), (1, .int p1)]) (by decide) (Nat.le_of_ble_eq_true rfl) rfl (fun p e s m args below meth c C hr hlk => ?_)
  refine mj_aload_n C dX7_readOperand_0 rfl ?_
  obtain ⟨r1, hq1, hF⟩ := mj_ob hF
  refine mj_callVi C (c_X7_seen σ r1 hq1) yv_X7_seen kl_X7_54 (mo_5 G _) rfl rfl rfl rfl (Nat.le_of_ble_eq_true rfl) (mj_roomR (by decide) (by decide)) ⟨Nat.zero_le _, Nat.zero_le _⟩ dX7_readOperand_1 ?_
  refine mj_istore_n C dX7_readOperand_4 (by decide) ?_
  refine mj_iload_n C dX7_readOperand_5 rfl ?_
  refine mj_bipushV (v := 40) C dX7_readOperand_6 mc_b_40 ?_
  refine mj_ic_eq C dX7_readOperand_8 rfl hF (fun hc2 hF => ?_) (fun hc2 hF => ?_)
  · refine mj_to ?_ (w_X7_readOperand_23 C hr hlk hr0 hr1 hr2 hr3 p1 r1 σ R hF)
    exact ⟨rfl, rfl, rfl, trivial⟩
  · refine mj_iload_n C dX7_readOperand_11 rfl ?_
    refine mj_bipushV (v := 33) C dX7_readOperand_12 mc_b_33 ?_
    refine mj_ic_eq C dX7_readOperand_14 rfl hF (fun hc6 hF => ?_) (fun hc6 hF => ?_)
    · refine mj_to ?_ (w_X7_readOperand_23 C hr hlk hr0 hr1 hr2 hr3 p1 r1 σ R hF)
      exact ⟨rfl, rfl, rfl, trivial⟩
    · refine mj_iload_n C dX7_readOperand_17 rfl ?_
      refine mj_bipushV (v := 45) C dX7_readOperand_18 mc_b_45 ?_
      refine mj_ic_ne C dX7_readOperand_20 rfl hF (fun hc7 hF => ?_) (fun hc7 hF => ?_)
      · refine mj_iload_n C dX7_readOperand_46 rfl ?_
        refine mj_callSi C (c_X7_isDigit σ r1) ys_X7_isDigit kl_X7_67 rfl rfl (Nat.le_of_ble_eq_true rfl) (mj_roomR (by decide) (by decide)) ⟨Nat.zero_le _, Nat.zero_le _⟩ dX7_readOperand_47 ?_
        refine mj_if_eq C dX7_readOperand_50 rfl hF (fun hc8 hF => ?_) (fun hc8 hF => ?_)
        · refine mj_iload_n C dX7_readOperand_59 rfl ?_
          refine mj_if_ge C dX7_readOperand_60 rfl hF (fun hc9 hF => ?_) (fun hc9 hF => ?_)
          · refine mj_ldcS C dX7_readOperand_67 ?_
            refine mj_iload_n C dX7_readOperand_69 rfl ?_
            refine mj_i2c C dX7_readOperand_70 ?_
            obtain ⟨r10, hq10, hF⟩ := mj_ob hF
            refine mj_callTi C (c_J0_indexOf_0f7a4 σ ((r1.toUInt32 % 65536).toInt32) r10 hq10) yv_J0_indexOf_0f7a4 kl_X7_75 rfl rfl rfl (Nat.le_of_ble_eq_true rfl) (mj_roomR (by decide) (by decide)) ⟨Nat.zero_le _, Nat.zero_le _⟩ dX7_readOperand_71 ?_
            refine mj_to ?_ (w_X7_readOperand_74 C hr hlk hr0 hr1 hr2 hr3 r10 σ R hF)
            exact ⟨rfl, trivial⟩
          · refine mj_iconstV (v := (-1)) C dX7_readOperand_63 mc_i_m1 ?_
            refine mj_goto C dX7_readOperand_64 rfl ?_
            refine mj_to ?_ (w_X7_readOperand_74 C hr hlk hr0 hr1 hr2 hr3 (-1) σ R hF)
            exact ⟨rfl, trivial⟩
        · refine mj_aload_n C dX7_readOperand_53 rfl ?_
          obtain ⟨r13, hq13, hF⟩ := mj_ob hF
          refine mj_callVv C (c_X7_readNumber σ r13 hq13) yv_X7_readNumber kl_X7_70 (mo_5 G _) rfl rfl rfl rfl (Nat.le_of_ble_eq_true rfl) (mj_roomR (by decide) (by decide)) ⟨Nat.zero_le _, Nat.zero_le _⟩ dX7_readOperand_54 ?_
          refine mj_iconstV (v := 1) C dX7_readOperand_57 mc_i_1 ?_
          have hF := mj_oi hF; subst hF
          exact mj_zret (v := 1) rfl C hr hlk dX7_readOperand_58
      · refine mj_to ?_ (w_X7_readOperand_23 C hr hlk hr0 hr1 hr2 hr3 p1 r1 σ R hF)
        exact ⟨rfl, rfl, rfl, trivial⟩
set_option maxRecDepth 100000 in
set_option maxHeartbeats 4000000 in
theorem w_X7_readOpened_59 {p : Program} {l : Launch} {e : Env} {s : State} {m : MethodId} {args : Array Value} {below : List Frame} {meth : Method} {c : Code} {G : mj_G} {k : Nat} {rec : Nat → Int32 → Int32 → mj_S → Option (Int32 × mj_S)} (C : mj_X p s m args meth c G cX7_readOpened 4 RX7) (hr : meth.sig.returnType = some .boolean) (hlk : meth.locks = false) (hr0 : ∀ (x0 x1 : Int32) (σ : mj_S) (R : (Int32 × mj_S)), rec 0 x0 x1 σ = some R → mj_C G l yX7_readJoined cX7_readJoined 7 (some .boolean) (5 + k) [.ref (G.2.1 5), .int x0, .int x1] σ (some (.int R.1)) R.2) (hr1 : ∀ (x0 x1 : Int32) (σ : mj_S) (R : (Int32 × mj_S)), rec 1 x0 x1 σ = some R → mj_C G l yX7_readTighter cX7_readTighter 3 (some .boolean) (5 + k) [.ref (G.2.1 5), .int x0, .int x1] σ (some (.int R.1)) R.2) (hr2 : ∀ (x0 x1 : Int32) (σ : mj_S) (R : (Int32 × mj_S)), rec 2 x0 x1 σ = some R → mj_C G l yX7_readOperand cX7_readOperand 4 (some .boolean) (5 + k) [.ref (G.2.1 5), .int x0] σ (some (.int R.1)) R.2) (hr3 : ∀ (x0 x1 : Int32) (σ : mj_S) (R : (Int32 × mj_S)), rec 3 x0 x1 σ = some R → mj_C G l yX7_readOpened cX7_readOpened 4 (some .boolean) (5 + k) [.ref (G.2.1 5), .int x0, .int x1] σ (some (.int R.1)) R.2) : ∀ (v3 : Int32) (t1 : Int32) (σ : mj_S) (R : (Int32 × mj_S)), b_X7_readOpened_59 rec v3 t1 σ = some R → mj_W p l e (mj_rm (5 + (k + 1))) s m args below meth c G 0 0 4 (MQ below (mj_Q G (some (.int R.1)) R.2) args s 0 0 G.2.2.2) 59 [(3, .int v3)] [.int t1, .ref (G.2.1 5)] σ := by
  intro v3 t1 σ R hF
  unfold b_X7_readOpened_59 at hF
  refine mj_iconstV (v := 0) C dX7_readOpened_59 mc_i_0 ?_
  obtain ⟨r4, hq4, hF⟩ := mj_ob hF
  refine mj_callVv C (c_X7_write σ t1 0 r4 hq4) yv_X7_write kl_X7_47 (mo_5 G _) rfl rfl rfl rfl (Nat.le_of_ble_eq_true rfl) (mj_roomR (by decide) (by decide)) ⟨Nat.zero_le _, Nat.zero_le _⟩ dX7_readOpened_60 ?_
  refine mj_iload_n C dX7_readOpened_63 rfl ?_
  have hF := mj_oi hF; subst hF
  exact mj_zbret C hr hlk dX7_readOpened_64
set_option maxRecDepth 100000 in
set_option maxHeartbeats 4000000 in
theorem cF_X7_readOpened {G : mj_G} {l : Launch} {k : Nat} {rec : Nat → Int32 → Int32 → mj_S → Option (Int32 × mj_S)} (hr0 : ∀ (x0 x1 : Int32) (σ : mj_S) (R : (Int32 × mj_S)), rec 0 x0 x1 σ = some R → mj_C G l yX7_readJoined cX7_readJoined 7 (some .boolean) (5 + k) [.ref (G.2.1 5), .int x0, .int x1] σ (some (.int R.1)) R.2) (hr1 : ∀ (x0 x1 : Int32) (σ : mj_S) (R : (Int32 × mj_S)), rec 1 x0 x1 σ = some R → mj_C G l yX7_readTighter cX7_readTighter 3 (some .boolean) (5 + k) [.ref (G.2.1 5), .int x0, .int x1] σ (some (.int R.1)) R.2) (hr2 : ∀ (x0 x1 : Int32) (σ : mj_S) (R : (Int32 × mj_S)), rec 2 x0 x1 σ = some R → mj_C G l yX7_readOperand cX7_readOperand 4 (some .boolean) (5 + k) [.ref (G.2.1 5), .int x0] σ (some (.int R.1)) R.2) (hr3 : ∀ (x0 x1 : Int32) (σ : mj_S) (R : (Int32 × mj_S)), rec 3 x0 x1 σ = some R → mj_C G l yX7_readOpened cX7_readOpened 4 (some .boolean) (5 + k) [.ref (G.2.1 5), .int x0, .int x1] σ (some (.int R.1)) R.2) (σ : mj_S) (p1 : Int32) (p2 : Int32) (R : (Int32 × mj_S)) (hF : F_X7_readOpened rec σ p1 p2 = some R) : mj_C G l yX7_readOpened cX7_readOpened 4 (some .boolean) (5 + (k + 1)) [.ref (G.2.1 5), .int p1, .int p2] σ (some (.int R.1)) R.2 := by
  unfold F_X7_readOpened at hF
  refine mj_of (ls := [(0, .ref (G.2.1 5)), (1, .int p1), (2, .int p2)]) (by decide) (Nat.le_of_ble_eq_true rfl) rfl (fun p e s m args below meth c C hr hlk => ?_)
  refine mj_aload_n C dX7_readOpened_0 rfl ?_
  refine mj_dup C dX7_readOpened_1 rfl ?_
  refine mg_X7_25 C dX7_readOpened_2 ?_
  refine mj_iconstV (v := 1) C dX7_readOpened_5 mc_i_1 ?_
  refine mj_iadd C dX7_readOpened_6 ?_
  refine mp_X7_25 C dX7_readOpened_7 ?_
  refine mj_iload_n C dX7_readOpened_10 rfl ?_
  refine mj_bipushV (v := 40) C dX7_readOpened_11 mc_b_40 ?_
  refine mj_ic_ne C dX7_readOpened_13 rfl hF (fun hc1 hF => ?_) (fun hc1 hF => ?_)
  · refine mj_aload_n C dX7_readOpened_40 rfl ?_
    refine mj_iload_n C dX7_readOpened_41 rfl ?_
    obtain ⟨r2, hq2, hF⟩ := mj_ob hF
    refine mj_callVi C (hr2 p2 0 (mj_sI σ 5 4 ((σ.1 5 4) + 1)) r2 hq2) yv_X7_readOperand kl_X7_61 (mo_5 G _) rfl rfl rfl rfl (Nat.le_of_ble_eq_true rfl) (mj_roomK (by decide)) ⟨Nat.zero_le _, Nat.zero_le _⟩ dX7_readOpened_42 ?_
    refine mj_istore_n C dX7_readOpened_45 (by decide) ?_
    refine mj_aload_n C dX7_readOpened_46 rfl ?_
    refine mj_iload_n C dX7_readOpened_47 rfl ?_
    refine mj_bipushV (v := 45) C dX7_readOpened_48 mc_b_45 ?_
    refine mj_ic_ne C dX7_readOpened_50 rfl hF (fun hc3 hF => ?_) (fun hc3 hF => ?_)
    · refine mj_iload_n C dX7_readOpened_58 rfl ?_
      refine mj_to ?_ (w_X7_readOpened_59 C hr hlk hr0 hr1 hr2 hr3 r2.1 p1 r2.2 R hF)
      exact ⟨rfl, trivial⟩
    · refine mj_bipushV (v := 110) C dX7_readOpened_53 mc_b_110 ?_
      refine mj_goto C dX7_readOpened_55 rfl ?_
      refine mj_to ?_ (w_X7_readOpened_59 C hr hlk hr0 hr1 hr2 hr3 r2.1 110 r2.2 R hF)
      exact ⟨rfl, trivial⟩
  · refine mj_aload_n C dX7_readOpened_16 rfl ?_
    refine mj_iconstV (v := 0) C dX7_readOpened_17 mc_i_0 ?_
    refine mj_iload_n C dX7_readOpened_18 rfl ?_
    obtain ⟨r5, hq5, hF⟩ := mj_ob hF
    refine mj_callVi C (hr0 0 p2 (mj_sI σ 5 4 ((σ.1 5 4) + 1)) r5 hq5) yv_X7_readJoined kl_X7_43 (mo_5 G _) rfl rfl rfl rfl (Nat.le_of_ble_eq_true rfl) (mj_roomK (by decide)) ⟨Nat.zero_le _, Nat.zero_le _⟩ dX7_readOpened_19 ?_
    refine mj_if_eq C dX7_readOpened_22 rfl hF (fun hc6 hF => ?_) (fun hc6 hF => ?_)
    · refine mj_iconstV (v := 0) C dX7_readOpened_38 mc_i_0 ?_
      have hF := mj_oi hF; subst hF
      exact mj_zret (v := 0) rfl C hr hlk dX7_readOpened_39
    · refine mj_aload_n C dX7_readOpened_25 rfl ?_
      refine mj_bipushV (v := 41) C dX7_readOpened_26 mc_b_41 ?_
      obtain ⟨r7, hq7, hF⟩ := mj_ob hF
      refine mj_callVi C (c_X7_skip r5.2 41 r7 hq7) yv_X7_skip kl_X7_39 (mo_5 G _) rfl rfl rfl rfl (Nat.le_of_ble_eq_true rfl) (mj_roomR (by decide) (by decide)) ⟨Nat.zero_le _, Nat.zero_le _⟩ dX7_readOpened_28 ?_
      refine mj_if_eq C dX7_readOpened_31 rfl hF (fun hc8 hF => ?_) (fun hc8 hF => ?_)
      · refine mj_iconstV (v := 0) C dX7_readOpened_38 mc_i_0 ?_
        have hF := mj_oi hF; subst hF
        exact mj_zret (v := 0) rfl C hr hlk dX7_readOpened_39
      · refine mj_iconstV (v := 1) C dX7_readOpened_34 mc_i_1 ?_
        refine mj_goto C dX7_readOpened_35 rfl ?_
        have hF := mj_oi hF; subst hF
        exact mj_zret (v := 1) rfl C hr hlk dX7_readOpened_39
theorem cr_X7_readJoined {G : mj_G} {l : Launch} : ∀ k : Nat, (∀ (x0 x1 : Int32) (σ : mj_S) (R : (Int32 × mj_S)), rc_X7_readJoined k 0 x0 x1 σ = some R → mj_C G l yX7_readJoined cX7_readJoined 7 (some .boolean) (5 + k) [.ref (G.2.1 5), .int x0, .int x1] σ (some (.int R.1)) R.2) ∧ (∀ (x0 x1 : Int32) (σ : mj_S) (R : (Int32 × mj_S)), rc_X7_readJoined k 1 x0 x1 σ = some R → mj_C G l yX7_readTighter cX7_readTighter 3 (some .boolean) (5 + k) [.ref (G.2.1 5), .int x0, .int x1] σ (some (.int R.1)) R.2) ∧ (∀ (x0 x1 : Int32) (σ : mj_S) (R : (Int32 × mj_S)), rc_X7_readJoined k 2 x0 x1 σ = some R → mj_C G l yX7_readOperand cX7_readOperand 4 (some .boolean) (5 + k) [.ref (G.2.1 5), .int x0] σ (some (.int R.1)) R.2) ∧ (∀ (x0 x1 : Int32) (σ : mj_S) (R : (Int32 × mj_S)), rc_X7_readJoined k 3 x0 x1 σ = some R → mj_C G l yX7_readOpened cX7_readOpened 4 (some .boolean) (5 + k) [.ref (G.2.1 5), .int x0, .int x1] σ (some (.int R.1)) R.2) := by
  intro k
  induction k with
  | zero =>
    refine ⟨?_, ?_, ?_, ?_⟩ <;> (intros; rename_i h; cases h)
  | succ k ih =>
    exact ⟨fun x0 x1 σ R h => cF_X7_readJoined (ih.1) (ih.2.1) (ih.2.2.1) (ih.2.2.2) σ x0 x1 R (by rw [rc_X7_readJoined] at h; exact h),
      fun x0 x1 σ R h => cF_X7_readTighter (ih.1) (ih.2.1) (ih.2.2.1) (ih.2.2.2) σ x0 x1 R (by rw [rc_X7_readJoined] at h; exact h),
      fun x0 x1 σ R h => cF_X7_readOperand (ih.1) (ih.2.1) (ih.2.2.1) (ih.2.2.2) σ x0 R (by rw [rc_X7_readJoined] at h; exact h),
      fun x0 x1 σ R h => cF_X7_readOpened (ih.1) (ih.2.1) (ih.2.2.1) (ih.2.2.2) σ x0 x1 R (by rw [rc_X7_readJoined] at h; exact h)⟩
theorem c_X7_readJoined {G : mj_G} {l : Launch} (σ : mj_S) (p1 : Int32) (p2 : Int32) (R : (Int32 × mj_S)) (hF : f_X7_readJoined σ p1 p2 = some R) : mj_C G l yX7_readJoined cX7_readJoined 7 (some .boolean) 105 [.ref (G.2.1 5), .int p1, .int p2] σ (some (.int R.1)) R.2 := (cr_X7_readJoined 100).1 p1 p2 σ R hF
theorem c_X7_readTighter {G : mj_G} {l : Launch} (σ : mj_S) (p1 : Int32) (p2 : Int32) (R : (Int32 × mj_S)) (hF : f_X7_readTighter σ p1 p2 = some R) : mj_C G l yX7_readTighter cX7_readTighter 3 (some .boolean) 105 [.ref (G.2.1 5), .int p1, .int p2] σ (some (.int R.1)) R.2 := (cr_X7_readJoined 100).2.1 p1 p2 σ R hF
theorem c_X7_readOperand {G : mj_G} {l : Launch} (σ : mj_S) (p1 : Int32) (R : (Int32 × mj_S)) (hF : f_X7_readOperand σ p1 = some R) : mj_C G l yX7_readOperand cX7_readOperand 4 (some .boolean) 105 [.ref (G.2.1 5), .int p1] σ (some (.int R.1)) R.2 := (cr_X7_readJoined 100).2.2.1 p1 0 σ R hF
theorem c_X7_readOpened {G : mj_G} {l : Launch} (σ : mj_S) (p1 : Int32) (p2 : Int32) (R : (Int32 × mj_S)) (hF : f_X7_readOpened σ p1 p2 = some R) : mj_C G l yX7_readOpened cX7_readOpened 4 (some .boolean) 105 [.ref (G.2.1 5), .int p1, .int p2] σ (some (.int R.1)) R.2 := (cr_X7_readJoined 100).2.2.2 p1 p2 σ R hF
set_option maxRecDepth 100000 in
set_option maxHeartbeats 4000000 in
theorem w_X7_readLine_64 {p : Program} {l : Launch} {e : Env} {s : State} {m : MethodId} {args : Array Value} {below : List Frame} {meth : Method} {c : Code} {G : mj_G} (C : mj_X p s m args meth c G cX7_readLine 2 RX7) (hr : meth.sig.returnType = some .boolean) (hlk : meth.locks = false) : ∀ (σ : mj_S) (R : (Int32 × mj_S)), b_X7_readLine_64 σ = some R → mj_W p l e (mj_rm 106) s m args below meth c G 0 0 2 (MQ below (mj_Q G (some (.int R.1)) R.2) args s 0 0 G.2.2.2) 64 [(0, .ref (G.2.1 5))] [] σ := by
  intro σ R hF
  unfold b_X7_readLine_64 at hF
  refine mj_aload_n C dX7_readLine_64 rfl ?_
  refine mj_bipushV (v := 59) C dX7_readLine_65 mc_b_59 ?_
  refine mj_iconstV (v := 0) C dX7_readLine_67 mc_i_0 ?_
  obtain ⟨r5, hq5, hF⟩ := mj_ob hF
  refine mj_callVv C (c_X7_write σ 59 0 r5 hq5) yv_X7_write kl_X7_47 (mo_5 G _) rfl rfl rfl rfl (Nat.le_of_ble_eq_true rfl) (mj_roomC (by decide) (by decide)) ⟨Nat.zero_le _, Nat.zero_le _⟩ dX7_readLine_68 ?_
  refine mj_iconstV (v := 1) C dX7_readLine_71 mc_i_1 ?_
  have hF := mj_oi hF; subst hF
  exact mj_zret (v := 1) rfl C hr hlk dX7_readLine_72
set_option maxRecDepth 100000 in
set_option maxHeartbeats 4000000 in
theorem c_X7_readLine {G : mj_G} {l : Launch} (σ : mj_S) (R : (Int32 × mj_S)) (hF : f_X7_readLine σ = some R) : mj_C G l yX7_readLine cX7_readLine 2 (some .boolean) 106 [.ref (G.2.1 5)] σ (some (.int R.1)) R.2 := by
  unfold f_X7_readLine at hF
  refine mj_of (ls := [(0, .ref (G.2.1 5))]) (by decide) (Nat.le_of_ble_eq_true rfl) rfl (fun p e s m args below meth c C hr hlk => ?_)
  refine mj_aload_n C dX7_readLine_0 rfl ?_
  refine mj_iconstV (v := 0) C dX7_readLine_1 mc_i_0 ?_
  refine mj_iconstV (v := 0) C dX7_readLine_2 mc_i_0 ?_
  obtain ⟨r1, hq1, hF⟩ := mj_ob hF
  refine mj_callVi C (c_X7_readJoined σ 0 0 r1 hq1) yv_X7_readJoined kl_X7_43 (mo_5 G _) rfl rfl rfl rfl (Nat.le_of_ble_eq_true rfl) (mj_roomC (by decide) (by decide)) ⟨Nat.zero_le _, Nat.zero_le _⟩ dX7_readLine_3 ?_
  refine mj_if_ne C dX7_readLine_6 rfl hF (fun hc2 hF => ?_) (fun hc2 hF => ?_)
  · refine mj_aload_n C dX7_readLine_11 rfl ?_
    refine mj_bipushV (v := 63) C dX7_readLine_12 mc_b_63 ?_
    obtain ⟨r3, hq3, hF⟩ := mj_ob hF
    refine mj_callVi C (c_X7_skip r1.2 63 r3 hq3) yv_X7_skip kl_X7_39 (mo_5 G _) rfl rfl rfl rfl (Nat.le_of_ble_eq_true rfl) (mj_roomC (by decide) (by decide)) ⟨Nat.zero_le _, Nat.zero_le _⟩ dX7_readLine_14 ?_
    refine mj_if_eq C dX7_readLine_17 rfl hF (fun hc4 hF => ?_) (fun hc4 hF => ?_)
    · refine mj_to ?_ (w_X7_readLine_64 C hr hlk r3.2 R hF)
      exact ⟨rfl, trivial⟩
    · refine mj_aload_n C dX7_readLine_20 rfl ?_
      refine mg_X7_28 C dX7_readLine_21 ?_
      refine mj_istore_n C dX7_readLine_24 (by decide) ?_
      refine mj_aload_n C dX7_readLine_25 rfl ?_
      refine mj_bipushV (v := 63) C dX7_readLine_26 mc_b_63 ?_
      refine mj_iconstV (v := 0) C dX7_readLine_28 mc_i_0 ?_
      obtain ⟨r6, hq6, hF⟩ := mj_ob hF
      refine mj_callVv C (c_X7_write r3.2 63 0 r6 hq6) yv_X7_write kl_X7_47 (mo_5 G _) rfl rfl rfl rfl (Nat.le_of_ble_eq_true rfl) (mj_roomC (by decide) (by decide)) ⟨Nat.zero_le _, Nat.zero_le _⟩ dX7_readLine_29 ?_
      refine mj_aload_n C dX7_readLine_32 rfl ?_
      refine mj_iconstV (v := 0) C dX7_readLine_33 mc_i_0 ?_
      refine mj_iconstV (v := 0) C dX7_readLine_34 mc_i_0 ?_
      obtain ⟨r7, hq7, hF⟩ := mj_ob hF
      refine mj_callVi C (c_X7_readJoined r6 0 0 r7 hq7) yv_X7_readJoined kl_X7_43 (mo_5 G _) rfl rfl rfl rfl (Nat.le_of_ble_eq_true rfl) (mj_roomC (by decide) (by decide)) ⟨Nat.zero_le _, Nat.zero_le _⟩ dX7_readLine_35 ?_
      refine mj_if_ne C dX7_readLine_38 rfl hF (fun hc8 hF => ?_) (fun hc8 hF => ?_)
      · refine mj_iload_n C dX7_readLine_43 rfl ?_
        refine mj_aload_n C dX7_readLine_44 rfl ?_
        refine mg_X7_18 C dX7_readLine_45 ?_
        refine mj_alen (v := 121) C dX7_readLine_48 rfl rfl ?_
        refine mj_ic_ge C dX7_readLine_49 rfl hF (fun hc9 hF => ?_) (fun hc9 hF => ?_)
        · refine mj_to ?_ (w_X7_readLine_64 C hr hlk r7.2 R hF)
          exact ⟨rfl, trivial⟩
        · refine mj_aload_n C dX7_readLine_52 rfl ?_
          refine mg_X7_18 C dX7_readLine_53 ?_
          refine mj_iload_n C dX7_readLine_56 rfl ?_
          refine mj_aload_n C dX7_readLine_57 rfl ?_
          refine mg_X7_28 C dX7_readLine_58 ?_
          refine mj_iconstV (v := 1) C dX7_readLine_61 mc_i_1 ?_
          refine mj_iadd C dX7_readLine_62 ?_
          obtain ⟨hg10, hF⟩ := mj_og hF
          refine mj_iastore C dX7_readLine_63 rfl hg10 ?_
          refine mj_to ?_ (w_X7_readLine_64 C hr hlk (mj_sI r7.2 8 (r3.2.1 5 5).toNatClampNeg ((r7.2.1 5 5) + 1)) R hF)
          exact ⟨rfl, trivial⟩
      · refine mj_iconstV (v := 0) C dX7_readLine_41 mc_i_0 ?_
        have hF := mj_oi hF; subst hF
        exact mj_zret (v := 0) rfl C hr hlk dX7_readLine_42
  · refine mj_iconstV (v := 0) C dX7_readLine_9 mc_i_0 ?_
    have hF := mj_oi hF; subst hF
    exact mj_zret (v := 0) rfl C hr hlk dX7_readLine_10
set_option maxRecDepth 100000 in
set_option maxHeartbeats 4000000 in
theorem w_X7_read_66 {p : Program} {l : Launch} {e : Env} {s : State} {m : MethodId} {args : Array Value} {below : List Frame} {meth : Method} {c : Code} {G : mj_G} (C : mj_X p s m args meth c G cX7_read 3 RX7) (hr : meth.sig.returnType = some .int) (hlk : meth.locks = false) : ∀ (v1 : Int32) (σ : mj_S) (R : (Int32 × mj_S)), b_X7_read_66 v1 σ = some R → mj_W p l e (mj_rm 107) s m args below meth c G 0 0 3 (MQ below (mj_Q G (some (.int R.1)) R.2) args s 0 0 G.2.2.2) 66 [(0, .ref (G.2.1 5)), (1, .int v1)] [] σ := by
  intro v1 σ R hF
  unfold b_X7_read_66 at hF
  refine mj_iload_n C dX7_read_66 rfl ?_
  refine mj_if_eq C dX7_read_67 rfl hF (fun hc3 hF => ?_) (fun hc3 hF => ?_)
  · refine mj_aload_n C dX7_read_74 rfl ?_
    refine mg_X7_25 C dX7_read_75 ?_
    have hF := mj_oi hF; subst hF
    exact mj_iret C hr hlk dX7_read_78
  · refine mj_iconstV (v := (-1)) C dX7_read_70 mc_i_m1 ?_
    refine mj_goto C dX7_read_71 rfl ?_
    have hF := mj_oi hF; subst hF
    exact mj_iret C hr hlk dX7_read_78
set_option maxRecDepth 100000 in
set_option maxHeartbeats 4000000 in
theorem w_X7_read_17 {p : Program} {l : Launch} {e : Env} {s : State} {m : MethodId} {args : Array Value} {below : List Frame} {meth : Method} {c : Code} {G : mj_G} (C : mj_X p s m args meth c G cX7_read 3 RX7) (hr : meth.sig.returnType = some .int) (hlk : meth.locks = false) : ∀ (n : Nat) (v1 : Int32) (v2 : Int32) (σ : mj_S) (R : (Int32 × mj_S)), b_X7_read_17 n v1 v2 σ = some R → mj_W p l e (mj_rm 107) s m args below meth c G 0 0 3 (MQ below (mj_Q G (some (.int R.1)) R.2) args s 0 0 G.2.2.2) 17 [(0, .ref (G.2.1 5)), (1, .int v1), (2, .int v2)] [] σ := by
  intro n
  induction n with
  | zero =>
    intro v1 v2 σ R hF
    cases hF
  | succ n ih =>
    intro v1 v2 σ R hF
    rw [b_X7_read_17] at hF
    refine mj_iload_n C dX7_read_17 rfl ?_
    refine mj_bipushV (v := 120) C dX7_read_18 mc_b_120 ?_
    refine mj_ic_ge C dX7_read_20 rfl hF (fun hc2 hF => ?_) (fun hc2 hF => ?_)
    · refine mj_to ?_ (w_X7_read_66 C hr hlk v1 σ R hF)
      exact ⟨rfl, rfl, trivial⟩
    · refine mj_iload_n C dX7_read_23 rfl ?_
      refine mj_if_eq C dX7_read_24 rfl hF (fun hc4 hF => ?_) (fun hc4 hF => ?_)
      · refine mj_to ?_ (w_X7_read_66 C hr hlk v1 σ R hF)
        exact ⟨rfl, rfl, trivial⟩
      · refine mj_aload_n C dX7_read_27 rfl ?_
        refine mg_X7_25 C dX7_read_28 ?_
        refine mj_aload_n C dX7_read_31 rfl ?_
        refine mg_X7_21 C dX7_read_32 ?_
        refine mj_ic_ge C dX7_read_35 rfl hF (fun hc5 hF => ?_) (fun hc5 hF => ?_)
        · refine mj_to ?_ (w_X7_read_66 C hr hlk v1 σ R hF)
          exact ⟨rfl, rfl, trivial⟩
        · refine mj_aload_n C dX7_read_38 rfl ?_
          refine mj_bipushV (v := 59) C dX7_read_39 mc_b_59 ?_
          obtain ⟨r6, hq6, hF⟩ := mj_ob hF
          refine mj_callVi C (c_X7_skip σ 59 r6 hq6) yv_X7_skip kl_X7_39 (mo_5 G _) rfl rfl rfl rfl (Nat.le_of_ble_eq_true rfl) (mj_roomC (by decide) (by decide)) ⟨Nat.zero_le _, Nat.zero_le _⟩ dX7_read_41 ?_
          refine mj_if_eq C dX7_read_44 rfl hF (fun hc7 hF => ?_) (fun hc7 hF => ?_)
          · refine mj_iconstV (v := 0) C dX7_read_58 mc_i_0 ?_
            refine mj_istore_n C dX7_read_59 (by decide) ?_
            refine mj_iinc (v := v2 + 1) C dX7_read_60 rfl rfl (by decide) ?_
            refine mj_goto C dX7_read_63 rfl ?_
            refine mj_to ?_ (ih 0 (v2 + 1) r6.2 R hF)
            exact ⟨rfl, rfl, rfl, trivial⟩
          · refine mj_aload_n C dX7_read_47 rfl ?_
            obtain ⟨r8, hq8, hF⟩ := mj_ob hF
            refine mj_callVi C (c_X7_readLine r6.2 r8 hq8) yv_X7_readLine kl_X7_35 (mo_5 G _) rfl rfl rfl rfl (Nat.le_of_ble_eq_true rfl) (mj_roomC (by decide) (by decide)) ⟨Nat.zero_le _, Nat.zero_le _⟩ dX7_read_48 ?_
            refine mj_if_eq C dX7_read_51 rfl hF (fun hc9 hF => ?_) (fun hc9 hF => ?_)
            · refine mj_iconstV (v := 0) C dX7_read_58 mc_i_0 ?_
              refine mj_istore_n C dX7_read_59 (by decide) ?_
              refine mj_iinc (v := v2 + 1) C dX7_read_60 rfl rfl (by decide) ?_
              refine mj_goto C dX7_read_63 rfl ?_
              refine mj_to ?_ (ih 0 (v2 + 1) r8.2 R hF)
              exact ⟨rfl, rfl, rfl, trivial⟩
            · refine mj_iconstV (v := 1) C dX7_read_54 mc_i_1 ?_
              refine mj_goto C dX7_read_55 rfl ?_
              refine mj_istore_n C dX7_read_59 (by decide) ?_
              refine mj_iinc (v := v2 + 1) C dX7_read_60 rfl rfl (by decide) ?_
              refine mj_goto C dX7_read_63 rfl ?_
              refine mj_to ?_ (ih 1 (v2 + 1) r8.2 R hF)
              exact ⟨rfl, rfl, rfl, trivial⟩
set_option maxRecDepth 100000 in
set_option maxHeartbeats 4000000 in
theorem c_X7_read {G : mj_G} {l : Launch} (σ : mj_S) (R : (Int32 × mj_S)) (hF : f_X7_read σ = some R) : mj_C G l yX7_read cX7_read 3 (some .int) 107 [.ref (G.2.1 5)] σ (some (.int R.1)) R.2 := by
  unfold f_X7_read at hF
  refine mj_of (ls := [(0, .ref (G.2.1 5))]) (by decide) (Nat.le_of_ble_eq_true rfl) rfl (fun p e s m args below meth c C hr hlk => ?_)
  refine mj_aload_n C dX7_read_0 rfl ?_
  refine mj_iconstV (v := 0) C dX7_read_1 mc_i_0 ?_
  refine mp_X7_25 C dX7_read_2 ?_
  refine mj_aload_n C dX7_read_5 rfl ?_
  refine mj_iconstV (v := 0) C dX7_read_6 mc_i_0 ?_
  refine mp_X7_28 C dX7_read_7 ?_
  refine mj_aload_n C dX7_read_10 rfl ?_
  obtain ⟨r1, hq1, hF⟩ := mj_ob hF
  refine mj_callVi C (c_X7_readLine (mj_sI (mj_sI σ 5 4 0) 5 5 0) r1 hq1) yv_X7_readLine kl_X7_35 (mo_5 G _) rfl rfl rfl rfl (Nat.le_of_ble_eq_true rfl) (mj_roomC (by decide) (by decide)) ⟨Nat.zero_le _, Nat.zero_le _⟩ dX7_read_11 ?_
  refine mj_istore_n C dX7_read_14 (by decide) ?_
  refine mj_iconstV (v := 0) C dX7_read_15 mc_i_0 ?_
  refine mj_istore_n C dX7_read_16 (by decide) ?_
  refine mj_to ?_ (w_X7_read_17 C hr hlk mj_fu r1.1 0 r1.2 R hF)
  exact ⟨rfl, rfl, rfl, trivial⟩
