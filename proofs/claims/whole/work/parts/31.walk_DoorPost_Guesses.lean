set_option maxRecDepth 100000 in
set_option maxHeartbeats 4000000 in
theorem w_X3_find_137 {p : Program} {l : Launch} {e : Env} {s : State} {m : MethodId} {args : Array Value} {below : List Frame} {meth : Method} {c : Code} {G : mj_G} {K94 : Int32 → Int32 → Int32 → Int32 → Int32 → Int32 → Int32 → mj_S → Option (Int32 × mj_S)} (C : mj_X p s m args meth c G cX3_find 12 RX3) (hr : meth.sig.returnType = some .boolean) (hlk : meth.locks = false) (hK94 : ∀ (v1 : Int32) (v4 : Int32) (v6 : Int32) (v7 : Int32) (v8 : Int32) (v9 : Int32) (v10 : Int32) (σ : mj_S) (R : (Int32 × mj_S)), K94 v1 v4 v6 v7 v8 v9 v10 σ = some R → mj_W p l e (mj_rm 4) s m args below meth c G 0 0 12 (MQ below (mj_Q G (some (.int R.1)) R.2) args s 0 0 G.2.2.2) 94 [(0, .ref (G.2.1 40)), (1, .int v1), (4, .int v4), (6, .int v6), (7, .int v7), (8, .int v8), (9, .int v9), (10, .int v10)] [] σ) : ∀ (v1 : Int32) (v4 : Int32) (v6 : Int32) (v7 : Int32) (v8 : Int32) (v9 : Int32) (v10 : Int32) (v11 : Int32) (σ : mj_S) (R : (Int32 × mj_S)), b_X3_find_137 K94 v1 v4 v6 v7 v8 v9 v10 v11 σ = some R → mj_W p l e (mj_rm 4) s m args below meth c G 0 0 12 (MQ below (mj_Q G (some (.int R.1)) R.2) args s 0 0 G.2.2.2) 137 [(0, .ref (G.2.1 40)), (1, .int v1), (4, .int v4), (6, .int v6), (7, .int v7), (8, .int v8), (9, .int v9), (10, .int v10), (11, .int v11)] [] σ := by
  intro v1 v4 v6 v7 v8 v9 v10 v11 σ R hF
  unfold b_X3_find_137 at hF
  refine mj_aload_n C dX3_find_137 rfl ?_
  refine mj_iload C dX3_find_138 rfl ?_
  refine mp_X3_9 C dX3_find_140 ?_
  refine mj_aload_n C dX3_find_143 rfl ?_
  refine mj_iload C dX3_find_144 rfl ?_
  refine mp_X3_15 C dX3_find_146 ?_
  refine mj_aload_n C dX3_find_149 rfl ?_
  refine mj_iload C dX3_find_150 rfl ?_
  refine mp_X3_18 C dX3_find_152 ?_
  refine mj_iinc (v := v10 + 1) C dX3_find_155 rfl rfl (by decide) ?_
  refine mj_goto C dX3_find_158 rfl ?_
  refine mj_to ?_ (hK94 v1 v4 v6 v7 v8 v9 (v10 + 1) (mj_sI (mj_sI (mj_sI σ 40 2 v10) 40 3 v9) 40 4 v11) R hF)
  exact ⟨rfl, rfl, rfl, rfl, rfl, rfl, rfl, rfl, trivial⟩
set_option maxRecDepth 100000 in
set_option maxHeartbeats 4000000 in
theorem w_X3_find_94 {p : Program} {l : Launch} {e : Env} {s : State} {m : MethodId} {args : Array Value} {below : List Frame} {meth : Method} {c : Code} {G : mj_G} {K83 : Int32 → Int32 → Int32 → Int32 → Int32 → Int32 → mj_S → Option (Int32 × mj_S)} (C : mj_X p s m args meth c G cX3_find 12 RX3) (hr : meth.sig.returnType = some .boolean) (hlk : meth.locks = false) (hK83 : ∀ (v1 : Int32) (v4 : Int32) (v6 : Int32) (v7 : Int32) (v8 : Int32) (v9 : Int32) (σ : mj_S) (R : (Int32 × mj_S)), K83 v1 v4 v6 v7 v8 v9 σ = some R → mj_W p l e (mj_rm 4) s m args below meth c G 0 0 12 (MQ below (mj_Q G (some (.int R.1)) R.2) args s 0 0 G.2.2.2) 83 [(0, .ref (G.2.1 40)), (1, .int v1), (4, .int v4), (6, .int v6), (7, .int v7), (8, .int v8), (9, .int v9)] [] σ) : ∀ (n : Nat) (v1 : Int32) (v4 : Int32) (v6 : Int32) (v7 : Int32) (v8 : Int32) (v9 : Int32) (v10 : Int32) (σ : mj_S) (R : (Int32 × mj_S)), b_X3_find_94 K83 n v1 v4 v6 v7 v8 v9 v10 σ = some R → mj_W p l e (mj_rm 4) s m args below meth c G 0 0 12 (MQ below (mj_Q G (some (.int R.1)) R.2) args s 0 0 G.2.2.2) 94 [(0, .ref (G.2.1 40)), (1, .int v1), (4, .int v4), (6, .int v6), (7, .int v7), (8, .int v8), (9, .int v9), (10, .int v10)] [] σ := by
  intro n
  induction n with
  | zero =>
    intro v1 v4 v6 v7 v8 v9 v10 σ R hF
    cases hF
  | succ n ih =>
    intro v1 v4 v6 v7 v8 v9 v10 σ R hF
    rw [b_X3_find_94] at hF
    refine mj_iload C dX3_find_94 rfl ?_
    refine mj_iload C dX3_find_96 rfl ?_
    refine mj_ic_gt C dX3_find_98 rfl hF (fun hc7 hF => ?_) (fun hc7 hF => ?_)
    · refine mj_iinc (v := v9 + 1) C dX3_find_161 rfl rfl (by decide) ?_
      refine mj_goto C dX3_find_164 rfl ?_
      refine mj_to ?_ (hK83 v1 v4 v6 v7 v8 (v9 + 1) σ R hF)
      exact ⟨rfl, rfl, rfl, rfl, rfl, rfl, rfl, trivial⟩
    · refine mj_aload_n C dX3_find_101 rfl ?_
      refine mj_iload_n C dX3_find_102 rfl ?_
      refine mj_iload C dX3_find_103 rfl ?_
      refine mj_iload C dX3_find_105 rfl ?_
      refine mj_iload C dX3_find_107 rfl ?_
      obtain ⟨r8, hq8, hF⟩ := mj_ob hF
      refine mj_callVi C (c_X3_distance σ v1 v10 v9 v4 r8 hq8) yv_X3_distance kl_X3_96 (mo_40 G _) rfl rfl rfl rfl (Nat.le_of_ble_eq_true rfl) (mj_roomC (by decide) (by decide)) ⟨Nat.zero_le _, Nat.zero_le _⟩ dX3_find_109 ?_
      refine mj_istore C dX3_find_112 (by decide) ?_
      refine mj_iload C dX3_find_114 rfl ?_
      refine mj_bipushV (v := (-2)) C dX3_find_116 mc_b_m2 ?_
      refine mj_ic_eq C dX3_find_118 rfl hF (fun hc9 hF => ?_) (fun hc9 hF => ?_)
      · refine mj_iinc (v := v10 + 1) C dX3_find_155 rfl rfl (by decide) ?_
        refine mj_goto C dX3_find_158 rfl ?_
        refine mj_to ?_ (ih v1 v4 v6 v7 v8 v9 (v10 + 1) σ R hF)
        exact ⟨rfl, rfl, rfl, rfl, rfl, rfl, rfl, rfl, trivial⟩
      · refine mj_aload_n C dX3_find_121 rfl ?_
        refine mg_X3_9 C dX3_find_122 ?_
        refine mj_if_lt C dX3_find_125 rfl hF (fun hc10 hF => ?_) (fun hc10 hF => ?_)
        · refine mj_to ?_ (w_X3_find_137 C hr hlk ih v1 v4 v6 v7 v8 v9 v10 r8 σ R hF)
          exact ⟨rfl, rfl, rfl, rfl, rfl, rfl, rfl, rfl, rfl, trivial⟩
        · refine mj_iload C dX3_find_128 rfl ?_
          refine mj_aload_n C dX3_find_130 rfl ?_
          refine mg_X3_18 C dX3_find_131 ?_
          refine mj_ic_ge C dX3_find_134 rfl hF (fun hc11 hF => ?_) (fun hc11 hF => ?_)
          · refine mj_iinc (v := v10 + 1) C dX3_find_155 rfl rfl (by decide) ?_
            refine mj_goto C dX3_find_158 rfl ?_
            refine mj_to ?_ (ih v1 v4 v6 v7 v8 v9 (v10 + 1) σ R hF)
            exact ⟨rfl, rfl, rfl, rfl, rfl, rfl, rfl, rfl, trivial⟩
          · refine mj_to ?_ (w_X3_find_137 C hr hlk ih v1 v4 v6 v7 v8 v9 v10 r8 σ R hF)
            exact ⟨rfl, rfl, rfl, rfl, rfl, rfl, rfl, rfl, rfl, trivial⟩
set_option maxRecDepth 100000 in
set_option maxHeartbeats 4000000 in
theorem w_X3_find_83 {p : Program} {l : Launch} {e : Env} {s : State} {m : MethodId} {args : Array Value} {below : List Frame} {meth : Method} {c : Code} {G : mj_G} (C : mj_X p s m args meth c G cX3_find 12 RX3) (hr : meth.sig.returnType = some .boolean) (hlk : meth.locks = false) : ∀ (n : Nat) (v1 : Int32) (v4 : Int32) (v6 : Int32) (v7 : Int32) (v8 : Int32) (v9 : Int32) (σ : mj_S) (R : (Int32 × mj_S)), b_X3_find_83 n v1 v4 v6 v7 v8 v9 σ = some R → mj_W p l e (mj_rm 4) s m args below meth c G 0 0 12 (MQ below (mj_Q G (some (.int R.1)) R.2) args s 0 0 G.2.2.2) 83 [(0, .ref (G.2.1 40)), (1, .int v1), (4, .int v4), (6, .int v6), (7, .int v7), (8, .int v8), (9, .int v9)] [] σ := by
  intro n
  induction n with
  | zero =>
    intro v1 v4 v6 v7 v8 v9 σ R hF
    cases hF
  | succ n ih =>
    intro v1 v4 v6 v7 v8 v9 σ R hF
    rw [b_X3_find_83] at hF
    refine mj_iload C dX3_find_83 rfl ?_
    refine mj_iload C dX3_find_85 rfl ?_
    refine mj_ic_gt C dX3_find_87 rfl hF (fun hc5 hF => ?_) (fun hc5 hF => ?_)
    · refine mj_aload_n C dX3_find_167 rfl ?_
      refine mg_X3_9 C dX3_find_168 ?_
      refine mj_if_lt C dX3_find_171 rfl hF (fun hc6 hF => ?_) (fun hc6 hF => ?_)
      · refine mj_iconstV (v := 0) C dX3_find_178 mc_i_0 ?_
        have hF := mj_oi hF; subst hF
        exact mj_zret (v := 0) rfl C hr hlk dX3_find_179
      · refine mj_iconstV (v := 1) C dX3_find_174 mc_i_1 ?_
        refine mj_goto C dX3_find_175 rfl ?_
        have hF := mj_oi hF; subst hF
        exact mj_zret (v := 1) rfl C hr hlk dX3_find_179
    · refine mj_iload C dX3_find_90 rfl ?_
      refine mj_istore C dX3_find_92 (by decide) ?_
      refine mj_to ?_ (w_X3_find_94 C hr hlk ih mj_fu v1 v4 v6 v7 v8 v9 v7 σ R hF)
      exact ⟨rfl, rfl, rfl, rfl, rfl, rfl, rfl, rfl, trivial⟩
set_option maxRecDepth 100000 in
set_option maxHeartbeats 4000000 in
theorem w_X3_find_51 {p : Program} {l : Launch} {e : Env} {s : State} {m : MethodId} {args : Array Value} {below : List Frame} {meth : Method} {c : Code} {G : mj_G} (C : mj_X p s m args meth c G cX3_find 12 RX3) (hr : meth.sig.returnType = some .boolean) (hlk : meth.locks = false) : ∀ (v1 : Int32) (v2 : Int32) (v4 : Int32) (v5 : Int32) (v6 : Int32) (t0 : Int32) (σ : mj_S) (R : (Int32 × mj_S)), b_X3_find_51 v1 v2 v4 v5 v6 t0 σ = some R → mj_W p l e (mj_rm 4) s m args below meth c G 0 0 12 (MQ below (mj_Q G (some (.int R.1)) R.2) args s 0 0 G.2.2.2) 51 [(0, .ref (G.2.1 40)), (1, .int v1), (2, .int v2), (4, .int v4), (5, .int v5), (6, .int v6)] [.int t0] σ := by
  intro v1 v2 v4 v5 v6 t0 σ R hF
  unfold b_X3_find_51 at hF
  refine mj_istore C dX3_find_51 (by decide) ?_
  refine mj_aload_n C dX3_find_53 rfl ?_
  refine mg_X3_37 C dX3_find_54 ?_
  refine mj_iload_n C dX3_find_57 rfl ?_
  refine mj_callVi C (c_X2_has σ v2) yv_X2_has kl_X3_89 (mo_9 G _) rfl rfl rfl rfl (Nat.le_of_ble_eq_true rfl) (mj_roomC (by decide) (by decide)) ⟨Nat.zero_le _, Nat.zero_le _⟩ dX3_find_58 ?_
  refine mj_if_eq C dX3_find_61 rfl hF (fun hc4 hF => ?_) (fun hc4 hF => ?_)
  · refine mj_aload_n C dX3_find_68 rfl ?_
    refine mg_X3_37 C dX3_find_69 ?_
    refine mj_callVi C (c_X2_size σ) yv_X2_size kl_X3_92 (mo_9 G _) rfl rfl rfl rfl (Nat.le_of_ble_eq_true rfl) (mj_roomC (by decide) (by decide)) ⟨Nat.zero_le _, Nat.zero_le _⟩ dX3_find_72 ?_
    refine mj_iconstV (v := 1) C dX3_find_75 mc_i_1 ?_
    refine mj_isub C dX3_find_76 ?_
    refine mj_istore C dX3_find_77 (by decide) ?_
    refine mj_iload C dX3_find_79 rfl ?_
    refine mj_istore C dX3_find_81 (by decide) ?_
    refine mj_to ?_ (w_X3_find_83 C hr hlk mj_fu v1 v4 v6 t0 ((f_X2_size σ) - 1) v5 σ R hF)
    exact ⟨rfl, rfl, rfl, rfl, rfl, rfl, rfl, trivial⟩
  · refine mj_iload_n C dX3_find_64 rfl ?_
    refine mj_goto C dX3_find_65 rfl ?_
    refine mj_istore C dX3_find_77 (by decide) ?_
    refine mj_iload C dX3_find_79 rfl ?_
    refine mj_istore C dX3_find_81 (by decide) ?_
    refine mj_to ?_ (w_X3_find_83 C hr hlk mj_fu v1 v4 v6 t0 v2 v5 σ R hF)
    exact ⟨rfl, rfl, rfl, rfl, rfl, rfl, rfl, trivial⟩
set_option maxRecDepth 100000 in
set_option maxHeartbeats 4000000 in
theorem w_X3_find_33 {p : Program} {l : Launch} {e : Env} {s : State} {m : MethodId} {args : Array Value} {below : List Frame} {meth : Method} {c : Code} {G : mj_G} (C : mj_X p s m args meth c G cX3_find 12 RX3) (hr : meth.sig.returnType = some .boolean) (hlk : meth.locks = false) : ∀ (v1 : Int32) (v2 : Int32) (v4 : Int32) (v5 : Int32) (t0 : Int32) (σ : mj_S) (R : (Int32 × mj_S)), b_X3_find_33 v1 v2 v4 v5 t0 σ = some R → mj_W p l e (mj_rm 4) s m args below meth c G 0 0 12 (MQ below (mj_Q G (some (.int R.1)) R.2) args s 0 0 G.2.2.2) 33 [(0, .ref (G.2.1 40)), (1, .int v1), (2, .int v2), (4, .int v4), (5, .int v5)] [.int t0] σ := by
  intro v1 v2 v4 v5 t0 σ R hF
  unfold b_X3_find_33 at hF
  refine mj_istore C dX3_find_33 (by decide) ?_
  refine mj_aload_n C dX3_find_35 rfl ?_
  refine mg_X3_37 C dX3_find_36 ?_
  refine mj_iload_n C dX3_find_39 rfl ?_
  refine mj_callVi C (c_X2_has σ v2) yv_X2_has kl_X3_89 (mo_9 G _) rfl rfl rfl rfl (Nat.le_of_ble_eq_true rfl) (mj_roomC (by decide) (by decide)) ⟨Nat.zero_le _, Nat.zero_le _⟩ dX3_find_40 ?_
  refine mj_if_eq C dX3_find_43 rfl hF (fun hc3 hF => ?_) (fun hc3 hF => ?_)
  · refine mj_iconstV (v := 0) C dX3_find_50 mc_i_0 ?_
    refine mj_to ?_ (w_X3_find_51 C hr hlk v1 v2 v4 v5 t0 0 σ R hF)
    exact ⟨rfl, rfl, rfl, rfl, rfl, rfl, trivial⟩
  · refine mj_iload_n C dX3_find_46 rfl ?_
    refine mj_goto C dX3_find_47 rfl ?_
    refine mj_to ?_ (w_X3_find_51 C hr hlk v1 v2 v4 v5 t0 v2 σ R hF)
    exact ⟨rfl, rfl, rfl, rfl, rfl, rfl, trivial⟩
set_option maxRecDepth 100000 in
set_option maxHeartbeats 4000000 in
theorem w_X3_find_17 {p : Program} {l : Launch} {e : Env} {s : State} {m : MethodId} {args : Array Value} {below : List Frame} {meth : Method} {c : Code} {G : mj_G} (C : mj_X p s m args meth c G cX3_find 12 RX3) (hr : meth.sig.returnType = some .boolean) (hlk : meth.locks = false) : ∀ (v1 : Int32) (v2 : Int32) (v3 : Int32) (v4 : Int32) (t0 : Int32) (σ : mj_S) (R : (Int32 × mj_S)), b_X3_find_17 v1 v2 v3 v4 t0 σ = some R → mj_W p l e (mj_rm 4) s m args below meth c G 0 0 12 (MQ below (mj_Q G (some (.int R.1)) R.2) args s 0 0 G.2.2.2) 17 [(0, .ref (G.2.1 40)), (1, .int v1), (2, .int v2), (3, .int v3), (4, .int v4)] [.int t0] σ := by
  intro v1 v2 v3 v4 t0 σ R hF
  unfold b_X3_find_17 at hF
  refine mj_istore C dX3_find_17 (by decide) ?_
  refine mj_iload_n C dX3_find_19 rfl ?_
  refine mj_callNi C (c_X9_isMonth σ v3) ys_X9_isMonth kn_X3_85 rfl rfl (Nat.le_of_ble_eq_true rfl) (mj_roomC (by decide) (by decide)) ⟨Nat.zero_le _, Nat.zero_le _⟩ dX3_find_20 ?_
  refine mj_if_eq C dX3_find_23 rfl hF (fun hc2 hF => ?_) (fun hc2 hF => ?_)
  · refine mj_sipushV (v := 599) C dX3_find_30 mc_s_599 ?_
    refine mj_to ?_ (w_X3_find_33 C hr hlk v1 v2 v4 t0 599 σ R hF)
    exact ⟨rfl, rfl, rfl, rfl, rfl, trivial⟩
  · refine mj_iload_n C dX3_find_26 rfl ?_
    refine mj_goto C dX3_find_27 rfl ?_
    refine mj_to ?_ (w_X3_find_33 C hr hlk v1 v2 v4 t0 v3 σ R hF)
    exact ⟨rfl, rfl, rfl, rfl, rfl, trivial⟩
set_option maxRecDepth 100000 in
set_option maxHeartbeats 4000000 in
theorem c_X3_find {G : mj_G} {l : Launch} (σ : mj_S) (p1 : Int32) (p2 : Int32) (p3 : Int32) (p4 : Int32) (R : (Int32 × mj_S)) (hF : f_X3_find σ p1 p2 p3 p4 = some R) : mj_C G l yX3_find cX3_find 12 (some .boolean) 4 [.ref (G.2.1 40), .int p1, .int p2, .int p3, .int p4] σ (some (.int R.1)) R.2 := by
  unfold f_X3_find at hF
  refine mj_of (ls := [(0, .ref (G.2.1 40)), (1, .int p1), (2, .int p2), (3, .int p3), (4, .int p4)]) (by decide) (Nat.le_of_ble_eq_true rfl) rfl (fun p e s m args below meth c C hr hlk => ?_)
  refine mj_aload_n C dX3_find_0 rfl ?_
  refine mj_iconstV (v := (-1)) C dX3_find_1 mc_i_m1 ?_
  refine mp_X3_9 C dX3_find_2 ?_
  refine mj_iload_n C dX3_find_5 rfl ?_
  refine mj_callNi C (c_X9_isMonth (mj_sI σ 40 2 (-1)) p3) ys_X9_isMonth kn_X3_85 rfl rfl (Nat.le_of_ble_eq_true rfl) (mj_roomC (by decide) (by decide)) ⟨Nat.zero_le _, Nat.zero_le _⟩ dX3_find_6 ?_
  refine mj_if_eq C dX3_find_9 rfl hF (fun hc1 hF => ?_) (fun hc1 hF => ?_)
  · refine mj_iconstV (v := 0) C dX3_find_16 mc_i_0 ?_
    refine mj_to ?_ (w_X3_find_17 C hr hlk p1 p2 p3 p4 0 (mj_sI σ 40 2 (-1)) R hF)
    exact ⟨rfl, rfl, rfl, rfl, rfl, trivial⟩
  · refine mj_iload_n C dX3_find_12 rfl ?_
    refine mj_goto C dX3_find_13 rfl ?_
    refine mj_to ?_ (w_X3_find_17 C hr hlk p1 p2 p3 p4 p3 (mj_sI σ 40 2 (-1)) R hF)
    exact ⟨rfl, rfl, rfl, rfl, rfl, trivial⟩
set_option maxRecDepth 100000 in
set_option maxHeartbeats 4000000 in
theorem c_X3_findFor {G : mj_G} {l : Launch} (σ : mj_S) (p1 : Int32) (R : (Int32 × mj_S)) (hF : f_X3_findFor σ p1 = some R) : mj_C G l yX3_findFor cX3_findFor 2 (some .boolean) 5 [.ref (G.2.1 40), .int p1] σ (some (.int R.1)) R.2 := by
  unfold f_X3_findFor at hF
  refine mj_of (ls := [(0, .ref (G.2.1 40)), (1, .int p1)]) (by decide) (Nat.le_of_ble_eq_true rfl) rfl (fun p e s m args below meth c C hr hlk => ?_)
  refine mj_aload_n C dX3_findFor_0 rfl ?_
  refine mj_aload_n C dX3_findFor_1 rfl ?_
  refine mg_X3_41 C dX3_findFor_2 ?_
  refine mj_iload_n C dX3_findFor_5 rfl ?_
  obtain ⟨r1, hq1, hF⟩ := mj_ob hF
  refine mj_callVi C (c_X5_heightOf σ p1 r1 hq1) yv_X5_heightOf kl_X3_67 (mo_35 G _) rfl rfl rfl rfl (Nat.le_of_ble_eq_true rfl) (mj_roomC (by decide) (by decide)) ⟨Nat.zero_le _, Nat.zero_le _⟩ dX3_findFor_6 ?_
  refine mj_aload_n C dX3_findFor_9 rfl ?_
  refine mg_X3_41 C dX3_findFor_10 ?_
  refine mj_iload_n C dX3_findFor_13 rfl ?_
  obtain ⟨r2, hq2, hF⟩ := mj_ob hF
  refine mj_callVi C (c_X5_nameOf σ p1 r2 hq2) yv_X5_nameOf kl_X3_72 (mo_35 G _) rfl rfl rfl rfl (Nat.le_of_ble_eq_true rfl) (mj_roomC (by decide) (by decide)) ⟨Nat.zero_le _, Nat.zero_le _⟩ dX3_findFor_14 ?_
  refine mj_aload_n C dX3_findFor_17 rfl ?_
  refine mg_X3_41 C dX3_findFor_18 ?_
  refine mj_iload_n C dX3_findFor_21 rfl ?_
  obtain ⟨r3, hq3, hF⟩ := mj_ob hF
  refine mj_callVi C (c_X5_monthOf σ p1 r3 hq3) yv_X5_monthOf kl_X3_75 (mo_35 G _) rfl rfl rfl rfl (Nat.le_of_ble_eq_true rfl) (mj_roomC (by decide) (by decide)) ⟨Nat.zero_le _, Nat.zero_le _⟩ dX3_findFor_22 ?_
  refine mj_aload_n C dX3_findFor_25 rfl ?_
  refine mg_X3_41 C dX3_findFor_26 ?_
  refine mj_iload_n C dX3_findFor_29 rfl ?_
  obtain ⟨r4, hq4, hF⟩ := mj_ob hF
  refine mj_callVi C (c_X5_wayOf σ p1 r4 hq4) yv_X5_wayOf kl_X3_78 (mo_35 G _) rfl rfl rfl rfl (Nat.le_of_ble_eq_true rfl) (mj_roomC (by decide) (by decide)) ⟨Nat.zero_le _, Nat.zero_le _⟩ dX3_findFor_30 ?_
  obtain ⟨r5, hq5, hF⟩ := mj_ob hF
  refine mj_callVi C (c_X3_find σ r1 r2 r3 r4 r5 hq5) yv_X3_find kl_X3_81 (mo_40 G _) rfl rfl rfl rfl (Nat.le_of_ble_eq_true rfl) (mj_roomC (by decide) (by decide)) ⟨Nat.zero_le _, Nat.zero_le _⟩ dX3_findFor_33 ?_
  have hF := mj_oi hF; subst hF
  exact mj_zbret C hr hlk dX3_findFor_36
set_option maxRecDepth 100000 in
set_option maxHeartbeats 4000000 in
theorem w_X3_leadingTo_4 {p : Program} {l : Launch} {e : Env} {s : State} {m : MethodId} {args : Array Value} {below : List Frame} {meth : Method} {c : Code} {G : mj_G} (C : mj_X p s m args meth c G cX3_leadingTo 4 RX3) (hr : meth.sig.returnType = some .int) (hlk : meth.locks = false) : ∀ (n : Nat) (v1 : Int32) (v2 : Int32) (v3 : Int32) (σ : mj_S) (R : (Int32 × mj_S)), b_X3_leadingTo_4 n v1 v2 v3 σ = some R → mj_W p l e (mj_rm 6) s m args below meth c G 0 0 4 (MQ below (mj_Q G (some (.int R.1)) R.2) args s 0 0 G.2.2.2) 4 [(0, .ref (G.2.1 40)), (1, .int v1), (2, .int v2), (3, .int v3)] [] σ := by
  intro n
  induction n with
  | zero =>
    intro v1 v2 v3 σ R hF
    cases hF
  | succ n ih =>
    intro v1 v2 v3 σ R hF
    rw [b_X3_leadingTo_4] at hF
    refine mj_iload_n C dX3_leadingTo_4 rfl ?_
    refine mj_aload_n C dX3_leadingTo_5 rfl ?_
    refine mg_X3_41 C dX3_leadingTo_6 ?_
    refine mj_callVi C (c_X5_size σ) yv_X5_size kl_X3_100 (mo_35 G _) rfl rfl rfl rfl (Nat.le_of_ble_eq_true rfl) (mj_roomC (by decide) (by decide)) ⟨Nat.zero_le _, Nat.zero_le _⟩ dX3_leadingTo_9 ?_
    refine mj_ic_ge C dX3_leadingTo_12 rfl hF (fun hc1 hF => ?_) (fun hc1 hF => ?_)
    · refine mj_iload_n C dX3_leadingTo_40 rfl ?_
      have hF := mj_oi hF; subst hF
      exact mj_iret C hr hlk dX3_leadingTo_41
    · refine mj_aload_n C dX3_leadingTo_15 rfl ?_
      refine mj_iload_n C dX3_leadingTo_16 rfl ?_
      obtain ⟨r2, hq2, hF⟩ := mj_ob hF
      refine mj_callVi C (c_X3_findFor σ v3 r2 hq2) yv_X3_findFor kl_X3_101 (mo_40 G _) rfl rfl rfl rfl (Nat.le_of_ble_eq_true rfl) (mj_roomC (by decide) (by decide)) ⟨Nat.zero_le _, Nat.zero_le _⟩ dX3_leadingTo_17 ?_
      refine mj_if_eq C dX3_leadingTo_20 rfl hF (fun hc3 hF => ?_) (fun hc3 hF => ?_)
      · refine mj_iinc (v := v3 + 1) C dX3_leadingTo_34 rfl rfl (by decide) ?_
        refine mj_goto C dX3_leadingTo_37 rfl ?_
        refine mj_to ?_ (ih v1 v2 (v3 + 1) r2.2 R hF)
        exact ⟨rfl, rfl, rfl, rfl, trivial⟩
      · refine mj_aload_n C dX3_leadingTo_23 rfl ?_
        refine mg_X3_9 C dX3_leadingTo_24 ?_
        refine mj_iload_n C dX3_leadingTo_27 rfl ?_
        refine mj_ic_ne C dX3_leadingTo_28 rfl hF (fun hc4 hF => ?_) (fun hc4 hF => ?_)
        · refine mj_iinc (v := v3 + 1) C dX3_leadingTo_34 rfl rfl (by decide) ?_
          refine mj_goto C dX3_leadingTo_37 rfl ?_
          refine mj_to ?_ (ih v1 v2 (v3 + 1) r2.2 R hF)
          exact ⟨rfl, rfl, rfl, rfl, trivial⟩
        · refine mj_iinc (v := v2 + 1) C dX3_leadingTo_31 rfl rfl (by decide) ?_
          refine mj_iinc (v := v3 + 1) C dX3_leadingTo_34 rfl rfl (by decide) ?_
          refine mj_goto C dX3_leadingTo_37 rfl ?_
          refine mj_to ?_ (ih v1 (v2 + 1) (v3 + 1) r2.2 R hF)
          exact ⟨rfl, rfl, rfl, rfl, trivial⟩
set_option maxRecDepth 100000 in
set_option maxHeartbeats 4000000 in
theorem c_X3_leadingTo {G : mj_G} {l : Launch} (σ : mj_S) (p1 : Int32) (R : (Int32 × mj_S)) (hF : f_X3_leadingTo σ p1 = some R) : mj_C G l yX3_leadingTo cX3_leadingTo 4 (some .int) 6 [.ref (G.2.1 40), .int p1] σ (some (.int R.1)) R.2 := by
  unfold f_X3_leadingTo at hF
  refine mj_of (ls := [(0, .ref (G.2.1 40)), (1, .int p1)]) (by decide) (Nat.le_of_ble_eq_true rfl) rfl (fun p e s m args below meth c C hr hlk => ?_)
  refine mj_iconstV (v := 0) C dX3_leadingTo_0 mc_i_0 ?_
  refine mj_istore_n C dX3_leadingTo_1 (by decide) ?_
  refine mj_iconstV (v := 0) C dX3_leadingTo_2 mc_i_0 ?_
  refine mj_istore_n C dX3_leadingTo_3 (by decide) ?_
  refine mj_to ?_ (w_X3_leadingTo_4 C hr hlk mj_fu p1 0 0 σ R hF)
  exact ⟨rfl, rfl, rfl, rfl, trivial⟩
set_option maxRecDepth 100000 in
set_option maxHeartbeats 4000000 in
theorem w_X3_weight_45 {p : Program} {l : Launch} {e : Env} {s : State} {m : MethodId} {args : Array Value} {below : List Frame} {meth : Method} {c : Code} {G : mj_G} {σ : mj_S} (C : mj_X p s m args meth c G cX3_weight 6 RX3) (hr : meth.sig.returnType = some .int) (hlk : meth.locks = false) : ∀ (v1 : Int32) (v2 : Int32) (v4 : Int32) (R : Int32), b_X3_weight_45 σ v1 v2 v4 = some R → mj_W p l e (mj_rm 4) s m args below meth c G 0 0 6 (MQ below (mj_Q G (some (.int R)) σ) args s 0 0 G.2.2.2) 45 [(0, .ref (G.2.1 40)), (1, .int v1), (2, .int v2), (4, .int v4)] [] σ := by
  intro v1 v2 v4 R hF
  unfold b_X3_weight_45 at hF
  refine mj_aload_n C dX3_weight_45 rfl ?_
  refine mj_aload_n C dX3_weight_46 rfl ?_
  refine mg_X3_41 C dX3_weight_47 ?_
  refine mj_iload_n C dX3_weight_50 rfl ?_
  obtain ⟨r5, hq5, hF⟩ := mj_ob hF
  refine mj_callVi C (c_X5_heightOf σ v1 r5 hq5) yv_X5_heightOf kl_X3_67 (mo_35 G _) rfl rfl rfl rfl (Nat.le_of_ble_eq_true rfl) (mj_roomC (by decide) (by decide)) ⟨Nat.zero_le _, Nat.zero_le _⟩ dX3_weight_51 ?_
  refine mj_iload_n C dX3_weight_54 rfl ?_
  refine mj_iload C dX3_weight_55 rfl ?_
  refine mj_aload_n C dX3_weight_57 rfl ?_
  refine mg_X3_41 C dX3_weight_58 ?_
  refine mj_iload_n C dX3_weight_61 rfl ?_
  obtain ⟨r6, hq6, hF⟩ := mj_ob hF
  refine mj_callVi C (c_X5_wayOf σ v1 r6 hq6) yv_X5_wayOf kl_X3_78 (mo_35 G _) rfl rfl rfl rfl (Nat.le_of_ble_eq_true rfl) (mj_roomC (by decide) (by decide)) ⟨Nat.zero_le _, Nat.zero_le _⟩ dX3_weight_62 ?_
  obtain ⟨r7, hq7, hF⟩ := mj_ob hF
  refine mj_callVi C (c_X3_distance σ r5 v2 v4 r6 r7 hq7) yv_X3_distance kl_X3_96 (mo_40 G _) rfl rfl rfl rfl (Nat.le_of_ble_eq_true rfl) (mj_roomC (by decide) (by decide)) ⟨Nat.zero_le _, Nat.zero_le _⟩ dX3_weight_65 ?_
  refine mj_istore C dX3_weight_68 (by decide) ?_
  refine mj_iload C dX3_weight_70 rfl ?_
  refine mj_if_ge C dX3_weight_72 rfl hF (fun hc8 hF => ?_) (fun hc8 hF => ?_)
  · refine mj_sipushV (v := 10000) C dX3_weight_79 mc_s_10000 ?_
    refine mj_iconstV (v := 1) C dX3_weight_82 mc_i_1 ?_
    refine mj_iload C dX3_weight_83 rfl ?_
    refine mj_iadd C dX3_weight_85 ?_
    obtain ⟨hz9, hF⟩ := mj_oz hF
    refine mj_idiv C dX3_weight_86 hz9 ?_
    have hF := mj_oi hF; subst hF
    exact mj_iret C hr hlk dX3_weight_87
  · refine mj_iconstV (v := 0) C dX3_weight_75 mc_i_0 ?_
    refine mj_goto C dX3_weight_76 rfl ?_
    have hF := mj_oi hF; subst hF
    exact mj_iret C hr hlk dX3_weight_87
set_option maxRecDepth 100000 in
set_option maxHeartbeats 4000000 in
theorem c_X3_weight {G : mj_G} {l : Launch} (σ : mj_S) (p1 : Int32) (p2 : Int32) (R : Int32) (hF : f_X3_weight σ p1 p2 = some R) : mj_C G l yX3_weight cX3_weight 6 (some .int) 4 [.ref (G.2.1 40), .int p1, .int p2] σ (some (.int R)) σ := by
  unfold f_X3_weight at hF
  refine mj_of (ls := [(0, .ref (G.2.1 40)), (1, .int p1), (2, .int p2)]) (by decide) (Nat.le_of_ble_eq_true rfl) rfl (fun p e s m args below meth c C hr hlk => ?_)
  refine mj_aload_n C dX3_weight_0 rfl ?_
  refine mg_X3_41 C dX3_weight_1 ?_
  refine mj_iload_n C dX3_weight_4 rfl ?_
  obtain ⟨r1, hq1, hF⟩ := mj_ob hF
  refine mj_callVi C (c_X5_nameOf σ p1 r1 hq1) yv_X5_nameOf kl_X3_72 (mo_35 G _) rfl rfl rfl rfl (Nat.le_of_ble_eq_true rfl) (mj_roomC (by decide) (by decide)) ⟨Nat.zero_le _, Nat.zero_le _⟩ dX3_weight_5 ?_
  refine mj_istore_n C dX3_weight_8 (by decide) ?_
  refine mj_aload_n C dX3_weight_9 rfl ?_
  refine mg_X3_41 C dX3_weight_10 ?_
  refine mj_iload_n C dX3_weight_13 rfl ?_
  obtain ⟨r2, hq2, hF⟩ := mj_ob hF
  refine mj_callVi C (c_X5_monthOf σ p1 r2 hq2) yv_X5_monthOf kl_X3_75 (mo_35 G _) rfl rfl rfl rfl (Nat.le_of_ble_eq_true rfl) (mj_roomC (by decide) (by decide)) ⟨Nat.zero_le _, Nat.zero_le _⟩ dX3_weight_14 ?_
  refine mj_istore C dX3_weight_17 (by decide) ?_
  refine mj_iload C dX3_weight_19 rfl ?_
  refine mj_callNi C (c_X9_isMonth σ r2) ys_X9_isMonth kn_X3_85 rfl rfl (Nat.le_of_ble_eq_true rfl) (mj_roomC (by decide) (by decide)) ⟨Nat.zero_le _, Nat.zero_le _⟩ dX3_weight_21 ?_
  refine mj_if_eq C dX3_weight_24 rfl hF (fun hc3 hF => ?_) (fun hc3 hF => ?_)
  · refine mj_iconstV (v := 0) C dX3_weight_43 mc_i_0 ?_
    have hF := mj_oi hF; subst hF
    exact mj_iret C hr hlk dX3_weight_44
  · refine mj_aload_n C dX3_weight_27 rfl ?_
    refine mg_X3_37 C dX3_weight_28 ?_
    refine mj_iload_n C dX3_weight_31 rfl ?_
    refine mj_callVi C (c_X2_has σ r1) yv_X2_has kl_X3_89 (mo_9 G _) rfl rfl rfl rfl (Nat.le_of_ble_eq_true rfl) (mj_roomC (by decide) (by decide)) ⟨Nat.zero_le _, Nat.zero_le _⟩ dX3_weight_32 ?_
    refine mj_if_eq C dX3_weight_35 rfl hF (fun hc4 hF => ?_) (fun hc4 hF => ?_)
    · refine mj_to ?_ (w_X3_weight_45 C hr hlk p1 p2 r2 R hF)
      exact ⟨rfl, rfl, rfl, rfl, trivial⟩
    · refine mj_iload_n C dX3_weight_38 rfl ?_
      refine mj_iload_n C dX3_weight_39 rfl ?_
      refine mj_ic_eq C dX3_weight_40 rfl hF (fun hc10 hF => ?_) (fun hc10 hF => ?_)
      · refine mj_to ?_ (w_X3_weight_45 C hr hlk p1 p2 r2 R hF)
        exact ⟨rfl, rfl, rfl, rfl, trivial⟩
      · refine mj_iconstV (v := 0) C dX3_weight_43 mc_i_0 ?_
        have hF := mj_oi hF; subst hF
        exact mj_iret C hr hlk dX3_weight_44
set_option maxRecDepth 100000 in
set_option maxHeartbeats 4000000 in
theorem w_X3_chance_8 {p : Program} {l : Launch} {e : Env} {s : State} {m : MethodId} {args : Array Value} {below : List Frame} {meth : Method} {c : Code} {G : mj_G} {σ : mj_S} (C : mj_X p s m args meth c G cX3_chance 7 RX3) (hr : meth.sig.returnType = some .int) (hlk : meth.locks = false) : ∀ (n : Nat) (v1 : Int32) (v2 : Int32) (v3 : Int32) (v4 : Int32) (v5 : Int32) (R : Int32), b_X3_chance_8 σ n v1 v2 v3 v4 v5 = some R → mj_W p l e (mj_rm 5) s m args below meth c G 0 0 7 (MQ below (mj_Q G (some (.int R)) σ) args s 0 0 G.2.2.2) 8 [(0, .ref (G.2.1 40)), (1, .int v1), (2, .int v2), (3, .int v3), (4, .int v4), (5, .int v5)] [] σ := by
  intro n
  induction n with
  | zero =>
    intro v1 v2 v3 v4 v5 R hF
    cases hF
  | succ n ih =>
    intro v1 v2 v3 v4 v5 R hF
    rw [b_X3_chance_8] at hF
    refine mj_iload C dX3_chance_8 rfl ?_
    refine mj_aload_n C dX3_chance_10 rfl ?_
    refine mg_X3_37 C dX3_chance_11 ?_
    refine mj_callVi C (c_X2_size σ) yv_X2_size kl_X3_92 (mo_9 G _) rfl rfl rfl rfl (Nat.le_of_ble_eq_true rfl) (mj_roomC (by decide) (by decide)) ⟨Nat.zero_le _, Nat.zero_le _⟩ dX3_chance_14 ?_
    refine mj_ic_ge C dX3_chance_17 rfl hF (fun hc1 hF => ?_) (fun hc1 hF => ?_)
    · refine mj_iload C dX3_chance_51 rfl ?_
      refine mj_if_ne C dX3_chance_53 rfl hF (fun hc2 hF => ?_) (fun hc2 hF => ?_)
      · refine mj_sipushV (v := 1000) C dX3_chance_61 mc_s_1000 ?_
        refine mj_iload_n C dX3_chance_64 rfl ?_
        refine mj_imul C dX3_chance_65 ?_
        refine mj_iload C dX3_chance_66 rfl ?_
        obtain ⟨hz3, hF⟩ := mj_oz hF
        refine mj_idiv C dX3_chance_68 hz3 ?_
        have hF := mj_oi hF; subst hF
        exact mj_iret C hr hlk dX3_chance_69
      · refine mj_bipushV (v := (-2)) C dX3_chance_56 mc_b_m2 ?_
        refine mj_goto C dX3_chance_58 rfl ?_
        have hF := mj_oi hF; subst hF
        exact mj_iret C hr hlk dX3_chance_69
    · refine mj_aload_n C dX3_chance_20 rfl ?_
      refine mj_iload_n C dX3_chance_21 rfl ?_
      refine mj_iload C dX3_chance_22 rfl ?_
      obtain ⟨r4, hq4, hF⟩ := mj_ob hF
      refine mj_callVi C (c_X3_weight σ v1 v5 r4 hq4) yv_X3_weight kl_X3_104 (mo_40 G _) rfl rfl rfl rfl (Nat.le_of_ble_eq_true rfl) (mj_roomC (by decide) (by decide)) ⟨Nat.zero_le _, Nat.zero_le _⟩ dX3_chance_24 ?_
      refine mj_istore C dX3_chance_27 (by decide) ?_
      refine mj_iload C dX3_chance_29 rfl ?_
      refine mj_iload C dX3_chance_31 rfl ?_
      refine mj_iadd C dX3_chance_33 ?_
      refine mj_istore C dX3_chance_34 (by decide) ?_
      refine mj_iload C dX3_chance_36 rfl ?_
      refine mj_iload_n C dX3_chance_38 rfl ?_
      refine mj_ic_ne C dX3_chance_39 rfl hF (fun hc5 hF => ?_) (fun hc5 hF => ?_)
      · refine mj_iinc (v := v5 + 1) C dX3_chance_45 rfl rfl (by decide) ?_
        refine mj_goto C dX3_chance_48 rfl ?_
        refine mj_to ?_ (ih v1 v2 v3 (v4 + r4) (v5 + 1) R hF)
        exact ⟨rfl, rfl, rfl, rfl, rfl, rfl, trivial⟩
      · refine mj_iload C dX3_chance_42 rfl ?_
        refine mj_istore_n C dX3_chance_44 (by decide) ?_
        refine mj_iinc (v := v5 + 1) C dX3_chance_45 rfl rfl (by decide) ?_
        refine mj_goto C dX3_chance_48 rfl ?_
        refine mj_to ?_ (ih v1 v2 r4 (v4 + r4) (v5 + 1) R hF)
        exact ⟨rfl, rfl, rfl, rfl, rfl, rfl, trivial⟩
set_option maxRecDepth 100000 in
set_option maxHeartbeats 4000000 in
theorem c_X3_chance {G : mj_G} {l : Launch} (σ : mj_S) (p1 : Int32) (p2 : Int32) (R : Int32) (hF : f_X3_chance σ p1 p2 = some R) : mj_C G l yX3_chance cX3_chance 7 (some .int) 5 [.ref (G.2.1 40), .int p1, .int p2] σ (some (.int R)) σ := by
  unfold f_X3_chance at hF
  refine mj_of (ls := [(0, .ref (G.2.1 40)), (1, .int p1), (2, .int p2)]) (by decide) (Nat.le_of_ble_eq_true rfl) rfl (fun p e s m args below meth c C hr hlk => ?_)
  refine mj_iconstV (v := 0) C dX3_chance_0 mc_i_0 ?_
  refine mj_istore_n C dX3_chance_1 (by decide) ?_
  refine mj_iconstV (v := 0) C dX3_chance_2 mc_i_0 ?_
  refine mj_istore C dX3_chance_3 (by decide) ?_
  refine mj_iconstV (v := 0) C dX3_chance_5 mc_i_0 ?_
  refine mj_istore C dX3_chance_6 (by decide) ?_
  refine mj_to ?_ (w_X3_chance_8 C hr hlk mj_fu p1 p2 0 0 0 R hF)
  exact ⟨rfl, rfl, rfl, rfl, rfl, rfl, trivial⟩
set_option maxRecDepth 100000 in
set_option maxHeartbeats 4000000 in
theorem c_X3_foundDistanceBy {G : mj_G} {l : Launch} (σ : mj_S) (p1 : Int32) (p2 : Int32) (R : Int32) (hF : f_X3_foundDistanceBy σ p1 p2 = some R) : mj_C G l yX3_foundDistanceBy cX3_foundDistanceBy 3 (some .int) 4 [.ref (G.2.1 40), .int p1, .int p2] σ (some (.int R)) σ := by
  unfold f_X3_foundDistanceBy at hF
  refine mj_of (ls := [(0, .ref (G.2.1 40)), (1, .int p1), (2, .int p2)]) (by decide) (Nat.le_of_ble_eq_true rfl) rfl (fun p e s m args below meth c C hr hlk => ?_)
  refine mj_aload_n C dX3_foundDistanceBy_0 rfl ?_
  refine mj_aload_n C dX3_foundDistanceBy_1 rfl ?_
  refine mg_X3_41 C dX3_foundDistanceBy_2 ?_
  refine mj_iload_n C dX3_foundDistanceBy_5 rfl ?_
  obtain ⟨r1, hq1, hF⟩ := mj_ob hF
  refine mj_callVi C (c_X5_heightOf σ p1 r1 hq1) yv_X5_heightOf kl_X3_67 (mo_35 G _) rfl rfl rfl rfl (Nat.le_of_ble_eq_true rfl) (mj_roomC (by decide) (by decide)) ⟨Nat.zero_le _, Nat.zero_le _⟩ dX3_foundDistanceBy_6 ?_
  refine mj_aload_n C dX3_foundDistanceBy_9 rfl ?_
  refine mg_X3_9 C dX3_foundDistanceBy_10 ?_
  refine mj_aload_n C dX3_foundDistanceBy_13 rfl ?_
  refine mg_X3_15 C dX3_foundDistanceBy_14 ?_
  refine mj_iload_n C dX3_foundDistanceBy_17 rfl ?_
  obtain ⟨r2, hq2, hF⟩ := mj_ob hF
  refine mj_callVi C (c_X3_distance σ r1 (σ.1 40 2) (σ.1 40 3) p2 r2 hq2) yv_X3_distance kl_X3_96 (mo_40 G _) rfl rfl rfl rfl (Nat.le_of_ble_eq_true rfl) (mj_roomC (by decide) (by decide)) ⟨Nat.zero_le _, Nat.zero_le _⟩ dX3_foundDistanceBy_18 ?_
  have hF := mj_oi hF; subst hF
  exact mj_iret C hr hlk dX3_foundDistanceBy_21
set_option maxRecDepth 100000 in
set_option maxHeartbeats 4000000 in
theorem w_X3_likeliestWay_4 {p : Program} {l : Launch} {e : Env} {s : State} {m : MethodId} {args : Array Value} {below : List Frame} {meth : Method} {c : Code} {G : mj_G} {σ : mj_S} (C : mj_X p s m args meth c G cX3_likeliestWay 4 RX3) (hr : meth.sig.returnType = some .int) (hlk : meth.locks = false) : ∀ (n : Nat) (v1 : Int32) (v2 : Int32) (v3 : Int32) (R : Int32), b_X3_likeliestWay_4 σ n v1 v2 v3 = some R → mj_W p l e (mj_rm 5) s m args below meth c G 0 0 4 (MQ below (mj_Q G (some (.int R)) σ) args s 0 0 G.2.2.2) 4 [(0, .ref (G.2.1 40)), (1, .int v1), (2, .int v2), (3, .int v3)] [] σ := by
  intro n
  induction n with
  | zero =>
    intro v1 v2 v3 R hF
    cases hF
  | succ n ih =>
    intro v1 v2 v3 R hF
    rw [b_X3_likeliestWay_4] at hF
    refine mj_iload_n C dX3_likeliestWay_4 rfl ?_
    refine mj_iconstV (v := 4) C dX3_likeliestWay_5 mc_i_4 ?_
    refine mj_ic_gt C dX3_likeliestWay_6 rfl hF (fun hc1 hF => ?_) (fun hc1 hF => ?_)
    · refine mj_iload_n C dX3_likeliestWay_32 rfl ?_
      have hF := mj_oi hF; subst hF
      exact mj_iret C hr hlk dX3_likeliestWay_33
    · refine mj_aload_n C dX3_likeliestWay_9 rfl ?_
      refine mj_iload_n C dX3_likeliestWay_10 rfl ?_
      refine mj_iload_n C dX3_likeliestWay_11 rfl ?_
      obtain ⟨r2, hq2, hF⟩ := mj_ob hF
      refine mj_callVi C (c_X3_foundDistanceBy σ v1 v3 r2 hq2) yv_X3_foundDistanceBy kl_X3_107 (mo_40 G _) rfl rfl rfl rfl (Nat.le_of_ble_eq_true rfl) (mj_roomC (by decide) (by decide)) ⟨Nat.zero_le _, Nat.zero_le _⟩ dX3_likeliestWay_12 ?_
      refine mj_aload_n C dX3_likeliestWay_15 rfl ?_
      refine mj_iload_n C dX3_likeliestWay_16 rfl ?_
      refine mj_iload_n C dX3_likeliestWay_17 rfl ?_
      obtain ⟨r3, hq3, hF⟩ := mj_ob hF
      refine mj_callVi C (c_X3_foundDistanceBy σ v1 v2 r3 hq3) yv_X3_foundDistanceBy kl_X3_107 (mo_40 G _) rfl rfl rfl rfl (Nat.le_of_ble_eq_true rfl) (mj_roomC (by decide) (by decide)) ⟨Nat.zero_le _, Nat.zero_le _⟩ dX3_likeliestWay_18 ?_
      refine mj_ic_ge C dX3_likeliestWay_21 rfl hF (fun hc4 hF => ?_) (fun hc4 hF => ?_)
      · refine mj_iinc (v := v3 + 1) C dX3_likeliestWay_26 rfl rfl (by decide) ?_
        refine mj_goto C dX3_likeliestWay_29 rfl ?_
        refine mj_to ?_ (ih v1 v2 (v3 + 1) R hF)
        exact ⟨rfl, rfl, rfl, rfl, trivial⟩
      · refine mj_iload_n C dX3_likeliestWay_24 rfl ?_
        refine mj_istore_n C dX3_likeliestWay_25 (by decide) ?_
        refine mj_iinc (v := v3 + 1) C dX3_likeliestWay_26 rfl rfl (by decide) ?_
        refine mj_goto C dX3_likeliestWay_29 rfl ?_
        refine mj_to ?_ (ih v1 v3 (v3 + 1) R hF)
        exact ⟨rfl, rfl, rfl, rfl, trivial⟩
set_option maxRecDepth 100000 in
set_option maxHeartbeats 4000000 in
theorem c_X3_likeliestWay {G : mj_G} {l : Launch} (σ : mj_S) (p1 : Int32) (R : Int32) (hF : f_X3_likeliestWay σ p1 = some R) : mj_C G l yX3_likeliestWay cX3_likeliestWay 4 (some .int) 5 [.ref (G.2.1 40), .int p1] σ (some (.int R)) σ := by
  unfold f_X3_likeliestWay at hF
  refine mj_of (ls := [(0, .ref (G.2.1 40)), (1, .int p1)]) (by decide) (Nat.le_of_ble_eq_true rfl) rfl (fun p e s m args below meth c C hr hlk => ?_)
  refine mj_iconstV (v := 0) C dX3_likeliestWay_0 mc_i_0 ?_
  refine mj_istore_n C dX3_likeliestWay_1 (by decide) ?_
  refine mj_iconstV (v := 1) C dX3_likeliestWay_2 mc_i_1 ?_
  refine mj_istore_n C dX3_likeliestWay_3 (by decide) ?_
  refine mj_to ?_ (w_X3_likeliestWay_4 C hr hlk mj_fu p1 0 1 R hF)
  exact ⟨rfl, rfl, rfl, rfl, trivial⟩
set_option maxRecDepth 100000 in
set_option maxHeartbeats 4000000 in
theorem c_X3_wrongWay {G : mj_G} {l : Launch} (σ : mj_S) (p1 : Int32) (R : Int32) (hF : f_X3_wrongWay σ p1 = some R) : mj_C G l yX3_wrongWay cX3_wrongWay 3 (some .int) 6 [.ref (G.2.1 40), .int p1] σ (some (.int R)) σ := by
  unfold f_X3_wrongWay at hF
  refine mj_of (ls := [(0, .ref (G.2.1 40)), (1, .int p1)]) (by decide) (Nat.le_of_ble_eq_true rfl) rfl (fun p e s m args below meth c C hr hlk => ?_)
  refine mj_aload_n C dX3_wrongWay_0 rfl ?_
  refine mj_iload_n C dX3_wrongWay_1 rfl ?_
  refine mj_aload_n C dX3_wrongWay_2 rfl ?_
  refine mj_iload_n C dX3_wrongWay_3 rfl ?_
  obtain ⟨r1, hq1, hF⟩ := mj_ob hF
  refine mj_callVi C (c_X3_likeliestWay σ p1 r1 hq1) yv_X3_likeliestWay kl_X3_110 (mo_40 G _) rfl rfl rfl rfl (Nat.le_of_ble_eq_true rfl) (mj_roomC (by decide) (by decide)) ⟨Nat.zero_le _, Nat.zero_le _⟩ dX3_wrongWay_4 ?_
  obtain ⟨r2, hq2, hF⟩ := mj_ob hF
  refine mj_callVi C (c_X3_foundDistanceBy σ p1 r1 r2 hq2) yv_X3_foundDistanceBy kl_X3_107 (mo_40 G _) rfl rfl rfl rfl (Nat.le_of_ble_eq_true rfl) (mj_roomC (by decide) (by decide)) ⟨Nat.zero_le _, Nat.zero_le _⟩ dX3_wrongWay_7 ?_
  refine mj_istore_n C dX3_wrongWay_10 (by decide) ?_
  refine mj_aload_n C dX3_wrongWay_11 rfl ?_
  refine mj_iload_n C dX3_wrongWay_12 rfl ?_
  refine mj_aload_n C dX3_wrongWay_13 rfl ?_
  refine mg_X3_41 C dX3_wrongWay_14 ?_
  refine mj_iload_n C dX3_wrongWay_17 rfl ?_
  obtain ⟨r3, hq3, hF⟩ := mj_ob hF
  refine mj_callVi C (c_X5_wayOf σ p1 r3 hq3) yv_X5_wayOf kl_X3_78 (mo_35 G _) rfl rfl rfl rfl (Nat.le_of_ble_eq_true rfl) (mj_roomC (by decide) (by decide)) ⟨Nat.zero_le _, Nat.zero_le _⟩ dX3_wrongWay_18 ?_
  obtain ⟨r4, hq4, hF⟩ := mj_ob hF
  refine mj_callVi C (c_X3_foundDistanceBy σ p1 r3 r4 hq4) yv_X3_foundDistanceBy kl_X3_107 (mo_40 G _) rfl rfl rfl rfl (Nat.le_of_ble_eq_true rfl) (mj_roomC (by decide) (by decide)) ⟨Nat.zero_le _, Nat.zero_le _⟩ dX3_wrongWay_21 ?_
  refine mj_iload_n C dX3_wrongWay_24 rfl ?_
  refine mj_isub C dX3_wrongWay_25 ?_
  refine mj_bipushV (v := 32) C dX3_wrongWay_26 mc_b_32 ?_
  refine mj_ic_lt C dX3_wrongWay_28 rfl hF (fun hc5 hF => ?_) (fun hc5 hF => ?_)
  · refine mj_iconstV (v := 0) C dX3_wrongWay_35 mc_i_0 ?_
    have hF := mj_oi hF; subst hF
    exact mj_iret C hr hlk dX3_wrongWay_36
  · refine mj_iconstV (v := 1) C dX3_wrongWay_31 mc_i_1 ?_
    refine mj_goto C dX3_wrongWay_32 rfl ?_
    have hF := mj_oi hF; subst hF
    exact mj_iret C hr hlk dX3_wrongWay_36
set_option maxRecDepth 100000 in
set_option maxHeartbeats 4000000 in
theorem w_X3_gather_7 {p : Program} {l : Launch} {e : Env} {s : State} {m : MethodId} {args : Array Value} {below : List Frame} {meth : Method} {c : Code} {G : mj_G} (C : mj_X p s m args meth c G cX3_gather 3 RX3) (hr : meth.sig.returnType = some .int) (hlk : meth.locks = false) : ∀ (n : Nat) (v1 : Int32) (v2 : Int32) (σ : mj_S) (R : (Int32 × mj_S)), b_X3_gather_7 n v1 v2 σ = some R → mj_W p l e (mj_rm 3) s m args below meth c G 0 0 3 (MQ below (mj_Q G (some (.int R.1)) R.2) args s 0 0 G.2.2.2) 7 [(0, .ref (G.2.1 40)), (1, .int v1), (2, .int v2)] [] σ := by
  intro n
  induction n with
  | zero =>
    intro v1 v2 σ R hF
    cases hF
  | succ n ih =>
    intro v1 v2 σ R hF
    rw [b_X3_gather_7] at hF
    refine mj_iload_n C dX3_gather_7 rfl ?_
    refine mj_aload_n C dX3_gather_8 rfl ?_
    refine mg_X3_41 C dX3_gather_9 ?_
    refine mj_callVi C (c_X5_size σ) yv_X5_size kl_X3_100 (mo_35 G _) rfl rfl rfl rfl (Nat.le_of_ble_eq_true rfl) (mj_roomC (by decide) (by decide)) ⟨Nat.zero_le _, Nat.zero_le _⟩ dX3_gather_12 ?_
    refine mj_ic_ge C dX3_gather_15 rfl hF (fun hc1 hF => ?_) (fun hc1 hF => ?_)
    · refine mj_aload_n C dX3_gather_77 rfl ?_
      refine mg_X3_25 C dX3_gather_78 ?_
      have hF := mj_oi hF; subst hF
      exact mj_iret C hr hlk dX3_gather_81
    · refine mj_aload_n C dX3_gather_18 rfl ?_
      refine mg_X3_25 C dX3_gather_19 ?_
      refine mj_iconstV (v := 4) C dX3_gather_22 mc_i_4 ?_
      refine mj_ic_ge C dX3_gather_23 rfl hF (fun hc2 hF => ?_) (fun hc2 hF => ?_)
      · refine mj_aload_n C dX3_gather_77 rfl ?_
        refine mg_X3_25 C dX3_gather_78 ?_
        have hF := mj_oi hF; subst hF
        exact mj_iret C hr hlk dX3_gather_81
      · refine mj_aload_n C dX3_gather_26 rfl ?_
        refine mg_X3_41 C dX3_gather_27 ?_
        refine mj_iload_n C dX3_gather_30 rfl ?_
        obtain ⟨r3, hq3, hF⟩ := mj_ob hF
        refine mj_callVi C (c_X5_monthOf σ v2 r3 hq3) yv_X5_monthOf kl_X3_75 (mo_35 G _) rfl rfl rfl rfl (Nat.le_of_ble_eq_true rfl) (mj_roomC (by decide) (by decide)) ⟨Nat.zero_le _, Nat.zero_le _⟩ dX3_gather_31 ?_
        refine mj_iload_n C dX3_gather_34 rfl ?_
        refine mj_ic_ne C dX3_gather_35 rfl hF (fun hc4 hF => ?_) (fun hc4 hF => ?_)
        · refine mj_iinc (v := v2 + 1) C dX3_gather_71 rfl rfl (by decide) ?_
          refine mj_goto C dX3_gather_74 rfl ?_
          refine mj_to ?_ (ih v1 (v2 + 1) σ R hF)
          exact ⟨rfl, rfl, rfl, trivial⟩
        · refine mj_aload_n C dX3_gather_38 rfl ?_
          refine mg_X3_41 C dX3_gather_39 ?_
          refine mj_iload_n C dX3_gather_42 rfl ?_
          obtain ⟨r5, hq5, hF⟩ := mj_ob hF
          refine mj_callVi C (c_X5_nameOf σ v2 r5 hq5) yv_X5_nameOf kl_X3_72 (mo_35 G _) rfl rfl rfl rfl (Nat.le_of_ble_eq_true rfl) (mj_roomC (by decide) (by decide)) ⟨Nat.zero_le _, Nat.zero_le _⟩ dX3_gather_43 ?_
          refine mj_bipushV (v := 6) C dX3_gather_46 mc_b_6 ?_
          refine mj_ic_ne C dX3_gather_48 rfl hF (fun hc6 hF => ?_) (fun hc6 hF => ?_)
          · refine mj_iinc (v := v2 + 1) C dX3_gather_71 rfl rfl (by decide) ?_
            refine mj_goto C dX3_gather_74 rfl ?_
            refine mj_to ?_ (ih v1 (v2 + 1) σ R hF)
            exact ⟨rfl, rfl, rfl, trivial⟩
          · refine mj_aload_n C dX3_gather_51 rfl ?_
            refine mg_X3_21 C dX3_gather_52 ?_
            refine mj_aload_n C dX3_gather_55 rfl ?_
            refine mg_X3_25 C dX3_gather_56 ?_
            refine mj_iload_n C dX3_gather_59 rfl ?_
            obtain ⟨hg7, hF⟩ := mj_og hF
            refine mj_iastore C dX3_gather_60 rfl hg7 ?_
            refine mj_aload_n C dX3_gather_61 rfl ?_
            refine mj_dup C dX3_gather_62 rfl ?_
            refine mg_X3_25 C dX3_gather_63 ?_
            refine mj_iconstV (v := 1) C dX3_gather_66 mc_i_1 ?_
            refine mj_iadd C dX3_gather_67 ?_
            refine mp_X3_25 C dX3_gather_68 ?_
            refine mj_iinc (v := v2 + 1) C dX3_gather_71 rfl rfl (by decide) ?_
            refine mj_goto C dX3_gather_74 rfl ?_
            refine mj_to ?_ (ih v1 (v2 + 1) (mj_sI (mj_sI σ 41 (σ.1 40 6).toNatClampNeg v2) 40 6 ((σ.1 40 6) + 1)) R hF)
            exact ⟨rfl, rfl, rfl, trivial⟩
set_option maxRecDepth 100000 in
set_option maxHeartbeats 4000000 in
theorem c_X3_gather {G : mj_G} {l : Launch} (σ : mj_S) (p1 : Int32) (R : (Int32 × mj_S)) (hF : f_X3_gather σ p1 = some R) : mj_C G l yX3_gather cX3_gather 3 (some .int) 3 [.ref (G.2.1 40), .int p1] σ (some (.int R.1)) R.2 := by
  unfold f_X3_gather at hF
  refine mj_of (ls := [(0, .ref (G.2.1 40)), (1, .int p1)]) (by decide) (Nat.le_of_ble_eq_true rfl) rfl (fun p e s m args below meth c C hr hlk => ?_)
  refine mj_aload_n C dX3_gather_0 rfl ?_
  refine mj_iconstV (v := 0) C dX3_gather_1 mc_i_0 ?_
  refine mp_X3_25 C dX3_gather_2 ?_
  refine mj_iconstV (v := 0) C dX3_gather_5 mc_i_0 ?_
  refine mj_istore_n C dX3_gather_6 (by decide) ?_
  refine mj_to ?_ (w_X3_gather_7 C hr hlk mj_fu p1 0 (mj_sI σ 40 6 0) R hF)
  exact ⟨rfl, rfl, rfl, trivial⟩
set_option maxRecDepth 100000 in
set_option maxHeartbeats 4000000 in
theorem w_X3_sumOfRow_30 {p : Program} {l : Launch} {e : Env} {s : State} {m : MethodId} {args : Array Value} {below : List Frame} {meth : Method} {c : Code} {G : mj_G} (C : mj_X p s m args meth c G cX3_sumOfRow 10 RX3) (hr : meth.sig.returnType = some .int) (hlk : meth.locks = false) : ∀ (n : Nat) (v2 : Int32) (v3 : Int32) (v4 : Int32) (v5 : Int32) (v6 : Int32) (σ : mj_S) (R : (Int32 × mj_S)), b_X3_sumOfRow_30 n v2 v3 v4 v5 v6 σ = some R → mj_W p l e (mj_rm 4) s m args below meth c G 0 0 10 (MQ below (mj_Q G (some (.int R.1)) R.2) args s 0 0 G.2.2.2) 30 [(0, .ref (G.2.1 40)), (2, .int v2), (3, .int v3), (4, .int v4), (5, .int v5), (6, .int v6)] [] σ := by
  intro n
  induction n with
  | zero =>
    intro v2 v3 v4 v5 v6 σ R hF
    cases hF
  | succ n ih =>
    intro v2 v3 v4 v5 v6 σ R hF
    rw [b_X3_sumOfRow_30] at hF
    refine mj_iload C dX3_sumOfRow_30 rfl ?_
    refine mj_if_lt C dX3_sumOfRow_32 rfl hF (fun hc1 hF => ?_) (fun hc1 hF => ?_)
    · refine mj_iload C dX3_sumOfRow_126 rfl ?_
      have hF := mj_oi hF; subst hF
      exact mj_iret C hr hlk dX3_sumOfRow_128
    · refine mj_iload C dX3_sumOfRow_35 rfl ?_
      refine mj_iload_n C dX3_sumOfRow_37 rfl ?_
      obtain ⟨hz2, hF⟩ := mj_oz hF
      refine mj_irem C dX3_sumOfRow_38 hz2 ?_
      refine mj_istore C dX3_sumOfRow_39 (by decide) ?_
      refine mj_iload C dX3_sumOfRow_41 rfl ?_
      refine mj_iload_n C dX3_sumOfRow_43 rfl ?_
      obtain ⟨hz3, hF⟩ := mj_oz hF
      refine mj_idiv C dX3_sumOfRow_44 hz3 ?_
      refine mj_istore C dX3_sumOfRow_45 (by decide) ?_
      refine mj_aload_n C dX3_sumOfRow_47 rfl ?_
      refine mg_X3_21 C dX3_sumOfRow_48 ?_
      refine mj_iload C dX3_sumOfRow_51 rfl ?_
      obtain ⟨hg4, hF⟩ := mj_og hF
      refine mj_iaload C dX3_sumOfRow_53 rfl hg4 ?_
      refine mj_istore C dX3_sumOfRow_54 (by decide) ?_
      refine mj_aload_n C dX3_sumOfRow_56 rfl ?_
      refine mj_aload_n C dX3_sumOfRow_57 rfl ?_
      refine mg_X3_41 C dX3_sumOfRow_58 ?_
      refine mj_iload C dX3_sumOfRow_61 rfl ?_
      obtain ⟨r5, hq5, hF⟩ := mj_ob hF
      refine mj_callVi C (c_X5_heightOf σ (σ.1 41 v6.toNatClampNeg) r5 hq5) yv_X5_heightOf kl_X3_67 (mo_35 G _) rfl rfl rfl rfl (Nat.le_of_ble_eq_true rfl) (mj_roomC (by decide) (by decide)) ⟨Nat.zero_le _, Nat.zero_le _⟩ dX3_sumOfRow_63 ?_
      refine mj_iload C dX3_sumOfRow_66 rfl ?_
      refine mj_iload_n C dX3_sumOfRow_68 rfl ?_
      refine mj_aload_n C dX3_sumOfRow_69 rfl ?_
      refine mg_X3_41 C dX3_sumOfRow_70 ?_
      refine mj_iload C dX3_sumOfRow_73 rfl ?_
      obtain ⟨r6, hq6, hF⟩ := mj_ob hF
      refine mj_callVi C (c_X5_wayOf σ (σ.1 41 v6.toNatClampNeg) r6 hq6) yv_X5_wayOf kl_X3_78 (mo_35 G _) rfl rfl rfl rfl (Nat.le_of_ble_eq_true rfl) (mj_roomC (by decide) (by decide)) ⟨Nat.zero_le _, Nat.zero_le _⟩ dX3_sumOfRow_75 ?_
      obtain ⟨r7, hq7, hF⟩ := mj_ob hF
      refine mj_callVi C (c_X3_distance σ r5 (mj_rem v4 v3) v2 r6 r7 hq7) yv_X3_distance kl_X3_96 (mo_40 G _) rfl rfl rfl rfl (Nat.le_of_ble_eq_true rfl) (mj_roomC (by decide) (by decide)) ⟨Nat.zero_le _, Nat.zero_le _⟩ dX3_sumOfRow_78 ?_
      refine mj_istore C dX3_sumOfRow_81 (by decide) ?_
      refine mj_iload C dX3_sumOfRow_83 rfl ?_
      refine mj_bipushV (v := (-2)) C dX3_sumOfRow_85 mc_b_m2 ?_
      refine mj_ic_eq C dX3_sumOfRow_87 rfl hF (fun hc8 hF => ?_) (fun hc8 hF => ?_)
      · refine mj_bipushV (v := (-2)) C dX3_sumOfRow_101 mc_b_m2 ?_
        have hF := mj_oi hF; subst hF
        exact mj_iret C hr hlk dX3_sumOfRow_103
      · refine mj_aload_n C dX3_sumOfRow_90 rfl ?_
        refine mj_iload C dX3_sumOfRow_91 rfl ?_
        refine mj_iload C dX3_sumOfRow_93 rfl ?_
        obtain ⟨r9, hq9, hF⟩ := mj_ob hF
        refine mj_callVi C (c_X3_isTriedBehind σ v6 (mj_rem v4 v3) r9 hq9) yv_X3_isTriedBehind kl_X3_125 (mo_40 G _) rfl rfl rfl rfl (Nat.le_of_ble_eq_true rfl) (mj_roomC (by decide) (by decide)) ⟨Nat.zero_le _, Nat.zero_le _⟩ dX3_sumOfRow_95 ?_
        refine mj_if_eq C dX3_sumOfRow_98 rfl hF (fun hc10 hF => ?_) (fun hc10 hF => ?_)
        · refine mj_aload_n C dX3_sumOfRow_104 rfl ?_
          refine mg_X3_28 C dX3_sumOfRow_105 ?_
          refine mj_iload C dX3_sumOfRow_108 rfl ?_
          refine mj_iload C dX3_sumOfRow_110 rfl ?_
          obtain ⟨hg11, hF⟩ := mj_og hF
          refine mj_iastore C dX3_sumOfRow_112 rfl hg11 ?_
          refine mj_iload C dX3_sumOfRow_113 rfl ?_
          refine mj_iload C dX3_sumOfRow_115 rfl ?_
          refine mj_iadd C dX3_sumOfRow_117 ?_
          refine mj_istore C dX3_sumOfRow_118 (by decide) ?_
          refine mj_iinc (v := v6 + (-1)) C dX3_sumOfRow_120 rfl rfl (by decide) ?_
          refine mj_goto C dX3_sumOfRow_123 rfl ?_
          refine mj_to ?_ (ih v2 v3 (v4 / v3) (v5 + r7) (v6 + (-1)) (mj_sI σ 42 v6.toNatClampNeg (mj_rem v4 v3)) R hF)
          exact ⟨rfl, rfl, rfl, rfl, rfl, rfl, trivial⟩
        · refine mj_bipushV (v := (-2)) C dX3_sumOfRow_101 mc_b_m2 ?_
          have hF := mj_oi hF; subst hF
          exact mj_iret C hr hlk dX3_sumOfRow_103
set_option maxRecDepth 100000 in
set_option maxHeartbeats 4000000 in
theorem c_X3_sumOfRow {G : mj_G} {l : Launch} (σ : mj_S) (p1 : Int32) (p2 : Int32) (R : (Int32 × mj_S)) (hF : f_X3_sumOfRow σ p1 p2 = some R) : mj_C G l yX3_sumOfRow cX3_sumOfRow 10 (some .int) 4 [.ref (G.2.1 40), .int p1, .int p2] σ (some (.int R.1)) R.2 := by
  unfold f_X3_sumOfRow at hF
  refine mj_of (ls := [(0, .ref (G.2.1 40)), (1, .int p1), (2, .int p2)]) (by decide) (Nat.le_of_ble_eq_true rfl) rfl (fun p e s m args below meth c C hr hlk => ?_)
  refine mj_iconstV (v := 1) C dX3_sumOfRow_0 mc_i_1 ?_
  refine mj_aload_n C dX3_sumOfRow_1 rfl ?_
  refine mg_X3_37 C dX3_sumOfRow_2 ?_
  refine mj_callVi C (c_X2_size σ) yv_X2_size kl_X3_92 (mo_9 G _) rfl rfl rfl rfl (Nat.le_of_ble_eq_true rfl) (mj_roomC (by decide) (by decide)) ⟨Nat.zero_le _, Nat.zero_le _⟩ dX3_sumOfRow_5 ?_
  refine mj_mmax C kl_X3_64 (mj_room13 (by decide) (Nat.le_of_ble_eq_true rfl)) ⟨Nat.zero_le _, Nat.zero_le _⟩ dX3_sumOfRow_8 ?_
  refine mj_istore_n C dX3_sumOfRow_11 (by decide) ?_
  refine mj_iload_n C dX3_sumOfRow_12 rfl ?_
  refine mj_istore C dX3_sumOfRow_13 (by decide) ?_
  refine mj_iconstV (v := 0) C dX3_sumOfRow_15 mc_i_0 ?_
  refine mj_istore C dX3_sumOfRow_16 (by decide) ?_
  refine mj_aload_n C dX3_sumOfRow_18 rfl ?_
  refine mg_X3_25 C dX3_sumOfRow_19 ?_
  refine mj_iconstV (v := 4) C dX3_sumOfRow_22 mc_i_4 ?_
  refine mj_mmin C kl_X3_122 (mj_room13 (by decide) (Nat.le_of_ble_eq_true rfl)) ⟨Nat.zero_le _, Nat.zero_le _⟩ dX3_sumOfRow_23 ?_
  refine mj_iconstV (v := 1) C dX3_sumOfRow_26 mc_i_1 ?_
  refine mj_isub C dX3_sumOfRow_27 ?_
  refine mj_istore C dX3_sumOfRow_28 (by decide) ?_
  refine mj_to ?_ (w_X3_sumOfRow_30 C hr hlk mj_fu p2 (mj_max 1 (f_X2_size σ)) p1 0 ((mj_min (σ.1 40 6) 4) - 1) σ R hF)
  exact ⟨rfl, rfl, rfl, rfl, rfl, rfl, trivial⟩
set_option maxRecDepth 100000 in
set_option maxHeartbeats 4000000 in
theorem w_X3_shareOut_68 {p : Program} {l : Launch} {e : Env} {s : State} {m : MethodId} {args : Array Value} {below : List Frame} {meth : Method} {c : Code} {G : mj_G} {K33 : Int32 → Int32 → Int32 → Int32 → mj_S → Option (Int32 × mj_S)} (C : mj_X p s m args meth c G cX3_shareOut 6 RX3) (hr : meth.sig.returnType = some .boolean) (hlk : meth.locks = false) (hK33 : ∀ (v1 : Int32) (v2 : Int32) (v3 : Int32) (v4 : Int32) (σ : mj_S) (R : (Int32 × mj_S)), K33 v1 v2 v3 v4 σ = some R → mj_W p l e (mj_rm 5) s m args below meth c G 0 0 6 (MQ below (mj_Q G (some (.int R.1)) R.2) args s 0 0 G.2.2.2) 33 [(0, .ref (G.2.1 40)), (1, .int v1), (2, .int v2), (3, .int v3), (4, .int v4)] [] σ) : ∀ (v1 : Int32) (v2 : Int32) (v4 : Int32) (v5 : Int32) (σ : mj_S) (R : (Int32 × mj_S)), b_X3_shareOut_68 K33 v1 v2 v4 v5 σ = some R → mj_W p l e (mj_rm 5) s m args below meth c G 0 0 6 (MQ below (mj_Q G (some (.int R.1)) R.2) args s 0 0 G.2.2.2) 68 [(0, .ref (G.2.1 40)), (1, .int v1), (2, .int v2), (4, .int v4), (5, .int v5)] [] σ := by
  intro v1 v2 v4 v5 σ R hF
  unfold b_X3_shareOut_68 at hF
  refine mj_iconstV (v := 1) C dX3_shareOut_68 mc_i_1 ?_
  refine mj_istore_n C dX3_shareOut_69 (by decide) ?_
  refine mj_aload_n C dX3_shareOut_70 rfl ?_
  refine mj_iload C dX3_shareOut_71 rfl ?_
  refine mp_X3_34 C dX3_shareOut_73 ?_
  refine mj_aload_n C dX3_shareOut_76 rfl ?_
  refine mg_X3_28 C dX3_shareOut_77 ?_
  refine mj_iconstV (v := 0) C dX3_shareOut_80 mc_i_0 ?_
  refine mj_aload_n C dX3_shareOut_81 rfl ?_
  refine mg_X3_31 C dX3_shareOut_82 ?_
  refine mj_iconstV (v := 0) C dX3_shareOut_85 mc_i_0 ?_
  refine mj_iconstV (v := 4) C dX3_shareOut_86 mc_i_4 ?_
  obtain ⟨hg6, hF⟩ := mj_og hF
  refine mj_copyI C kl_X3_116 rfl rfl hg6 (mj_roomCp (by decide) (Nat.le_of_ble_eq_true rfl)) dX3_shareOut_87 ?_
  refine mj_iinc (v := v4 + 1) C dX3_shareOut_90 rfl rfl (by decide) ?_
  refine mj_goto C dX3_shareOut_93 rfl ?_
  refine mj_to ?_ (hK33 v1 v2 1 (v4 + 1) (mj_sR (mj_sI σ 40 9 v5) 43 (va_cpy (σ.1 42) (σ.1 43) 0 0 4)) R hF)
  exact ⟨rfl, rfl, rfl, rfl, rfl, trivial⟩
set_option maxRecDepth 100000 in
set_option maxHeartbeats 4000000 in
theorem w_X3_shareOut_33 {p : Program} {l : Launch} {e : Env} {s : State} {m : MethodId} {args : Array Value} {below : List Frame} {meth : Method} {c : Code} {G : mj_G} (C : mj_X p s m args meth c G cX3_shareOut 6 RX3) (hr : meth.sig.returnType = some .boolean) (hlk : meth.locks = false) : ∀ (n : Nat) (v1 : Int32) (v2 : Int32) (v3 : Int32) (v4 : Int32) (σ : mj_S) (R : (Int32 × mj_S)), b_X3_shareOut_33 n v1 v2 v3 v4 σ = some R → mj_W p l e (mj_rm 5) s m args below meth c G 0 0 6 (MQ below (mj_Q G (some (.int R.1)) R.2) args s 0 0 G.2.2.2) 33 [(0, .ref (G.2.1 40)), (1, .int v1), (2, .int v2), (3, .int v3), (4, .int v4)] [] σ := by
  intro n
  induction n with
  | zero =>
    intro v1 v2 v3 v4 σ R hF
    cases hF
  | succ n ih =>
    intro v1 v2 v3 v4 σ R hF
    rw [b_X3_shareOut_33] at hF
    refine mj_iload C dX3_shareOut_33 rfl ?_
    refine mj_iload_n C dX3_shareOut_35 rfl ?_
    refine mj_ic_ge C dX3_shareOut_36 rfl hF (fun hc2 hF => ?_) (fun hc2 hF => ?_)
    · refine mj_iload_n C dX3_shareOut_96 rfl ?_
      have hF := mj_oi hF; subst hF
      exact mj_zbret C hr hlk dX3_shareOut_97
    · refine mj_aload_n C dX3_shareOut_39 rfl ?_
      refine mj_iload C dX3_shareOut_40 rfl ?_
      refine mj_iload_n C dX3_shareOut_42 rfl ?_
      obtain ⟨r3, hq3, hF⟩ := mj_ob hF
      refine mj_callVi C (c_X3_sumOfRow σ v4 v1 r3 hq3) yv_X3_sumOfRow kl_X3_113 (mo_40 G _) rfl rfl rfl rfl (Nat.le_of_ble_eq_true rfl) (mj_roomC (by decide) (by decide)) ⟨Nat.zero_le _, Nat.zero_le _⟩ dX3_shareOut_43 ?_
      refine mj_istore C dX3_shareOut_46 (by decide) ?_
      refine mj_iload C dX3_shareOut_48 rfl ?_
      refine mj_bipushV (v := (-2)) C dX3_shareOut_50 mc_b_m2 ?_
      refine mj_ic_eq C dX3_shareOut_52 rfl hF (fun hc4 hF => ?_) (fun hc4 hF => ?_)
      · refine mj_iinc (v := v4 + 1) C dX3_shareOut_90 rfl rfl (by decide) ?_
        refine mj_goto C dX3_shareOut_93 rfl ?_
        refine mj_to ?_ (ih v1 v2 v3 (v4 + 1) r3.2 R hF)
        exact ⟨rfl, rfl, rfl, rfl, rfl, trivial⟩
      · refine mj_iload_n C dX3_shareOut_55 rfl ?_
        refine mj_if_eq C dX3_shareOut_56 rfl hF (fun hc5 hF => ?_) (fun hc5 hF => ?_)
        · refine mj_to ?_ (w_X3_shareOut_68 C hr hlk ih v1 v2 v4 r3.1 r3.2 R hF)
          exact ⟨rfl, rfl, rfl, rfl, rfl, trivial⟩
        · refine mj_iload C dX3_shareOut_59 rfl ?_
          refine mj_aload_n C dX3_shareOut_61 rfl ?_
          refine mg_X3_34 C dX3_shareOut_62 ?_
          refine mj_ic_ge C dX3_shareOut_65 rfl hF (fun hc7 hF => ?_) (fun hc7 hF => ?_)
          · refine mj_iinc (v := v4 + 1) C dX3_shareOut_90 rfl rfl (by decide) ?_
            refine mj_goto C dX3_shareOut_93 rfl ?_
            refine mj_to ?_ (ih v1 v2 v3 (v4 + 1) r3.2 R hF)
            exact ⟨rfl, rfl, rfl, rfl, rfl, trivial⟩
          · refine mj_to ?_ (w_X3_shareOut_68 C hr hlk ih v1 v2 v4 r3.1 r3.2 R hF)
            exact ⟨rfl, rfl, rfl, rfl, rfl, trivial⟩
set_option maxRecDepth 100000 in
set_option maxHeartbeats 4000000 in
theorem w_X3_shareOut_4 {p : Program} {l : Launch} {e : Env} {s : State} {m : MethodId} {args : Array Value} {below : List Frame} {meth : Method} {c : Code} {G : mj_G} (C : mj_X p s m args meth c G cX3_shareOut 6 RX3) (hr : meth.sig.returnType = some .boolean) (hlk : meth.locks = false) : ∀ (n : Nat) (v1 : Int32) (v2 : Int32) (v3 : Int32) (σ : mj_S) (R : (Int32 × mj_S)), b_X3_shareOut_4 n v1 v2 v3 σ = some R → mj_W p l e (mj_rm 5) s m args below meth c G 0 0 6 (MQ below (mj_Q G (some (.int R.1)) R.2) args s 0 0 G.2.2.2) 4 [(0, .ref (G.2.1 40)), (1, .int v1), (2, .int v2), (3, .int v3)] [] σ := by
  intro n
  induction n with
  | zero =>
    intro v1 v2 v3 σ R hF
    cases hF
  | succ n ih =>
    intro v1 v2 v3 σ R hF
    rw [b_X3_shareOut_4] at hF
    refine mj_iload_n C dX3_shareOut_4 rfl ?_
    refine mj_aload_n C dX3_shareOut_5 rfl ?_
    refine mg_X3_25 C dX3_shareOut_6 ?_
    refine mj_ic_ge C dX3_shareOut_9 rfl hF (fun hc1 hF => ?_) (fun hc1 hF => ?_)
    · refine mj_iconstV (v := 0) C dX3_shareOut_28 mc_i_0 ?_
      refine mj_istore_n C dX3_shareOut_29 (by decide) ?_
      refine mj_iconstV (v := 0) C dX3_shareOut_30 mc_i_0 ?_
      refine mj_istore C dX3_shareOut_31 (by decide) ?_
      refine mj_to ?_ (w_X3_shareOut_33 C hr hlk mj_fu v1 v2 0 0 σ R hF)
      exact ⟨rfl, rfl, rfl, rfl, rfl, trivial⟩
    · refine mj_iload_n C dX3_shareOut_12 rfl ?_
      refine mj_aload_n C dX3_shareOut_13 rfl ?_
      refine mg_X3_37 C dX3_shareOut_14 ?_
      refine mj_callVi C (c_X2_size σ) yv_X2_size kl_X3_92 (mo_9 G _) rfl rfl rfl rfl (Nat.le_of_ble_eq_true rfl) (mj_roomC (by decide) (by decide)) ⟨Nat.zero_le _, Nat.zero_le _⟩ dX3_shareOut_17 ?_
      refine mj_imul C dX3_shareOut_20 ?_
      refine mj_istore_n C dX3_shareOut_21 (by decide) ?_
      refine mj_iinc (v := v3 + 1) C dX3_shareOut_22 rfl rfl (by decide) ?_
      refine mj_goto C dX3_shareOut_25 rfl ?_
      refine mj_to ?_ (ih v1 (v2 * (f_X2_size σ)) (v3 + 1) σ R hF)
      exact ⟨rfl, rfl, rfl, rfl, trivial⟩
set_option maxRecDepth 100000 in
set_option maxHeartbeats 4000000 in
theorem c_X3_shareOut {G : mj_G} {l : Launch} (σ : mj_S) (p1 : Int32) (R : (Int32 × mj_S)) (hF : f_X3_shareOut σ p1 = some R) : mj_C G l yX3_shareOut cX3_shareOut 6 (some .boolean) 5 [.ref (G.2.1 40), .int p1] σ (some (.int R.1)) R.2 := by
  unfold f_X3_shareOut at hF
  refine mj_of (ls := [(0, .ref (G.2.1 40)), (1, .int p1)]) (by decide) (Nat.le_of_ble_eq_true rfl) rfl (fun p e s m args below meth c C hr hlk => ?_)
  refine mj_iconstV (v := 1) C dX3_shareOut_0 mc_i_1 ?_
  refine mj_istore_n C dX3_shareOut_1 (by decide) ?_
  refine mj_iconstV (v := 0) C dX3_shareOut_2 mc_i_0 ?_
  refine mj_istore_n C dX3_shareOut_3 (by decide) ?_
  refine mj_to ?_ (w_X3_shareOut_4 C hr hlk mj_fu p1 1 0 σ R hF)
  exact ⟨rfl, rfl, rfl, rfl, trivial⟩
set_option maxRecDepth 100000 in
set_option maxHeartbeats 4000000 in
theorem w_X3_slipsFound_32 {p : Program} {l : Launch} {e : Env} {s : State} {m : MethodId} {args : Array Value} {below : List Frame} {meth : Method} {c : Code} {G : mj_G} (C : mj_X p s m args meth c G cX3_slipsFound 12 RX3) (hr : meth.sig.returnType = some .int) (hlk : meth.locks = false) : ∀ (n : Nat) (v1 : Int32) (v2 : Int32) (v4 : Int32) (v5 : Int32) (v6 : Int32) (v7 : Int32) (v8 : Int32) (v9 : Int32) (v10 : Int32) (σ : mj_S) (R : (Int32 × mj_S)), b_X3_slipsFound_32 n v1 v2 v4 v5 v6 v7 v8 v9 v10 σ = some R → mj_W p l e (mj_rm 5) s m args below meth c G 0 0 12 (MQ below (mj_Q G (some (.int R.1)) R.2) args s 0 0 G.2.2.2) 32 [(0, .ref (G.2.1 40)), (1, .int v1), (2, .int v2), (4, .int v4), (5, .int v5), (6, .int v6), (7, .int v7), (8, .int v8), (9, .int v9), (10, .int v10)] [] σ := by
  intro n
  induction n with
  | zero =>
    intro v1 v2 v4 v5 v6 v7 v8 v9 v10 σ R hF
    cases hF
  | succ n ih =>
    intro v1 v2 v4 v5 v6 v7 v8 v9 v10 σ R hF
    rw [b_X3_slipsFound_32] at hF
    refine mj_iload C dX3_slipsFound_32 rfl ?_
    refine mj_iload C dX3_slipsFound_34 rfl ?_
    refine mj_ic_ge C dX3_slipsFound_36 rfl hF (fun hc2 hF => ?_) (fun hc2 hF => ?_)
    · refine mj_iload C dX3_slipsFound_96 rfl ?_
      have hF := mj_oi hF; subst hF
      exact mj_iret C hr hlk dX3_slipsFound_98
    · refine mj_iload C dX3_slipsFound_39 rfl ?_
      refine mj_ldc C dX3_slipsFound_41 kc_X3_128 ?_
      refine mj_imul C dX3_slipsFound_43 ?_
      refine mj_sipushV (v := 12345) C dX3_slipsFound_44 mc_s_12345 ?_
      refine mj_iadd C dX3_slipsFound_47 ?_
      refine mj_istore C dX3_slipsFound_48 (by decide) ?_
      refine mj_iload C dX3_slipsFound_50 rfl ?_
      refine mj_bipushV (v := 8) C dX3_slipsFound_52 mc_b_8 ?_
      refine mj_iushr C dX3_slipsFound_54 ?_
      refine mj_iload C dX3_slipsFound_55 rfl ?_
      obtain ⟨hz3, hF⟩ := mj_oz hF
      refine mj_irem C dX3_slipsFound_57 hz3 ?_
      refine mj_iload C dX3_slipsFound_58 rfl ?_
      refine mj_isub C dX3_slipsFound_60 ?_
      refine mj_istore C dX3_slipsFound_61 (by decide) ?_
      refine mj_aload_n C dX3_slipsFound_63 rfl ?_
      refine mj_iload C dX3_slipsFound_64 rfl ?_
      refine mj_iload C dX3_slipsFound_66 rfl ?_
      refine mj_iadd C dX3_slipsFound_68 ?_
      refine mj_bipushV (v := 6) C dX3_slipsFound_69 mc_b_6 ?_
      refine mj_iload_n C dX3_slipsFound_71 rfl ?_
      refine mj_iconstV (v := 0) C dX3_slipsFound_72 mc_i_0 ?_
      obtain ⟨r4, hq4, hF⟩ := mj_ob hF
      refine mj_callVi C (c_X3_find σ (v6 + ((mj_rem (mj_ushr ((v8 * 1103515245) + 12345) 8) v7) - v5)) 6 v2 0 r4 hq4) yv_X3_find kl_X3_81 (mo_40 G _) rfl rfl rfl rfl (Nat.le_of_ble_eq_true rfl) (mj_roomC (by decide) (by decide)) ⟨Nat.zero_le _, Nat.zero_le _⟩ dX3_slipsFound_73 ?_
      refine mj_if_eq C dX3_slipsFound_76 rfl hF (fun hc5 hF => ?_) (fun hc5 hF => ?_)
      · refine mj_iinc (v := v10 + 1) C dX3_slipsFound_90 rfl rfl (by decide) ?_
        refine mj_goto C dX3_slipsFound_93 rfl ?_
        refine mj_to ?_ (ih v1 v2 v4 v5 v6 v7 ((v8 * 1103515245) + 12345) v9 (v10 + 1) r4.2 R hF)
        exact ⟨rfl, rfl, rfl, rfl, rfl, rfl, rfl, rfl, rfl, rfl, trivial⟩
      · refine mj_aload_n C dX3_slipsFound_79 rfl ?_
        refine mg_X3_9 C dX3_slipsFound_80 ?_
        refine mj_iload_n C dX3_slipsFound_83 rfl ?_
        refine mj_ic_ne C dX3_slipsFound_84 rfl hF (fun hc6 hF => ?_) (fun hc6 hF => ?_)
        · refine mj_iinc (v := v10 + 1) C dX3_slipsFound_90 rfl rfl (by decide) ?_
          refine mj_goto C dX3_slipsFound_93 rfl ?_
          refine mj_to ?_ (ih v1 v2 v4 v5 v6 v7 ((v8 * 1103515245) + 12345) v9 (v10 + 1) r4.2 R hF)
          exact ⟨rfl, rfl, rfl, rfl, rfl, rfl, rfl, rfl, rfl, rfl, trivial⟩
        · refine mj_iinc (v := v9 + 1) C dX3_slipsFound_87 rfl rfl (by decide) ?_
          refine mj_iinc (v := v10 + 1) C dX3_slipsFound_90 rfl rfl (by decide) ?_
          refine mj_goto C dX3_slipsFound_93 rfl ?_
          refine mj_to ?_ (ih v1 v2 v4 v5 v6 v7 ((v8 * 1103515245) + 12345) (v9 + 1) (v10 + 1) r4.2 R hF)
          exact ⟨rfl, rfl, rfl, rfl, rfl, rfl, rfl, rfl, rfl, rfl, trivial⟩
set_option maxRecDepth 100000 in
set_option maxHeartbeats 4000000 in
theorem c_X3_slipsFound {G : mj_G} {l : Launch} (σ : mj_S) (p1 : Int32) (p2 : Int32) (p3 : Int32) (p4 : Int32) (p5 : Int32) (R : (Int32 × mj_S)) (hF : f_X3_slipsFound σ p1 p2 p3 p4 p5 = some R) : mj_C G l yX3_slipsFound cX3_slipsFound 12 (some .int) 5 [.ref (G.2.1 40), .int p1, .int p2, .int p3, .int p4, .int p5] σ (some (.int R.1)) R.2 := by
  unfold f_X3_slipsFound at hF
  refine mj_of (ls := [(0, .ref (G.2.1 40)), (1, .int p1), (2, .int p2), (3, .int p3), (4, .int p4), (5, .int p5)]) (by decide) (Nat.le_of_ble_eq_true rfl) rfl (fun p e s m args below meth c C hr hlk => ?_)
  refine mj_aload_n C dX3_slipsFound_0 rfl ?_
  refine mg_X3_37 C dX3_slipsFound_1 ?_
  refine mj_iload_n C dX3_slipsFound_4 rfl ?_
  refine mj_iload_n C dX3_slipsFound_5 rfl ?_
  obtain ⟨r1, hq1, hF⟩ := mj_ob hF
  refine mj_callVi C (c_X2_heightAt σ p1 p2 r1 hq1) yv_X2_heightAt kl_X3_51 (mo_9 G _) rfl rfl rfl rfl (Nat.le_of_ble_eq_true rfl) (mj_roomC (by decide) (by decide)) ⟨Nat.zero_le _, Nat.zero_le _⟩ dX3_slipsFound_6 ?_
  refine mj_istore C dX3_slipsFound_9 (by decide) ?_
  refine mj_iconstV (v := 1) C dX3_slipsFound_11 mc_i_1 ?_
  refine mj_iconstV (v := 2) C dX3_slipsFound_12 mc_i_2 ?_
  refine mj_iload C dX3_slipsFound_13 rfl ?_
  refine mj_imul C dX3_slipsFound_15 ?_
  refine mj_iconstV (v := 1) C dX3_slipsFound_16 mc_i_1 ?_
  refine mj_iadd C dX3_slipsFound_17 ?_
  refine mj_mmax C kl_X3_64 (mj_room13 (by decide) (Nat.le_of_ble_eq_true rfl)) ⟨Nat.zero_le _, Nat.zero_le _⟩ dX3_slipsFound_18 ?_
  refine mj_istore C dX3_slipsFound_21 (by decide) ?_
  refine mj_iload_n C dX3_slipsFound_23 rfl ?_
  refine mj_istore C dX3_slipsFound_24 (by decide) ?_
  refine mj_iconstV (v := 0) C dX3_slipsFound_26 mc_i_0 ?_
  refine mj_istore C dX3_slipsFound_27 (by decide) ?_
  refine mj_iconstV (v := 0) C dX3_slipsFound_29 mc_i_0 ?_
  refine mj_istore C dX3_slipsFound_30 (by decide) ?_
  refine mj_to ?_ (w_X3_slipsFound_32 C hr hlk mj_fu p1 p2 p4 p5 r1 (mj_max 1 ((2 * p5) + 1)) p3 0 0 σ R hF)
  exact ⟨rfl, rfl, rfl, rfl, rfl, rfl, rfl, rfl, rfl, rfl, trivial⟩
