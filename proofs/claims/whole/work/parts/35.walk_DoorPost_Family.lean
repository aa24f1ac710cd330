set_option maxRecDepth 100000 in
set_option maxHeartbeats 4000000 in
theorem c_X2_wantAt {G : mj_G} {l : Launch} (σ : mj_S) (p1 : Int32) (R : Int32) (hF : f_X2_wantAt σ p1 = some R) : mj_C G l yX2_wantAt cX2_wantAt 2 (some .int) 3 [.ref (G.2.1 9), .int p1] σ (some (.int R)) σ := by
  unfold f_X2_wantAt at hF
  refine mj_of (ls := [(0, .ref (G.2.1 9)), (1, .int p1)]) (by decide) (Nat.le_of_ble_eq_true rfl) rfl (fun p e s m args below meth c C hr hlk => ?_)
  refine mj_iload_n C dX2_wantAt_0 rfl ?_
  refine mj_callNi C (c_X9_isMonth σ p1) ys_X9_isMonth kn_X2_72 rfl rfl (Nat.le_of_ble_eq_true rfl) (mj_roomC (by decide) (by decide)) ⟨Nat.zero_le _, Nat.zero_le _⟩ dX2_wantAt_1 ?_
  refine mj_if_eq C dX2_wantAt_4 rfl hF (fun hc1 hF => ?_) (fun hc1 hF => ?_)
  · refine mj_iconstV (v := 0) C dX2_wantAt_16 mc_i_0 ?_
    have hF := mj_oi hF; subst hF
    exact mj_iret C hr hlk dX2_wantAt_17
  · refine mj_aload_n C dX2_wantAt_7 rfl ?_
    refine mg_X2_31 C dX2_wantAt_8 ?_
    refine mj_iload_n C dX2_wantAt_11 rfl ?_
    obtain ⟨hg2, hF⟩ := mj_og hF
    refine mj_iaload C dX2_wantAt_12 rfl hg2 ?_
    refine mj_goto C dX2_wantAt_13 rfl ?_
    have hF := mj_oi hF; subst hF
    exact mj_iret C hr hlk dX2_wantAt_17
set_option maxRecDepth 100000 in
set_option maxHeartbeats 4000000 in
theorem w_X2_grow_107 {p : Program} {l : Launch} {e : Env} {s : State} {m : MethodId} {args : Array Value} {below : List Frame} {meth : Method} {c : Code} {G : mj_G} {K6 : Nat → Nat → Int32 → Int32 → Int32 → Nat → Nat → Int32 → Int32 → mj_S → Option mj_S} (C : mj_X p s m args meth c G cX2_grow 8 RX2) (hr : meth.sig.returnType = none) (hlk : meth.locks = false) (hK6 : ∀ (a1 na1 : Nat) (ha1 : mj_il a1 = some na1) (v2 : Int32) (v3 : Int32) (v4 : Int32) (a5 na5 : Nat) (ha5 : mj_il a5 = some na5) (v6 : Int32) (v7 : Int32) (σ : mj_S) (R : mj_S), K6 a1 na1 v2 v3 v4 a5 na5 v6 v7 σ = some R → mj_W p l e (mj_rm 5) s m args below meth c G 0 0 8 (MQ below (mj_Q G none R) args s 0 0 G.2.2.2) 6 [(0, .ref (G.2.1 9)), (1, .ref (G.2.1 a1)), (2, .int v2), (3, .int v3), (4, .int v4), (5, .ref (G.2.1 a5)), (6, .int v6), (7, .int v7)] [] σ) : ∀ (a1 na1 : Nat) (ha1 : mj_il a1 = some na1) (v2 : Int32) (v3 : Int32) (v4 : Int32) (a5 na5 : Nat) (ha5 : mj_il a5 = some na5) (v6 : Int32) (v7 : Int32) (σ : mj_S) (R : mj_S), b_X2_grow_107 K6 a1 na1 v2 v3 v4 a5 na5 v6 v7 σ = some R → mj_W p l e (mj_rm 5) s m args below meth c G 0 0 8 (MQ below (mj_Q G none R) args s 0 0 G.2.2.2) 107 [(0, .ref (G.2.1 9)), (1, .ref (G.2.1 a1)), (2, .int v2), (3, .int v3), (4, .int v4), (5, .ref (G.2.1 a5)), (6, .int v6), (7, .int v7)] [] σ := by
  intro a1 na1 ha1 v2 v3 v4 a5 na5 ha5 v6 v7 σ R hF
  unfold b_X2_grow_107 at hF
  refine mj_aload_n C dX2_grow_107 rfl ?_
  refine mj_iload C dX2_grow_108 rfl ?_
  refine mj_iload C dX2_grow_110 rfl ?_
  obtain ⟨hg5, hF⟩ := mj_og hF
  refine mj_iastore C dX2_grow_112 ha1 hg5 ?_
  refine mj_iinc (v := v7 + 1) C dX2_grow_113 rfl rfl (by decide) ?_
  refine mj_goto C dX2_grow_116 rfl ?_
  refine mj_to ?_ (hK6 a1 na1 ha1 v2 v3 v4 a5 na5 ha5 v6 (v7 + 1) (mj_sI σ a1 v7.toNatClampNeg v6) R hF)
  exact ⟨rfl, rfl, rfl, rfl, rfl, rfl, rfl, rfl, trivial⟩
set_option maxRecDepth 100000 in
set_option maxHeartbeats 4000000 in
theorem w_X2_grow_6 {p : Program} {l : Launch} {e : Env} {s : State} {m : MethodId} {args : Array Value} {below : List Frame} {meth : Method} {c : Code} {G : mj_G} (C : mj_X p s m args meth c G cX2_grow 8 RX2) (hr : meth.sig.returnType = none) (hlk : meth.locks = false) : ∀ (n : Nat) (a1 na1 : Nat) (ha1 : mj_il a1 = some na1) (v2 : Int32) (v3 : Int32) (v4 : Int32) (a5 na5 : Nat) (ha5 : mj_il a5 = some na5) (v6 : Int32) (v7 : Int32) (σ : mj_S) (R : mj_S), b_X2_grow_6 n a1 na1 v2 v3 v4 a5 na5 v6 v7 σ = some R → mj_W p l e (mj_rm 5) s m args below meth c G 0 0 8 (MQ below (mj_Q G none R) args s 0 0 G.2.2.2) 6 [(0, .ref (G.2.1 9)), (1, .ref (G.2.1 a1)), (2, .int v2), (3, .int v3), (4, .int v4), (5, .ref (G.2.1 a5)), (6, .int v6), (7, .int v7)] [] σ := by
  intro n
  induction n with
  | zero =>
    intro a1 na1 ha1 v2 v3 v4 a5 na5 ha5 v6 v7 σ R hF
    cases hF
  | succ n ih =>
    intro a1 na1 ha1 v2 v3 v4 a5 na5 ha5 v6 v7 σ R hF
    rw [b_X2_grow_6] at hF
    refine mj_iload C dX2_grow_6 rfl ?_
    refine mj_aload_n C dX2_grow_8 rfl ?_
    refine mj_alen (v := Int32.ofNat na1) C dX2_grow_9 ha1 rfl ?_
    refine mj_ic_ge C dX2_grow_10 rfl hF (fun hc1 hF => ?_) (fun hc1 hF => ?_)
    · have hF := mj_oi hF; subst hF
      exact mj_vret C hr hlk dX2_grow_119
    · refine mj_iload C dX2_grow_13 rfl ?_
      refine mj_aload C dX2_grow_15 rfl ?_
      refine mj_alen (v := Int32.ofNat na5) C dX2_grow_17 ha5 rfl ?_
      refine mj_ic_ge C dX2_grow_18 rfl hF (fun hc2 hF => ?_) (fun hc2 hF => ?_)
      · have hF := mj_oi hF; subst hF
        exact mj_vret C hr hlk dX2_grow_119
      · refine mj_iload C dX2_grow_21 rfl ?_
        refine mj_iload_n C dX2_grow_23 rfl ?_
        refine mj_ic_ne C dX2_grow_24 rfl hF (fun hc3 hF => ?_) (fun hc3 hF => ?_)
        · refine mj_iload C dX2_grow_33 rfl ?_
          refine mj_iload_n C dX2_grow_35 rfl ?_
          refine mj_ic_le C dX2_grow_36 rfl hF (fun hc4 hF => ?_) (fun hc4 hF => ?_)
          · refine mj_to ?_ (w_X2_grow_107 C hr hlk ih a1 na1 ha1 v2 v3 v4 a5 na5 ha5 v6 v7 σ R hF)
            exact ⟨rfl, rfl, rfl, rfl, rfl, rfl, rfl, rfl, trivial⟩
          · refine mj_aload_n C dX2_grow_39 rfl ?_
            refine mg_X2_60 C dX2_grow_40 ?_
            refine mj_iconstV (v := 0) C dX2_grow_43 mc_i_0 ?_
            refine mj_iload C dX2_grow_44 rfl ?_
            refine mj_iload_n C dX2_grow_46 rfl ?_
            refine mj_isub C dX2_grow_47 ?_
            refine mj_iload C dX2_grow_48 rfl ?_
            refine mj_isub C dX2_grow_50 ?_
            refine mj_iastore C dX2_grow_51 rfl (by decide) ?_
            refine mj_aload_n C dX2_grow_52 rfl ?_
            refine mg_X2_60 C dX2_grow_53 ?_
            refine mj_iconstV (v := 2) C dX2_grow_56 mc_i_2 ?_
            refine mj_aload C dX2_grow_57 rfl ?_
            refine mj_iload C dX2_grow_59 rfl ?_
            obtain ⟨hg6, hF⟩ := mj_og hF
            refine mj_iaload C dX2_grow_61 ha5 hg6 ?_
            refine mj_iastore C dX2_grow_62 rfl (by decide) ?_
            refine mj_aload_n C dX2_grow_63 rfl ?_
            refine mg_X2_60 C dX2_grow_64 ?_
            refine mj_iconstV (v := 3) C dX2_grow_67 mc_i_3 ?_
            refine mj_iload C dX2_grow_68 rfl ?_
            refine mj_bipushV (v := 64) C dX2_grow_70 mc_b_64 ?_
            refine mj_idiv C dX2_grow_72 (by decide) ?_
            refine mj_iastore C dX2_grow_73 rfl (by decide) ?_
            refine mj_aload_n C dX2_grow_74 rfl ?_
            refine mg_X2_60 C dX2_grow_75 ?_
            refine mj_iconstV (v := 5) C dX2_grow_78 mc_i_5 ?_
            refine mj_iload C dX2_grow_79 rfl ?_
            refine mj_bipushV (v := 12) C dX2_grow_81 mc_b_12 ?_
            refine mj_irem C dX2_grow_83 (by decide) ?_
            refine mj_iastore C dX2_grow_84 rfl (by decide) ?_
            refine mj_sipushV (v := 8000) C dX2_grow_85 mc_s_8000 ?_
            refine mj_iload C dX2_grow_88 rfl ?_
            refine mj_aload_n C dX2_grow_90 rfl ?_
            refine mg_X2_63 C dX2_grow_91 ?_
            refine mj_aload_n C dX2_grow_94 rfl ?_
            refine mg_X2_60 C dX2_grow_95 ?_
            obtain ⟨r7, hq7, hF⟩ := mj_ob hF
            refine mj_callVi C (c_X4_growth (mj_sI (mj_sI (mj_sI (mj_sI σ 34 0 ((v7 - v2) - v4)) 34 2 ((mj_sI σ 34 0 ((v7 - v2) - v4)).1 a5 v7.toNatClampNeg)) 34 3 (v6 / 64)) 34 5 (mj_rem v7 12)) 34 7 rfl r7 hq7) yv_X4_growth kl_X2_102 (mo_1 G _) rfl rfl rfl rfl (Nat.le_of_ble_eq_true rfl) (mj_roomC (by decide) (by decide)) ⟨Nat.zero_le _, Nat.zero_le _⟩ dX2_grow_98 ?_
            refine mj_iadd C dX2_grow_101 ?_
            refine mj_mmin C kl_X2_106 (mj_room13 (by decide) (Nat.le_of_ble_eq_true rfl)) ⟨Nat.zero_le _, Nat.zero_le _⟩ dX2_grow_102 ?_
            refine mj_istore C dX2_grow_105 (by decide) ?_
            refine mj_to ?_ (w_X2_grow_107 C hr hlk ih a1 na1 ha1 v2 v3 v4 a5 na5 ha5 (mj_min 8000 (v6 + r7.1)) v7 r7.2 R hF)
            exact ⟨rfl, rfl, rfl, rfl, rfl, rfl, rfl, rfl, trivial⟩
        · refine mj_iload_n C dX2_grow_27 rfl ?_
          refine mj_istore C dX2_grow_28 (by decide) ?_
          refine mj_goto C dX2_grow_30 rfl ?_
          refine mj_to ?_ (w_X2_grow_107 C hr hlk ih a1 na1 ha1 v2 v3 v4 a5 na5 ha5 v3 v7 σ R hF)
          exact ⟨rfl, rfl, rfl, rfl, rfl, rfl, rfl, rfl, trivial⟩
set_option maxRecDepth 100000 in
set_option maxHeartbeats 4000000 in
theorem c_X2_grow {G : mj_G} {l : Launch} (σ : mj_S) (a1 n1 : Nat) (h1 : mj_il a1 = some n1) (p2 : Int32) (p3 : Int32) (p4 : Int32) (a5 n5 : Nat) (h5 : mj_il a5 = some n5) (R : mj_S) (hF : f_X2_grow σ a1 n1 p2 p3 p4 a5 n5 = some R) : mj_C G l yX2_grow cX2_grow 8 (none) 5 [.ref (G.2.1 9), .ref (G.2.1 a1), .int p2, .int p3, .int p4, .ref (G.2.1 a5)] σ none R := by
  unfold f_X2_grow at hF
  refine mj_of (ls := [(0, .ref (G.2.1 9)), (1, .ref (G.2.1 a1)), (2, .int p2), (3, .int p3), (4, .int p4), (5, .ref (G.2.1 a5))]) (by decide) (Nat.le_of_ble_eq_true rfl) rfl (fun p e s m args below meth c C hr hlk => ?_)
  refine mj_iconstV (v := 0) C dX2_grow_0 mc_i_0 ?_
  refine mj_istore C dX2_grow_1 (by decide) ?_
  refine mj_iconstV (v := 0) C dX2_grow_3 mc_i_0 ?_
  refine mj_istore C dX2_grow_4 (by decide) ?_
  refine mj_to ?_ (w_X2_grow_6 C hr hlk mj_fu a1 n1 h1 p2 p3 p4 a5 n5 h5 0 0 σ R hF)
  exact ⟨rfl, rfl, rfl, rfl, rfl, rfl, rfl, rfl, trivial⟩
set_option maxRecDepth 100000 in
set_option maxHeartbeats 4000000 in
theorem w_X2_refresh_2 {p : Program} {l : Launch} {e : Env} {s : State} {m : MethodId} {args : Array Value} {below : List Frame} {meth : Method} {c : Code} {G : mj_G} (C : mj_X p s m args meth c G cX2_refresh 2 RX2) (hr : meth.sig.returnType = none) (hlk : meth.locks = false) : ∀ (n : Nat) (v1 : Int32) (σ : mj_S) (R : mj_S), b_X2_refresh_2 n v1 σ = some R → mj_W p l e (mj_rm 6) s m args below meth c G 0 0 2 (MQ below (mj_Q G none R) args s 0 0 G.2.2.2) 2 [(0, .ref (G.2.1 9)), (1, .int v1)] [] σ := by
  intro n
  induction n with
  | zero =>
    intro v1 σ R hF
    cases hF
  | succ n ih =>
    intro v1 σ R hF
    rw [b_X2_refresh_2] at hF
    refine mj_iload_n C dX2_refresh_2 rfl ?_
    refine mj_aload_n C dX2_refresh_3 rfl ?_
    refine mg_X2_27 C dX2_refresh_4 ?_
    refine mj_ic_ge C dX2_refresh_7 rfl hF (fun hc1 hF => ?_) (fun hc1 hF => ?_)
    · have hF := mj_oi hF; subst hF
      exact mj_vret C hr hlk dX2_refresh_126
    · refine mj_iload_n C dX2_refresh_10 rfl ?_
      refine mj_bipushV (v := 6) C dX2_refresh_11 mc_b_6 ?_
      refine mj_ic_ge C dX2_refresh_13 rfl hF (fun hc2 hF => ?_) (fun hc2 hF => ?_)
      · have hF := mj_oi hF; subst hF
        exact mj_vret C hr hlk dX2_refresh_126
      · refine mj_aload_n C dX2_refresh_16 rfl ?_
        refine mg_X2_54 C dX2_refresh_17 ?_
        refine mj_iload_n C dX2_refresh_20 rfl ?_
        obtain ⟨hg3, hF⟩ := mj_og hF
        refine mj_zaload C dX2_refresh_21 rfl hg3 ?_
        refine mj_if_eq C dX2_refresh_22 rfl hF (fun hc4 hF => ?_) (fun hc4 hF => ?_)
        · refine mj_iinc (v := v1 + 1) C dX2_refresh_120 rfl rfl (by decide) ?_
          refine mj_goto C dX2_refresh_123 rfl ?_
          refine mj_to ?_ (ih (v1 + 1) σ R hF)
          exact ⟨rfl, rfl, trivial⟩
        · refine mj_aload_n C dX2_refresh_25 rfl ?_
          refine mj_aload_n C dX2_refresh_26 rfl ?_
          refine mg_X2_15 C dX2_refresh_27 ?_
          refine mj_iload_n C dX2_refresh_30 rfl ?_
          obtain ⟨hg5, hF⟩ := mj_og hF
          refine mj_iaload C dX2_refresh_31 rfl hg5 ?_
          refine mj_aload_n C dX2_refresh_32 rfl ?_
          refine mg_X2_24 C dX2_refresh_33 ?_
          refine mj_iload_n C dX2_refresh_36 rfl ?_
          obtain ⟨hg6, hF⟩ := mj_og hF
          refine mj_iaload C dX2_refresh_37 rfl hg6 ?_
          refine mj_iload_n C dX2_refresh_38 rfl ?_
          obtain ⟨r7, hq7, hF⟩ := mj_ob hF
          refine mj_callVv C (c_X2_name σ (σ.1 11 v1.toNatClampNeg) (σ.1 14 v1.toNatClampNeg) v1 r7 hq7) yv_X2_name kl_X2_88 (mo_9 G _) rfl rfl rfl rfl (Nat.le_of_ble_eq_true rfl) (mj_roomC (by decide) (by decide)) ⟨Nat.zero_le _, Nat.zero_le _⟩ dX2_refresh_39 ?_
          refine mj_aload_n C dX2_refresh_42 rfl ?_
          refine mj_aload_n C dX2_refresh_43 rfl ?_
          refine mg_X2_45 C dX2_refresh_44 ?_
          refine mj_iload_n C dX2_refresh_47 rfl ?_
          obtain ⟨hg8, hF⟩ := mj_og hF
          have hA9 := mj_row_18 hg8
          refine mj_aaI C rfl (Nat.le_of_ble_eq_true rfl) hg8 dX2_refresh_48 ?_
          refine mj_aload_n C dX2_refresh_49 rfl ?_
          refine mg_X2_9 C dX2_refresh_50 ?_
          refine mj_iload_n C dX2_refresh_53 rfl ?_
          obtain ⟨hg10, hF⟩ := mj_og hF
          refine mj_iaload C dX2_refresh_54 rfl hg10 ?_
          refine mj_aload_n C dX2_refresh_55 rfl ?_
          refine mg_X2_18 C dX2_refresh_56 ?_
          refine mj_iload_n C dX2_refresh_59 rfl ?_
          obtain ⟨hg11, hF⟩ := mj_og hF
          refine mj_iaload C dX2_refresh_60 rfl hg11 ?_
          refine mj_aload_n C dX2_refresh_61 rfl ?_
          refine mg_X2_21 C dX2_refresh_62 ?_
          refine mj_iload_n C dX2_refresh_65 rfl ?_
          obtain ⟨hg12, hF⟩ := mj_og hF
          refine mj_iaload C dX2_refresh_66 rfl hg12 ?_
          refine mj_aload_n C dX2_refresh_67 rfl ?_
          refine mg_X2_31 C dX2_refresh_68 ?_
          obtain ⟨r13, hq13, hF⟩ := mj_ob hF
          refine mj_callVv C (c_X2_grow r7 (18 + 1 + v1.toNatClampNeg) 600 hA9 (r7.1 10 v1.toNatClampNeg) (r7.1 12 v1.toNatClampNeg) (r7.1 13 v1.toNatClampNeg) 15 600 rfl r13 hq13) yv_X2_grow kl_X2_92 (mo_9 G _) rfl rfl rfl rfl (Nat.le_of_ble_eq_true rfl) (mj_roomC (by decide) (by decide)) ⟨Nat.zero_le _, Nat.zero_le _⟩ dX2_refresh_71 ?_
          refine mj_aload_n C dX2_refresh_74 rfl ?_
          refine mj_aload_n C dX2_refresh_75 rfl ?_
          refine mg_X2_15 C dX2_refresh_76 ?_
          refine mj_iload_n C dX2_refresh_79 rfl ?_
          obtain ⟨hg14, hF⟩ := mj_og hF
          refine mj_iaload C dX2_refresh_80 rfl hg14 ?_
          refine mj_sipushV (v := 4300) C dX2_refresh_81 mc_s_4300 ?_
          refine mj_bipushV (v := 6) C dX2_refresh_84 mc_b_6 ?_
          obtain ⟨r15, hq15, hF⟩ := mj_ob hF
          refine mj_callVv C (c_X2_name r13 (r13.1 11 v1.toNatClampNeg) 4300 6 r15 hq15) yv_X2_name kl_X2_88 (mo_9 G _) rfl rfl rfl rfl (Nat.le_of_ble_eq_true rfl) (mj_roomC (by decide) (by decide)) ⟨Nat.zero_le _, Nat.zero_le _⟩ dX2_refresh_86 ?_
          refine mj_aload_n C dX2_refresh_89 rfl ?_
          refine mj_aload_n C dX2_refresh_90 rfl ?_
          refine mg_X2_48 C dX2_refresh_91 ?_
          refine mj_iload_n C dX2_refresh_94 rfl ?_
          obtain ⟨hg16, hF⟩ := mj_og hF
          have hA17 := mj_row_25 hg16
          refine mj_aaI C rfl (Nat.le_of_ble_eq_true rfl) hg16 dX2_refresh_95 ?_
          refine mj_aload_n C dX2_refresh_96 rfl ?_
          refine mg_X2_9 C dX2_refresh_97 ?_
          refine mj_iload_n C dX2_refresh_100 rfl ?_
          obtain ⟨hg18, hF⟩ := mj_og hF
          refine mj_iaload C dX2_refresh_101 rfl hg18 ?_
          refine mj_sipushV (v := 1280) C dX2_refresh_102 mc_s_1280 ?_
          refine mj_iconstV (v := 0) C dX2_refresh_105 mc_i_0 ?_
          refine mj_aload_n C dX2_refresh_106 rfl ?_
          refine mg_X2_34 C dX2_refresh_107 ?_
          obtain ⟨r19, hq19, hF⟩ := mj_ob hF
          refine mj_callVv C (c_X2_grow r15 (25 + 1 + v1.toNatClampNeg) 600 hA17 (r15.1 10 v1.toNatClampNeg) 1280 0 16 600 rfl r19 hq19) yv_X2_grow kl_X2_92 (mo_9 G _) rfl rfl rfl rfl (Nat.le_of_ble_eq_true rfl) (mj_roomC (by decide) (by decide)) ⟨Nat.zero_le _, Nat.zero_le _⟩ dX2_refresh_110 ?_
          refine mj_aload_n C dX2_refresh_113 rfl ?_
          refine mg_X2_54 C dX2_refresh_114 ?_
          refine mj_iload_n C dX2_refresh_117 rfl ?_
          refine mj_iconstV (v := 0) C dX2_refresh_118 mc_i_0 ?_
          obtain ⟨hg20, hF⟩ := mj_og hF
          refine mj_zastore C dX2_refresh_119 rfl rfl hg20 ?_
          refine mj_iinc (v := v1 + 1) C dX2_refresh_120 rfl rfl (by decide) ?_
          refine mj_goto C dX2_refresh_123 rfl ?_
          refine mj_to ?_ (ih (v1 + 1) (mj_sI r19 33 v1.toNatClampNeg 0) R hF)
          exact ⟨rfl, rfl, trivial⟩
set_option maxRecDepth 100000 in
set_option maxHeartbeats 4000000 in
theorem c_X2_refresh {G : mj_G} {l : Launch} (σ : mj_S) (R : mj_S) (hF : f_X2_refresh σ = some R) : mj_C G l yX2_refresh cX2_refresh 2 (none) 6 [.ref (G.2.1 9)] σ none R := by
  unfold f_X2_refresh at hF
  refine mj_of (ls := [(0, .ref (G.2.1 9))]) (by decide) (Nat.le_of_ble_eq_true rfl) rfl (fun p e s m args below meth c C hr hlk => ?_)
  refine mj_iconstV (v := 0) C dX2_refresh_0 mc_i_0 ?_
  refine mj_istore_n C dX2_refresh_1 (by decide) ?_
  refine mj_to ?_ (w_X2_refresh_2 C hr hlk mj_fu 0 σ R hF)
  exact ⟨rfl, rfl, trivial⟩
set_option maxRecDepth 100000 in
set_option maxHeartbeats 4000000 in
theorem c_X2_think {G : mj_G} {l : Launch} (σ : mj_S) (p1 : Int32) (p2 : Int32) (p3 : Int32) (p4 : Int32) (R : mj_S) (hF : f_X2_think σ p1 p2 p3 p4 = some R) : mj_C G l yX2_think cX2_think 5 (none) 6 [.ref (G.2.1 9), .int p1, .int p2, .int p3, .int p4] σ none R := by
  unfold f_X2_think at hF
  refine mj_of (ls := [(0, .ref (G.2.1 9)), (1, .int p1), (2, .int p2), (3, .int p3), (4, .int p4)]) (by decide) (Nat.le_of_ble_eq_true rfl) rfl (fun p e s m args below meth c C hr hlk => ?_)
  refine mj_aload_n C dX2_think_0 rfl ?_
  refine mj_iload_n C dX2_think_1 rfl ?_
  refine mj_callVi C (c_X2_has σ p1) yv_X2_has kl_X2_67 (mo_9 G _) rfl rfl rfl rfl (Nat.le_of_ble_eq_true rfl) (mj_roomC (by decide) (by decide)) ⟨Nat.zero_le _, Nat.zero_le _⟩ dX2_think_2 ?_
  refine mj_if_eq C dX2_think_5 rfl hF (fun hc1 hF => ?_) (fun hc1 hF => ?_)
  · have hF := mj_oi hF; subst hF
    exact mj_vret C hr hlk dX2_think_82
  · refine mj_aload_n C dX2_think_8 rfl ?_
    refine mg_X2_31 C dX2_think_9 ?_
    refine mj_iconstV (v := 0) C dX2_think_12 mc_i_0 ?_
    refine mj_aload_n C dX2_think_13 rfl ?_
    refine mg_X2_37 C dX2_think_14 ?_
    refine mj_iconstV (v := 0) C dX2_think_17 mc_i_0 ?_
    refine mj_sipushV (v := 600) C dX2_think_18 mc_s_600 ?_
    obtain ⟨hg2, hF⟩ := mj_og hF
    refine mj_copyI C kl_X2_96 rfl rfl hg2 (mj_roomCp (by decide) (Nat.le_of_ble_eq_true rfl)) dX2_think_21 ?_
    refine mj_aload_n C dX2_think_24 rfl ?_
    refine mg_X2_37 C dX2_think_25 ?_
    refine mj_iload_n C dX2_think_28 rfl ?_
    refine mj_iload_n C dX2_think_29 rfl ?_
    refine mj_iload C dX2_think_30 rfl ?_
    obtain ⟨r3, hq3, hF⟩ := mj_ob hF
    refine mj_callSv C (c_X2_raise (mj_sR σ 17 (va_cpy (σ.1 15) (σ.1 17) 0 0 600)) 17 600 rfl p2 p3 p4 r3 hq3) ys_X2_raise kl_X2_75 rfl rfl (Nat.le_of_ble_eq_true rfl) (mj_roomC (by decide) (by decide)) ⟨Nat.zero_le _, Nat.zero_le _⟩ dX2_think_32 ?_
    refine mj_aload_n C dX2_think_35 rfl ?_
    refine mj_aload_n C dX2_think_36 rfl ?_
    refine mg_X2_15 C dX2_think_37 ?_
    refine mj_iload_n C dX2_think_40 rfl ?_
    obtain ⟨hg4, hF⟩ := mj_og hF
    refine mj_iaload C dX2_think_41 rfl hg4 ?_
    refine mj_aload_n C dX2_think_42 rfl ?_
    refine mg_X2_24 C dX2_think_43 ?_
    refine mj_iload_n C dX2_think_46 rfl ?_
    obtain ⟨hg5, hF⟩ := mj_og hF
    refine mj_iaload C dX2_think_47 rfl hg5 ?_
    refine mj_iload_n C dX2_think_48 rfl ?_
    obtain ⟨r6, hq6, hF⟩ := mj_ob hF
    refine mj_callVv C (c_X2_name r3 (r3.1 11 p1.toNatClampNeg) (r3.1 14 p1.toNatClampNeg) p1 r6 hq6) yv_X2_name kl_X2_88 (mo_9 G _) rfl rfl rfl rfl (Nat.le_of_ble_eq_true rfl) (mj_roomC (by decide) (by decide)) ⟨Nat.zero_le _, Nat.zero_le _⟩ dX2_think_49 ?_
    refine mj_aload_n C dX2_think_52 rfl ?_
    refine mj_aload_n C dX2_think_53 rfl ?_
    refine mg_X2_51 C dX2_think_54 ?_
    refine mj_aload_n C dX2_think_57 rfl ?_
    refine mg_X2_9 C dX2_think_58 ?_
    refine mj_iload_n C dX2_think_61 rfl ?_
    obtain ⟨hg7, hF⟩ := mj_og hF
    refine mj_iaload C dX2_think_62 rfl hg7 ?_
    refine mj_aload_n C dX2_think_63 rfl ?_
    refine mg_X2_18 C dX2_think_64 ?_
    refine mj_iload_n C dX2_think_67 rfl ?_
    obtain ⟨hg8, hF⟩ := mj_og hF
    refine mj_iaload C dX2_think_68 rfl hg8 ?_
    refine mj_aload_n C dX2_think_69 rfl ?_
    refine mg_X2_21 C dX2_think_70 ?_
    refine mj_iload_n C dX2_think_73 rfl ?_
    obtain ⟨hg9, hF⟩ := mj_og hF
    refine mj_iaload C dX2_think_74 rfl hg9 ?_
    refine mj_aload_n C dX2_think_75 rfl ?_
    refine mg_X2_37 C dX2_think_76 ?_
    obtain ⟨r10, hq10, hF⟩ := mj_ob hF
    refine mj_callVv C (c_X2_grow r6 32 600 rfl (r6.1 10 p1.toNatClampNeg) (r6.1 12 p1.toNatClampNeg) (r6.1 13 p1.toNatClampNeg) 17 600 rfl r10 hq10) yv_X2_grow kl_X2_92 (mo_9 G _) rfl rfl rfl rfl (Nat.le_of_ble_eq_true rfl) (mj_roomC (by decide) (by decide)) ⟨Nat.zero_le _, Nat.zero_le _⟩ dX2_think_79 ?_
    have hF := mj_oi hF; subst hF
    exact mj_vret C hr hlk dX2_think_82
