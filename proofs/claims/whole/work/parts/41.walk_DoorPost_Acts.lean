set_option maxRecDepth 100000 in
set_option maxHeartbeats 4000000 in
theorem c_X0_isKind {G : mj_G} {l : Launch} (σ : mj_S) (p0 : Int32) : mj_C G l yX0_isKind cX0_isKind 1 (some .boolean) 2 [.int p0] σ (some (.int (f_X0_isKind σ p0))) σ := by
  generalize hF : f_X0_isKind σ p0 = R
  unfold f_X0_isKind at hF
  refine mj_of (ls := [(0, .int p0)]) (by decide) (Nat.le_of_ble_eq_true rfl) rfl (fun p e s m args below meth c C hr hlk => ?_)
  refine mj_iload_n C dX0_isKind_0 rfl ?_
  refine mj_iconstV (v := 0) C dX0_isKind_1 mc_i_0 ?_
  refine mj_bipushV (v := 7) C dX0_isKind_2 mc_b_7 ?_
  refine mj_callNi C (c_X9_within σ p0 0 7) ys_X9_within kn_X0_31 rfl rfl (Nat.le_of_ble_eq_true rfl) (mj_roomC (by decide) (by decide)) ⟨Nat.zero_le _, Nat.zero_le _⟩ dX0_isKind_4 ?_
  subst hF
  exact mj_zbret C hr hlk dX0_isKind_7
set_option maxRecDepth 100000 in
set_option maxHeartbeats 4000000 in
theorem w_X0_isUnder_4 {p : Program} {l : Launch} {e : Env} {s : State} {m : MethodId} {args : Array Value} {below : List Frame} {meth : Method} {c : Code} {G : mj_G} {σ : mj_S} (C : mj_X p s m args meth c G cX0_isUnder 4 RX0) (hr : meth.sig.returnType = some .boolean) (hlk : meth.locks = false) : ∀ (n : Nat) (v1 : Int32) (v2 : Int32) (v3 : Int32) (R : Int32), b_X0_isUnder_4 σ n v1 v2 v3 = some R → mj_W p l e (mj_rm 3) s m args below meth c G 0 0 4 (MQ below (mj_Q G (some (.int R)) σ) args s 0 0 G.2.2.2) 4 [(1, .int v1), (2, .int v2), (3, .int v3)] [] σ := by
  intro n
  induction n with
  | zero =>
    intro v1 v2 v3 R hF
    cases hF
  | succ n ih =>
    intro v1 v2 v3 R hF
    rw [b_X0_isUnder_4] at hF
    refine mj_iload_n C dX0_isUnder_4 rfl ?_
    refine mj_bipushV (v := 8) C dX0_isUnder_5 mc_b_8 ?_
    refine mj_ic_ge C dX0_isUnder_7 rfl hF (fun hc1 hF => ?_) (fun hc1 hF => ?_)
    · refine mj_iconstV (v := 0) C dX0_isUnder_36 mc_i_0 ?_
      have hF := mj_oi hF; subst hF
      exact mj_zret (v := 0) rfl C hr hlk dX0_isUnder_37
    · refine mj_iload_n C dX0_isUnder_10 rfl ?_
      refine mj_callSi C (c_X0_isKind σ v2) ys_X0_isKind kl_X0_35 rfl rfl (Nat.le_of_ble_eq_true rfl) (mj_roomC (by decide) (by decide)) ⟨Nat.zero_le _, Nat.zero_le _⟩ dX0_isUnder_11 ?_
      refine mj_if_eq C dX0_isUnder_14 rfl hF (fun hc2 hF => ?_) (fun hc2 hF => ?_)
      · refine mj_iconstV (v := 0) C dX0_isUnder_36 mc_i_0 ?_
        have hF := mj_oi hF; subst hF
        exact mj_zret (v := 0) rfl C hr hlk dX0_isUnder_37
      · refine mj_iload_n C dX0_isUnder_17 rfl ?_
        refine mj_iload_n C dX0_isUnder_18 rfl ?_
        refine mj_ic_ne C dX0_isUnder_19 rfl hF (fun hc3 hF => ?_) (fun hc3 hF => ?_)
        · refine mj_st_ABOVE C dX0_isUnder_24 ?_
          refine mj_iload_n C dX0_isUnder_27 rfl ?_
          obtain ⟨hg4, hF⟩ := mj_og hF
          refine mj_sa_ABOVE C hg4 dX0_isUnder_28 ?_
          refine mj_istore_n C dX0_isUnder_29 (by decide) ?_
          refine mj_iinc (v := v3 + 1) C dX0_isUnder_30 rfl rfl (by decide) ?_
          refine mj_goto C dX0_isUnder_33 rfl ?_
          refine mj_to ?_ (ih v1 (mj_above v2.toNatClampNeg) (v3 + 1) R hF)
          exact ⟨rfl, rfl, rfl, trivial⟩
        · refine mj_iconstV (v := 1) C dX0_isUnder_22 mc_i_1 ?_
          have hF := mj_oi hF; subst hF
          exact mj_zret (v := 1) rfl C hr hlk dX0_isUnder_23
set_option maxRecDepth 100000 in
set_option maxHeartbeats 4000000 in
theorem c_X0_isUnder {G : mj_G} {l : Launch} (σ : mj_S) (p0 : Int32) (p1 : Int32) (R : Int32) (hF : f_X0_isUnder σ p0 p1 = some R) : mj_C G l yX0_isUnder cX0_isUnder 4 (some .boolean) 3 [.int p0, .int p1] σ (some (.int R)) σ := by
  unfold f_X0_isUnder at hF
  refine mj_of (ls := [(0, .int p0), (1, .int p1)]) (by decide) (Nat.le_of_ble_eq_true rfl) rfl (fun p e s m args below meth c C hr hlk => ?_)
  refine mj_iload_n C dX0_isUnder_0 rfl ?_
  refine mj_istore_n C dX0_isUnder_1 (by decide) ?_
  refine mj_iconstV (v := 0) C dX0_isUnder_2 mc_i_0 ?_
  refine mj_istore_n C dX0_isUnder_3 (by decide) ?_
  refine mj_to ?_ (w_X0_isUnder_4 C hr hlk mj_fu p1 p0 0 R hF)
  exact ⟨rfl, rfl, rfl, trivial⟩
set_option maxRecDepth 100000 in
set_option maxHeartbeats 4000000 in
theorem w_X0_ownerOf_37 {p : Program} {l : Launch} {e : Env} {s : State} {m : MethodId} {args : Array Value} {below : List Frame} {meth : Method} {c : Code} {G : mj_G} {σ : mj_S} (C : mj_X p s m args meth c G cX0_ownerOf 4 RX0) (hr : meth.sig.returnType = some .int) (hlk : meth.locks = false) : ∀ (v2 : Int32) (R : Int32), b_X0_ownerOf_37 σ v2 = some R → mj_W p l e (mj_rm 3) s m args below meth c G 0 0 4 (MQ below (mj_Q G (some (.int R)) σ) args s 0 0 G.2.2.2) 37 [(2, .int v2)] [] σ := by
  intro v2 R hF
  unfold b_X0_ownerOf_37 at hF
  refine mj_iload_n C dX0_ownerOf_37 rfl ?_
  refine mj_callSi C (c_X0_isKind σ v2) ys_X0_isKind kl_X0_35 rfl rfl (Nat.le_of_ble_eq_true rfl) (mj_roomC (by decide) (by decide)) ⟨Nat.zero_le _, Nat.zero_le _⟩ dX0_ownerOf_38 ?_
  refine mj_if_eq C dX0_ownerOf_41 rfl hF (fun hc2 hF => ?_) (fun hc2 hF => ?_)
  · refine mj_iconstV (v := (-1)) C dX0_ownerOf_48 mc_i_m1 ?_
    have hF := mj_oi hF; subst hF
    exact mj_iret C hr hlk dX0_ownerOf_49
  · refine mj_iload_n C dX0_ownerOf_44 rfl ?_
    refine mj_goto C dX0_ownerOf_45 rfl ?_
    have hF := mj_oi hF; subst hF
    exact mj_iret C hr hlk dX0_ownerOf_49
set_option maxRecDepth 100000 in
set_option maxHeartbeats 4000000 in
theorem w_X0_ownerOf_4 {p : Program} {l : Launch} {e : Env} {s : State} {m : MethodId} {args : Array Value} {below : List Frame} {meth : Method} {c : Code} {G : mj_G} {σ : mj_S} (C : mj_X p s m args meth c G cX0_ownerOf 4 RX0) (hr : meth.sig.returnType = some .int) (hlk : meth.locks = false) : ∀ (n : Nat) (v0 : Int32) (v2 : Int32) (v3 : Int32) (R : Int32), b_X0_ownerOf_4 σ n v0 v2 v3 = some R → mj_W p l e (mj_rm 3) s m args below meth c G 0 0 4 (MQ below (mj_Q G (some (.int R)) σ) args s 0 0 G.2.2.2) 4 [(0, .int v0), (2, .int v2), (3, .int v3)] [] σ := by
  intro n
  induction n with
  | zero =>
    intro v0 v2 v3 R hF
    cases hF
  | succ n ih =>
    intro v0 v2 v3 R hF
    rw [b_X0_ownerOf_4] at hF
    refine mj_iload_n C dX0_ownerOf_4 rfl ?_
    refine mj_bipushV (v := 8) C dX0_ownerOf_5 mc_b_8 ?_
    refine mj_ic_ge C dX0_ownerOf_7 rfl hF (fun hc1 hF => ?_) (fun hc1 hF => ?_)
    · refine mj_to ?_ (w_X0_ownerOf_37 C hr hlk v2 R hF)
      exact ⟨rfl, trivial⟩
    · refine mj_iload_n C dX0_ownerOf_10 rfl ?_
      refine mj_callSi C (c_X0_isKind σ v2) ys_X0_isKind kl_X0_35 rfl rfl (Nat.le_of_ble_eq_true rfl) (mj_roomC (by decide) (by decide)) ⟨Nat.zero_le _, Nat.zero_le _⟩ dX0_ownerOf_11 ?_
      refine mj_if_eq C dX0_ownerOf_14 rfl hF (fun hc3 hF => ?_) (fun hc3 hF => ?_)
      · refine mj_to ?_ (w_X0_ownerOf_37 C hr hlk v2 R hF)
        exact ⟨rfl, trivial⟩
      · refine mj_iload_n C dX0_ownerOf_17 rfl ?_
        refine mj_iload_n C dX0_ownerOf_18 rfl ?_
        obtain ⟨r4, hq4, hF⟩ := mj_ob hF
        refine mj_callSi C (c_X0_ownBody σ v0 v2 r4 hq4) ys_X0_ownBody kl_X0_57 rfl rfl (Nat.le_of_ble_eq_true rfl) (mj_roomC (by decide) (by decide)) ⟨Nat.zero_le _, Nat.zero_le _⟩ dX0_ownerOf_19 ?_
        refine mj_if_ne C dX0_ownerOf_22 rfl hF (fun hc5 hF => ?_) (fun hc5 hF => ?_)
        · refine mj_to ?_ (w_X0_ownerOf_37 C hr hlk v2 R hF)
          exact ⟨rfl, trivial⟩
        · refine mj_st_ABOVE C dX0_ownerOf_25 ?_
          refine mj_iload_n C dX0_ownerOf_28 rfl ?_
          obtain ⟨hg6, hF⟩ := mj_og hF
          refine mj_sa_ABOVE C hg6 dX0_ownerOf_29 ?_
          refine mj_istore_n C dX0_ownerOf_30 (by decide) ?_
          refine mj_iinc (v := v3 + 1) C dX0_ownerOf_31 rfl rfl (by decide) ?_
          refine mj_goto C dX0_ownerOf_34 rfl ?_
          refine mj_to ?_ (ih v0 (mj_above v2.toNatClampNeg) (v3 + 1) R hF)
          exact ⟨rfl, rfl, rfl, trivial⟩
set_option maxRecDepth 100000 in
set_option maxHeartbeats 4000000 in
theorem c_X0_ownerOf {G : mj_G} {l : Launch} (σ : mj_S) (p0 : Int32) (p1 : Int32) (R : Int32) (hF : f_X0_ownerOf σ p0 p1 = some R) : mj_C G l yX0_ownerOf cX0_ownerOf 4 (some .int) 3 [.int p0, .int p1] σ (some (.int R)) σ := by
  unfold f_X0_ownerOf at hF
  refine mj_of (ls := [(0, .int p0), (1, .int p1)]) (by decide) (Nat.le_of_ble_eq_true rfl) rfl (fun p e s m args below meth c C hr hlk => ?_)
  refine mj_iload_n C dX0_ownerOf_0 rfl ?_
  refine mj_istore_n C dX0_ownerOf_1 (by decide) ?_
  refine mj_iconstV (v := 0) C dX0_ownerOf_2 mc_i_0 ?_
  refine mj_istore_n C dX0_ownerOf_3 (by decide) ?_
  refine mj_to ?_ (w_X0_ownerOf_4 C hr hlk mj_fu p0 p1 0 R hF)
  exact ⟨rfl, rfl, rfl, trivial⟩
set_option maxRecDepth 100000 in
set_option maxHeartbeats 4000000 in
theorem cF_X0_run {G : mj_G} {l : Launch} {k : Nat} {rec : Nat → Int32 → Int32 → Int32 → Int32 → mj_S → Option (Int32 × mj_S)} (hr0 : ∀ (x0 x1 x2 x3 : Int32) (σ : mj_S) (R : (Int32 × mj_S)), rec 0 x0 x1 x2 x3 σ = some R → mj_C G l yX0_run cX0_run 7 (some .int) (4 + k) [.ref (G.2.1 50), .int x0, .int x1, .int x2, .int x3] σ (some (.int R.1)) R.2) (hr1 : ∀ (x0 x1 x2 x3 : Int32) (σ : mj_S) (R : (Int32 × mj_S)), rec 1 x0 x1 x2 x3 σ = some R → mj_C G l yX0_perform cX0_perform 5 (some .int) (4 + k) [.ref (G.2.1 50), .int x0, .int x1, .int x2, .int x3] σ (some (.int R.1)) R.2) (σ : mj_S) (p1 : Int32) (p2 : Int32) (p3 : Int32) (p4 : Int32) (R : (Int32 × mj_S)) (hF : F_X0_run rec σ p1 p2 p3 p4 = some R) : mj_C G l yX0_run cX0_run 7 (some .int) (4 + (k + 1)) [.ref (G.2.1 50), .int p1, .int p2, .int p3, .int p4] σ (some (.int R.1)) R.2 := by
  unfold F_X0_run at hF
  refine mj_of (ls := [(0, .ref (G.2.1 50)), (1, .int p1), (2, .int p2), (3, .int p3), (4, .int p4)]) (by decide) (Nat.le_of_ble_eq_true rfl) rfl (fun p e s m args below meth c C hr hlk => ?_)
  refine mj_iload_n C dX0_run_0 rfl ?_
  refine mj_iload_n C dX0_run_1 rfl ?_
  obtain ⟨r1, hq1, hF⟩ := mj_ob hF
  refine mj_callSi C (c_X0_ownerOf σ p1 p2 r1 hq1) ys_X0_ownerOf kl_X0_53 rfl rfl (Nat.le_of_ble_eq_true rfl) (mj_roomR (by decide) (by decide)) ⟨Nat.zero_le _, Nat.zero_le _⟩ dX0_run_2 ?_
  refine mj_istore C dX0_run_5 (by decide) ?_
  refine mj_iload C dX0_run_7 rfl ?_
  refine mj_if_lt C dX0_run_9 rfl hF (fun hc2 hF => ?_) (fun hc2 hF => ?_)
  · refine mj_iconstV (v := 0) C dX0_run_19 mc_i_0 ?_
    have hF := mj_oi hF; subst hF
    exact mj_iret C hr hlk dX0_run_20
  · refine mj_iload C dX0_run_12 rfl ?_
    refine mj_bipushV (v := 40) C dX0_run_14 mc_b_40 ?_
    refine mj_ic_le C dX0_run_16 rfl hF (fun hc3 hF => ?_) (fun hc3 hF => ?_)
    · refine mj_iload_n C dX0_run_21 rfl ?_
      refine mj_iload C dX0_run_22 rfl ?_
      obtain ⟨r4, hq4, hF⟩ := mj_ob hF
      refine mj_callSi C (c_X0_ownBody σ p1 r1 r4 hq4) ys_X0_ownBody kl_X0_57 rfl rfl (Nat.le_of_ble_eq_true rfl) (mj_roomR (by decide) (by decide)) ⟨Nat.zero_le _, Nat.zero_le _⟩ dX0_run_24 ?_
      refine mj_istore C dX0_run_27 (by decide) ?_
      refine mj_aload_n C dX0_run_29 rfl ?_
      refine mj_iload C dX0_run_30 rfl ?_
      obtain ⟨r5, hq5, hF⟩ := mj_ob hF
      refine mj_callVv C (c_X0_note σ r4 r5 hq5) yv_X0_note kl_X0_60 (mo_50 G _) rfl rfl rfl rfl (Nat.le_of_ble_eq_true rfl) (mj_roomR (by decide) (by decide)) ⟨Nat.zero_le _, Nat.zero_le _⟩ dX0_run_32 ?_
      refine mj_aload_n C dX0_run_35 rfl ?_
      refine mj_iload C dX0_run_36 rfl ?_
      refine mj_st_ABOVE C dX0_run_38 ?_
      refine mj_iload C dX0_run_41 rfl ?_
      obtain ⟨hg6, hF⟩ := mj_og hF
      refine mj_sa_ABOVE C hg6 dX0_run_43 ?_
      refine mj_iload_n C dX0_run_44 rfl ?_
      refine mj_iload C dX0_run_45 rfl ?_
      refine mj_iconstV (v := 1) C dX0_run_47 mc_i_1 ?_
      refine mj_iadd C dX0_run_48 ?_
      obtain ⟨r7, hq7, hF⟩ := mj_ob hF
      refine mj_callVi C (hr1 r4 (mj_above r1.toNatClampNeg) p3 (p4 + 1) r5 r7 hq7) yv_X0_perform kl_X0_64 (mo_50 G _) rfl rfl rfl rfl (Nat.le_of_ble_eq_true rfl) (mj_roomK (by decide)) ⟨Nat.zero_le _, Nat.zero_le _⟩ dX0_run_49 ?_
      have hF := mj_oi hF; subst hF
      exact mj_iret C hr hlk dX0_run_52
    · refine mj_iconstV (v := 0) C dX0_run_19 mc_i_0 ?_
      have hF := mj_oi hF; subst hF
      exact mj_iret C hr hlk dX0_run_20
set_option maxRecDepth 100000 in
set_option maxHeartbeats 4000000 in
theorem cF_X0_perform {G : mj_G} {l : Launch} {k : Nat} {rec : Nat → Int32 → Int32 → Int32 → Int32 → mj_S → Option (Int32 × mj_S)} (hr0 : ∀ (x0 x1 x2 x3 : Int32) (σ : mj_S) (R : (Int32 × mj_S)), rec 0 x0 x1 x2 x3 σ = some R → mj_C G l yX0_run cX0_run 7 (some .int) (4 + k) [.ref (G.2.1 50), .int x0, .int x1, .int x2, .int x3] σ (some (.int R.1)) R.2) (hr1 : ∀ (x0 x1 x2 x3 : Int32) (σ : mj_S) (R : (Int32 × mj_S)), rec 1 x0 x1 x2 x3 σ = some R → mj_C G l yX0_perform cX0_perform 5 (some .int) (4 + k) [.ref (G.2.1 50), .int x0, .int x1, .int x2, .int x3] σ (some (.int R.1)) R.2) (σ : mj_S) (p1 : Int32) (p2 : Int32) (p3 : Int32) (p4 : Int32) (R : (Int32 × mj_S)) (hF : F_X0_perform rec σ p1 p2 p3 p4 = some R) : mj_C G l yX0_perform cX0_perform 5 (some .int) (4 + (k + 1)) [.ref (G.2.1 50), .int p1, .int p2, .int p3, .int p4] σ (some (.int R.1)) R.2 := by
  unfold F_X0_perform at hF
  refine mj_of (ls := [(0, .ref (G.2.1 50)), (1, .int p1), (2, .int p2), (3, .int p3), (4, .int p4)]) (by decide) (Nat.le_of_ble_eq_true rfl) rfl (fun p e s m args below meth c C hr hlk => ?_)
  refine mj_iload_n C dX0_perform_0 rfl ?_
  by_cases hw1_0 : p1 = 1
  · rw [if_pos hw1_0] at hF
    refine mj_lsw (off := 115) C dX0_perform_1 rfl (by rw [hw1_0]; rfl) rfl ?_
    refine mj_iload_n C dX0_perform_116 rfl ?_
    refine mj_aload_n C dX0_perform_117 rfl ?_
    refine mg_X0_25 C dX0_perform_118 ?_
    refine mj_iadd C dX0_perform_121 ?_
    have hF := mj_oi hF; subst hF
    exact mj_iret C hr hlk dX0_perform_122
  rw [if_neg hw1_0] at hF
  by_cases hw1_1 : p1 = 2
  · rw [if_pos hw1_1] at hF
    refine mj_lsw (off := 122) C dX0_perform_1 rfl (by rw [hw1_1]; rfl) rfl ?_
    refine mj_aload_n C dX0_perform_123 rfl ?_
    refine mj_iconstV (v := 1) C dX0_perform_124 mc_i_1 ?_
    refine mj_aload_n C dX0_perform_125 rfl ?_
    refine mg_X0_28 C dX0_perform_126 ?_
    refine mj_iload_n C dX0_perform_129 rfl ?_
    refine mj_iload C dX0_perform_130 rfl ?_
    obtain ⟨r2, hq2, hF⟩ := mj_ob hF
    refine mj_callVi C (hr0 1 (σ.1 50 5) p3 p4 σ r2 hq2) yv_X0_run kl_X0_49 (mo_50 G _) rfl rfl rfl rfl (Nat.le_of_ble_eq_true rfl) (mj_roomK (by decide)) ⟨Nat.zero_le _, Nat.zero_le _⟩ dX0_perform_132 ?_
    refine mj_aload_n C dX0_perform_135 rfl ?_
    refine mj_iconstV (v := 2) C dX0_perform_136 mc_i_2 ?_
    refine mj_aload_n C dX0_perform_137 rfl ?_
    refine mg_X0_28 C dX0_perform_138 ?_
    refine mj_iconstV (v := 1) C dX0_perform_141 mc_i_1 ?_
    refine mj_iload C dX0_perform_142 rfl ?_
    obtain ⟨r3, hq3, hF⟩ := mj_ob hF
    refine mj_callVi C (hr0 2 (r2.2.1 50 5) 1 p4 r2.2 r3 hq3) yv_X0_run kl_X0_49 (mo_50 G _) rfl rfl rfl rfl (Nat.le_of_ble_eq_true rfl) (mj_roomK (by decide)) ⟨Nat.zero_le _, Nat.zero_le _⟩ dX0_perform_144 ?_
    refine mj_isub C dX0_perform_147 ?_
    have hF := mj_oi hF; subst hF
    exact mj_iret C hr hlk dX0_perform_148
  rw [if_neg hw1_1] at hF
  by_cases hw1_2 : p1 = 10
  · rw [if_pos hw1_2] at hF
    refine mj_lsw (off := 148) C dX0_perform_1 rfl (by rw [hw1_2]; rfl) rfl ?_
    refine mj_aload_n C dX0_perform_149 rfl ?_
    refine mj_iconstV (v := 0) C dX0_perform_150 mc_i_0 ?_
    refine mj_aload_n C dX0_perform_151 rfl ?_
    refine mg_X0_28 C dX0_perform_152 ?_
    refine mj_iload_n C dX0_perform_155 rfl ?_
    refine mj_iload C dX0_perform_156 rfl ?_
    obtain ⟨r4, hq4, hF⟩ := mj_ob hF
    refine mj_callVi C (hr0 0 (σ.1 50 5) p3 p4 σ r4 hq4) yv_X0_run kl_X0_49 (mo_50 G _) rfl rfl rfl rfl (Nat.le_of_ble_eq_true rfl) (mj_roomK (by decide)) ⟨Nat.zero_le _, Nat.zero_le _⟩ dX0_perform_158 ?_
    refine mj_iconstV (v := 2) C dX0_perform_161 mc_i_2 ?_
    refine mj_imul C dX0_perform_162 ?_
    have hF := mj_oi hF; subst hF
    exact mj_iret C hr hlk dX0_perform_163
  rw [if_neg hw1_2] at hF
  by_cases hw1_3 : p1 = 11
  · rw [if_pos hw1_3] at hF
    refine mj_lsw (off := 163) C dX0_perform_1 rfl (by rw [hw1_3]; rfl) rfl ?_
    refine mj_iload_n C dX0_perform_164 rfl ?_
    refine mj_aload_n C dX0_perform_165 rfl ?_
    refine mg_X0_25 C dX0_perform_166 ?_
    refine mj_ixor C dX0_perform_169 ?_
    have hF := mj_oi hF; subst hF
    exact mj_iret C hr hlk dX0_perform_170
  rw [if_neg hw1_3] at hF
  by_cases hw1_4 : p1 = 20
  · rw [if_pos hw1_4] at hF
    refine mj_lsw (off := 170) C dX0_perform_1 rfl (by rw [hw1_4]; rfl) rfl ?_
    refine mj_aload_n C dX0_perform_171 rfl ?_
    refine mj_iconstV (v := 0) C dX0_perform_172 mc_i_0 ?_
    refine mj_iload_n C dX0_perform_173 rfl ?_
    refine mj_iload_n C dX0_perform_174 rfl ?_
    refine mj_iload C dX0_perform_175 rfl ?_
    obtain ⟨r5, hq5, hF⟩ := mj_ob hF
    refine mj_callVi C (hr0 0 p2 p3 p4 σ r5 hq5) yv_X0_run kl_X0_49 (mo_50 G _) rfl rfl rfl rfl (Nat.le_of_ble_eq_true rfl) (mj_roomK (by decide)) ⟨Nat.zero_le _, Nat.zero_le _⟩ dX0_perform_177 ?_
    refine mj_iconstV (v := 3) C dX0_perform_180 mc_i_3 ?_
    refine mj_iadd C dX0_perform_181 ?_
    have hF := mj_oi hF; subst hF
    exact mj_iret C hr hlk dX0_perform_182
  rw [if_neg hw1_4] at hF
  by_cases hw1_5 : p1 = 30
  · rw [if_pos hw1_5] at hF
    refine mj_lsw (off := 182) C dX0_perform_1 rfl (by rw [hw1_5]; rfl) rfl ?_
    refine mj_aload_n C dX0_perform_183 rfl ?_
    refine mj_iconstV (v := 1) C dX0_perform_184 mc_i_1 ?_
    refine mj_iload_n C dX0_perform_185 rfl ?_
    refine mj_iload_n C dX0_perform_186 rfl ?_
    refine mj_iload C dX0_perform_187 rfl ?_
    obtain ⟨r6, hq6, hF⟩ := mj_ob hF
    refine mj_callVi C (hr0 1 p2 p3 p4 σ r6 hq6) yv_X0_run kl_X0_49 (mo_50 G _) rfl rfl rfl rfl (Nat.le_of_ble_eq_true rfl) (mj_roomK (by decide)) ⟨Nat.zero_le _, Nat.zero_le _⟩ dX0_perform_189 ?_
    refine mj_ineg C dX0_perform_192 ?_
    have hF := mj_oi hF; subst hF
    exact mj_iret C hr hlk dX0_perform_193
  rw [if_neg hw1_5] at hF
  by_cases hw1_6 : p1 = 40
  · rw [if_pos hw1_6] at hF
    refine mj_lsw (off := 193) C dX0_perform_1 rfl (by rw [hw1_6]; rfl) rfl ?_
    refine mj_aload_n C dX0_perform_194 rfl ?_
    refine mj_iconstV (v := 2) C dX0_perform_195 mc_i_2 ?_
    refine mj_iload_n C dX0_perform_196 rfl ?_
    refine mj_iload_n C dX0_perform_197 rfl ?_
    refine mj_iload C dX0_perform_198 rfl ?_
    obtain ⟨r7, hq7, hF⟩ := mj_ob hF
    refine mj_callVi C (hr0 2 p2 p3 p4 σ r7 hq7) yv_X0_run kl_X0_49 (mo_50 G _) rfl rfl rfl rfl (Nat.le_of_ble_eq_true rfl) (mj_roomK (by decide)) ⟨Nat.zero_le _, Nat.zero_le _⟩ dX0_perform_200 ?_
    refine mj_iconstV (v := 3) C dX0_perform_203 mc_i_3 ?_
    refine mj_imul C dX0_perform_204 ?_
    have hF := mj_oi hF; subst hF
    exact mj_iret C hr hlk dX0_perform_205
  rw [if_neg hw1_6] at hF
  by_cases hw1_7 : p1 = 41
  · rw [if_pos hw1_7] at hF
    refine mj_lsw (off := 205) C dX0_perform_1 rfl (by rw [hw1_7]; rfl) rfl ?_
    refine mj_aload_n C dX0_perform_206 rfl ?_
    refine mj_iconstV (v := 1) C dX0_perform_207 mc_i_1 ?_
    refine mj_iload_n C dX0_perform_208 rfl ?_
    refine mj_iload_n C dX0_perform_209 rfl ?_
    refine mj_iconstV (v := 1) C dX0_perform_210 mc_i_1 ?_
    refine mj_iadd C dX0_perform_211 ?_
    refine mj_iload C dX0_perform_212 rfl ?_
    obtain ⟨r8, hq8, hF⟩ := mj_ob hF
    refine mj_callVi C (hr0 1 p2 (p3 + 1) p4 σ r8 hq8) yv_X0_run kl_X0_49 (mo_50 G _) rfl rfl rfl rfl (Nat.le_of_ble_eq_true rfl) (mj_roomK (by decide)) ⟨Nat.zero_le _, Nat.zero_le _⟩ dX0_perform_214 ?_
    have hF := mj_oi hF; subst hF
    exact mj_iret C hr hlk dX0_perform_217
  rw [if_neg hw1_7] at hF
  by_cases hw1_8 : p1 = 50
  · rw [if_pos hw1_8] at hF
    refine mj_lsw (off := 217) C dX0_perform_1 rfl (by rw [hw1_8]; rfl) rfl ?_
    refine mj_aload_n C dX0_perform_218 rfl ?_
    refine mj_iconstV (v := 2) C dX0_perform_219 mc_i_2 ?_
    refine mj_iload_n C dX0_perform_220 rfl ?_
    refine mj_iload_n C dX0_perform_221 rfl ?_
    refine mj_iload C dX0_perform_222 rfl ?_
    obtain ⟨r9, hq9, hF⟩ := mj_ob hF
    refine mj_callVi C (hr0 2 p2 p3 p4 σ r9 hq9) yv_X0_run kl_X0_49 (mo_50 G _) rfl rfl rfl rfl (Nat.le_of_ble_eq_true rfl) (mj_roomK (by decide)) ⟨Nat.zero_le _, Nat.zero_le _⟩ dX0_perform_224 ?_
    refine mj_aload_n C dX0_perform_227 rfl ?_
    refine mj_iconstV (v := 0) C dX0_perform_228 mc_i_0 ?_
    refine mj_aload_n C dX0_perform_229 rfl ?_
    refine mg_X0_28 C dX0_perform_230 ?_
    refine mj_iconstV (v := 2) C dX0_perform_233 mc_i_2 ?_
    refine mj_iload C dX0_perform_234 rfl ?_
    obtain ⟨r10, hq10, hF⟩ := mj_ob hF
    refine mj_callVi C (hr0 0 (r9.2.1 50 5) 2 p4 r9.2 r10 hq10) yv_X0_run kl_X0_49 (mo_50 G _) rfl rfl rfl rfl (Nat.le_of_ble_eq_true rfl) (mj_roomK (by decide)) ⟨Nat.zero_le _, Nat.zero_le _⟩ dX0_perform_236 ?_
    refine mj_isub C dX0_perform_239 ?_
    have hF := mj_oi hF; subst hF
    exact mj_iret C hr hlk dX0_perform_240
  rw [if_neg hw1_8] at hF
  by_cases hw1_9 : p1 = 60
  · rw [if_pos hw1_9] at hF
    refine mj_lsw (off := 240) C dX0_perform_1 rfl (by rw [hw1_9]; rfl) rfl ?_
    refine mj_aload_n C dX0_perform_241 rfl ?_
    refine mj_iconstV (v := 3) C dX0_perform_242 mc_i_3 ?_
    refine mj_iload_n C dX0_perform_243 rfl ?_
    refine mj_iload_n C dX0_perform_244 rfl ?_
    refine mj_iload C dX0_perform_245 rfl ?_
    obtain ⟨r11, hq11, hF⟩ := mj_ob hF
    refine mj_callVi C (hr0 3 p2 p3 p4 σ r11 hq11) yv_X0_run kl_X0_49 (mo_50 G _) rfl rfl rfl rfl (Nat.le_of_ble_eq_true rfl) (mj_roomK (by decide)) ⟨Nat.zero_le _, Nat.zero_le _⟩ dX0_perform_247 ?_
    refine mj_iconstV (v := 5) C dX0_perform_250 mc_i_5 ?_
    refine mj_ixor C dX0_perform_251 ?_
    have hF := mj_oi hF; subst hF
    exact mj_iret C hr hlk dX0_perform_252
  rw [if_neg hw1_9] at hF
  by_cases hw1_10 : p1 = 70
  · rw [if_pos hw1_10] at hF
    refine mj_lsw (off := 252) C dX0_perform_1 rfl (by rw [hw1_10]; rfl) rfl ?_
    refine mj_aload_n C dX0_perform_253 rfl ?_
    refine mj_iconstV (v := 0) C dX0_perform_254 mc_i_0 ?_
    refine mj_iload_n C dX0_perform_255 rfl ?_
    refine mj_iload_n C dX0_perform_256 rfl ?_
    refine mj_iload C dX0_perform_257 rfl ?_
    obtain ⟨r12, hq12, hF⟩ := mj_ob hF
    refine mj_callVi C (hr0 0 p2 p3 p4 σ r12 hq12) yv_X0_run kl_X0_49 (mo_50 G _) rfl rfl rfl rfl (Nat.le_of_ble_eq_true rfl) (mj_roomK (by decide)) ⟨Nat.zero_le _, Nat.zero_le _⟩ dX0_perform_259 ?_
    refine mj_iconstV (v := 2) C dX0_perform_262 mc_i_2 ?_
    refine mj_imul C dX0_perform_263 ?_
    have hF := mj_oi hF; subst hF
    exact mj_iret C hr hlk dX0_perform_264
  rw [if_neg hw1_10] at hF
  by_cases hw1_11 : p1 = 80
  · rw [if_pos hw1_11] at hF
    refine mj_lsw (off := 264) C dX0_perform_1 rfl (by rw [hw1_11]; rfl) rfl ?_
    refine mj_aload_n C dX0_perform_265 rfl ?_
    refine mj_iconstV (v := 1) C dX0_perform_266 mc_i_1 ?_
    refine mj_iload_n C dX0_perform_267 rfl ?_
    refine mj_iload_n C dX0_perform_268 rfl ?_
    refine mj_iload C dX0_perform_269 rfl ?_
    obtain ⟨r13, hq13, hF⟩ := mj_ob hF
    refine mj_callVi C (hr0 1 p2 p3 p4 σ r13 hq13) yv_X0_run kl_X0_49 (mo_50 G _) rfl rfl rfl rfl (Nat.le_of_ble_eq_true rfl) (mj_roomK (by decide)) ⟨Nat.zero_le _, Nat.zero_le _⟩ dX0_perform_271 ?_
    refine mj_aload_n C dX0_perform_274 rfl ?_
    refine mj_iconstV (v := 2) C dX0_perform_275 mc_i_2 ?_
    refine mj_aload_n C dX0_perform_276 rfl ?_
    refine mg_X0_28 C dX0_perform_277 ?_
    refine mj_iconstV (v := 2) C dX0_perform_280 mc_i_2 ?_
    refine mj_iload C dX0_perform_281 rfl ?_
    obtain ⟨r14, hq14, hF⟩ := mj_ob hF
    refine mj_callVi C (hr0 2 (r13.2.1 50 5) 2 p4 r13.2 r14 hq14) yv_X0_run kl_X0_49 (mo_50 G _) rfl rfl rfl rfl (Nat.le_of_ble_eq_true rfl) (mj_roomK (by decide)) ⟨Nat.zero_le _, Nat.zero_le _⟩ dX0_perform_283 ?_
    refine mj_iadd C dX0_perform_286 ?_
    have hF := mj_oi hF; subst hF
    exact mj_iret C hr hlk dX0_perform_287
  rw [if_neg hw1_11] at hF
  by_cases hw1_12 : p1 = 81
  · rw [if_pos hw1_12] at hF
    refine mj_lsw (off := 287) C dX0_perform_1 rfl (by rw [hw1_12]; rfl) rfl ?_
    refine mj_aload_n C dX0_perform_288 rfl ?_
    refine mj_iconstV (v := 3) C dX0_perform_289 mc_i_3 ?_
    refine mj_iload_n C dX0_perform_290 rfl ?_
    refine mj_iload_n C dX0_perform_291 rfl ?_
    refine mj_iload C dX0_perform_292 rfl ?_
    obtain ⟨r15, hq15, hF⟩ := mj_ob hF
    refine mj_callVi C (hr0 3 p2 p3 p4 σ r15 hq15) yv_X0_run kl_X0_49 (mo_50 G _) rfl rfl rfl rfl (Nat.le_of_ble_eq_true rfl) (mj_roomK (by decide)) ⟨Nat.zero_le _, Nat.zero_le _⟩ dX0_perform_294 ?_
    refine mj_iconstV (v := 1) C dX0_perform_297 mc_i_1 ?_
    refine mj_isub C dX0_perform_298 ?_
    have hF := mj_oi hF; subst hF
    exact mj_iret C hr hlk dX0_perform_299
  rw [if_neg hw1_12] at hF
  refine mj_lsw (off := 299) C dX0_perform_1 rfl (by refine (lv_osw hw1_0 rfl).trans ?_; refine (lv_osw hw1_1 rfl).trans ?_; refine (lv_osw hw1_2 rfl).trans ?_; refine (lv_osw hw1_3 rfl).trans ?_; refine (lv_osw hw1_4 rfl).trans ?_; refine (lv_osw hw1_5 rfl).trans ?_; refine (lv_osw hw1_6 rfl).trans ?_; refine (lv_osw hw1_7 rfl).trans ?_; refine (lv_osw hw1_8 rfl).trans ?_; refine (lv_osw hw1_9 rfl).trans ?_; refine (lv_osw hw1_10 rfl).trans ?_; refine (lv_osw hw1_11 rfl).trans ?_; refine (lv_osw hw1_12 rfl).trans ?_; rfl) rfl ?_
  refine mj_iconstV (v := 0) C dX0_perform_300 mc_i_0 ?_
  have hF := mj_oi hF; subst hF
  exact mj_iret C hr hlk dX0_perform_301
theorem cr_X0_run {G : mj_G} {l : Launch} : ∀ k : Nat, (∀ (x0 x1 x2 x3 : Int32) (σ : mj_S) (R : (Int32 × mj_S)), rc_X0_run k 0 x0 x1 x2 x3 σ = some R → mj_C G l yX0_run cX0_run 7 (some .int) (4 + k) [.ref (G.2.1 50), .int x0, .int x1, .int x2, .int x3] σ (some (.int R.1)) R.2) ∧ (∀ (x0 x1 x2 x3 : Int32) (σ : mj_S) (R : (Int32 × mj_S)), rc_X0_run k 1 x0 x1 x2 x3 σ = some R → mj_C G l yX0_perform cX0_perform 5 (some .int) (4 + k) [.ref (G.2.1 50), .int x0, .int x1, .int x2, .int x3] σ (some (.int R.1)) R.2) := by
  intro k
  induction k with
  | zero =>
    refine ⟨?_, ?_⟩ <;> (intros; rename_i h; cases h)
  | succ k ih =>
    exact ⟨fun x0 x1 x2 x3 σ R h => cF_X0_run (ih.1) (ih.2) σ x0 x1 x2 x3 R (by rw [rc_X0_run] at h; exact h),
      fun x0 x1 x2 x3 σ R h => cF_X0_perform (ih.1) (ih.2) σ x0 x1 x2 x3 R (by rw [rc_X0_run] at h; exact h)⟩
theorem c_X0_run {G : mj_G} {l : Launch} (σ : mj_S) (p1 : Int32) (p2 : Int32) (p3 : Int32) (p4 : Int32) (R : (Int32 × mj_S)) (hF : f_X0_run σ p1 p2 p3 p4 = some R) : mj_C G l yX0_run cX0_run 7 (some .int) 104 [.ref (G.2.1 50), .int p1, .int p2, .int p3, .int p4] σ (some (.int R.1)) R.2 := (cr_X0_run 100).1 p1 p2 p3 p4 σ R hF
theorem c_X0_perform {G : mj_G} {l : Launch} (σ : mj_S) (p1 : Int32) (p2 : Int32) (p3 : Int32) (p4 : Int32) (R : (Int32 × mj_S)) (hF : f_X0_perform σ p1 p2 p3 p4 = some R) : mj_C G l yX0_perform cX0_perform 5 (some .int) 104 [.ref (G.2.1 50), .int p1, .int p2, .int p3, .int p4] σ (some (.int R.1)) R.2 := (cr_X0_run 100).2 p1 p2 p3 p4 σ R hF
set_option maxRecDepth 100000 in
set_option maxHeartbeats 4000000 in
theorem c_X0_start {G : mj_G} {l : Launch} (σ : mj_S) (p1 : Int32) (p2 : Int32) (p3 : Int32) (R : (Int32 × mj_S)) (hF : f_X0_start σ p1 p2 p3 = some R) : mj_C G l yX0_start cX0_start 4 (some .int) 105 [.ref (G.2.1 50), .int p1, .int p2, .int p3] σ (some (.int R.1)) R.2 := by
  unfold f_X0_start at hF
  refine mj_of (ls := [(0, .ref (G.2.1 50)), (1, .int p1), (2, .int p2), (3, .int p3)]) (by decide) (Nat.le_of_ble_eq_true rfl) rfl (fun p e s m args below meth c C hr hlk => ?_)
  refine mj_aload_n C dX0_start_0 rfl ?_
  refine mj_iconstV (v := 0) C dX0_start_1 mc_i_0 ?_
  refine mp_X0_22 C dX0_start_2 ?_
  refine mj_aload_n C dX0_start_5 rfl ?_
  refine mj_iload_n C dX0_start_6 rfl ?_
  refine mj_callVi C (c_X0_has (mj_sI σ 50 3 0) p1) yv_X0_has kl_X0_42 (mo_50 G _) rfl rfl rfl rfl (Nat.le_of_ble_eq_true rfl) (mj_roomC (by decide) (by decide)) ⟨Nat.zero_le _, Nat.zero_le _⟩ dX0_start_7 ?_
  refine mj_if_eq C dX0_start_10 rfl hF (fun hc1 hF => ?_) (fun hc1 hF => ?_)
  · refine mj_iconstV (v := 0) C dX0_start_22 mc_i_0 ?_
    have hF := mj_oi hF; subst hF
    exact mj_iret C hr hlk dX0_start_23
  · refine mj_iload_n C dX0_start_13 rfl ?_
    refine mj_iconstV (v := 0) C dX0_start_14 mc_i_0 ?_
    refine mj_iconstV (v := 3) C dX0_start_15 mc_i_3 ?_
    refine mj_callNi C (c_X9_within (mj_sI σ 50 3 0) p2 0 3) ys_X9_within kn_X0_31 rfl rfl (Nat.le_of_ble_eq_true rfl) (mj_roomC (by decide) (by decide)) ⟨Nat.zero_le _, Nat.zero_le _⟩ dX0_start_16 ?_
    refine mj_if_ne C dX0_start_19 rfl hF (fun hc2 hF => ?_) (fun hc2 hF => ?_)
    · refine mj_aload_n C dX0_start_24 rfl ?_
      refine mj_iload_n C dX0_start_25 rfl ?_
      refine mp_X0_25 C dX0_start_26 ?_
      refine mj_aload_n C dX0_start_29 rfl ?_
      refine mj_aload_n C dX0_start_30 rfl ?_
      refine mj_iload_n C dX0_start_31 rfl ?_
      obtain ⟨r3, hq3, hF⟩ := mj_ob hF
      refine mj_callVi C (c_X0_kindOf (mj_sI (mj_sI σ 50 3 0) 50 4 p1) p1 r3 hq3) yv_X0_kindOf kl_X0_45 (mo_50 G _) rfl rfl rfl rfl (Nat.le_of_ble_eq_true rfl) (mj_roomC (by decide) (by decide)) ⟨Nat.zero_le _, Nat.zero_le _⟩ dX0_start_32 ?_
      refine mp_X0_28 C dX0_start_35 ?_
      refine mj_aload_n C dX0_start_38 rfl ?_
      refine mj_iload_n C dX0_start_39 rfl ?_
      refine mj_aload_n C dX0_start_40 rfl ?_
      refine mg_X0_28 C dX0_start_41 ?_
      refine mj_iload_n C dX0_start_44 rfl ?_
      refine mj_iconstV (v := 0) C dX0_start_45 mc_i_0 ?_
      obtain ⟨r4, hq4, hF⟩ := mj_ob hF
      refine mj_callVi C (c_X0_run (mj_sI (mj_sI (mj_sI σ 50 3 0) 50 4 p1) 50 5 r3) p2 r3 p3 0 r4 hq4) yv_X0_run kl_X0_49 (mo_50 G _) rfl rfl rfl rfl (Nat.le_of_ble_eq_true rfl) (mj_roomC (by decide) (by decide)) ⟨Nat.zero_le _, Nat.zero_le _⟩ dX0_start_46 ?_
      have hF := mj_oi hF; subst hF
      exact mj_iret C hr hlk dX0_start_49
    · refine mj_iconstV (v := 0) C dX0_start_22 mc_i_0 ?_
      have hF := mj_oi hF; subst hF
      exact mj_iret C hr hlk dX0_start_23
