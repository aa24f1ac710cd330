set_option maxRecDepth 100000 in
set_option maxHeartbeats 4000000 in
theorem c_X9_mark {G : mj_G} {l : Launch} (σ : mj_S) (p1 : Int32) (p2 : Int32) (p3 : Int32) (R : (Int32 × mj_S)) (hF : f_X9_mark σ p1 p2 p3 = some R) : mj_C G l yX9_mark cX9_mark 4 (some .int) 3 [.ref (G.2.1 0), .int p1, .int p2, .int p3] σ (some (.int R.1)) R.2 := by
  unfold f_X9_mark at hF
  refine mj_of (ls := [(0, .ref (G.2.1 0)), (1, .int p1), (2, .int p2), (3, .int p3)]) (by decide) (Nat.le_of_ble_eq_true rfl) rfl (fun p e s m args below meth c C hr hlk => ?_)
  refine mj_iload_n C dX9_mark_0 rfl ?_
  refine mj_if_lt C dX9_mark_1 rfl hF (fun hc1 hF => ?_) (fun hc1 hF => ?_)
  · refine mj_iconstV (v := (-1)) C dX9_mark_20 mc_i_m1 ?_
    have hF := mj_oi hF; subst hF
    exact mj_iret C hr hlk dX9_mark_21
  · refine mj_iload_n C dX9_mark_4 rfl ?_
    refine mj_iload_n C dX9_mark_5 rfl ?_
    refine mj_bipushV (v := 10) C dX9_mark_6 mc_b_10 ?_
    refine mj_idiv C dX9_mark_8 (by decide) ?_
    refine mj_iload_n C dX9_mark_9 rfl ?_
    refine mj_iload_n C dX9_mark_10 rfl ?_
    refine mj_bipushV (v := 10) C dX9_mark_11 mc_b_10 ?_
    refine mj_irem C dX9_mark_13 (by decide) ?_
    refine mj_callSi C (c_X9_isMark σ p1 (p2 / 10) p3 (mj_rem p2 10)) ys_X9_isMark kl_X9_142 rfl rfl (Nat.le_of_ble_eq_true rfl) (mj_roomC (by decide) (by decide)) ⟨Nat.zero_le _, Nat.zero_le _⟩ dX9_mark_14 ?_
    refine mj_if_ne C dX9_mark_17 rfl hF (fun hc2 hF => ?_) (fun hc2 hF => ?_)
    · refine mj_aload_n C dX9_mark_22 rfl ?_
      refine mg_X9_35 C dX9_mark_23 ?_
      refine mj_callVi C (c_X5_size σ) yv_X5_size kl_X9_146 (mo_35 G _) rfl rfl rfl rfl (Nat.le_of_ble_eq_true rfl) (mj_roomC (by decide) (by decide)) ⟨Nat.zero_le _, Nat.zero_le _⟩ dX9_mark_26 ?_
      refine mj_bipushV (v := 30) C dX9_mark_29 mc_b_30 ?_
      refine mj_ic_lt C dX9_mark_31 rfl hF (fun hc3 hF => ?_) (fun hc3 hF => ?_)
      · refine mj_aload_n C dX9_mark_37 rfl ?_
        refine mg_X9_35 C dX9_mark_38 ?_
        refine mj_iload_n C dX9_mark_41 rfl ?_
        refine mj_iload_n C dX9_mark_42 rfl ?_
        refine mj_bipushV (v := 10) C dX9_mark_43 mc_b_10 ?_
        refine mj_idiv C dX9_mark_45 (by decide) ?_
        refine mj_iload_n C dX9_mark_46 rfl ?_
        refine mj_iload_n C dX9_mark_47 rfl ?_
        refine mj_bipushV (v := 10) C dX9_mark_48 mc_b_10 ?_
        refine mj_irem C dX9_mark_50 (by decide) ?_
        obtain ⟨r4, hq4, hF⟩ := mj_ob hF
        refine mj_callVi C (c_X5_add σ p1 (p2 / 10) p3 (mj_rem p2 10) r4 hq4) yv_X5_add kl_X9_147 (mo_35 G _) rfl rfl rfl rfl (Nat.le_of_ble_eq_true rfl) (mj_roomC (by decide) (by decide)) ⟨Nat.zero_le _, Nat.zero_le _⟩ dX9_mark_51 ?_
        have hF := mj_oi hF; subst hF
        exact mj_iret C hr hlk dX9_mark_54
      · refine mj_bipushV (v := (-3)) C dX9_mark_34 mc_b_m3 ?_
        have hF := mj_oi hF; subst hF
        exact mj_iret C hr hlk dX9_mark_36
    · refine mj_iconstV (v := (-1)) C dX9_mark_20 mc_i_m1 ?_
      have hF := mj_oi hF; subst hF
      exact mj_iret C hr hlk dX9_mark_21
set_option maxRecDepth 100000 in
set_option maxHeartbeats 4000000 in
theorem c_X9_paint {G : mj_G} {l : Launch} (σ : mj_S) (p1 : Int32) (R : (Int32 × mj_S)) (hF : f_X9_paint σ p1 = some R) : mj_C G l yX9_paint cX9_paint 2 (some .int) 5 [.ref (G.2.1 0), .int p1] σ (some (.int R.1)) R.2 := by
  unfold f_X9_paint at hF
  refine mj_of (ls := [(0, .ref (G.2.1 0)), (1, .int p1)]) (by decide) (Nat.le_of_ble_eq_true rfl) rfl (fun p e s m args below meth c C hr hlk => ?_)
  refine mj_iload_n C dX9_paint_0 rfl ?_
  refine mj_callSi C (c_X9_isMonth σ p1) ys_X9_isMonth kl_X9_78 rfl rfl (Nat.le_of_ble_eq_true rfl) (mj_roomC (by decide) (by decide)) ⟨Nat.zero_le _, Nat.zero_le _⟩ dX9_paint_1 ?_
  refine mj_if_ne C dX9_paint_4 rfl hF (fun hc1 hF => ?_) (fun hc1 hF => ?_)
  · refine mj_aload_n C dX9_paint_9 rfl ?_
    refine mg_X9_35 C dX9_paint_10 ?_
    refine mj_iload_n C dX9_paint_13 rfl ?_
    refine mj_callVv C (c_X5_cover σ p1) yv_X5_cover kl_X9_161 (mo_35 G _) rfl rfl rfl rfl (Nat.le_of_ble_eq_true rfl) (mj_roomC (by decide) (by decide)) ⟨Nat.zero_le _, Nat.zero_le _⟩ dX9_paint_14 ?_
    replace hF := mj_letE hF
    generalize f_X5_cover σ p1 = r2 at hF ⊢
    refine mj_aload_n C dX9_paint_17 rfl ?_
    refine mg_X9_35 C dX9_paint_18 ?_
    obtain ⟨r3, hq3, hF⟩ := mj_ob hF
    refine mj_callVi C (c_X5_covered r2 r3 hq3) yv_X5_covered kl_X9_165 (mo_35 G _) rfl rfl rfl rfl (Nat.le_of_ble_eq_true rfl) (mj_roomC (by decide) (by decide)) ⟨Nat.zero_le _, Nat.zero_le _⟩ dX9_paint_21 ?_
    have hF := mj_oi hF; subst hF
    exact mj_iret C hr hlk dX9_paint_24
  · refine mj_iconstV (v := (-1)) C dX9_paint_7 mc_i_m1 ?_
    have hF := mj_oi hF; subst hF
    exact mj_iret C hr hlk dX9_paint_8
set_option maxRecDepth 100000 in
set_option maxHeartbeats 4000000 in
theorem w_X9_of_30 {p : Program} {l : Launch} {e : Env} {s : State} {m : MethodId} {args : Array Value} {below : List Frame} {meth : Method} {c : Code} {G : mj_G} {σ : mj_S} (C : mj_X p s m args meth c G cX9_of 3 RX9) (hr : meth.sig.returnType = some .int) (hlk : meth.locks = false) : ∀ (v1 : Int32) (v2 : Int32) (R : Int32), b_X9_of_30 σ v1 v2 = some R → mj_W p l e (mj_rm 5) s m args below meth c G 0 0 3 (MQ below (mj_Q G (some (.int R)) σ) args s 0 0 G.2.2.2) 30 [(0, .ref (G.2.1 0)), (1, .int v1), (2, .int v2)] [] σ := by
  intro v1 v2 R hF
  unfold b_X9_of_30 at hF
  refine mj_iload_n C dX9_of_30 rfl ?_
  refine mj_bipushV (v := 10) C dX9_of_31 mc_b_10 ?_
  refine mj_bipushV (v := 14) C dX9_of_33 mc_b_14 ?_
  refine mj_callSi C (c_X9_within σ v2 10 14) ys_X9_within kl_X9_82 rfl rfl (Nat.le_of_ble_eq_true rfl) (mj_roomC (by decide) (by decide)) ⟨Nat.zero_le _, Nat.zero_le _⟩ dX9_of_35 ?_
  refine mj_if_eq C dX9_of_38 rfl hF (fun hc2 hF => ?_) (fun hc2 hF => ?_)
  · refine mj_ldc C dX9_of_65 kc_X9_173 ?_
    have hF := mj_oi hF; subst hF
    exact mj_iret C hr hlk dX9_of_67
  · refine mj_aload_n C dX9_of_41 rfl ?_
    refine mg_X9_28 C dX9_of_42 ?_
    refine mj_iload_n C dX9_of_45 rfl ?_
    refine mj_callVi C (c_X2_has σ v1) yv_X2_has kl_X9_132 (mo_9 G _) rfl rfl rfl rfl (Nat.le_of_ble_eq_true rfl) (mj_roomC (by decide) (by decide)) ⟨Nat.zero_le _, Nat.zero_le _⟩ dX9_of_46 ?_
    refine mj_if_eq C dX9_of_49 rfl hF (fun hc3 hF => ?_) (fun hc3 hF => ?_)
    · refine mj_ldc C dX9_of_65 kc_X9_173 ?_
      have hF := mj_oi hF; subst hF
      exact mj_iret C hr hlk dX9_of_67
    · refine mj_aload_n C dX9_of_52 rfl ?_
      refine mg_X9_28 C dX9_of_53 ?_
      refine mj_iload_n C dX9_of_56 rfl ?_
      refine mj_iload_n C dX9_of_57 rfl ?_
      refine mj_bipushV (v := 10) C dX9_of_58 mc_b_10 ?_
      refine mj_isub C dX9_of_60 ?_
      obtain ⟨r4, hq4, hF⟩ := mj_ob hF
      refine mj_callVi C (c_X2_told σ v1 (v2 - 10) r4 hq4) yv_X2_told kl_X9_172 (mo_9 G _) rfl rfl rfl rfl (Nat.le_of_ble_eq_true rfl) (mj_roomC (by decide) (by decide)) ⟨Nat.zero_le _, Nat.zero_le _⟩ dX9_of_61 ?_
      have hF := mj_oi hF; subst hF
      exact mj_iret C hr hlk dX9_of_64
set_option maxRecDepth 100000 in
set_option maxHeartbeats 4000000 in
theorem c_X9_of {G : mj_G} {l : Launch} (σ : mj_S) (p1 : Int32) (p2 : Int32) (R : Int32) (hF : f_X9_of σ p1 p2 = some R) : mj_C G l yX9_of cX9_of 3 (some .int) 5 [.ref (G.2.1 0), .int p1, .int p2] σ (some (.int R)) σ := by
  unfold f_X9_of at hF
  refine mj_of (ls := [(0, .ref (G.2.1 0)), (1, .int p1), (2, .int p2)]) (by decide) (Nat.le_of_ble_eq_true rfl) rfl (fun p e s m args below meth c C hr hlk => ?_)
  refine mj_iload_n C dX9_of_0 rfl ?_
  refine mj_iconstV (v := 0) C dX9_of_1 mc_i_0 ?_
  refine mj_iconstV (v := 4) C dX9_of_2 mc_i_4 ?_
  refine mj_callSi C (c_X9_within σ p2 0 4) ys_X9_within kl_X9_82 rfl rfl (Nat.le_of_ble_eq_true rfl) (mj_roomC (by decide) (by decide)) ⟨Nat.zero_le _, Nat.zero_le _⟩ dX9_of_3 ?_
  refine mj_if_eq C dX9_of_6 rfl hF (fun hc1 hF => ?_) (fun hc1 hF => ?_)
  · refine mj_to ?_ (w_X9_of_30 C hr hlk p1 p2 R hF)
    exact ⟨rfl, rfl, rfl, trivial⟩
  · refine mj_aload_n C dX9_of_9 rfl ?_
    refine mg_X9_35 C dX9_of_10 ?_
    refine mj_iload_n C dX9_of_13 rfl ?_
    refine mj_callVi C (c_X5_has σ p1) yv_X5_has kl_X9_168 (mo_35 G _) rfl rfl rfl rfl (Nat.le_of_ble_eq_true rfl) (mj_roomC (by decide) (by decide)) ⟨Nat.zero_le _, Nat.zero_le _⟩ dX9_of_14 ?_
    refine mj_if_eq C dX9_of_17 rfl hF (fun hc5 hF => ?_) (fun hc5 hF => ?_)
    · refine mj_to ?_ (w_X9_of_30 C hr hlk p1 p2 R hF)
      exact ⟨rfl, rfl, rfl, trivial⟩
    · refine mj_aload_n C dX9_of_20 rfl ?_
      refine mg_X9_35 C dX9_of_21 ?_
      refine mj_iload_n C dX9_of_24 rfl ?_
      refine mj_iload_n C dX9_of_25 rfl ?_
      obtain ⟨r6, hq6, hF⟩ := mj_ob hF
      refine mj_callVi C (c_X5_told σ p1 p2 r6 hq6) yv_X5_told kl_X9_169 (mo_35 G _) rfl rfl rfl rfl (Nat.le_of_ble_eq_true rfl) (mj_roomC (by decide) (by decide)) ⟨Nat.zero_le _, Nat.zero_le _⟩ dX9_of_26 ?_
      have hF := mj_oi hF; subst hF
      exact mj_iret C hr hlk dX9_of_29
set_option maxRecDepth 100000 in
set_option maxHeartbeats 4000000 in
theorem c_X9_isMendable {G : mj_G} {l : Launch} (σ : mj_S) (p1 : Int32) (p2 : Int32) (p3 : Int32) : mj_C G l yX9_isMendable cX9_isMendable 4 (some .boolean) 3 [.ref (G.2.1 0), .int p1, .int p2, .int p3] σ (some (.int (f_X9_isMendable σ p1 p2 p3))) σ := by
  generalize hF : f_X9_isMendable σ p1 p2 p3 = R
  unfold f_X9_isMendable at hF
  refine mj_of (ls := [(0, .ref (G.2.1 0)), (1, .int p1), (2, .int p2), (3, .int p3)]) (by decide) (Nat.le_of_ble_eq_true rfl) rfl (fun p e s m args below meth c C hr hlk => ?_)
  refine mj_iload_n C dX9_isMendable_0 rfl ?_
  by_cases hw1_0 : p2 = 0
  · rw [if_pos hw1_0] at hF
    refine mj_tsIn (off := 31) C dX9_isMendable_1 (by rw [hw1_0]; decide) (by rw [hw1_0]; decide) (by rw [hw1_0]; rfl) rfl ?_
    refine mj_aload_n C dX9_isMendable_32 rfl ?_
    refine mg_X9_35 C dX9_isMendable_33 ?_
    refine mj_iload_n C dX9_isMendable_36 rfl ?_
    refine mj_callVi C (c_X5_has σ p1) yv_X5_has kl_X9_168 (mo_35 G _) rfl rfl rfl rfl (Nat.le_of_ble_eq_true rfl) (mj_roomC (by decide) (by decide)) ⟨Nat.zero_le _, Nat.zero_le _⟩ dX9_isMendable_37 ?_
    refine mj_if_eq C dX9_isMendable_40 rfl hF (fun hc2 hF => ?_) (fun hc2 hF => ?_)
    · refine mj_iconstV (v := 0) C dX9_isMendable_58 mc_i_0 ?_
      subst hF
      exact mj_zret (v := 0) rfl C hr hlk dX9_isMendable_59
    · refine mj_iload_n C dX9_isMendable_43 rfl ?_
      refine mj_iconstV (v := 0) C dX9_isMendable_44 mc_i_0 ?_
      refine mj_sipushV (v := 9999) C dX9_isMendable_45 mc_s_9999 ?_
      refine mj_callSi C (c_X9_within σ p3 0 9999) ys_X9_within kl_X9_82 rfl rfl (Nat.le_of_ble_eq_true rfl) (mj_roomC (by decide) (by decide)) ⟨Nat.zero_le _, Nat.zero_le _⟩ dX9_isMendable_48 ?_
      refine mj_if_eq C dX9_isMendable_51 rfl hF (fun hc3 hF => ?_) (fun hc3 hF => ?_)
      · refine mj_iconstV (v := 0) C dX9_isMendable_58 mc_i_0 ?_
        subst hF
        exact mj_zret (v := 0) rfl C hr hlk dX9_isMendable_59
      · refine mj_iconstV (v := 1) C dX9_isMendable_54 mc_i_1 ?_
        refine mj_goto C dX9_isMendable_55 rfl ?_
        subst hF
        exact mj_zret (v := 1) rfl C hr hlk dX9_isMendable_59
  rw [if_neg hw1_0] at hF
  by_cases hw1_1 : p2 = 1
  · rw [if_pos hw1_1] at hF
    refine mj_tsIn (off := 59) C dX9_isMendable_1 (by rw [hw1_1]; decide) (by rw [hw1_1]; decide) (by rw [hw1_1]; rfl) rfl ?_
    refine mj_aload_n C dX9_isMendable_60 rfl ?_
    refine mg_X9_35 C dX9_isMendable_61 ?_
    refine mj_iload_n C dX9_isMendable_64 rfl ?_
    refine mj_callVi C (c_X5_has σ p1) yv_X5_has kl_X9_168 (mo_35 G _) rfl rfl rfl rfl (Nat.le_of_ble_eq_true rfl) (mj_roomC (by decide) (by decide)) ⟨Nat.zero_le _, Nat.zero_le _⟩ dX9_isMendable_65 ?_
    refine mj_if_eq C dX9_isMendable_68 rfl hF (fun hc4 hF => ?_) (fun hc4 hF => ?_)
    · refine mj_iconstV (v := 0) C dX9_isMendable_84 mc_i_0 ?_
      subst hF
      exact mj_zret (v := 0) rfl C hr hlk dX9_isMendable_85
    · refine mj_iload_n C dX9_isMendable_71 rfl ?_
      refine mj_iconstV (v := 0) C dX9_isMendable_72 mc_i_0 ?_
      refine mj_iconstV (v := 4) C dX9_isMendable_73 mc_i_4 ?_
      refine mj_callSi C (c_X9_within σ p3 0 4) ys_X9_within kl_X9_82 rfl rfl (Nat.le_of_ble_eq_true rfl) (mj_roomC (by decide) (by decide)) ⟨Nat.zero_le _, Nat.zero_le _⟩ dX9_isMendable_74 ?_
      refine mj_if_eq C dX9_isMendable_77 rfl hF (fun hc5 hF => ?_) (fun hc5 hF => ?_)
      · refine mj_iconstV (v := 0) C dX9_isMendable_84 mc_i_0 ?_
        subst hF
        exact mj_zret (v := 0) rfl C hr hlk dX9_isMendable_85
      · refine mj_iconstV (v := 1) C dX9_isMendable_80 mc_i_1 ?_
        refine mj_goto C dX9_isMendable_81 rfl ?_
        subst hF
        exact mj_zret (v := 1) rfl C hr hlk dX9_isMendable_85
  rw [if_neg hw1_1] at hF
  by_cases hw1_2 : p2 = 2
  · rw [if_pos hw1_2] at hF
    refine mj_tsIn (off := 85) C dX9_isMendable_1 (by rw [hw1_2]; decide) (by rw [hw1_2]; decide) (by rw [hw1_2]; rfl) rfl ?_
    refine mj_aload_n C dX9_isMendable_86 rfl ?_
    refine mg_X9_28 C dX9_isMendable_87 ?_
    refine mj_iload_n C dX9_isMendable_90 rfl ?_
    refine mj_callVi C (c_X2_has σ p1) yv_X2_has kl_X9_132 (mo_9 G _) rfl rfl rfl rfl (Nat.le_of_ble_eq_true rfl) (mj_roomC (by decide) (by decide)) ⟨Nat.zero_le _, Nat.zero_le _⟩ dX9_isMendable_91 ?_
    refine mj_if_eq C dX9_isMendable_94 rfl hF (fun hc6 hF => ?_) (fun hc6 hF => ?_)
    · refine mj_iconstV (v := 0) C dX9_isMendable_108 mc_i_0 ?_
      subst hF
      exact mj_zret (v := 0) rfl C hr hlk dX9_isMendable_109
    · refine mj_iload_n C dX9_isMendable_97 rfl ?_
      refine mj_callSi C (c_X9_isLate σ p3) ys_X9_isLate kl_X9_86 rfl rfl (Nat.le_of_ble_eq_true rfl) (mj_roomC (by decide) (by decide)) ⟨Nat.zero_le _, Nat.zero_le _⟩ dX9_isMendable_98 ?_
      refine mj_if_eq C dX9_isMendable_101 rfl hF (fun hc7 hF => ?_) (fun hc7 hF => ?_)
      · refine mj_iconstV (v := 0) C dX9_isMendable_108 mc_i_0 ?_
        subst hF
        exact mj_zret (v := 0) rfl C hr hlk dX9_isMendable_109
      · refine mj_iconstV (v := 1) C dX9_isMendable_104 mc_i_1 ?_
        refine mj_goto C dX9_isMendable_105 rfl ?_
        subst hF
        exact mj_zret (v := 1) rfl C hr hlk dX9_isMendable_109
  rw [if_neg hw1_2] at hF
  by_cases hw1_3 : p2 = 3
  · rw [if_pos hw1_3] at hF
    refine mj_tsIn (off := 109) C dX9_isMendable_1 (by rw [hw1_3]; decide) (by rw [hw1_3]; decide) (by rw [hw1_3]; rfl) rfl ?_
    refine mj_aload_n C dX9_isMendable_110 rfl ?_
    refine mg_X9_28 C dX9_isMendable_111 ?_
    refine mj_iload_n C dX9_isMendable_114 rfl ?_
    refine mj_callVi C (c_X2_has σ p1) yv_X2_has kl_X9_132 (mo_9 G _) rfl rfl rfl rfl (Nat.le_of_ble_eq_true rfl) (mj_roomC (by decide) (by decide)) ⟨Nat.zero_le _, Nat.zero_le _⟩ dX9_isMendable_115 ?_
    refine mj_if_eq C dX9_isMendable_118 rfl hF (fun hc8 hF => ?_) (fun hc8 hF => ?_)
    · refine mj_iconstV (v := 0) C dX9_isMendable_132 mc_i_0 ?_
      subst hF
      exact mj_zret (v := 0) rfl C hr hlk dX9_isMendable_133
    · refine mj_iload_n C dX9_isMendable_121 rfl ?_
      refine mj_callSi C (c_X9_isParents σ p3) ys_X9_isParents kl_X9_89 rfl rfl (Nat.le_of_ble_eq_true rfl) (mj_roomC (by decide) (by decide)) ⟨Nat.zero_le _, Nat.zero_le _⟩ dX9_isMendable_122 ?_
      refine mj_if_eq C dX9_isMendable_125 rfl hF (fun hc9 hF => ?_) (fun hc9 hF => ?_)
      · refine mj_iconstV (v := 0) C dX9_isMendable_132 mc_i_0 ?_
        subst hF
        exact mj_zret (v := 0) rfl C hr hlk dX9_isMendable_133
      · refine mj_iconstV (v := 1) C dX9_isMendable_128 mc_i_1 ?_
        refine mj_goto C dX9_isMendable_129 rfl ?_
        subst hF
        exact mj_zret (v := 1) rfl C hr hlk dX9_isMendable_133
  rw [if_neg hw1_3] at hF
  refine mj_tsOut C dX9_isMendable_1 (mj_sw_0_4 hw1_0 hw1_1 hw1_2 hw1_3) rfl ?_
  refine mj_iconstV (v := 0) C dX9_isMendable_134 mc_i_0 ?_
  subst hF
  exact mj_zret (v := 0) rfl C hr hlk dX9_isMendable_135
set_option maxRecDepth 100000 in
set_option maxHeartbeats 4000000 in
theorem c_X9_isMarkAndChild {G : mj_G} {l : Launch} (σ : mj_S) (p1 : Int32) : mj_C G l yX9_isMarkAndChild cX9_isMarkAndChild 2 (some .boolean) 2 [.ref (G.2.1 0), .int p1] σ (some (.int (f_X9_isMarkAndChild σ p1))) σ := by
  generalize hF : f_X9_isMarkAndChild σ p1 = R
  unfold f_X9_isMarkAndChild at hF
  refine mj_of (ls := [(0, .ref (G.2.1 0)), (1, .int p1)]) (by decide) (Nat.le_of_ble_eq_true rfl) rfl (fun p e s m args below meth c C hr hlk => ?_)
  refine mj_iload_n C dX9_isMarkAndChild_0 rfl ?_
  refine mj_if_lt C dX9_isMarkAndChild_1 rfl hF (fun hc1 hF => ?_) (fun hc1 hF => ?_)
  · refine mj_iconstV (v := 0) C dX9_isMarkAndChild_36 mc_i_0 ?_
    subst hF
    exact mj_zret (v := 0) rfl C hr hlk dX9_isMarkAndChild_37
  · refine mj_aload_n C dX9_isMarkAndChild_4 rfl ?_
    refine mg_X9_35 C dX9_isMarkAndChild_5 ?_
    refine mj_iload_n C dX9_isMarkAndChild_8 rfl ?_
    refine mj_bipushV (v := 10) C dX9_isMarkAndChild_9 mc_b_10 ?_
    refine mj_idiv C dX9_isMarkAndChild_11 (by decide) ?_
    refine mj_callVi C (c_X5_has σ (p1 / 10)) yv_X5_has kl_X9_168 (mo_35 G _) rfl rfl rfl rfl (Nat.le_of_ble_eq_true rfl) (mj_roomC (by decide) (by decide)) ⟨Nat.zero_le _, Nat.zero_le _⟩ dX9_isMarkAndChild_12 ?_
    refine mj_if_eq C dX9_isMarkAndChild_15 rfl hF (fun hc2 hF => ?_) (fun hc2 hF => ?_)
    · refine mj_iconstV (v := 0) C dX9_isMarkAndChild_36 mc_i_0 ?_
      subst hF
      exact mj_zret (v := 0) rfl C hr hlk dX9_isMarkAndChild_37
    · refine mj_aload_n C dX9_isMarkAndChild_18 rfl ?_
      refine mg_X9_28 C dX9_isMarkAndChild_19 ?_
      refine mj_iload_n C dX9_isMarkAndChild_22 rfl ?_
      refine mj_bipushV (v := 10) C dX9_isMarkAndChild_23 mc_b_10 ?_
      refine mj_irem C dX9_isMarkAndChild_25 (by decide) ?_
      refine mj_callVi C (c_X2_has σ (mj_rem p1 10)) yv_X2_has kl_X9_132 (mo_9 G _) rfl rfl rfl rfl (Nat.le_of_ble_eq_true rfl) (mj_roomC (by decide) (by decide)) ⟨Nat.zero_le _, Nat.zero_le _⟩ dX9_isMarkAndChild_26 ?_
      refine mj_if_eq C dX9_isMarkAndChild_29 rfl hF (fun hc3 hF => ?_) (fun hc3 hF => ?_)
      · refine mj_iconstV (v := 0) C dX9_isMarkAndChild_36 mc_i_0 ?_
        subst hF
        exact mj_zret (v := 0) rfl C hr hlk dX9_isMarkAndChild_37
      · refine mj_iconstV (v := 1) C dX9_isMarkAndChild_32 mc_i_1 ?_
        refine mj_goto C dX9_isMarkAndChild_33 rfl ?_
        subst hF
        exact mj_zret (v := 1) rfl C hr hlk dX9_isMarkAndChild_37
set_option maxRecDepth 100000 in
set_option maxHeartbeats 4000000 in
theorem c_X9_off {G : mj_G} {l : Launch} (σ : mj_S) (p1 : Int32) (p2 : Int32) (p3 : Int32) (R : Int32) (hF : f_X9_off σ p1 p2 p3 = some R) : mj_C G l yX9_off cX9_off 4 (some .int) 4 [.ref (G.2.1 0), .int p1, .int p2, .int p3] σ (some (.int R)) σ := by
  unfold f_X9_off at hF
  refine mj_of (ls := [(0, .ref (G.2.1 0)), (1, .int p1), (2, .int p2), (3, .int p3)]) (by decide) (Nat.le_of_ble_eq_true rfl) rfl (fun p e s m args below meth c C hr hlk => ?_)
  refine mj_aload_n C dX9_off_0 rfl ?_
  refine mj_iload_n C dX9_off_1 rfl ?_
  refine mj_callVi C (c_X9_isMarkAndChild σ p1) yv_X9_isMarkAndChild kl_X9_180 (mo_0 G _) rfl rfl rfl rfl (Nat.le_of_ble_eq_true rfl) (mj_roomC (by decide) (by decide)) ⟨Nat.zero_le _, Nat.zero_le _⟩ dX9_off_2 ?_
  refine mj_if_eq C dX9_off_5 rfl hF (fun hc1 hF => ?_) (fun hc1 hF => ?_)
  · refine mj_iconstV (v := (-1)) C dX9_off_24 mc_i_m1 ?_
    have hF := mj_oi hF; subst hF
    exact mj_iret C hr hlk dX9_off_25
  · refine mj_iload_n C dX9_off_8 rfl ?_
    refine mj_callSi C (c_X9_isMonth σ p2) ys_X9_isMonth kl_X9_78 rfl rfl (Nat.le_of_ble_eq_true rfl) (mj_roomC (by decide) (by decide)) ⟨Nat.zero_le _, Nat.zero_le _⟩ dX9_off_9 ?_
    refine mj_if_eq C dX9_off_12 rfl hF (fun hc2 hF => ?_) (fun hc2 hF => ?_)
    · refine mj_iconstV (v := (-1)) C dX9_off_24 mc_i_m1 ?_
      have hF := mj_oi hF; subst hF
      exact mj_iret C hr hlk dX9_off_25
    · refine mj_iload_n C dX9_off_15 rfl ?_
      refine mj_iconstV (v := 0) C dX9_off_16 mc_i_0 ?_
      refine mj_iconstV (v := 4) C dX9_off_17 mc_i_4 ?_
      refine mj_callSi C (c_X9_within σ p3 0 4) ys_X9_within kl_X9_82 rfl rfl (Nat.le_of_ble_eq_true rfl) (mj_roomC (by decide) (by decide)) ⟨Nat.zero_le _, Nat.zero_le _⟩ dX9_off_18 ?_
      refine mj_if_ne C dX9_off_21 rfl hF (fun hc3 hF => ?_) (fun hc3 hF => ?_)
      · refine mj_aload_n C dX9_off_26 rfl ?_
        refine mg_X9_44 C dX9_off_27 ?_
        refine mj_aload_n C dX9_off_30 rfl ?_
        refine mg_X9_35 C dX9_off_31 ?_
        refine mj_iload_n C dX9_off_34 rfl ?_
        refine mj_bipushV (v := 10) C dX9_off_35 mc_b_10 ?_
        refine mj_idiv C dX9_off_37 (by decide) ?_
        obtain ⟨r4, hq4, hF⟩ := mj_ob hF
        refine mj_callVi C (c_X5_heightOf σ (p1 / 10) r4 hq4) yv_X5_heightOf kl_X9_183 (mo_35 G _) rfl rfl rfl rfl (Nat.le_of_ble_eq_true rfl) (mj_roomC (by decide) (by decide)) ⟨Nat.zero_le _, Nat.zero_le _⟩ dX9_off_38 ?_
        refine mj_iload_n C dX9_off_41 rfl ?_
        refine mj_bipushV (v := 10) C dX9_off_42 mc_b_10 ?_
        refine mj_irem C dX9_off_44 (by decide) ?_
        refine mj_iload_n C dX9_off_45 rfl ?_
        refine mj_iload_n C dX9_off_46 rfl ?_
        obtain ⟨r5, hq5, hF⟩ := mj_ob hF
        refine mj_callVi C (c_X3_distance σ r4 (mj_rem p1 10) p2 p3 r5 hq5) yv_X3_distance kl_X9_186 (mo_40 G _) rfl rfl rfl rfl (Nat.le_of_ble_eq_true rfl) (mj_roomC (by decide) (by decide)) ⟨Nat.zero_le _, Nat.zero_le _⟩ dX9_off_47 ?_
        have hF := mj_oi hF; subst hF
        exact mj_iret C hr hlk dX9_off_50
      · refine mj_iconstV (v := (-1)) C dX9_off_24 mc_i_m1 ?_
        have hF := mj_oi hF; subst hF
        exact mj_iret C hr hlk dX9_off_25
set_option maxRecDepth 100000 in
set_option maxHeartbeats 4000000 in
theorem c_X9_turned {G : mj_G} {l : Launch} (σ : mj_S) (p1 : Int32) (p2 : Int32) (R : Int32) (hF : f_X9_turned σ p1 p2 = some R) : mj_C G l yX9_turned cX9_turned 3 (some .int) 6 [.ref (G.2.1 0), .int p1, .int p2] σ (some (.int R)) σ := by
  unfold f_X9_turned at hF
  refine mj_of (ls := [(0, .ref (G.2.1 0)), (1, .int p1), (2, .int p2)]) (by decide) (Nat.le_of_ble_eq_true rfl) rfl (fun p e s m args below meth c C hr hlk => ?_)
  refine mj_aload_n C dX9_turned_0 rfl ?_
  refine mg_X9_28 C dX9_turned_1 ?_
  refine mj_iload_n C dX9_turned_4 rfl ?_
  refine mj_callVi C (c_X2_has σ p1) yv_X2_has kl_X9_132 (mo_9 G _) rfl rfl rfl rfl (Nat.le_of_ble_eq_true rfl) (mj_roomC (by decide) (by decide)) ⟨Nat.zero_le _, Nat.zero_le _⟩ dX9_turned_5 ?_
  refine mj_if_eq C dX9_turned_8 rfl hF (fun hc1 hF => ?_) (fun hc1 hF => ?_)
  · refine mj_iconstV (v := (-1)) C dX9_turned_20 mc_i_m1 ?_
    have hF := mj_oi hF; subst hF
    exact mj_iret C hr hlk dX9_turned_21
  · refine mj_iload_n C dX9_turned_11 rfl ?_
    refine mj_iconstV (v := 0) C dX9_turned_12 mc_i_0 ?_
    refine mj_iconstV (v := 1) C dX9_turned_13 mc_i_1 ?_
    refine mj_callSi C (c_X9_within σ p2 0 1) ys_X9_within kl_X9_82 rfl rfl (Nat.le_of_ble_eq_true rfl) (mj_roomC (by decide) (by decide)) ⟨Nat.zero_le _, Nat.zero_le _⟩ dX9_turned_14 ?_
    refine mj_if_ne C dX9_turned_17 rfl hF (fun hc2 hF => ?_) (fun hc2 hF => ?_)
    · refine mj_iload_n C dX9_turned_22 rfl ?_
      refine mj_if_ne C dX9_turned_23 rfl hF (fun hc3 hF => ?_) (fun hc3 hF => ?_)
      · refine mj_aload_n C dX9_turned_37 rfl ?_
        refine mg_X9_35 C dX9_turned_38 ?_
        refine mj_iload_n C dX9_turned_41 rfl ?_
        obtain ⟨r4, hq4, hF⟩ := mj_ob hF
        refine mj_callVi C (c_X5_firstTurned σ p1 r4 hq4) yv_X5_firstTurned kl_X9_225 (mo_35 G _) rfl rfl rfl rfl (Nat.le_of_ble_eq_true rfl) (mj_roomC (by decide) (by decide)) ⟨Nat.zero_le _, Nat.zero_le _⟩ dX9_turned_42 ?_
        have hF := mj_oi hF; subst hF
        exact mj_iret C hr hlk dX9_turned_45
      · refine mj_aload_n C dX9_turned_26 rfl ?_
        refine mg_X9_35 C dX9_turned_27 ?_
        refine mj_iload_n C dX9_turned_30 rfl ?_
        obtain ⟨r5, hq5, hF⟩ := mj_ob hF
        refine mj_callVi C (c_X5_turnedMarks σ p1 r5 hq5) yv_X5_turnedMarks kl_X9_222 (mo_35 G _) rfl rfl rfl rfl (Nat.le_of_ble_eq_true rfl) (mj_roomC (by decide) (by decide)) ⟨Nat.zero_le _, Nat.zero_le _⟩ dX9_turned_31 ?_
        refine mj_goto C dX9_turned_34 rfl ?_
        have hF := mj_oi hF; subst hF
        exact mj_iret C hr hlk dX9_turned_45
    · refine mj_iconstV (v := (-1)) C dX9_turned_20 mc_i_m1 ?_
      have hF := mj_oi hF; subst hF
      exact mj_iret C hr hlk dX9_turned_21
