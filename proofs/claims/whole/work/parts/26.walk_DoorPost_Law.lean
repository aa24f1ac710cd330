set_option maxRecDepth 100000 in
set_option maxHeartbeats 4000000 in
theorem c_X4_withoutText {G : mj_G} {l : Launch} (σ : mj_S) (p0 : Int32) : mj_C G l yX4_withoutText cX4_withoutText 1 (some .int) 1 [.int p0] σ (some (.int (f_X4_withoutText σ p0))) σ := by
  generalize hF : f_X4_withoutText σ p0 = R
  unfold f_X4_withoutText at hF
  refine mj_of (ls := [(0, .int p0)]) (by decide) (Nat.le_of_ble_eq_true rfl) rfl (fun p e s m args below meth c C hr hlk => ?_)
  refine mj_iload_n C dX4_withoutText_0 rfl ?_
  refine mj_bipushV (v := 12) C dX4_withoutText_1 mc_b_12 ?_
  refine mj_ic_ge C dX4_withoutText_3 rfl hF (fun hc1 hF => ?_) (fun hc1 hF => ?_)
  · refine mj_iload_n C dX4_withoutText_9 rfl ?_
    refine mj_sipushV (v := 132) C dX4_withoutText_10 mc_s_132 ?_
    refine mj_ic_ge C dX4_withoutText_13 rfl hF (fun hc2 hF => ?_) (fun hc2 hF => ?_)
    · refine mj_iload_n C dX4_withoutText_19 rfl ?_
      refine mj_sipushV (v := 168) C dX4_withoutText_20 mc_s_168 ?_
      refine mj_ic_ge C dX4_withoutText_23 rfl hF (fun hc3 hF => ?_) (fun hc3 hF => ?_)
      · refine mj_iload_n C dX4_withoutText_29 rfl ?_
        refine mj_sipushV (v := 204) C dX4_withoutText_30 mc_s_204 ?_
        refine mj_ic_ge C dX4_withoutText_33 rfl hF (fun hc4 hF => ?_) (fun hc4 hF => ?_)
        · refine mj_iconstV (v := 0) C dX4_withoutText_40 mc_i_0 ?_
          subst hF
          exact mj_iret C hr hlk dX4_withoutText_41
        · refine mj_iconstV (v := 4) C dX4_withoutText_36 mc_i_4 ?_
          refine mj_goto C dX4_withoutText_37 rfl ?_
          subst hF
          exact mj_iret C hr hlk dX4_withoutText_41
      · refine mj_bipushV (v := 20) C dX4_withoutText_26 mc_b_20 ?_
        subst hF
        exact mj_iret C hr hlk dX4_withoutText_28
    · refine mj_bipushV (v := 16) C dX4_withoutText_16 mc_b_16 ?_
      subst hF
      exact mj_iret C hr hlk dX4_withoutText_18
  · refine mj_bipushV (v := 40) C dX4_withoutText_6 mc_b_40 ?_
    subst hF
    exact mj_iret C hr hlk dX4_withoutText_8
set_option maxRecDepth 100000 in
set_option maxHeartbeats 4000000 in
theorem c_X4_pop {G : mj_G} {l : Launch} (σ : mj_S) (R : (Int32 × mj_S)) (hF : f_X4_pop σ = some R) : mj_C G l yX4_pop cX4_pop 1 (some .int) 1 [.ref (G.2.1 1)] σ (some (.int R.1)) R.2 := by
  unfold f_X4_pop at hF
  refine mj_of (ls := [(0, .ref (G.2.1 1))]) (by decide) (Nat.le_of_ble_eq_true rfl) rfl (fun p e s m args below meth c C hr hlk => ?_)
  refine mj_aload_n C dX4_pop_0 rfl ?_
  refine mg_X4_25 C dX4_pop_1 ?_
  refine mj_if_gt C dX4_pop_4 rfl hF (fun hc1 hF => ?_) (fun hc1 hF => ?_)
  · refine mj_aload_n C dX4_pop_9 rfl ?_
    refine mj_dup C dX4_pop_10 rfl ?_
    refine mg_X4_25 C dX4_pop_11 ?_
    refine mj_iconstV (v := 1) C dX4_pop_14 mc_i_1 ?_
    refine mj_isub C dX4_pop_15 ?_
    refine mp_X4_25 C dX4_pop_16 ?_
    refine mj_aload_n C dX4_pop_19 rfl ?_
    refine mg_X4_18 C dX4_pop_20 ?_
    refine mj_aload_n C dX4_pop_23 rfl ?_
    refine mg_X4_25 C dX4_pop_24 ?_
    obtain ⟨hg2, hF⟩ := mj_og hF
    refine mj_iaload C dX4_pop_27 rfl hg2 ?_
    have hF := mj_oi hF; subst hF
    exact mj_iret C hr hlk dX4_pop_28
  · refine mj_iconstV (v := 0) C dX4_pop_7 mc_i_0 ?_
    have hF := mj_oi hF; subst hF
    exact mj_iret C hr hlk dX4_pop_8
set_option maxRecDepth 100000 in
set_option maxHeartbeats 4000000 in
theorem c_X4_joined {G : mj_G} {l : Launch} (σ : mj_S) (p0 : Int32) (p1 : Int32) (p2 : Int32) (R : Int32) (hF : f_X4_joined σ p0 p1 p2 = some R) : mj_C G l yX4_joined cX4_joined 3 (some .int) 1 [.int p0, .int p1, .int p2] σ (some (.int R)) σ := by
  unfold f_X4_joined at hF
  refine mj_of (ls := [(0, .int p0), (1, .int p1), (2, .int p2)]) (by decide) (Nat.le_of_ble_eq_true rfl) rfl (fun p e s m args below meth c C hr hlk => ?_)
  refine mj_iload_n C dX4_joined_0 rfl ?_
  by_cases hw1_0 : p0 = 37
  · rw [if_pos hw1_0] at hF
    refine mj_lsw (off := 176) C dX4_joined_1 rfl (by rw [hw1_0]; rfl) rfl ?_
    refine mj_iload_n C dX4_joined_177 rfl ?_
    refine mj_if_ne C dX4_joined_178 rfl hF (fun hc2 hF => ?_) (fun hc2 hF => ?_)
    · refine mj_iload_n C dX4_joined_185 rfl ?_
      refine mj_iload_n C dX4_joined_186 rfl ?_
      obtain ⟨hz3, hF⟩ := mj_oz hF
      refine mj_irem C dX4_joined_187 hz3 ?_
      have hF := mj_oi hF; subst hF
      exact mj_iret C hr hlk dX4_joined_188
    · refine mj_iconstV (v := 0) C dX4_joined_181 mc_i_0 ?_
      refine mj_goto C dX4_joined_182 rfl ?_
      have hF := mj_oi hF; subst hF
      exact mj_iret C hr hlk dX4_joined_188
  rw [if_neg hw1_0] at hF
  by_cases hw1_1 : p0 = 38
  · rw [if_pos hw1_1] at hF
    refine mj_lsw (off := 105) C dX4_joined_1 rfl (by rw [hw1_1]; rfl) rfl ?_
    refine mj_iload_n C dX4_joined_106 rfl ?_
    refine mj_if_eq C dX4_joined_107 rfl hF (fun hc4 hF => ?_) (fun hc4 hF => ?_)
    · refine mj_iconstV (v := 0) C dX4_joined_118 mc_i_0 ?_
      have hF := mj_oi hF; subst hF
      exact mj_iret C hr hlk dX4_joined_119
    · refine mj_iload_n C dX4_joined_110 rfl ?_
      refine mj_if_eq C dX4_joined_111 rfl hF (fun hc5 hF => ?_) (fun hc5 hF => ?_)
      · refine mj_iconstV (v := 0) C dX4_joined_118 mc_i_0 ?_
        have hF := mj_oi hF; subst hF
        exact mj_iret C hr hlk dX4_joined_119
      · refine mj_iconstV (v := 1) C dX4_joined_114 mc_i_1 ?_
        refine mj_goto C dX4_joined_115 rfl ?_
        have hF := mj_oi hF; subst hF
        exact mj_iret C hr hlk dX4_joined_119
  rw [if_neg hw1_1] at hF
  by_cases hw1_2 : p0 = 42
  · rw [if_pos hw1_2] at hF
    refine mj_lsw (off := 160) C dX4_joined_1 rfl (by rw [hw1_2]; rfl) rfl ?_
    refine mj_iload_n C dX4_joined_161 rfl ?_
    refine mj_iload_n C dX4_joined_162 rfl ?_
    refine mj_imul C dX4_joined_163 ?_
    have hF := mj_oi hF; subst hF
    exact mj_iret C hr hlk dX4_joined_164
  rw [if_neg hw1_2] at hF
  by_cases hw1_3 : p0 = 43
  · rw [if_pos hw1_3] at hF
    refine mj_lsw (off := 152) C dX4_joined_1 rfl (by rw [hw1_3]; rfl) rfl ?_
    refine mj_iload_n C dX4_joined_153 rfl ?_
    refine mj_iload_n C dX4_joined_154 rfl ?_
    refine mj_iadd C dX4_joined_155 ?_
    have hF := mj_oi hF; subst hF
    exact mj_iret C hr hlk dX4_joined_156
  rw [if_neg hw1_3] at hF
  by_cases hw1_4 : p0 = 45
  · rw [if_pos hw1_4] at hF
    refine mj_lsw (off := 156) C dX4_joined_1 rfl (by rw [hw1_4]; rfl) rfl ?_
    refine mj_iload_n C dX4_joined_157 rfl ?_
    refine mj_iload_n C dX4_joined_158 rfl ?_
    refine mj_isub C dX4_joined_159 ?_
    have hF := mj_oi hF; subst hF
    exact mj_iret C hr hlk dX4_joined_160
  rw [if_neg hw1_4] at hF
  by_cases hw1_5 : p0 = 47
  · rw [if_pos hw1_5] at hF
    refine mj_lsw (off := 164) C dX4_joined_1 rfl (by rw [hw1_5]; rfl) rfl ?_
    refine mj_iload_n C dX4_joined_165 rfl ?_
    refine mj_if_ne C dX4_joined_166 rfl hF (fun hc6 hF => ?_) (fun hc6 hF => ?_)
    · refine mj_iload_n C dX4_joined_173 rfl ?_
      refine mj_iload_n C dX4_joined_174 rfl ?_
      obtain ⟨hz7, hF⟩ := mj_oz hF
      refine mj_idiv C dX4_joined_175 hz7 ?_
      have hF := mj_oi hF; subst hF
      exact mj_iret C hr hlk dX4_joined_176
    · refine mj_iconstV (v := 0) C dX4_joined_169 mc_i_0 ?_
      refine mj_goto C dX4_joined_170 rfl ?_
      have hF := mj_oi hF; subst hF
      exact mj_iret C hr hlk dX4_joined_176
  rw [if_neg hw1_5] at hF
  by_cases hw1_6 : p0 = 60
  · rw [if_pos hw1_6] at hF
    refine mj_lsw (off := 119) C dX4_joined_1 rfl (by rw [hw1_6]; rfl) rfl ?_
    refine mj_iload_n C dX4_joined_120 rfl ?_
    refine mj_iload_n C dX4_joined_121 rfl ?_
    refine mj_ic_ge C dX4_joined_122 rfl hF (fun hc8 hF => ?_) (fun hc8 hF => ?_)
    · refine mj_iconstV (v := 0) C dX4_joined_129 mc_i_0 ?_
      have hF := mj_oi hF; subst hF
      exact mj_iret C hr hlk dX4_joined_130
    · refine mj_iconstV (v := 1) C dX4_joined_125 mc_i_1 ?_
      refine mj_goto C dX4_joined_126 rfl ?_
      have hF := mj_oi hF; subst hF
      exact mj_iret C hr hlk dX4_joined_130
  rw [if_neg hw1_6] at hF
  by_cases hw1_7 : p0 = 61
  · rw [if_pos hw1_7] at hF
    refine mj_lsw (off := 130) C dX4_joined_1 rfl (by rw [hw1_7]; rfl) rfl ?_
    refine mj_iload_n C dX4_joined_131 rfl ?_
    refine mj_iload_n C dX4_joined_132 rfl ?_
    refine mj_ic_ne C dX4_joined_133 rfl hF (fun hc9 hF => ?_) (fun hc9 hF => ?_)
    · refine mj_iconstV (v := 0) C dX4_joined_140 mc_i_0 ?_
      have hF := mj_oi hF; subst hF
      exact mj_iret C hr hlk dX4_joined_141
    · refine mj_iconstV (v := 1) C dX4_joined_136 mc_i_1 ?_
      refine mj_goto C dX4_joined_137 rfl ?_
      have hF := mj_oi hF; subst hF
      exact mj_iret C hr hlk dX4_joined_141
  rw [if_neg hw1_7] at hF
  by_cases hw1_8 : p0 = 62
  · rw [if_pos hw1_8] at hF
    refine mj_lsw (off := 141) C dX4_joined_1 rfl (by rw [hw1_8]; rfl) rfl ?_
    refine mj_iload_n C dX4_joined_142 rfl ?_
    refine mj_iload_n C dX4_joined_143 rfl ?_
    refine mj_ic_le C dX4_joined_144 rfl hF (fun hc10 hF => ?_) (fun hc10 hF => ?_)
    · refine mj_iconstV (v := 0) C dX4_joined_151 mc_i_0 ?_
      have hF := mj_oi hF; subst hF
      exact mj_iret C hr hlk dX4_joined_152
    · refine mj_iconstV (v := 1) C dX4_joined_147 mc_i_1 ?_
      refine mj_goto C dX4_joined_148 rfl ?_
      have hF := mj_oi hF; subst hF
      exact mj_iret C hr hlk dX4_joined_152
  rw [if_neg hw1_8] at hF
  by_cases hw1_9 : p0 = 124
  · rw [if_pos hw1_9] at hF
    refine mj_lsw (off := 91) C dX4_joined_1 rfl (by rw [hw1_9]; rfl) rfl ?_
    refine mj_iload_n C dX4_joined_92 rfl ?_
    refine mj_if_ne C dX4_joined_93 rfl hF (fun hc11 hF => ?_) (fun hc11 hF => ?_)
    · refine mj_iconstV (v := 1) C dX4_joined_100 mc_i_1 ?_
      refine mj_goto C dX4_joined_101 rfl ?_
      have hF := mj_oi hF; subst hF
      exact mj_iret C hr hlk dX4_joined_105
    · refine mj_iload_n C dX4_joined_96 rfl ?_
      refine mj_if_eq C dX4_joined_97 rfl hF (fun hc12 hF => ?_) (fun hc12 hF => ?_)
      · refine mj_iconstV (v := 0) C dX4_joined_104 mc_i_0 ?_
        have hF := mj_oi hF; subst hF
        exact mj_iret C hr hlk dX4_joined_105
      · refine mj_iconstV (v := 1) C dX4_joined_100 mc_i_1 ?_
        refine mj_goto C dX4_joined_101 rfl ?_
        have hF := mj_oi hF; subst hF
        exact mj_iret C hr hlk dX4_joined_105
  rw [if_neg hw1_9] at hF
  refine mj_lsw (off := 188) C dX4_joined_1 rfl (by refine (lv_osw hw1_0 rfl).trans ?_; refine (lv_osw hw1_1 rfl).trans ?_; refine (lv_osw hw1_2 rfl).trans ?_; refine (lv_osw hw1_3 rfl).trans ?_; refine (lv_osw hw1_4 rfl).trans ?_; refine (lv_osw hw1_5 rfl).trans ?_; refine (lv_osw hw1_6 rfl).trans ?_; refine (lv_osw hw1_7 rfl).trans ?_; refine (lv_osw hw1_8 rfl).trans ?_; refine (lv_osw hw1_9 rfl).trans ?_; rfl) rfl ?_
  refine mj_iconstV (v := 0) C dX4_joined_189 mc_i_0 ?_
  have hF := mj_oi hF; subst hF
  exact mj_iret C hr hlk dX4_joined_190
set_option maxRecDepth 100000 in
set_option maxHeartbeats 4000000 in
theorem c_X4_push {G : mj_G} {l : Launch} (σ : mj_S) (p1 : Int32) (R : mj_S) (hF : f_X4_push σ p1 = some R) : mj_C G l yX4_push cX4_push 2 (none) 1 [.ref (G.2.1 1), .int p1] σ none R := by
  unfold f_X4_push at hF
  refine mj_of (ls := [(0, .ref (G.2.1 1)), (1, .int p1)]) (by decide) (Nat.le_of_ble_eq_true rfl) rfl (fun p e s m args below meth c C hr hlk => ?_)
  refine mj_aload_n C dX4_push_0 rfl ?_
  refine mg_X4_25 C dX4_push_1 ?_
  refine mj_bipushV (v := 121) C dX4_push_4 mc_b_121 ?_
  refine mj_ic_ge C dX4_push_6 rfl hF (fun hc1 hF => ?_) (fun hc1 hF => ?_)
  · have hF := mj_oi hF; subst hF
    exact mj_vret C hr hlk dX4_push_29
  · refine mj_aload_n C dX4_push_9 rfl ?_
    refine mg_X4_18 C dX4_push_10 ?_
    refine mj_aload_n C dX4_push_13 rfl ?_
    refine mg_X4_25 C dX4_push_14 ?_
    refine mj_iload_n C dX4_push_17 rfl ?_
    obtain ⟨hg2, hF⟩ := mj_og hF
    refine mj_iastore C dX4_push_18 rfl hg2 ?_
    refine mj_aload_n C dX4_push_19 rfl ?_
    refine mj_dup C dX4_push_20 rfl ?_
    refine mg_X4_25 C dX4_push_21 ?_
    refine mj_iconstV (v := 1) C dX4_push_24 mc_i_1 ?_
    refine mj_iadd C dX4_push_25 ?_
    refine mp_X4_25 C dX4_push_26 ?_
    have hF := mj_oi hF; subst hF
    exact mj_vret C hr hlk dX4_push_29
set_option maxRecDepth 100000 in
set_option maxHeartbeats 4000000 in
theorem w_X4_takeStep_102 {p : Program} {l : Launch} {e : Env} {s : State} {m : MethodId} {args : Array Value} {below : List Frame} {meth : Method} {c : Code} {G : mj_G} (C : mj_X p s m args meth c G cX4_takeStep 5 RX4) (hr : meth.sig.returnType = none) (hlk : meth.locks = false) : ∀ (t1 : Int32) (σ : mj_S) (R : mj_S), b_X4_takeStep_102 t1 σ = some R → mj_W p l e (mj_rm 2) s m args below meth c G 0 0 5 (MQ below (mj_Q G none R) args s 0 0 G.2.2.2) 102 [] [.int t1, .ref (G.2.1 1)] σ := by
  intro t1 σ R hF
  unfold b_X4_takeStep_102 at hF
  obtain ⟨r4, hq4, hF⟩ := mj_ob hF
  refine mj_callVv C (c_X4_push σ t1 r4 hq4) yv_X4_push kl_X4_57 (mo_1 G _) rfl rfl rfl rfl (Nat.le_of_ble_eq_true rfl) (mj_roomC (by decide) (by decide)) ⟨Nat.zero_le _, Nat.zero_le _⟩ dX4_takeStep_102 ?_
  refine mj_goto C dX4_takeStep_105 rfl ?_
  have hF := mj_oi hF; subst hF
  exact mj_vret C hr hlk dX4_takeStep_128
set_option maxRecDepth 100000 in
set_option maxHeartbeats 4000000 in
theorem w_X4_takeStep_71 {p : Program} {l : Launch} {e : Env} {s : State} {m : MethodId} {args : Array Value} {below : List Frame} {meth : Method} {c : Code} {G : mj_G} (C : mj_X p s m args meth c G cX4_takeStep 5 RX4) (hr : meth.sig.returnType = none) (hlk : meth.locks = false) : ∀ (t1 : Int32) (σ : mj_S) (R : mj_S), b_X4_takeStep_71 t1 σ = some R → mj_W p l e (mj_rm 2) s m args below meth c G 0 0 5 (MQ below (mj_Q G none R) args s 0 0 G.2.2.2) 71 [] [.int t1, .ref (G.2.1 1)] σ := by
  intro t1 σ R hF
  unfold b_X4_takeStep_71 at hF
  obtain ⟨r7, hq7, hF⟩ := mj_ob hF
  refine mj_callVv C (c_X4_push σ t1 r7 hq7) yv_X4_push kl_X4_57 (mo_1 G _) rfl rfl rfl rfl (Nat.le_of_ble_eq_true rfl) (mj_roomC (by decide) (by decide)) ⟨Nat.zero_le _, Nat.zero_le _⟩ dX4_takeStep_71 ?_
  refine mj_goto C dX4_takeStep_74 rfl ?_
  have hF := mj_oi hF; subst hF
  exact mj_vret C hr hlk dX4_takeStep_128
set_option maxRecDepth 100000 in
set_option maxHeartbeats 4000000 in
theorem w_X4_takeStep_70 {p : Program} {l : Launch} {e : Env} {s : State} {m : MethodId} {args : Array Value} {below : List Frame} {meth : Method} {c : Code} {G : mj_G} (C : mj_X p s m args meth c G cX4_takeStep 5 RX4) (hr : meth.sig.returnType = none) (hlk : meth.locks = false) : ∀ (σ : mj_S) (R : mj_S), b_X4_takeStep_70 σ = some R → mj_W p l e (mj_rm 2) s m args below meth c G 0 0 5 (MQ below (mj_Q G none R) args s 0 0 G.2.2.2) 70 [] [.ref (G.2.1 1)] σ := by
  intro σ R hF
  unfold b_X4_takeStep_70 at hF
  refine mj_iconstV (v := 0) C dX4_takeStep_70 mc_i_0 ?_
  refine mj_to ?_ (w_X4_takeStep_71 C hr hlk 0 σ R hF)
  exact trivial
set_option maxRecDepth 100000 in
set_option maxHeartbeats 4000000 in
theorem c_X4_takeStep {G : mj_G} {l : Launch} (σ : mj_S) (p1 : Int32) (p2 : Int32) (a3 n3 : Nat) (h3 : mj_il a3 = some n3) (R : mj_S) (hF : f_X4_takeStep σ p1 p2 a3 n3 = some R) : mj_C G l yX4_takeStep cX4_takeStep 5 (none) 2 [.ref (G.2.1 1), .int p1, .int p2, .ref (G.2.1 a3)] σ none R := by
  unfold f_X4_takeStep at hF
  refine mj_of (ls := [(0, .ref (G.2.1 1)), (1, .int p1), (2, .int p2), (3, .ref (G.2.1 a3))]) (by decide) (Nat.le_of_ble_eq_true rfl) rfl (fun p e s m args below meth c C hr hlk => ?_)
  refine mj_iload_n C dX4_takeStep_0 rfl ?_
  by_cases hw1_0 : p1 = 33
  · rw [if_pos hw1_0] at hF
    refine mj_lsw (off := 88) C dX4_takeStep_1 rfl (by rw [hw1_0]; rfl) rfl ?_
    refine mj_aload_n C dX4_takeStep_89 rfl ?_
    refine mj_aload_n C dX4_takeStep_90 rfl ?_
    obtain ⟨r2, hq2, hF⟩ := mj_ob hF
    refine mj_callVi C (c_X4_pop σ r2 hq2) yv_X4_pop kl_X4_49 (mo_1 G _) rfl rfl rfl rfl (Nat.le_of_ble_eq_true rfl) (mj_roomC (by decide) (by decide)) ⟨Nat.zero_le _, Nat.zero_le _⟩ dX4_takeStep_91 ?_
    refine mj_if_ne C dX4_takeStep_94 rfl hF (fun hc3 hF => ?_) (fun hc3 hF => ?_)
    · refine mj_iconstV (v := 0) C dX4_takeStep_101 mc_i_0 ?_
      refine mj_to ?_ (w_X4_takeStep_102 C hr hlk 0 r2.2 R hF)
      exact trivial
    · refine mj_iconstV (v := 1) C dX4_takeStep_97 mc_i_1 ?_
      refine mj_goto C dX4_takeStep_98 rfl ?_
      refine mj_to ?_ (w_X4_takeStep_102 C hr hlk 1 r2.2 R hF)
      exact trivial
  rw [if_neg hw1_0] at hF
  by_cases hw1_1 : p1 = 48
  · rw [if_pos hw1_1] at hF
    refine mj_lsw (off := 43) C dX4_takeStep_1 rfl (by rw [hw1_1]; rfl) rfl ?_
    refine mj_aload_n C dX4_takeStep_44 rfl ?_
    refine mj_iload_n C dX4_takeStep_45 rfl ?_
    obtain ⟨r5, hq5, hF⟩ := mj_ob hF
    refine mj_callVv C (c_X4_push σ p2 r5 hq5) yv_X4_push kl_X4_57 (mo_1 G _) rfl rfl rfl rfl (Nat.le_of_ble_eq_true rfl) (mj_roomC (by decide) (by decide)) ⟨Nat.zero_le _, Nat.zero_le _⟩ dX4_takeStep_46 ?_
    refine mj_goto C dX4_takeStep_49 rfl ?_
    have hF := mj_oi hF; subst hF
    exact mj_vret C hr hlk dX4_takeStep_128
  rw [if_neg hw1_1] at hF
  by_cases hw1_2 : p1 = 97
  · rw [if_pos hw1_2] at hF
    refine mj_lsw (off := 51) C dX4_takeStep_1 rfl (by rw [hw1_2]; rfl) rfl ?_
    refine mj_aload_n C dX4_takeStep_52 rfl ?_
    refine mj_iconstV (v := 0) C dX4_takeStep_53 mc_i_0 ?_
    refine mj_iload_n C dX4_takeStep_54 rfl ?_
    refine mj_ic_gt C dX4_takeStep_55 rfl hF (fun hc6 hF => ?_) (fun hc6 hF => ?_)
    · refine mj_to ?_ (w_X4_takeStep_70 C hr hlk σ R hF)
      exact trivial
    · refine mj_iload_n C dX4_takeStep_58 rfl ?_
      refine mj_aload_n C dX4_takeStep_59 rfl ?_
      refine mj_alen (v := Int32.ofNat n3) C dX4_takeStep_60 h3 rfl ?_
      refine mj_ic_ge C dX4_takeStep_61 rfl hF (fun hc8 hF => ?_) (fun hc8 hF => ?_)
      · refine mj_to ?_ (w_X4_takeStep_70 C hr hlk σ R hF)
        exact trivial
      · refine mj_aload_n C dX4_takeStep_64 rfl ?_
        refine mj_iload_n C dX4_takeStep_65 rfl ?_
        obtain ⟨hg9, hF⟩ := mj_og hF
        refine mj_iaload C dX4_takeStep_66 h3 hg9 ?_
        refine mj_goto C dX4_takeStep_67 rfl ?_
        refine mj_to ?_ (w_X4_takeStep_71 C hr hlk (σ.1 a3 p2.toNatClampNeg) σ R hF)
        exact trivial
  rw [if_neg hw1_2] at hF
  by_cases hw1_3 : p1 = 110
  · rw [if_pos hw1_3] at hF
    refine mj_lsw (off := 76) C dX4_takeStep_1 rfl (by rw [hw1_3]; rfl) rfl ?_
    refine mj_aload_n C dX4_takeStep_77 rfl ?_
    refine mj_aload_n C dX4_takeStep_78 rfl ?_
    obtain ⟨r10, hq10, hF⟩ := mj_ob hF
    refine mj_callVi C (c_X4_pop σ r10 hq10) yv_X4_pop kl_X4_49 (mo_1 G _) rfl rfl rfl rfl (Nat.le_of_ble_eq_true rfl) (mj_roomC (by decide) (by decide)) ⟨Nat.zero_le _, Nat.zero_le _⟩ dX4_takeStep_79 ?_
    refine mj_ineg C dX4_takeStep_82 ?_
    obtain ⟨r11, hq11, hF⟩ := mj_ob hF
    refine mj_callVv C (c_X4_push r10.2 (-r10.1) r11 hq11) yv_X4_push kl_X4_57 (mo_1 G _) rfl rfl rfl rfl (Nat.le_of_ble_eq_true rfl) (mj_roomC (by decide) (by decide)) ⟨Nat.zero_le _, Nat.zero_le _⟩ dX4_takeStep_83 ?_
    refine mj_goto C dX4_takeStep_86 rfl ?_
    have hF := mj_oi hF; subst hF
    exact mj_vret C hr hlk dX4_takeStep_128
  rw [if_neg hw1_3] at hF
  refine mj_lsw (off := 107) C dX4_takeStep_1 rfl (by refine (lv_osw hw1_0 rfl).trans ?_; refine (lv_osw hw1_1 rfl).trans ?_; refine (lv_osw hw1_2 rfl).trans ?_; refine (lv_osw hw1_3 rfl).trans ?_; rfl) rfl ?_
  refine mj_aload_n C dX4_takeStep_108 rfl ?_
  obtain ⟨r12, hq12, hF⟩ := mj_ob hF
  refine mj_callVi C (c_X4_pop σ r12 hq12) yv_X4_pop kl_X4_49 (mo_1 G _) rfl rfl rfl rfl (Nat.le_of_ble_eq_true rfl) (mj_roomC (by decide) (by decide)) ⟨Nat.zero_le _, Nat.zero_le _⟩ dX4_takeStep_109 ?_
  refine mj_istore C dX4_takeStep_112 (by decide) ?_
  refine mj_aload_n C dX4_takeStep_114 rfl ?_
  refine mj_iload_n C dX4_takeStep_115 rfl ?_
  refine mj_aload_n C dX4_takeStep_116 rfl ?_
  obtain ⟨r13, hq13, hF⟩ := mj_ob hF
  refine mj_callVi C (c_X4_pop r12.2 r13 hq13) yv_X4_pop kl_X4_49 (mo_1 G _) rfl rfl rfl rfl (Nat.le_of_ble_eq_true rfl) (mj_roomC (by decide) (by decide)) ⟨Nat.zero_le _, Nat.zero_le _⟩ dX4_takeStep_117 ?_
  refine mj_iload C dX4_takeStep_120 rfl ?_
  obtain ⟨r14, hq14, hF⟩ := mj_ob hF
  refine mj_callSi C (c_X4_joined r13.2 p1 r13.1 r12.1 r14 hq14) ys_X4_joined kl_X4_61 rfl rfl (Nat.le_of_ble_eq_true rfl) (mj_roomC (by decide) (by decide)) ⟨Nat.zero_le _, Nat.zero_le _⟩ dX4_takeStep_122 ?_
  obtain ⟨r15, hq15, hF⟩ := mj_ob hF
  refine mj_callVv C (c_X4_push r13.2 r14 r15 hq15) yv_X4_push kl_X4_57 (mo_1 G _) rfl rfl rfl rfl (Nat.le_of_ble_eq_true rfl) (mj_roomC (by decide) (by decide)) ⟨Nat.zero_le _, Nat.zero_le _⟩ dX4_takeStep_125 ?_
  have hF := mj_oi hF; subst hF
  exact mj_vret C hr hlk dX4_takeStep_128
set_option maxRecDepth 100000 in
set_option maxHeartbeats 4000000 in
theorem w_X4_workOut_9 {p : Program} {l : Launch} {e : Env} {s : State} {m : MethodId} {args : Array Value} {below : List Frame} {meth : Method} {c : Code} {G : mj_G} (C : mj_X p s m args meth c G cX4_workOut 5 RX4) (hr : meth.sig.returnType = some .int) (hlk : meth.locks = false) : ∀ (n : Nat) (a1 na1 : Nat) (ha1 : mj_il a1 = some na1) (v2 : Int32) (v3 : Int32) (σ : mj_S) (R : (Int32 × mj_S)), b_X4_workOut_9 n a1 na1 v2 v3 σ = some R → mj_W p l e (mj_rm 3) s m args below meth c G 0 0 5 (MQ below (mj_Q G (some (.int R.1)) R.2) args s 0 0 G.2.2.2) 9 [(0, .ref (G.2.1 1)), (1, .ref (G.2.1 a1)), (2, .int v2), (3, .int v3)] [] σ := by
  intro n
  induction n with
  | zero =>
    intro a1 na1 ha1 v2 v3 σ R hF
    cases hF
  | succ n ih =>
    intro a1 na1 ha1 v2 v3 σ R hF
    rw [b_X4_workOut_9] at hF
    refine mj_iload_n C dX4_workOut_9 rfl ?_
    refine mj_aload_n C dX4_workOut_10 rfl ?_
    refine mg_X4_21 C dX4_workOut_11 ?_
    refine mj_ic_ge C dX4_workOut_14 rfl hF (fun hc1 hF => ?_) (fun hc1 hF => ?_)
    · refine mj_iconstV (v := 0) C dX4_workOut_92 mc_i_0 ?_
      have hF := mj_oi hF; subst hF
      exact mj_iret C hr hlk dX4_workOut_93
    · refine mj_aload_n C dX4_workOut_17 rfl ?_
      refine mg_X4_11 C dX4_workOut_18 ?_
      refine mj_iload_n C dX4_workOut_21 rfl ?_
      obtain ⟨hg2, hF⟩ := mj_og hF
      refine mj_iaload C dX4_workOut_22 rfl hg2 ?_
      refine mj_istore C dX4_workOut_23 (by decide) ?_
      refine mj_iload_n C dX4_workOut_25 rfl ?_
      refine mj_iload_n C dX4_workOut_26 rfl ?_
      refine mj_ic_ge C dX4_workOut_27 rfl hF (fun hc3 hF => ?_) (fun hc3 hF => ?_)
      · refine mj_iload C dX4_workOut_33 rfl ?_
        refine mj_bipushV (v := 59) C dX4_workOut_35 mc_b_59 ?_
        refine mj_ic_ne C dX4_workOut_37 rfl hF (fun hc4 hF => ?_) (fun hc4 hF => ?_)
        · refine mj_iload C dX4_workOut_45 rfl ?_
          refine mj_bipushV (v := 63) C dX4_workOut_47 mc_b_63 ?_
          refine mj_ic_ne C dX4_workOut_49 rfl hF (fun hc5 hF => ?_) (fun hc5 hF => ?_)
          · refine mj_aload_n C dX4_workOut_73 rfl ?_
            refine mj_iload C dX4_workOut_74 rfl ?_
            refine mj_aload_n C dX4_workOut_76 rfl ?_
            refine mg_X4_15 C dX4_workOut_77 ?_
            refine mj_iload_n C dX4_workOut_80 rfl ?_
            obtain ⟨hg6, hF⟩ := mj_og hF
            refine mj_iaload C dX4_workOut_81 rfl hg6 ?_
            refine mj_aload_n C dX4_workOut_82 rfl ?_
            obtain ⟨r7, hq7, hF⟩ := mj_ob hF
            refine mj_callVv C (c_X4_takeStep σ (σ.1 2 v3.toNatClampNeg) (σ.1 3 v3.toNatClampNeg) a1 na1 ha1 r7 hq7) yv_X4_takeStep kl_X4_53 (mo_1 G _) rfl rfl rfl rfl (Nat.le_of_ble_eq_true rfl) (mj_roomC (by decide) (by decide)) ⟨Nat.zero_le _, Nat.zero_le _⟩ dX4_workOut_83 ?_
            refine mj_iinc (v := v3 + 1) C dX4_workOut_86 rfl rfl (by decide) ?_
            refine mj_goto C dX4_workOut_89 rfl ?_
            refine mj_to ?_ (ih a1 na1 ha1 v2 (v3 + 1) r7 R hF)
            exact ⟨rfl, rfl, rfl, rfl, trivial⟩
          · refine mj_aload_n C dX4_workOut_52 rfl ?_
            obtain ⟨r8, hq8, hF⟩ := mj_ob hF
            refine mj_callVi C (c_X4_pop σ r8 hq8) yv_X4_pop kl_X4_49 (mo_1 G _) rfl rfl rfl rfl (Nat.le_of_ble_eq_true rfl) (mj_roomC (by decide) (by decide)) ⟨Nat.zero_le _, Nat.zero_le _⟩ dX4_workOut_53 ?_
            refine mj_if_ne C dX4_workOut_56 rfl hF (fun hc9 hF => ?_) (fun hc9 hF => ?_)
            · refine mj_iload_n C dX4_workOut_68 rfl ?_
              refine mj_istore_n C dX4_workOut_69 (by decide) ?_
              refine mj_goto C dX4_workOut_70 rfl ?_
              refine mj_iinc (v := v3 + 1) C dX4_workOut_86 rfl rfl (by decide) ?_
              refine mj_goto C dX4_workOut_89 rfl ?_
              refine mj_to ?_ (ih a1 na1 ha1 v3 (v3 + 1) r8.2 R hF)
              exact ⟨rfl, rfl, rfl, rfl, trivial⟩
            · refine mj_aload_n C dX4_workOut_59 rfl ?_
              refine mg_X4_15 C dX4_workOut_60 ?_
              refine mj_iload_n C dX4_workOut_63 rfl ?_
              obtain ⟨hg10, hF⟩ := mj_og hF
              refine mj_iaload C dX4_workOut_64 rfl hg10 ?_
              refine mj_goto C dX4_workOut_65 rfl ?_
              refine mj_istore_n C dX4_workOut_69 (by decide) ?_
              refine mj_goto C dX4_workOut_70 rfl ?_
              refine mj_iinc (v := v3 + 1) C dX4_workOut_86 rfl rfl (by decide) ?_
              refine mj_goto C dX4_workOut_89 rfl ?_
              refine mj_to ?_ (ih a1 na1 ha1 (r8.2.1 3 v3.toNatClampNeg) (v3 + 1) r8.2 R hF)
              exact ⟨rfl, rfl, rfl, rfl, trivial⟩
        · refine mj_aload_n C dX4_workOut_40 rfl ?_
          obtain ⟨r11, hq11, hF⟩ := mj_ob hF
          refine mj_callVi C (c_X4_pop σ r11 hq11) yv_X4_pop kl_X4_49 (mo_1 G _) rfl rfl rfl rfl (Nat.le_of_ble_eq_true rfl) (mj_roomC (by decide) (by decide)) ⟨Nat.zero_le _, Nat.zero_le _⟩ dX4_workOut_41 ?_
          have hF := mj_oi hF; subst hF
          exact mj_iret C hr hlk dX4_workOut_44
      · refine mj_goto C dX4_workOut_30 rfl ?_
        refine mj_iinc (v := v3 + 1) C dX4_workOut_86 rfl rfl (by decide) ?_
        refine mj_goto C dX4_workOut_89 rfl ?_
        refine mj_to ?_ (ih a1 na1 ha1 v2 (v3 + 1) σ R hF)
        exact ⟨rfl, rfl, rfl, rfl, trivial⟩
set_option maxRecDepth 100000 in
set_option maxHeartbeats 4000000 in
theorem c_X4_workOut {G : mj_G} {l : Launch} (σ : mj_S) (a1 n1 : Nat) (h1 : mj_il a1 = some n1) (R : (Int32 × mj_S)) (hF : f_X4_workOut σ a1 n1 = some R) : mj_C G l yX4_workOut cX4_workOut 5 (some .int) 3 [.ref (G.2.1 1), .ref (G.2.1 a1)] σ (some (.int R.1)) R.2 := by
  unfold f_X4_workOut at hF
  refine mj_of (ls := [(0, .ref (G.2.1 1)), (1, .ref (G.2.1 a1))]) (by decide) (Nat.le_of_ble_eq_true rfl) rfl (fun p e s m args below meth c C hr hlk => ?_)
  refine mj_aload_n C dX4_workOut_0 rfl ?_
  refine mj_iconstV (v := 0) C dX4_workOut_1 mc_i_0 ?_
  refine mp_X4_25 C dX4_workOut_2 ?_
  refine mj_iconstV (v := 0) C dX4_workOut_5 mc_i_0 ?_
  refine mj_istore_n C dX4_workOut_6 (by decide) ?_
  refine mj_iconstV (v := 0) C dX4_workOut_7 mc_i_0 ?_
  refine mj_istore_n C dX4_workOut_8 (by decide) ?_
  refine mj_to ?_ (w_X4_workOut_9 C hr hlk mj_fu a1 n1 h1 0 0 (mj_sI σ 1 4 0) R hF)
  exact ⟨rfl, rfl, rfl, rfl, trivial⟩
set_option maxRecDepth 100000 in
set_option maxHeartbeats 4000000 in
theorem w_X4_growth_30 {p : Program} {l : Launch} {e : Env} {s : State} {m : MethodId} {args : Array Value} {below : List Frame} {meth : Method} {c : Code} {G : mj_G} (C : mj_X p s m args meth c G cX4_growth 3 RX4) (hr : meth.sig.returnType = some .int) (hlk : meth.locks = false) : ∀ (t0 : Int32) (σ : mj_S) (R : (Int32 × mj_S)), b_X4_growth_30 t0 σ = some R → mj_W p l e (mj_rm 4) s m args below meth c G 0 0 3 (MQ below (mj_Q G (some (.int R.1)) R.2) args s 0 0 G.2.2.2) 30 [] [.int t0] σ := by
  intro t0 σ R hF
  unfold b_X4_growth_30 at hF
  refine mj_istore_n C dX4_growth_30 (by decide) ?_
  refine mj_iconstV (v := 0) C dX4_growth_31 mc_i_0 ?_
  refine mj_bipushV (v := 99) C dX4_growth_32 mc_b_99 ?_
  refine mj_iload_n C dX4_growth_34 rfl ?_
  refine mj_mmin C kl_X4_32 (mj_room13 (by decide) (Nat.le_of_ble_eq_true rfl)) ⟨Nat.zero_le _, Nat.zero_le _⟩ dX4_growth_35 ?_
  refine mj_mmax C kl_X4_46 (mj_room13 (by decide) (Nat.le_of_ble_eq_true rfl)) ⟨Nat.zero_le _, Nat.zero_le _⟩ dX4_growth_38 ?_
  have hF := mj_oi hF; subst hF
  exact mj_iret C hr hlk dX4_growth_41
set_option maxRecDepth 100000 in
set_option maxHeartbeats 4000000 in
theorem c_X4_growth {G : mj_G} {l : Launch} (σ : mj_S) (a1 n1 : Nat) (h1 : mj_il a1 = some n1) (R : (Int32 × mj_S)) (hF : f_X4_growth σ a1 n1 = some R) : mj_C G l yX4_growth cX4_growth 3 (some .int) 4 [.ref (G.2.1 1), .ref (G.2.1 a1)] σ (some (.int R.1)) R.2 := by
  unfold f_X4_growth at hF
  refine mj_of (ls := [(0, .ref (G.2.1 1)), (1, .ref (G.2.1 a1))]) (by decide) (Nat.le_of_ble_eq_true rfl) rfl (fun p e s m args below meth c C hr hlk => ?_)
  refine mj_aload_n C dX4_growth_0 rfl ?_
  refine mj_alen (v := Int32.ofNat n1) C dX4_growth_1 h1 rfl ?_
  refine mj_bipushV (v := 7) C dX4_growth_2 mc_b_7 ?_
  refine mj_ic_ge C dX4_growth_4 rfl hF (fun hc1 hF => ?_) (fun hc1 hF => ?_)
  · refine mj_aload_n C dX4_growth_9 rfl ?_
    refine mg_X4_28 C dX4_growth_10 ?_
    refine mj_if_eq C dX4_growth_13 rfl hF (fun hc2 hF => ?_) (fun hc2 hF => ?_)
    · refine mj_aload_n C dX4_growth_24 rfl ?_
      refine mj_iconstV (v := 0) C dX4_growth_25 mc_i_0 ?_
      obtain ⟨hg3, hF⟩ := mj_og hF
      refine mj_iaload C dX4_growth_26 h1 hg3 ?_
      refine mj_callSi C (c_X4_withoutText σ (σ.1 a1 0)) ys_X4_withoutText kl_X4_42 rfl rfl (Nat.le_of_ble_eq_true rfl) (mj_roomC (by decide) (by decide)) ⟨Nat.zero_le _, Nat.zero_le _⟩ dX4_growth_27 ?_
      refine mj_to ?_ (w_X4_growth_30 C hr hlk (f_X4_withoutText σ (σ.1 a1 0)) σ R hF)
      exact trivial
    · refine mj_aload_n C dX4_growth_16 rfl ?_
      refine mj_aload_n C dX4_growth_17 rfl ?_
      obtain ⟨r4, hq4, hF⟩ := mj_ob hF
      refine mj_callVi C (c_X4_workOut σ a1 n1 h1 r4 hq4) yv_X4_workOut kl_X4_38 (mo_1 G _) rfl rfl rfl rfl (Nat.le_of_ble_eq_true rfl) (mj_roomC (by decide) (by decide)) ⟨Nat.zero_le _, Nat.zero_le _⟩ dX4_growth_18 ?_
      refine mj_goto C dX4_growth_21 rfl ?_
      refine mj_to ?_ (w_X4_growth_30 C hr hlk r4.1 r4.2 R hF)
      exact trivial
  · refine mj_iconstV (v := 0) C dX4_growth_7 mc_i_0 ?_
    have hF := mj_oi hF; subst hF
    exact mj_iret C hr hlk dX4_growth_8
set_option maxRecDepth 100000 in
set_option maxHeartbeats 4000000 in
theorem w_X4_become_23 {p : Program} {l : Launch} {e : Env} {s : State} {m : MethodId} {args : Array Value} {below : List Frame} {meth : Method} {c : Code} {G : mj_G} (C : mj_X p s m args meth c G cX4_become 5 RX4) (hr : meth.sig.returnType = none) (hlk : meth.locks = false) : ∀ (n : Nat) (a1 na1 : Nat) (ha1 : mj_il a1 = some na1) (a2 na2 : Nat) (ha2 : mj_il a2 = some na2) (v4 : Int32) (σ : mj_S) (R : mj_S), b_X4_become_23 n a1 na1 a2 na2 v4 σ = some R → mj_W p l e (mj_rm 1) s m args below meth c G 0 0 5 (MQ below (mj_Q G none R) args s 0 0 G.2.2.2) 23 [(0, .ref (G.2.1 1)), (1, .ref (G.2.1 a1)), (2, .ref (G.2.1 a2)), (4, .int v4)] [] σ := by
  intro n
  induction n with
  | zero =>
    intro a1 na1 ha1 a2 na2 ha2 v4 σ R hF
    cases hF
  | succ n ih =>
    intro a1 na1 ha1 a2 na2 ha2 v4 σ R hF
    rw [b_X4_become_23] at hF
    refine mj_iload C dX4_become_23 rfl ?_
    refine mj_aload_n C dX4_become_25 rfl ?_
    refine mg_X4_21 C dX4_become_26 ?_
    refine mj_ic_ge C dX4_become_29 rfl hF (fun hc1 hF => ?_) (fun hc1 hF => ?_)
    · refine mj_aload_n C dX4_become_60 rfl ?_
      refine mj_iconstV (v := 1) C dX4_become_61 mc_i_1 ?_
      refine mp_X4_28 C rfl rfl dX4_become_62 ?_
      have hF := mj_oi hF; subst hF
      exact mj_vret C hr hlk dX4_become_65
    · refine mj_aload_n C dX4_become_32 rfl ?_
      refine mg_X4_11 C dX4_become_33 ?_
      refine mj_iload C dX4_become_36 rfl ?_
      refine mj_aload_n C dX4_become_38 rfl ?_
      refine mj_iload C dX4_become_39 rfl ?_
      obtain ⟨hg2, hF⟩ := mj_og hF
      refine mj_iaload C dX4_become_41 ha1 hg2 ?_
      obtain ⟨hg3, hF⟩ := mj_og hF
      refine mj_iastore C dX4_become_42 rfl hg3 ?_
      refine mj_aload_n C dX4_become_43 rfl ?_
      refine mg_X4_15 C dX4_become_44 ?_
      refine mj_iload C dX4_become_47 rfl ?_
      refine mj_aload_n C dX4_become_49 rfl ?_
      refine mj_iload C dX4_become_50 rfl ?_
      obtain ⟨hg4, hF⟩ := mj_og hF
      refine mj_iaload C dX4_become_52 ha2 hg4 ?_
      obtain ⟨hg5, hF⟩ := mj_og hF
      refine mj_iastore C dX4_become_53 rfl hg5 ?_
      refine mj_iinc (v := v4 + 1) C dX4_become_54 rfl rfl (by decide) ?_
      refine mj_goto C dX4_become_57 rfl ?_
      refine mj_to ?_ (ih a1 na1 ha1 a2 na2 ha2 (v4 + 1) (mj_sI (mj_sI σ 2 v4.toNatClampNeg (σ.1 a1 v4.toNatClampNeg)) 3 v4.toNatClampNeg ((mj_sI σ 2 v4.toNatClampNeg (σ.1 a1 v4.toNatClampNeg)).1 a2 v4.toNatClampNeg)) R hF)
      exact ⟨rfl, rfl, rfl, rfl, trivial⟩
set_option maxRecDepth 100000 in
set_option maxHeartbeats 4000000 in
theorem c_X4_become {G : mj_G} {l : Launch} (σ : mj_S) (a1 n1 : Nat) (h1 : mj_il a1 = some n1) (a2 n2 : Nat) (h2 : mj_il a2 = some n2) (p3 : Int32) (R : mj_S) (hF : f_X4_become σ a1 n1 a2 n2 p3 = some R) : mj_C G l yX4_become cX4_become 5 (none) 1 [.ref (G.2.1 1), .ref (G.2.1 a1), .ref (G.2.1 a2), .int p3] σ none R := by
  unfold f_X4_become at hF
  refine mj_of (ls := [(0, .ref (G.2.1 1)), (1, .ref (G.2.1 a1)), (2, .ref (G.2.1 a2)), (3, .int p3)]) (by decide) (Nat.le_of_ble_eq_true rfl) rfl (fun p e s m args below meth c C hr hlk => ?_)
  refine mj_aload_n C dX4_become_0 rfl ?_
  refine mj_iload_n C dX4_become_1 rfl ?_
  refine mj_bipushV (v := 121) C dX4_become_2 mc_b_121 ?_
  refine mj_aload_n C dX4_become_4 rfl ?_
  refine mj_alen (v := Int32.ofNat n1) C dX4_become_5 h1 rfl ?_
  refine mj_aload_n C dX4_become_6 rfl ?_
  refine mj_alen (v := Int32.ofNat n2) C dX4_become_7 h2 rfl ?_
  refine mj_mmin C kl_X4_32 (mj_room13 (by decide) (Nat.le_of_ble_eq_true rfl)) ⟨Nat.zero_le _, Nat.zero_le _⟩ dX4_become_8 ?_
  refine mj_mmin C kl_X4_32 (mj_room13 (by decide) (Nat.le_of_ble_eq_true rfl)) ⟨Nat.zero_le _, Nat.zero_le _⟩ dX4_become_11 ?_
  refine mj_mmin C kl_X4_32 (mj_room13 (by decide) (Nat.le_of_ble_eq_true rfl)) ⟨Nat.zero_le _, Nat.zero_le _⟩ dX4_become_14 ?_
  refine mp_X4_21 C dX4_become_17 ?_
  refine mj_iconstV (v := 0) C dX4_become_20 mc_i_0 ?_
  refine mj_istore C dX4_become_21 (by decide) ?_
  refine mj_to ?_ (w_X4_become_23 C hr hlk mj_fu a1 n1 h1 a2 n2 h2 0 (mj_sI σ 1 3 (mj_min p3 (mj_min 121 (mj_min (Int32.ofNat n1) (Int32.ofNat n2))))) R hF)
  exact ⟨rfl, rfl, rfl, rfl, trivial⟩
