-- begun from the skeleton (starting text)
/-! THE CLAIM OUT OF ONE WALK OF THE LAW'S BODY. Your part is whole_start (and what it stands on); all else here is the same for every law, but numbers. -/
def R_law : String := "DoorPostLaw"
def lw_P (b : Addr) (xs : List Int32) (args : Array Value) (s : State) : Prop := args = #[.ref b] ∧ s.IntsAt b xs ∧ xs.length ≤ 384 ∧ (Jvm.Cond.and given_1 narrow_1).before args s = true
def lw_Q (_ : Array Value) (s : State) (o : Outcome) (t : State) : Prop := o = .returned (some (.int 1)) ∧ Framed s o t [] 600000 7302250
def lw_Z (below : List Frame) (a : Array Value) (s : State) : State → Prop := fun t => ∃ o, t.status = .running ∧ Ended t below o ∧ lw_Q a s o t
/-- the law's own end, with 1 on the stack, nothing written that was there before, its room as the claim has it -/
theorem lw_ret {p : Program} {l : Launch} {e : Env} {s : State} {m : MethodId} {below : List Frame} {meth : Method} {c : Code} {b : Nat} (hx : p.tables.exec = Jvm.exec) (hb : c.code = code) (hr : meth.sig.returnType = ret) (hlocks : meth.locks = false) {pc : Nat} {H : Heap} {ls : Array Slot} (hdg : decode code pc = .ok (.ireturn, 1)) : W p l e room_1 s m #[Value.ref b] below meth c H [] 600000 7302250 (lw_Z below #[Value.ref b] s) (F0 m pc ls [.int 1]) := by
  intro T hT X
  obtain ⟨fs, hret, hrun, hended, hW, hframe⟩ := X.leave (v := some (.int 1)) (hlocks := hlocks) (fun h => by rw [hr] at h; cases h)
  have hmeth' : T.vm.method? m = some meth := X.method'
  refine ⟨T.setFrames fs, ?_, .returned (some (.int 1)), hrun, hended, rfl, ⟨_, rfl⟩, hW, hframe⟩
  jvm_step X.here [X.here.top, hx, hb, hdg, hmeth', hr, ret, narrow_b1]
  (try refine ⟨rfl, ?_⟩); (try refine ⟨rfl, ?_⟩)
  first | (intro acts; rw [hret _ acts rfl rfl rfl]) | rw [hret _ _ rfl rfl rfl]
  exact Steps.refl _
/-- what holds at the law's entry: the machine, the code, the tables' words (any of lw_tbl by 'hts w (by decide +kernel)'), the script of L ints xs at the cell b, what the Statement gives of the start (any of its parts by flat_of_before) -/
def lw_At (p : Program) (s : State) (m : MethodId) (meth : Method) (c : Code) (b L : Nat) (xs : Nat → Int32) : Prop :=
  p.tables.exec = Jvm.exec ∧ c.code = code ∧ meth.sig.returnType = ret ∧ c.maxLocals = 4 ∧ s.vm.findClass R_law = some m.cls ∧ (∀ w ∈ lw_tbl, w.before #[Value.ref b] s = true) ∧ va_X b L xs s s.heap ∧ b < s.heap.size ∧ meth.locks = false ∧ (Jvm.Cond.and given_1 narrow_1).before #[Value.ref b] s = true
-- the law
section MJL
variable {p : Program} {l : Launch} {e : Env} {R : Room} {s : State} {m : MethodId} {args : Array Value} {below : List Frame} {meth : Method} {c : Code} {G : mj_G} {cs sl nL : Nat} {Q : State → Prop} {cc : ByteArray} {own : String} {pc : Nat} {ls : List (Nat × Value)} {st : List Value} {σ : mj_S}
theorem mj_sld {b L : Nat} {xs : Nat → Int32} {i : Int32} (C : mj_X p s m args meth c G cc nL own) (hX : va_X b L xs s s.heap) (hbl : b < s.heap.size) (hbA : ¬ G.2.2.2 b) (d : decode cc pc = .ok (.iaload, 1)) (hin : 0 ≤ i.toInt ∧ i.toInt < (L : Int)) (k : mj_W p l e R s m args below meth c G cs sl nL Q (pc + 1) ls (.int (xs i.toNatClampNeg) :: st) σ) : mj_W p l e R s m args below meth c G cs sl nL Q pc ls (.int i :: .ref b :: st) σ := fun H locs la h1 h2 h3 => va_sld C.1 C.2.1 hX hbl hbA h3 (mj_in hin) d (k H locs la h1 h2 h3)
theorem mj_slen {b L : Nat} {xs : Nat → Int32} (C : mj_X p s m args meth c G cc nL own) (hX : va_X b L xs s s.heap) (hbl : b < s.heap.size) (hbA : ¬ G.2.2.2 b) (d : decode cc pc = .ok (.arraylength, 1)) (k : mj_W p l e R s m args below meth c G cs sl nL Q (pc + 1) ls (.int (Int32.ofNat L) :: st) σ) : mj_W p l e R s m args below meth c G cs sl nL Q pc ls (.ref b :: st) σ := fun H locs la h1 h2 h3 => va_slen C.1 C.2.1 hX hbl hbA h3 d (k H locs la h1 h2 h3)
end MJL
theorem mj_sw_law {x : Int32} (h0 : ¬ x = 0) (h1 : ¬ x = 1) (h2 : ¬ x = 2) (h3 : ¬ x = 3) (h4 : ¬ x = 4) (h5 : ¬ x = 5) (h6 : ¬ x = 6) (h7 : ¬ x = 7) (h8 : ¬ x = 8) (h9 : ¬ x = 9) (h10 : ¬ x = 10) (h11 : ¬ x = 11) (h12 : ¬ x = 12) (h13 : ¬ x = 13) (h14 : ¬ x = 14) (h15 : ¬ x = 15) (h16 : ¬ x = 16) (h17 : ¬ x = 17) (h18 : ¬ x = 18) (h19 : ¬ x = 19) (h20 : ¬ x = 20) (h21 : ¬ x = 21) (h22 : ¬ x = 22) (h23 : ¬ x = 23) (h24 : ¬ x = 24) (h25 : ¬ x = 25) (h26 : ¬ x = 26) (h27 : ¬ x = 27) (h28 : ¬ x = 28) (h29 : ¬ x = 29) (h30 : ¬ x = 30) (h31 : ¬ x = 31) (h32 : ¬ x = 32) (h33 : ¬ x = 33) (h34 : ¬ x = 34) (h35 : ¬ x = 35) (h36 : ¬ x = 36) : x.toInt < 0 ∨ 36 < x.toInt := by
  have g0 : ¬ x.toInt = 0 := lv_neT h0 rfl
  have g1 : ¬ x.toInt = 1 := lv_neT h1 rfl
  have g2 : ¬ x.toInt = 2 := lv_neT h2 rfl
  have g3 : ¬ x.toInt = 3 := lv_neT h3 rfl
  have g4 : ¬ x.toInt = 4 := lv_neT h4 rfl
  have g5 : ¬ x.toInt = 5 := lv_neT h5 rfl
  have g6 : ¬ x.toInt = 6 := lv_neT h6 rfl
  have g7 : ¬ x.toInt = 7 := lv_neT h7 rfl
  have g8 : ¬ x.toInt = 8 := lv_neT h8 rfl
  have g9 : ¬ x.toInt = 9 := lv_neT h9 rfl
  have g10 : ¬ x.toInt = 10 := lv_neT h10 rfl
  have g11 : ¬ x.toInt = 11 := lv_neT h11 rfl
  have g12 : ¬ x.toInt = 12 := lv_neT h12 rfl
  have g13 : ¬ x.toInt = 13 := lv_neT h13 rfl
  have g14 : ¬ x.toInt = 14 := lv_neT h14 rfl
  have g15 : ¬ x.toInt = 15 := lv_neT h15 rfl
  have g16 : ¬ x.toInt = 16 := lv_neT h16 rfl
  have g17 : ¬ x.toInt = 17 := lv_neT h17 rfl
  have g18 : ¬ x.toInt = 18 := lv_neT h18 rfl
  have g19 : ¬ x.toInt = 19 := lv_neT h19 rfl
  have g20 : ¬ x.toInt = 20 := lv_neT h20 rfl
  have g21 : ¬ x.toInt = 21 := lv_neT h21 rfl
  have g22 : ¬ x.toInt = 22 := lv_neT h22 rfl
  have g23 : ¬ x.toInt = 23 := lv_neT h23 rfl
  have g24 : ¬ x.toInt = 24 := lv_neT h24 rfl
  have g25 : ¬ x.toInt = 25 := lv_neT h25 rfl
  have g26 : ¬ x.toInt = 26 := lv_neT h26 rfl
  have g27 : ¬ x.toInt = 27 := lv_neT h27 rfl
  have g28 : ¬ x.toInt = 28 := lv_neT h28 rfl
  have g29 : ¬ x.toInt = 29 := lv_neT h29 rfl
  have g30 : ¬ x.toInt = 30 := lv_neT h30 rfl
  have g31 : ¬ x.toInt = 31 := lv_neT h31 rfl
  have g32 : ¬ x.toInt = 32 := lv_neT h32 rfl
  have g33 : ¬ x.toInt = 33 := lv_neT h33 rfl
  have g34 : ¬ x.toInt = 34 := lv_neT h34 rfl
  have g35 : ¬ x.toInt = 35 := lv_neT h35 rfl
  have g36 : ¬ x.toInt = 36 := lv_neT h36 rfl
  omega
theorem kl_L_13 : Cond.methodLink RL 13 yX9_child ∈ mj_TB := mj_t2 77 (by decide +kernel) rfl
theorem kl_L_17 : Cond.methodLink RL 17 yX10_child ∈ mj_TB := mj_t6 115 (by decide +kernel) rfl
theorem kl_L_18 : Cond.methodLink RL 18 yX9_want ∈ mj_TB := mj_t2 146 (by decide +kernel) rfl
theorem kl_L_22 : Cond.methodLink RL 22 yX10_want ∈ mj_TB := mj_t6 138 (by decide +kernel) rfl
theorem kl_L_23 : Cond.methodLink RL 23 yX9_feed ∈ mj_TB := mj_t2 169 (by decide +kernel) rfl
theorem kl_L_27 : Cond.methodLink RL 27 yX10_feed ∈ mj_TB := mj_t6 158 (by decide +kernel) rfl
theorem kl_L_28 : Cond.methodLink RL 28 yX9_law ∈ mj_TB := mj_t2 181 (by decide +kernel) rfl
theorem kl_L_32 : Cond.methodLink RL 32 yX10_law ∈ mj_TB := mj_t6 163 (by decide +kernel) rfl
theorem kl_L_33 : Cond.methodLink RL 33 yX9_height ∈ mj_TB := mj_t3 88 (by decide +kernel) rfl
theorem kl_L_36 : Cond.methodLink RL 36 yX10_height ∈ mj_TB := mj_t6 210 (by decide +kernel) rfl
theorem kl_L_37 : Cond.methodLink RL 37 yX9_wants ∈ mj_TB := mj_t3 101 (by decide +kernel) rfl
theorem kl_L_40 : Cond.methodLink RL 40 yX10_wants ∈ mj_TB := mj_t6 150 (by decide +kernel) rfl
theorem kl_L_41 : Cond.methodLink RL 41 yX9_mark ∈ mj_TB := mj_t3 110 (by decide +kernel) rfl
theorem kl_L_44 : Cond.methodLink RL 44 yX10_mark ∈ mj_TB := mj_t6 234 (by decide +kernel) rfl
theorem kl_L_45 : Cond.methodLink RL 45 yX9_marks ∈ mj_TB := mj_t3 125 (by decide +kernel) rfl
theorem kl_L_48 : Cond.methodLink RL 48 yX10_marks ∈ mj_TB := mj_t7 9 (by decide +kernel) rfl
theorem kl_L_49 : Cond.methodLink RL 49 yX9_paint ∈ mj_TB := mj_t3 155 (by decide +kernel) rfl
theorem kl_L_52 : Cond.methodLink RL 52 yX10_paint ∈ mj_TB := mj_t7 18 (by decide +kernel) rfl
theorem kl_L_53 : Cond.methodLink RL 53 yX9_of ∈ mj_TB := mj_t3 180 (by decide +kernel) rfl
theorem kl_L_56 : Cond.methodLink RL 56 yX10_of ∈ mj_TB := mj_t7 26 (by decide +kernel) rfl
theorem kl_L_57 : Cond.methodLink RL 57 yX9_mend ∈ mj_TB := mj_t3 208 (by decide +kernel) rfl
theorem kl_L_60 : Cond.methodLink RL 60 yX10_mend ∈ mj_TB := mj_t7 45 (by decide +kernel) rfl
theorem kl_L_61 : Cond.methodLink RL 61 yX9_off ∈ mj_TB := mj_t4 19 (by decide +kernel) rfl
theorem kl_L_64 : Cond.methodLink RL 64 yX10_off ∈ mj_TB := mj_t7 53 (by decide +kernel) rfl
theorem kl_L_65 : Cond.methodLink RL 65 yX9_whose ∈ mj_TB := mj_t4 44 (by decide +kernel) rfl
theorem kl_L_68 : Cond.methodLink RL 68 yX10_whose ∈ mj_TB := mj_t7 71 (by decide +kernel) rfl
theorem kl_L_69 : Cond.methodLink RL 69 yX9_odds ∈ mj_TB := mj_t4 76 (by decide +kernel) rfl
theorem kl_L_72 : Cond.methodLink RL 72 yX10_odds ∈ mj_TB := mj_t7 88 (by decide +kernel) rfl
theorem kl_L_73 : Cond.methodLink RL 73 yX9_how ∈ mj_TB := mj_t4 88 (by decide +kernel) rfl
theorem kl_L_76 : Cond.methodLink RL 76 yX10_how ∈ mj_TB := mj_t7 92 (by decide +kernel) rfl
theorem kl_L_77 : Cond.methodLink RL 77 yX9_together ∈ mj_TB := mj_t4 105 (by decide +kernel) rfl
theorem kl_L_80 : Cond.methodLink RL 80 yX10_together ∈ mj_TB := mj_t7 96 (by decide +kernel) rfl
theorem kl_L_81 : Cond.methodLink RL 81 yX9_turned ∈ mj_TB := mj_t4 136 (by decide +kernel) rfl
theorem kl_L_84 : Cond.methodLink RL 84 yX10_turned ∈ mj_TB := mj_t7 104 (by decide +kernel) rfl
theorem kl_L_85 : Cond.methodLink RL 85 yX9_led ∈ mj_TB := mj_t4 156 (by decide +kernel) rfl
theorem kl_L_88 : Cond.methodLink RL 88 yX10_led ∈ mj_TB := mj_t7 112 (by decide +kernel) rfl
theorem kl_L_89 : Cond.methodLink RL 89 yX9_tall ∈ mj_TB := mj_t4 165 (by decide +kernel) rfl
theorem kl_L_92 : Cond.methodLink RL 92 yX10_tall ∈ mj_TB := mj_t7 116 (by decide +kernel) rfl
theorem kl_L_93 : Cond.methodLink RL 93 yX9_year ∈ mj_TB := mj_t4 193 (by decide +kernel) rfl
theorem kl_L_96 : Cond.methodLink RL 96 yX10_year ∈ mj_TB := mj_t7 132 (by decide +kernel) rfl
theorem kl_L_97 : Cond.methodLink RL 97 yX9_line ∈ mj_TB := mj_t4 213 (by decide +kernel) rfl
theorem kl_L_100 : Cond.methodLink RL 100 yX10_line ∈ mj_TB := mj_t7 137 (by decide +kernel) rfl
theorem kl_L_101 : Cond.methodLink RL 101 yX9_falls ∈ mj_TB := mj_t4 226 (by decide +kernel) rfl
theorem kl_L_104 : Cond.methodLink RL 104 yX10_falls ∈ mj_TB := mj_t7 149 (by decide +kernel) rfl
theorem kl_L_105 : Cond.methodLink RL 105 yX9_overtakes ∈ mj_TB := mj_t4 236 (by decide +kernel) rfl
theorem kl_L_108 : Cond.methodLink RL 108 yX10_overtakes ∈ mj_TB := mj_t7 153 (by decide +kernel) rfl
theorem kl_L_109 : Cond.methodLink RL 109 yX9_enough ∈ mj_TB := mj_t5 8 (by decide +kernel) rfl
theorem kl_L_112 : Cond.methodLink RL 112 yX10_enough ∈ mj_TB := mj_t7 157 (by decide +kernel) rfl
theorem kl_L_113 : Cond.methodLink RL 113 yX9_slips ∈ mj_TB := mj_t5 22 (by decide +kernel) rfl
theorem kl_L_117 : Cond.methodLink RL 117 yX10_slips ∈ mj_TB := mj_t7 161 (by decide +kernel) rfl
theorem kl_L_118 : Cond.methodLink RL 118 yX9_undo ∈ mj_TB := mj_t5 31 (by decide +kernel) rfl
theorem kl_L_121 : Cond.methodLink RL 121 yX10_undo ∈ mj_TB := mj_t6 107 (by decide +kernel) rfl
theorem kl_L_122 : Cond.methodLink RL 122 yX9_redo ∈ mj_TB := mj_t5 43 (by decide +kernel) rfl
theorem kl_L_125 : Cond.methodLink RL 125 yX10_redo ∈ mj_TB := mj_t6 111 (by decide +kernel) rfl
theorem kl_L_126 : Cond.methodLink RL 126 yX9_body ∈ mj_TB := mj_t5 55 (by decide +kernel) rfl
theorem kl_L_129 : Cond.methodLink RL 129 yX10_body ∈ mj_TB := mj_t7 171 (by decide +kernel) rfl
theorem kl_L_130 : Cond.methodLink RL 130 yX9_act ∈ mj_TB := mj_t5 71 (by decide +kernel) rfl
theorem kl_L_133 : Cond.methodLink RL 133 yX10_act ∈ mj_TB := mj_t7 176 (by decide +kernel) rfl
theorem kl_L_134 : Cond.methodLink RL 134 yX9_trace ∈ mj_TB := mj_t5 110 (by decide +kernel) rfl
theorem kl_L_137 : Cond.methodLink RL 137 yX10_trace ∈ mj_TB := mj_t7 204 (by decide +kernel) rfl
theorem kl_L_138 : Cond.methodLink RL 138 yX9_keep ∈ mj_TB := mj_t5 118 (by decide +kernel) rfl
theorem kl_L_141 : Cond.methodLink RL 141 yX10_keep ∈ mj_TB := mj_t7 208 (by decide +kernel) rfl
theorem kl_L_142 : Cond.methodLink RL 142 yX9_row ∈ mj_TB := mj_t5 127 (by decide +kernel) rfl
theorem kl_L_145 : Cond.methodLink RL 145 yX10_row ∈ mj_TB := mj_t7 212 (by decide +kernel) rfl
theorem kl_L_148 : Cond.methodLink RL 148 yX9_put ∈ mj_TB := mj_t5 139 (by decide +kernel) rfl
theorem kl_L_152 : Cond.methodLink RL 152 yX10_put ∈ mj_TB := mj_t7 216 (by decide +kernel) rfl
theorem kl_L_153 : Cond.methodLink RL 153 yX9_element ∈ mj_TB := mj_t5 158 (by decide +kernel) rfl
theorem kl_L_157 : Cond.methodLink RL 157 yX10_element ∈ mj_TB := mj_t7 227 (by decide +kernel) rfl
theorem kl_L_158 : Cond.methodLink RL 158 yX9_shift ∈ mj_TB := mj_t5 163 (by decide +kernel) rfl
theorem kl_L_162 : Cond.methodLink RL 162 yX10_shift ∈ mj_TB := mj_t7 232 (by decide +kernel) rfl
theorem kl_L_163 : Cond.methodLink RL 163 yX9_taken ∈ mj_TB := mj_t5 176 (by decide +kernel) rfl
theorem kl_L_166 : Cond.methodLink RL 166 yX10_taken ∈ mj_TB := mj_t7 236 (by decide +kernel) rfl
theorem kl_L_167 : Cond.methodLink RL 167 yX9_count ∈ mj_TB := mj_t5 188 (by decide +kernel) rfl
theorem kl_L_170 : Cond.methodLink RL 170 yX10_count ∈ mj_TB := mj_t8 7 (by decide +kernel) rfl
theorem kc_L_146 : Cond.constantLong RL 146 4294967295 ∈ mj_TB := mj_t8 11 (by decide +kernel) rfl
theorem lw_room {dc mx : Nat} (h : dc ≤ 1300) (h2 : mx ≤ 45) : dc + 1 ≤ room_1.frames ∧ 8 + (mx + 11) + 64 * dc ≤ room_1.locals := ⟨by show _ ≤ 2048; omega, by show _ ≤ 84000; omega⟩
theorem lw_ix {i k L : Nat} {x : Int32} (hx : x = nI (i + k)) (h : i + k < L) (hL : L ≤ 384) : 0 ≤ x.toInt ∧ x.toInt < (L : Int) := by
  rw [hx, nI_toInt (by omega)]
  omega
theorem lw_end {i L : Nat} (hi : i ≤ 384) (hL : L ≤ 384) : (Int32.ofNat L - 6 < nI i) ↔ L < i + 6 := by
  have e := pk_sub_toInt (a := L) (b := 6) (by omega) (by omega)
  have e2 : (Int32.ofNat L - 6).toInt = (L : Int) - 6 := e
  rw [Int32.lt_iff_toInt_lt, e2, nI_toInt (by omega)]
  omega
def lw_op_child (I : mj_S → Prop) : Prop := ∀ (σ : mj_S) (x0 : Int32) (x1 : Int32) (x2 : Int32), I σ → ∃ (v : Int32) (σ1 σ2 : mj_S), f_X9_child σ x0 x1 x2 = some (v, σ1) ∧ f_X10_child σ1 x0 x1 x2 = some (v, σ2) ∧ I σ2
def lw_op_want (I : mj_S → Prop) : Prop := ∀ (σ : mj_S) (x0 : Int32) (x1 : Int32), I σ → ∃ (v : Int32) (σ1 σ2 : mj_S), f_X9_want σ x0 x1 = some (v, σ1) ∧ f_X10_want σ1 x0 x1 = some (v, σ2) ∧ I σ2
def lw_op_feed (I : mj_S → Prop) : Prop := ∀ (σ : mj_S) (x0 : Int32), I σ → ∃ (v : Int32) (σ1 σ2 : mj_S), f_X9_feed σ x0 = some (v, σ1) ∧ f_X10_feed σ1 x0 = some (v, σ2) ∧ I σ2
def lw_op_law (I : mj_S → Prop) : Prop := ∀ (σ : mj_S), I σ → ∃ (v : Int32) (σ1 σ2 : mj_S), f_X9_law σ = some (v, σ1) ∧ f_X10_law σ1 = some (v, σ2) ∧ I σ2
def lw_op_height (I : mj_S → Prop) : Prop := ∀ (σ : mj_S) (x0 : Int32) (x1 : Int32), I σ → ∃ (v : Int32) (σ1 σ2 : mj_S), (f_X9_height σ x0 x1 = some v ∧ σ1 = σ) ∧ f_X10_height σ1 x0 x1 = some (v, σ2) ∧ I σ2
def lw_op_wants (I : mj_S → Prop) : Prop := ∀ (σ : mj_S) (x0 : Int32), I σ → ∃ (v : Int32) (σ1 σ2 : mj_S), (f_X9_wants σ x0 = some v ∧ σ1 = σ) ∧ (f_X10_wants σ1 x0 = some v ∧ σ2 = σ1) ∧ I σ2
def lw_op_mark (I : mj_S → Prop) : Prop := ∀ (σ : mj_S) (x0 : Int32) (x1 : Int32) (x2 : Int32), I σ → ∃ (v : Int32) (σ1 σ2 : mj_S), f_X9_mark σ x0 x1 x2 = some (v, σ1) ∧ f_X10_mark σ1 x0 x1 x2 = some (v, σ2) ∧ I σ2
def lw_op_marks (I : mj_S → Prop) : Prop := ∀ (σ : mj_S) (x0 : Int32) (x1 : Int32) (x2 : Int32), I σ → ∃ (v : Int32) (σ1 σ2 : mj_S), f_X9_marks σ x0 x1 x2 = some (v, σ1) ∧ f_X10_marks σ1 x0 x1 x2 = some (v, σ2) ∧ I σ2
def lw_op_paint (I : mj_S → Prop) : Prop := ∀ (σ : mj_S) (x0 : Int32), I σ → ∃ (v : Int32) (σ1 σ2 : mj_S), f_X9_paint σ x0 = some (v, σ1) ∧ f_X10_paint σ1 x0 = some (v, σ2) ∧ I σ2
def lw_op_of (I : mj_S → Prop) : Prop := ∀ (σ : mj_S) (x0 : Int32) (x1 : Int32), I σ → ∃ (v : Int32) (σ1 σ2 : mj_S), (f_X9_of σ x0 x1 = some v ∧ σ1 = σ) ∧ (f_X10_of σ1 x0 x1 = some v ∧ σ2 = σ1) ∧ I σ2
def lw_op_mend (I : mj_S → Prop) : Prop := ∀ (σ : mj_S) (x0 : Int32) (x1 : Int32) (x2 : Int32), I σ → ∃ (v : Int32) (σ1 σ2 : mj_S), f_X9_mend σ x0 x1 x2 = some (v, σ1) ∧ f_X10_mend σ1 x0 x1 x2 = some (v, σ2) ∧ I σ2
def lw_op_off (I : mj_S → Prop) : Prop := ∀ (σ : mj_S) (x0 : Int32) (x1 : Int32) (x2 : Int32), I σ → ∃ (v : Int32) (σ1 σ2 : mj_S), (f_X9_off σ x0 x1 x2 = some v ∧ σ1 = σ) ∧ f_X10_off σ1 x0 x1 x2 = some (v, σ2) ∧ I σ2
def lw_op_whose (I : mj_S → Prop) : Prop := ∀ (σ : mj_S) (x0 : Int32) (x1 : Int32), I σ → ∃ (v : Int32) (σ1 σ2 : mj_S), f_X9_whose σ x0 x1 = some (v, σ1) ∧ f_X10_whose σ1 x0 x1 = some (v, σ2) ∧ I σ2
def lw_op_odds (I : mj_S → Prop) : Prop := ∀ (σ : mj_S) (x0 : Int32), I σ → ∃ (v : Int32) (σ1 σ2 : mj_S), (f_X9_odds σ x0 = some v ∧ σ1 = σ) ∧ f_X10_odds σ1 x0 = some (v, σ2) ∧ I σ2
def lw_op_how (I : mj_S → Prop) : Prop := ∀ (σ : mj_S) (x0 : Int32) (x1 : Int32), I σ → ∃ (v : Int32) (σ1 σ2 : mj_S), f_X9_how σ x0 x1 = some (v, σ1) ∧ f_X10_how σ1 x0 x1 = some (v, σ2) ∧ I σ2
def lw_op_together (I : mj_S → Prop) : Prop := ∀ (σ : mj_S) (x0 : Int32) (x1 : Int32), I σ → ∃ (v : Int32) (σ1 σ2 : mj_S), f_X9_together σ x0 x1 = some (v, σ1) ∧ f_X10_together σ1 x0 x1 = some (v, σ2) ∧ I σ2
def lw_op_turned (I : mj_S → Prop) : Prop := ∀ (σ : mj_S) (x0 : Int32) (x1 : Int32), I σ → ∃ (v : Int32) (σ1 σ2 : mj_S), (f_X9_turned σ x0 x1 = some v ∧ σ1 = σ) ∧ (f_X10_turned σ1 x0 x1 = some v ∧ σ2 = σ1) ∧ I σ2
def lw_op_led (I : mj_S → Prop) : Prop := ∀ (σ : mj_S) (x0 : Int32), I σ → ∃ (v : Int32) (σ1 σ2 : mj_S), f_X9_led σ x0 = some (v, σ1) ∧ f_X10_led σ1 x0 = some (v, σ2) ∧ I σ2
def lw_op_tall (I : mj_S → Prop) : Prop := ∀ (σ : mj_S) (x0 : Int32) (x1 : Int32), I σ → ∃ (v : Int32) (σ1 σ2 : mj_S), (f_X9_tall σ x0 x1 = some v ∧ σ1 = σ) ∧ f_X10_tall σ1 x0 x1 = some (v, σ2) ∧ I σ2
def lw_op_year (I : mj_S → Prop) : Prop := ∀ (σ : mj_S) (x0 : Int32) (x1 : Int32), I σ → ∃ (v : Int32) (σ1 σ2 : mj_S), (f_X9_year σ x0 x1 = some v ∧ σ1 = σ) ∧ f_X10_year σ1 x0 x1 = some (v, σ2) ∧ I σ2
def lw_op_line (I : mj_S → Prop) : Prop := ∀ (σ : mj_S) (x0 : Int32) (x1 : Int32), I σ → ∃ (v : Int32) (σ1 σ2 : mj_S), (f_X9_line σ x0 x1 = some v ∧ σ1 = σ) ∧ f_X10_line σ1 x0 x1 = some (v, σ2) ∧ I σ2
def lw_op_falls (I : mj_S → Prop) : Prop := ∀ (σ : mj_S) (x0 : Int32), I σ → ∃ (v : Int32) (σ1 σ2 : mj_S), (f_X9_falls σ x0 = some v ∧ σ1 = σ) ∧ f_X10_falls σ1 x0 = some (v, σ2) ∧ I σ2
def lw_op_overtakes (I : mj_S → Prop) : Prop := ∀ (σ : mj_S) (x0 : Int32), I σ → ∃ (v : Int32) (σ1 σ2 : mj_S), (f_X9_overtakes σ x0 = some v ∧ σ1 = σ) ∧ f_X10_overtakes σ1 x0 = some (v, σ2) ∧ I σ2
def lw_op_enough (I : mj_S → Prop) : Prop := ∀ (σ : mj_S) (x0 : Int32) (x1 : Int32) (x2 : Int32), I σ → ∃ (v : Int32) (σ1 σ2 : mj_S), f_X9_enough σ x0 x1 x2 = some (v, σ1) ∧ f_X10_enough σ1 x0 x1 x2 = some (v, σ2) ∧ I σ2
def lw_op_slips (I : mj_S → Prop) : Prop := ∀ (σ : mj_S) (x0 : Int32) (x1 : Int32) (x2 : Int32) (x3 : Int32), I σ → ∃ (v : Int32) (σ1 σ2 : mj_S), f_X9_slips σ x0 x1 x2 x3 = some (v, σ1) ∧ f_X10_slips σ1 x0 x1 x2 x3 = some (v, σ2) ∧ I σ2
def lw_op_undo (I : mj_S → Prop) : Prop := ∀ (σ : mj_S), I σ → ∃ (v : Int32) (σ1 σ2 : mj_S), f_X9_undo σ = some (v, σ1) ∧ f_X10_undo σ1 = some (v, σ2) ∧ I σ2
def lw_op_redo (I : mj_S → Prop) : Prop := ∀ (σ : mj_S), I σ → ∃ (v : Int32) (σ1 σ2 : mj_S), f_X9_redo σ = some (v, σ1) ∧ f_X10_redo σ1 = some (v, σ2) ∧ I σ2
def lw_op_body (I : mj_S → Prop) : Prop := ∀ (σ : mj_S) (x0 : Int32), I σ → ∃ (v : Int32) (σ1 σ2 : mj_S), f_X9_body σ x0 = some (v, σ1) ∧ f_X10_body σ1 x0 = some (v, σ2) ∧ I σ2
def lw_op_act (I : mj_S → Prop) : Prop := ∀ (σ : mj_S) (x0 : Int32) (x1 : Int32) (x2 : Int32), I σ → ∃ (v : Int32) (σ1 σ2 : mj_S), f_X9_act σ x0 x1 x2 = some (v, σ1) ∧ f_X10_act σ1 x0 x1 x2 = some (v, σ2) ∧ I σ2
def lw_op_trace (I : mj_S → Prop) : Prop := ∀ (σ : mj_S) (x0 : Int32), I σ → ∃ (v : Int32) (σ1 σ2 : mj_S), (f_X9_trace σ x0 = some v ∧ σ1 = σ) ∧ (f_X10_trace σ1 x0 = some v ∧ σ2 = σ1) ∧ I σ2
def lw_op_keep (I : mj_S → Prop) : Prop := ∀ (σ : mj_S) (x0 : Int32) (x1 : Int32), I σ → ∃ (v : Int32) (σ1 σ2 : mj_S), f_X9_keep σ x0 x1 = some (v, σ1) ∧ f_X10_keep σ1 x0 x1 = some (v, σ2) ∧ I σ2
def lw_op_row (I : mj_S → Prop) : Prop := ∀ (σ : mj_S) (x0 : Int32) (x1 : Int32) (x2 : Int32), I σ → ∃ (v : Int32) (σ1 σ2 : mj_S), f_X9_row σ x0 x1 x2 = some (v, σ1) ∧ f_X10_row σ1 x0 x1 x2 = some (v, σ2) ∧ I σ2
def lw_op_put (I : mj_S → Prop) : Prop := ∀ (σ : mj_S) (x0 : Int32) (x1 : Int32) (x2 : Int64), I σ → ∃ (v : Int32) (σ1 σ2 : mj_S), f_X9_put σ x0 x1 x2 = some (v, σ1) ∧ f_X10_put σ1 x0 x1 x2 = some (v, σ2) ∧ I σ2
def lw_op_element (I : mj_S → Prop) : Prop := ∀ (σ : mj_S) (x0 : Int32) (x1 : Int32), I σ → ∃ (v : Int64) (σ1 σ2 : mj_S), (f_X9_element σ x0 x1 = some v ∧ σ1 = σ) ∧ (f_X10_element σ1 x0 x1 = some v ∧ σ2 = σ1) ∧ I σ2
def lw_op_shift (I : mj_S → Prop) : Prop := ∀ (σ : mj_S) (x0 : Int32) (x1 : Int32) (x2 : Int32) (x3 : Int32) (x4 : Int32), I σ → ∃ (v : Int32) (σ1 σ2 : mj_S), f_X9_shift σ x0 x1 x2 x3 x4 = some (v, σ1) ∧ f_X10_shift σ1 x0 x1 x2 x3 x4 = some (v, σ2) ∧ I σ2
def lw_op_taken (I : mj_S → Prop) : Prop := ∀ (σ : mj_S) (x0 : Int32) (x1 : Int32), I σ → ∃ (v : Int32) (σ1 σ2 : mj_S), (f_X9_taken σ x0 x1 = some v ∧ σ1 = σ) ∧ (f_X10_taken σ1 x0 x1 = some v ∧ σ2 = σ1) ∧ I σ2
def lw_op_count (I : mj_S → Prop) : Prop := ∀ (σ : mj_S) (x0 : Int32), I σ → ∃ (v : Int32) (σ1 σ2 : mj_S), (f_X9_count σ x0 = v ∧ σ1 = σ) ∧ (f_X10_count σ1 x0 = v ∧ σ2 = σ1) ∧ I σ2
set_option maxRecDepth 100000 in
set_option maxHeartbeats 20000000 in
/-- the law's loop: at its head with i ints read and the state in the invariant -/
theorem law_loop {p : Program} {l : Launch} {e : Env} {s : State} {m : MethodId} {below : List Frame} {meth : Method} {c : Code} {G : mj_G} {b L : Nat} {xs : Nat → Int32} {cs sl : Nat} (hL : L ≤ 384) (I : mj_S → Prop) (O_child : lw_op_child I) (O_want : lw_op_want I) (O_feed : lw_op_feed I) (O_law : lw_op_law I) (O_height : lw_op_height I) (O_wants : lw_op_wants I) (O_mark : lw_op_mark I) (O_marks : lw_op_marks I) (O_paint : lw_op_paint I) (O_of : lw_op_of I) (O_mend : lw_op_mend I) (O_off : lw_op_off I) (O_whose : lw_op_whose I) (O_odds : lw_op_odds I) (O_how : lw_op_how I) (O_together : lw_op_together I) (O_turned : lw_op_turned I) (O_led : lw_op_led I) (O_tall : lw_op_tall I) (O_year : lw_op_year I) (O_line : lw_op_line I) (O_falls : lw_op_falls I) (O_overtakes : lw_op_overtakes I) (O_enough : lw_op_enough I) (O_slips : lw_op_slips I) (O_undo : lw_op_undo I) (O_redo : lw_op_redo I) (O_body : lw_op_body I) (O_act : lw_op_act I) (O_trace : lw_op_trace I) (O_keep : lw_op_keep I) (O_row : lw_op_row I) (O_put : lw_op_put I) (O_element : lw_op_element I) (O_shift : lw_op_shift I) (O_taken : lw_op_taken I) (O_count : lw_op_count I) (C : mj_X p s m #[.ref b] meth c G code 4 RL) (hr : meth.sig.returnType = ret) (hlocks : meth.locks = false) (hX : va_X b L xs s s.heap) (hbl : b < s.heap.size) (hA : G.2.2.2 = fun q => s.heap.size ≤ q) (hcs : cs = 91 ∧ sl = 16552) :
    ∀ (n i : Nat) (σ : mj_S), i ≤ 384 → 384 ≤ i + 6 * n → I σ → mj_W p l e room_1 s m #[.ref b] below meth c G cs sl 4 (lw_Z below #[.ref b] s) 18 [(0, .ref b), (1, .ref (G.2.1 0)), (2, .ref (G.2.1 64)), (3, .int (nI i))] [] σ := by
  obtain ⟨rfl, rfl⟩ := hcs
  have hbA : ¬ G.2.2.2 b := by rw [hA]; exact Nat.not_le.mpr hbl
  have endW : ∀ (i : Nat) (σ : mj_S), mj_W p l e room_1 s m #[.ref b] below meth c G 91 16552 4 (lw_Z below #[.ref b] s) 1434 [(0, .ref b), (1, .ref (G.2.1 0)), (2, .ref (G.2.1 64)), (3, .int (nI i))] [] σ := by
    intro i σ
    refine mj_iconstV (v := 1) C dL_law_1434 (by decide) ?_
    exact fun H locs la h1 h2 h3 => va_forget (fun q hq => by have := h3.2.2 q hq; rw [hA] at this; exact this) (W.widen (Nat.le_of_ble_eq_true rfl) (Nat.le_of_ble_eq_true rfl) (lw_ret C.1 C.2.1 hr hlocks dL_law_1435))
  intro n
  induction n with
  | zero =>
    intro i σ hi hn hI
    refine mj_iload_n C dL_law_18 rfl ?_
    refine mj_aload_n C dL_law_19 rfl ?_
    refine mj_slen C hX hbl hbA dL_law_20 ?_
    refine mj_bipushV (v := 6) C dL_law_21 (by decide) ?_
    refine mj_isub C dL_law_23 ?_
    refine mj_ic_gt (r1 := ()) (r2 := ()) (r := ()) C dL_law_24 rfl (ite_self _) (fun _ _ => ?_) (fun hc _ => absurd ((lw_end hi hL).mpr (by omega)) hc)
    exact endW i σ
  | succ n ih =>
    intro i σ hi hn hI
    refine mj_iload_n C dL_law_18 rfl ?_
    refine mj_aload_n C dL_law_19 rfl ?_
    refine mj_slen C hX hbl hbA dL_law_20 ?_
    refine mj_bipushV (v := 6) C dL_law_21 (by decide) ?_
    refine mj_isub C dL_law_23 ?_
    refine mj_ic_gt (r1 := ()) (r2 := ()) (r := ()) C dL_law_24 rfl (ite_self _) (fun _ _ => endW i σ) (fun hc _ => ?_)
    have hi6 : i + 6 ≤ L := by
      have hq : ¬ L < i + 6 := fun q => hc ((lw_end hi hL).mpr q)
      omega
    have hgo : ∀ σ2, I σ2 → mj_W p l e room_1 s m #[.ref b] below meth c G 91 16552 4 (lw_Z below #[.ref b] s) 1428 [(0, .ref b), (1, .ref (G.2.1 0)), (2, .ref (G.2.1 64)), (3, .int (nI i))] [] σ2 := by
      intro σ2 hI2
      refine mj_iinc (v := nI (i + 6)) C dL_law_1428 rfl (by rw [← nI_add]; rfl) (by decide) ?_
      refine mj_goto C dL_law_1431 rfl ?_
      exact mj_to (ls' := [(0, .ref b), (1, .ref (G.2.1 0)), (2, .ref (G.2.1 64)), (3, .int (nI (i + 6)))]) ⟨rfl, rfl, rfl, rfl, trivial⟩ (ih (i + 6) σ2 (by omega) (by omega) hI2)
    obtain ⟨a1, ha1⟩ : ∃ y, xs (nI i + 1).toNatClampNeg = y := ⟨_, rfl⟩
    obtain ⟨a2, ha2⟩ : ∃ y, xs (nI i + 2).toNatClampNeg = y := ⟨_, rfl⟩
    obtain ⟨a3, ha3⟩ : ∃ y, xs (nI i + 3).toNatClampNeg = y := ⟨_, rfl⟩
    obtain ⟨a4, ha4⟩ : ∃ y, xs (nI i + 4).toNatClampNeg = y := ⟨_, rfl⟩
    obtain ⟨a5, ha5⟩ : ∃ y, xs (nI i + 5).toNatClampNeg = y := ⟨_, rfl⟩
    refine mj_aload_n C dL_law_27 rfl ?_
    refine mj_iload_n C dL_law_28 rfl ?_
    refine mj_sld C hX hbl hbA dL_law_29 (lw_ix (i := i) (k := 0) rfl (by omega) hL) ?_
    refine mj_bipushV (v := 63) C dL_law_30 (by decide) ?_
    refine mj_iand C dL_law_32 ?_
    generalize xs (nI i).toNatClampNeg &&& 63 = x
    by_cases hw0 : x = 0
    · rw [hw0]
      refine mj_tsIn (off := 163) C dL_law_33 (by decide) (by decide) (by rfl) rfl ?_
      obtain ⟨v, σ1, σ2, e9, e10, hI2⟩ := O_child σ a1 a2 a3 hI
      have c9 : mj_C G l yX9_child cX9_child 9 (some .int) 7 [.ref (G.2.1 0), .int a1, .int a2, .int a3] σ (some (.int v)) σ1 := c_X9_child σ a1 a2 a3 (v, σ1) e9
      have c10 : mj_C G l yX10_child cX10_child 4 (some .int) 3 [.ref (G.2.1 64), .int a1, .int a2, .int a3] σ1 (some (.int v)) σ2 := c_X10_child σ1 a1 a2 a3 (v, σ2) e10
      refine mj_aload_n C dL_law_196 rfl ?_
      refine mj_aload_n C dL_law_197 rfl ?_
      refine mj_iload_n C dL_law_198 rfl ?_
      refine mj_iconstV (v := 1) C dL_law_199 (by decide) ?_
      refine mj_iadd C dL_law_200 ?_
      refine mj_sld C hX hbl hbA dL_law_201 (lw_ix (i := i) (k := 1) (nI_add i 1) (by omega) hL) ?_
      rw [ha1]
      refine mj_aload_n C dL_law_202 rfl ?_
      refine mj_iload_n C dL_law_203 rfl ?_
      refine mj_iconstV (v := 2) C dL_law_204 (by decide) ?_
      refine mj_iadd C dL_law_205 ?_
      refine mj_sld C hX hbl hbA dL_law_206 (lw_ix (i := i) (k := 2) (nI_add i 2) (by omega) hL) ?_
      rw [ha2]
      refine mj_aload_n C dL_law_207 rfl ?_
      refine mj_iload_n C dL_law_208 rfl ?_
      refine mj_iconstV (v := 3) C dL_law_209 (by decide) ?_
      refine mj_iadd C dL_law_210 ?_
      refine mj_sld C hX hbl hbA dL_law_211 (lw_ix (i := i) (k := 3) (nI_add i 3) (by omega) hL) ?_
      rw [ha3]
      refine mj_callVi C c9 yv_X9_child kl_L_13 (mo_0 G _) rfl rfl rfl rfl (Nat.le_of_ble_eq_true rfl) (lw_room (by decide) (by decide)) ⟨Nat.le_of_ble_eq_true rfl, Nat.le_of_ble_eq_true rfl⟩ dL_law_212 ?_
      refine mj_aload_n C dL_law_215 rfl ?_
      refine mj_aload_n C dL_law_216 rfl ?_
      refine mj_iload_n C dL_law_217 rfl ?_
      refine mj_iconstV (v := 1) C dL_law_218 (by decide) ?_
      refine mj_iadd C dL_law_219 ?_
      refine mj_sld C hX hbl hbA dL_law_220 (lw_ix (i := i) (k := 1) (nI_add i 1) (by omega) hL) ?_
      rw [ha1]
      refine mj_aload_n C dL_law_221 rfl ?_
      refine mj_iload_n C dL_law_222 rfl ?_
      refine mj_iconstV (v := 2) C dL_law_223 (by decide) ?_
      refine mj_iadd C dL_law_224 ?_
      refine mj_sld C hX hbl hbA dL_law_225 (lw_ix (i := i) (k := 2) (nI_add i 2) (by omega) hL) ?_
      rw [ha2]
      refine mj_aload_n C dL_law_226 rfl ?_
      refine mj_iload_n C dL_law_227 rfl ?_
      refine mj_iconstV (v := 3) C dL_law_228 (by decide) ?_
      refine mj_iadd C dL_law_229 ?_
      refine mj_sld C hX hbl hbA dL_law_230 (lw_ix (i := i) (k := 3) (nI_add i 3) (by omega) hL) ?_
      rw [ha3]
      refine mj_callVi C c10 yv_X10_child kl_L_17 (mo_64 G _) rfl rfl rfl rfl (Nat.le_of_ble_eq_true rfl) (lw_room (by decide) (by decide)) ⟨Nat.le_of_ble_eq_true rfl, Nat.le_of_ble_eq_true rfl⟩ dL_law_231 ?_
      refine mj_ic_eq (r1 := ()) (r2 := ()) (r := ()) C dL_law_234 rfl (ite_self _) (fun _ _ => ?_) (fun hc _ => absurd rfl hc)
      exact hgo σ2 hI2
    by_cases hw1 : x = 1
    · rw [hw1]
      refine mj_tsIn (off := 206) C dL_law_33 (by decide) (by decide) (by rfl) rfl ?_
      obtain ⟨v, σ1, σ2, e9, e10, hI2⟩ := O_want σ a1 a2 hI
      have c9 : mj_C G l yX9_want cX9_want 4 (some .int) 7 [.ref (G.2.1 0), .int a1, .int a2] σ (some (.int v)) σ1 := c_X9_want σ a1 a2 (v, σ1) e9
      have c10 : mj_C G l yX10_want cX10_want 3 (some .int) 4 [.ref (G.2.1 64), .int a1, .int a2] σ1 (some (.int v)) σ2 := c_X10_want σ1 a1 a2 (v, σ2) e10
      refine mj_aload_n C dL_law_239 rfl ?_
      refine mj_aload_n C dL_law_240 rfl ?_
      refine mj_iload_n C dL_law_241 rfl ?_
      refine mj_iconstV (v := 1) C dL_law_242 (by decide) ?_
      refine mj_iadd C dL_law_243 ?_
      refine mj_sld C hX hbl hbA dL_law_244 (lw_ix (i := i) (k := 1) (nI_add i 1) (by omega) hL) ?_
      rw [ha1]
      refine mj_aload_n C dL_law_245 rfl ?_
      refine mj_iload_n C dL_law_246 rfl ?_
      refine mj_iconstV (v := 2) C dL_law_247 (by decide) ?_
      refine mj_iadd C dL_law_248 ?_
      refine mj_sld C hX hbl hbA dL_law_249 (lw_ix (i := i) (k := 2) (nI_add i 2) (by omega) hL) ?_
      rw [ha2]
      refine mj_callVi C c9 yv_X9_want kl_L_18 (mo_0 G _) rfl rfl rfl rfl (Nat.le_of_ble_eq_true rfl) (lw_room (by decide) (by decide)) ⟨Nat.le_of_ble_eq_true rfl, Nat.le_of_ble_eq_true rfl⟩ dL_law_250 ?_
      refine mj_aload_n C dL_law_253 rfl ?_
      refine mj_aload_n C dL_law_254 rfl ?_
      refine mj_iload_n C dL_law_255 rfl ?_
      refine mj_iconstV (v := 1) C dL_law_256 (by decide) ?_
      refine mj_iadd C dL_law_257 ?_
      refine mj_sld C hX hbl hbA dL_law_258 (lw_ix (i := i) (k := 1) (nI_add i 1) (by omega) hL) ?_
      rw [ha1]
      refine mj_aload_n C dL_law_259 rfl ?_
      refine mj_iload_n C dL_law_260 rfl ?_
      refine mj_iconstV (v := 2) C dL_law_261 (by decide) ?_
      refine mj_iadd C dL_law_262 ?_
      refine mj_sld C hX hbl hbA dL_law_263 (lw_ix (i := i) (k := 2) (nI_add i 2) (by omega) hL) ?_
      rw [ha2]
      refine mj_callVi C c10 yv_X10_want kl_L_22 (mo_64 G _) rfl rfl rfl rfl (Nat.le_of_ble_eq_true rfl) (lw_room (by decide) (by decide)) ⟨Nat.le_of_ble_eq_true rfl, Nat.le_of_ble_eq_true rfl⟩ dL_law_264 ?_
      refine mj_ic_eq (r1 := ()) (r2 := ()) (r := ()) C dL_law_267 rfl (ite_self _) (fun _ _ => ?_) (fun hc _ => absurd rfl hc)
      exact hgo σ2 hI2
    by_cases hw2 : x = 2
    · rw [hw2]
      refine mj_tsIn (off := 239) C dL_law_33 (by decide) (by decide) (by rfl) rfl ?_
      obtain ⟨v, σ1, σ2, e9, e10, hI2⟩ := O_feed σ a1 hI
      have c9 : mj_C G l yX9_feed cX9_feed 2 (some .int) 2 [.ref (G.2.1 0), .int a1] σ (some (.int v)) σ1 := c_X9_feed σ a1 (v, σ1) e9
      have c10 : mj_C G l yX10_feed cX10_feed 2 (some .int) 2 [.ref (G.2.1 64), .int a1] σ1 (some (.int v)) σ2 := c_X10_feed σ1 a1 (v, σ2) e10
      refine mj_aload_n C dL_law_272 rfl ?_
      refine mj_aload_n C dL_law_273 rfl ?_
      refine mj_iload_n C dL_law_274 rfl ?_
      refine mj_iconstV (v := 1) C dL_law_275 (by decide) ?_
      refine mj_iadd C dL_law_276 ?_
      refine mj_sld C hX hbl hbA dL_law_277 (lw_ix (i := i) (k := 1) (nI_add i 1) (by omega) hL) ?_
      rw [ha1]
      refine mj_callVi C c9 yv_X9_feed kl_L_23 (mo_0 G _) rfl rfl rfl rfl (Nat.le_of_ble_eq_true rfl) (lw_room (by decide) (by decide)) ⟨Nat.le_of_ble_eq_true rfl, Nat.le_of_ble_eq_true rfl⟩ dL_law_278 ?_
      refine mj_aload_n C dL_law_281 rfl ?_
      refine mj_aload_n C dL_law_282 rfl ?_
      refine mj_iload_n C dL_law_283 rfl ?_
      refine mj_iconstV (v := 1) C dL_law_284 (by decide) ?_
      refine mj_iadd C dL_law_285 ?_
      refine mj_sld C hX hbl hbA dL_law_286 (lw_ix (i := i) (k := 1) (nI_add i 1) (by omega) hL) ?_
      rw [ha1]
      refine mj_callVi C c10 yv_X10_feed kl_L_27 (mo_64 G _) rfl rfl rfl rfl (Nat.le_of_ble_eq_true rfl) (lw_room (by decide) (by decide)) ⟨Nat.le_of_ble_eq_true rfl, Nat.le_of_ble_eq_true rfl⟩ dL_law_287 ?_
      refine mj_ic_eq (r1 := ()) (r2 := ()) (r := ()) C dL_law_290 rfl (ite_self _) (fun _ _ => ?_) (fun hc _ => absurd rfl hc)
      exact hgo σ2 hI2
    by_cases hw3 : x = 3
    · rw [hw3]
      refine mj_tsIn (off := 262) C dL_law_33 (by decide) (by decide) (by rfl) rfl ?_
      obtain ⟨v, σ1, σ2, e9, e10, hI2⟩ := O_law σ  hI
      have c9 : mj_C G l yX9_law cX9_law 2 (some .int) 108 [.ref (G.2.1 0)] σ (some (.int v)) σ1 := c_X9_law σ (v, σ1) e9
      have c10 : mj_C G l yX10_law cX10_law 4 (some .int) 105 [.ref (G.2.1 64)] σ1 (some (.int v)) σ2 := c_X10_law σ1 (v, σ2) e10
      refine mj_aload_n C dL_law_295 rfl ?_
      refine mj_callVi C c9 yv_X9_law kl_L_28 (mo_0 G _) rfl rfl rfl rfl (Nat.le_of_ble_eq_true rfl) (lw_room (by decide) (by decide)) ⟨Nat.le_of_ble_eq_true rfl, Nat.le_of_ble_eq_true rfl⟩ dL_law_296 ?_
      refine mj_aload_n C dL_law_299 rfl ?_
      refine mj_callVi C c10 yv_X10_law kl_L_32 (mo_64 G _) rfl rfl rfl rfl (Nat.le_of_ble_eq_true rfl) (lw_room (by decide) (by decide)) ⟨Nat.le_of_ble_eq_true rfl, Nat.le_of_ble_eq_true rfl⟩ dL_law_300 ?_
      refine mj_ic_eq (r1 := ()) (r2 := ()) (r := ()) C dL_law_303 rfl (ite_self _) (fun _ _ => ?_) (fun hc _ => absurd rfl hc)
      exact hgo σ2 hI2
    by_cases hw4 : x = 4
    · rw [hw4]
      refine mj_tsIn (off := 275) C dL_law_33 (by decide) (by decide) (by rfl) rfl ?_
      obtain ⟨v, σ1, σ2, e9, e10, hI2⟩ := O_height σ a1 a2 hI
      have c9 : mj_C G l yX9_height cX9_height 3 (some .int) 3 [.ref (G.2.1 0), .int a1, .int a2] σ (some (.int v)) σ1 := by
        obtain ⟨q1, q2⟩ := e9
        rw [q2]
        exact c_X9_height σ a1 a2 v q1
      have c10 : mj_C G l yX10_height cX10_height 3 (some .int) 109 [.ref (G.2.1 64), .int a1, .int a2] σ1 (some (.int v)) σ2 := c_X10_height σ1 a1 a2 (v, σ2) e10
      refine mj_aload_n C dL_law_308 rfl ?_
      refine mj_aload_n C dL_law_309 rfl ?_
      refine mj_iload_n C dL_law_310 rfl ?_
      refine mj_iconstV (v := 1) C dL_law_311 (by decide) ?_
      refine mj_iadd C dL_law_312 ?_
      refine mj_sld C hX hbl hbA dL_law_313 (lw_ix (i := i) (k := 1) (nI_add i 1) (by omega) hL) ?_
      rw [ha1]
      refine mj_aload_n C dL_law_314 rfl ?_
      refine mj_iload_n C dL_law_315 rfl ?_
      refine mj_iconstV (v := 2) C dL_law_316 (by decide) ?_
      refine mj_iadd C dL_law_317 ?_
      refine mj_sld C hX hbl hbA dL_law_318 (lw_ix (i := i) (k := 2) (nI_add i 2) (by omega) hL) ?_
      rw [ha2]
      refine mj_callVi C c9 yv_X9_height kl_L_33 (mo_0 G _) rfl rfl rfl rfl (Nat.le_of_ble_eq_true rfl) (lw_room (by decide) (by decide)) ⟨Nat.le_of_ble_eq_true rfl, Nat.le_of_ble_eq_true rfl⟩ dL_law_319 ?_
      refine mj_aload_n C dL_law_322 rfl ?_
      refine mj_aload_n C dL_law_323 rfl ?_
      refine mj_iload_n C dL_law_324 rfl ?_
      refine mj_iconstV (v := 1) C dL_law_325 (by decide) ?_
      refine mj_iadd C dL_law_326 ?_
      refine mj_sld C hX hbl hbA dL_law_327 (lw_ix (i := i) (k := 1) (nI_add i 1) (by omega) hL) ?_
      rw [ha1]
      refine mj_aload_n C dL_law_328 rfl ?_
      refine mj_iload_n C dL_law_329 rfl ?_
      refine mj_iconstV (v := 2) C dL_law_330 (by decide) ?_
      refine mj_iadd C dL_law_331 ?_
      refine mj_sld C hX hbl hbA dL_law_332 (lw_ix (i := i) (k := 2) (nI_add i 2) (by omega) hL) ?_
      rw [ha2]
      refine mj_callVi C c10 yv_X10_height kl_L_36 (mo_64 G _) rfl rfl rfl rfl (Nat.le_of_ble_eq_true rfl) (lw_room (by decide) (by decide)) ⟨Nat.le_of_ble_eq_true rfl, Nat.le_of_ble_eq_true rfl⟩ dL_law_333 ?_
      refine mj_ic_eq (r1 := ()) (r2 := ()) (r := ()) C dL_law_336 rfl (ite_self _) (fun _ _ => ?_) (fun hc _ => absurd rfl hc)
      exact hgo σ2 hI2
    by_cases hw5 : x = 5
    · rw [hw5]
      refine mj_tsIn (off := 308) C dL_law_33 (by decide) (by decide) (by rfl) rfl ?_
      obtain ⟨v, σ1, σ2, e9, e10, hI2⟩ := O_wants σ a1 hI
      have c9 : mj_C G l yX9_wants cX9_wants 2 (some .int) 4 [.ref (G.2.1 0), .int a1] σ (some (.int v)) σ1 := by
        obtain ⟨q1, q2⟩ := e9
        rw [q2]
        exact c_X9_wants σ a1 v q1
      have c10 : mj_C G l yX10_wants cX10_wants 2 (some .int) 3 [.ref (G.2.1 64), .int a1] σ1 (some (.int v)) σ2 := by
        obtain ⟨q1, q2⟩ := e10
        rw [q2]
        exact c_X10_wants σ1 a1 v q1
      refine mj_aload_n C dL_law_341 rfl ?_
      refine mj_aload_n C dL_law_342 rfl ?_
      refine mj_iload_n C dL_law_343 rfl ?_
      refine mj_iconstV (v := 1) C dL_law_344 (by decide) ?_
      refine mj_iadd C dL_law_345 ?_
      refine mj_sld C hX hbl hbA dL_law_346 (lw_ix (i := i) (k := 1) (nI_add i 1) (by omega) hL) ?_
      rw [ha1]
      refine mj_callVi C c9 yv_X9_wants kl_L_37 (mo_0 G _) rfl rfl rfl rfl (Nat.le_of_ble_eq_true rfl) (lw_room (by decide) (by decide)) ⟨Nat.le_of_ble_eq_true rfl, Nat.le_of_ble_eq_true rfl⟩ dL_law_347 ?_
      refine mj_aload_n C dL_law_350 rfl ?_
      refine mj_aload_n C dL_law_351 rfl ?_
      refine mj_iload_n C dL_law_352 rfl ?_
      refine mj_iconstV (v := 1) C dL_law_353 (by decide) ?_
      refine mj_iadd C dL_law_354 ?_
      refine mj_sld C hX hbl hbA dL_law_355 (lw_ix (i := i) (k := 1) (nI_add i 1) (by omega) hL) ?_
      rw [ha1]
      refine mj_callVi C c10 yv_X10_wants kl_L_40 (mo_64 G _) rfl rfl rfl rfl (Nat.le_of_ble_eq_true rfl) (lw_room (by decide) (by decide)) ⟨Nat.le_of_ble_eq_true rfl, Nat.le_of_ble_eq_true rfl⟩ dL_law_356 ?_
      refine mj_ic_eq (r1 := ()) (r2 := ()) (r := ()) C dL_law_359 rfl (ite_self _) (fun _ _ => ?_) (fun hc _ => absurd rfl hc)
      exact hgo σ2 hI2
    by_cases hw6 : x = 6
    · rw [hw6]
      refine mj_tsIn (off := 331) C dL_law_33 (by decide) (by decide) (by rfl) rfl ?_
      obtain ⟨v, σ1, σ2, e9, e10, hI2⟩ := O_mark σ a1 a2 a3 hI
      have c9 : mj_C G l yX9_mark cX9_mark 4 (some .int) 3 [.ref (G.2.1 0), .int a1, .int a2, .int a3] σ (some (.int v)) σ1 := c_X9_mark σ a1 a2 a3 (v, σ1) e9
      have c10 : mj_C G l yX10_mark cX10_mark 4 (some .int) 3 [.ref (G.2.1 64), .int a1, .int a2, .int a3] σ1 (some (.int v)) σ2 := c_X10_mark σ1 a1 a2 a3 (v, σ2) e10
      refine mj_aload_n C dL_law_364 rfl ?_
      refine mj_aload_n C dL_law_365 rfl ?_
      refine mj_iload_n C dL_law_366 rfl ?_
      refine mj_iconstV (v := 1) C dL_law_367 (by decide) ?_
      refine mj_iadd C dL_law_368 ?_
      refine mj_sld C hX hbl hbA dL_law_369 (lw_ix (i := i) (k := 1) (nI_add i 1) (by omega) hL) ?_
      rw [ha1]
      refine mj_aload_n C dL_law_370 rfl ?_
      refine mj_iload_n C dL_law_371 rfl ?_
      refine mj_iconstV (v := 2) C dL_law_372 (by decide) ?_
      refine mj_iadd C dL_law_373 ?_
      refine mj_sld C hX hbl hbA dL_law_374 (lw_ix (i := i) (k := 2) (nI_add i 2) (by omega) hL) ?_
      rw [ha2]
      refine mj_aload_n C dL_law_375 rfl ?_
      refine mj_iload_n C dL_law_376 rfl ?_
      refine mj_iconstV (v := 3) C dL_law_377 (by decide) ?_
      refine mj_iadd C dL_law_378 ?_
      refine mj_sld C hX hbl hbA dL_law_379 (lw_ix (i := i) (k := 3) (nI_add i 3) (by omega) hL) ?_
      rw [ha3]
      refine mj_callVi C c9 yv_X9_mark kl_L_41 (mo_0 G _) rfl rfl rfl rfl (Nat.le_of_ble_eq_true rfl) (lw_room (by decide) (by decide)) ⟨Nat.le_of_ble_eq_true rfl, Nat.le_of_ble_eq_true rfl⟩ dL_law_380 ?_
      refine mj_aload_n C dL_law_383 rfl ?_
      refine mj_aload_n C dL_law_384 rfl ?_
      refine mj_iload_n C dL_law_385 rfl ?_
      refine mj_iconstV (v := 1) C dL_law_386 (by decide) ?_
      refine mj_iadd C dL_law_387 ?_
      refine mj_sld C hX hbl hbA dL_law_388 (lw_ix (i := i) (k := 1) (nI_add i 1) (by omega) hL) ?_
      rw [ha1]
      refine mj_aload_n C dL_law_389 rfl ?_
      refine mj_iload_n C dL_law_390 rfl ?_
      refine mj_iconstV (v := 2) C dL_law_391 (by decide) ?_
      refine mj_iadd C dL_law_392 ?_
      refine mj_sld C hX hbl hbA dL_law_393 (lw_ix (i := i) (k := 2) (nI_add i 2) (by omega) hL) ?_
      rw [ha2]
      refine mj_aload_n C dL_law_394 rfl ?_
      refine mj_iload_n C dL_law_395 rfl ?_
      refine mj_iconstV (v := 3) C dL_law_396 (by decide) ?_
      refine mj_iadd C dL_law_397 ?_
      refine mj_sld C hX hbl hbA dL_law_398 (lw_ix (i := i) (k := 3) (nI_add i 3) (by omega) hL) ?_
      rw [ha3]
      refine mj_callVi C c10 yv_X10_mark kl_L_44 (mo_64 G _) rfl rfl rfl rfl (Nat.le_of_ble_eq_true rfl) (lw_room (by decide) (by decide)) ⟨Nat.le_of_ble_eq_true rfl, Nat.le_of_ble_eq_true rfl⟩ dL_law_399 ?_
      refine mj_ic_eq (r1 := ()) (r2 := ()) (r := ()) C dL_law_402 rfl (ite_self _) (fun _ _ => ?_) (fun hc _ => absurd rfl hc)
      exact hgo σ2 hI2
    by_cases hw7 : x = 7
    · rw [hw7]
      refine mj_tsIn (off := 374) C dL_law_33 (by decide) (by decide) (by rfl) rfl ?_
      obtain ⟨v, σ1, σ2, e9, e10, hI2⟩ := O_marks σ a1 a2 a3 hI
      have c9 : mj_C G l yX9_marks cX9_marks 6 (some .int) 5 [.ref (G.2.1 0), .int a1, .int a2, .int a3] σ (some (.int v)) σ1 := c_X9_marks σ a1 a2 a3 (v, σ1) e9
      have c10 : mj_C G l yX10_marks cX10_marks 7 (some .int) 3 [.ref (G.2.1 64), .int a1, .int a2, .int a3] σ1 (some (.int v)) σ2 := c_X10_marks σ1 a1 a2 a3 (v, σ2) e10
      refine mj_aload_n C dL_law_407 rfl ?_
      refine mj_aload_n C dL_law_408 rfl ?_
      refine mj_iload_n C dL_law_409 rfl ?_
      refine mj_iconstV (v := 1) C dL_law_410 (by decide) ?_
      refine mj_iadd C dL_law_411 ?_
      refine mj_sld C hX hbl hbA dL_law_412 (lw_ix (i := i) (k := 1) (nI_add i 1) (by omega) hL) ?_
      rw [ha1]
      refine mj_aload_n C dL_law_413 rfl ?_
      refine mj_iload_n C dL_law_414 rfl ?_
      refine mj_iconstV (v := 2) C dL_law_415 (by decide) ?_
      refine mj_iadd C dL_law_416 ?_
      refine mj_sld C hX hbl hbA dL_law_417 (lw_ix (i := i) (k := 2) (nI_add i 2) (by omega) hL) ?_
      rw [ha2]
      refine mj_aload_n C dL_law_418 rfl ?_
      refine mj_iload_n C dL_law_419 rfl ?_
      refine mj_iconstV (v := 3) C dL_law_420 (by decide) ?_
      refine mj_iadd C dL_law_421 ?_
      refine mj_sld C hX hbl hbA dL_law_422 (lw_ix (i := i) (k := 3) (nI_add i 3) (by omega) hL) ?_
      rw [ha3]
      refine mj_callVi C c9 yv_X9_marks kl_L_45 (mo_0 G _) rfl rfl rfl rfl (Nat.le_of_ble_eq_true rfl) (lw_room (by decide) (by decide)) ⟨Nat.le_of_ble_eq_true rfl, Nat.le_of_ble_eq_true rfl⟩ dL_law_423 ?_
      refine mj_aload_n C dL_law_426 rfl ?_
      refine mj_aload_n C dL_law_427 rfl ?_
      refine mj_iload_n C dL_law_428 rfl ?_
      refine mj_iconstV (v := 1) C dL_law_429 (by decide) ?_
      refine mj_iadd C dL_law_430 ?_
      refine mj_sld C hX hbl hbA dL_law_431 (lw_ix (i := i) (k := 1) (nI_add i 1) (by omega) hL) ?_
      rw [ha1]
      refine mj_aload_n C dL_law_432 rfl ?_
      refine mj_iload_n C dL_law_433 rfl ?_
      refine mj_iconstV (v := 2) C dL_law_434 (by decide) ?_
      refine mj_iadd C dL_law_435 ?_
      refine mj_sld C hX hbl hbA dL_law_436 (lw_ix (i := i) (k := 2) (nI_add i 2) (by omega) hL) ?_
      rw [ha2]
      refine mj_aload_n C dL_law_437 rfl ?_
      refine mj_iload_n C dL_law_438 rfl ?_
      refine mj_iconstV (v := 3) C dL_law_439 (by decide) ?_
      refine mj_iadd C dL_law_440 ?_
      refine mj_sld C hX hbl hbA dL_law_441 (lw_ix (i := i) (k := 3) (nI_add i 3) (by omega) hL) ?_
      rw [ha3]
      refine mj_callVi C c10 yv_X10_marks kl_L_48 (mo_64 G _) rfl rfl rfl rfl (Nat.le_of_ble_eq_true rfl) (lw_room (by decide) (by decide)) ⟨Nat.le_of_ble_eq_true rfl, Nat.le_of_ble_eq_true rfl⟩ dL_law_442 ?_
      refine mj_ic_eq (r1 := ()) (r2 := ()) (r := ()) C dL_law_445 rfl (ite_self _) (fun _ _ => ?_) (fun hc _ => absurd rfl hc)
      exact hgo σ2 hI2
    by_cases hw8 : x = 8
    · rw [hw8]
      refine mj_tsIn (off := 417) C dL_law_33 (by decide) (by decide) (by rfl) rfl ?_
      obtain ⟨v, σ1, σ2, e9, e10, hI2⟩ := O_paint σ a1 hI
      have c9 : mj_C G l yX9_paint cX9_paint 2 (some .int) 5 [.ref (G.2.1 0), .int a1] σ (some (.int v)) σ1 := c_X9_paint σ a1 (v, σ1) e9
      have c10 : mj_C G l yX10_paint cX10_paint 4 (some .int) 3 [.ref (G.2.1 64), .int a1] σ1 (some (.int v)) σ2 := c_X10_paint σ1 a1 (v, σ2) e10
      refine mj_aload_n C dL_law_450 rfl ?_
      refine mj_aload_n C dL_law_451 rfl ?_
      refine mj_iload_n C dL_law_452 rfl ?_
      refine mj_iconstV (v := 1) C dL_law_453 (by decide) ?_
      refine mj_iadd C dL_law_454 ?_
      refine mj_sld C hX hbl hbA dL_law_455 (lw_ix (i := i) (k := 1) (nI_add i 1) (by omega) hL) ?_
      rw [ha1]
      refine mj_callVi C c9 yv_X9_paint kl_L_49 (mo_0 G _) rfl rfl rfl rfl (Nat.le_of_ble_eq_true rfl) (lw_room (by decide) (by decide)) ⟨Nat.le_of_ble_eq_true rfl, Nat.le_of_ble_eq_true rfl⟩ dL_law_456 ?_
      refine mj_aload_n C dL_law_459 rfl ?_
      refine mj_aload_n C dL_law_460 rfl ?_
      refine mj_iload_n C dL_law_461 rfl ?_
      refine mj_iconstV (v := 1) C dL_law_462 (by decide) ?_
      refine mj_iadd C dL_law_463 ?_
      refine mj_sld C hX hbl hbA dL_law_464 (lw_ix (i := i) (k := 1) (nI_add i 1) (by omega) hL) ?_
      rw [ha1]
      refine mj_callVi C c10 yv_X10_paint kl_L_52 (mo_64 G _) rfl rfl rfl rfl (Nat.le_of_ble_eq_true rfl) (lw_room (by decide) (by decide)) ⟨Nat.le_of_ble_eq_true rfl, Nat.le_of_ble_eq_true rfl⟩ dL_law_465 ?_
      refine mj_ic_eq (r1 := ()) (r2 := ()) (r := ()) C dL_law_468 rfl (ite_self _) (fun _ _ => ?_) (fun hc _ => absurd rfl hc)
      exact hgo σ2 hI2
    by_cases hw9 : x = 9
    · rw [hw9]
      refine mj_tsIn (off := 440) C dL_law_33 (by decide) (by decide) (by rfl) rfl ?_
      obtain ⟨v, σ1, σ2, e9, e10, hI2⟩ := O_of σ a1 a2 hI
      have c9 : mj_C G l yX9_of cX9_of 3 (some .int) 5 [.ref (G.2.1 0), .int a1, .int a2] σ (some (.int v)) σ1 := by
        obtain ⟨q1, q2⟩ := e9
        rw [q2]
        exact c_X9_of σ a1 a2 v q1
      have c10 : mj_C G l yX10_of cX10_of 3 (some .int) 3 [.ref (G.2.1 64), .int a1, .int a2] σ1 (some (.int v)) σ2 := by
        obtain ⟨q1, q2⟩ := e10
        rw [q2]
        exact c_X10_of σ1 a1 a2 v q1
      refine mj_aload_n C dL_law_473 rfl ?_
      refine mj_aload_n C dL_law_474 rfl ?_
      refine mj_iload_n C dL_law_475 rfl ?_
      refine mj_iconstV (v := 1) C dL_law_476 (by decide) ?_
      refine mj_iadd C dL_law_477 ?_
      refine mj_sld C hX hbl hbA dL_law_478 (lw_ix (i := i) (k := 1) (nI_add i 1) (by omega) hL) ?_
      rw [ha1]
      refine mj_aload_n C dL_law_479 rfl ?_
      refine mj_iload_n C dL_law_480 rfl ?_
      refine mj_iconstV (v := 2) C dL_law_481 (by decide) ?_
      refine mj_iadd C dL_law_482 ?_
      refine mj_sld C hX hbl hbA dL_law_483 (lw_ix (i := i) (k := 2) (nI_add i 2) (by omega) hL) ?_
      rw [ha2]
      refine mj_callVi C c9 yv_X9_of kl_L_53 (mo_0 G _) rfl rfl rfl rfl (Nat.le_of_ble_eq_true rfl) (lw_room (by decide) (by decide)) ⟨Nat.le_of_ble_eq_true rfl, Nat.le_of_ble_eq_true rfl⟩ dL_law_484 ?_
      refine mj_aload_n C dL_law_487 rfl ?_
      refine mj_aload_n C dL_law_488 rfl ?_
      refine mj_iload_n C dL_law_489 rfl ?_
      refine mj_iconstV (v := 1) C dL_law_490 (by decide) ?_
      refine mj_iadd C dL_law_491 ?_
      refine mj_sld C hX hbl hbA dL_law_492 (lw_ix (i := i) (k := 1) (nI_add i 1) (by omega) hL) ?_
      rw [ha1]
      refine mj_aload_n C dL_law_493 rfl ?_
      refine mj_iload_n C dL_law_494 rfl ?_
      refine mj_iconstV (v := 2) C dL_law_495 (by decide) ?_
      refine mj_iadd C dL_law_496 ?_
      refine mj_sld C hX hbl hbA dL_law_497 (lw_ix (i := i) (k := 2) (nI_add i 2) (by omega) hL) ?_
      rw [ha2]
      refine mj_callVi C c10 yv_X10_of kl_L_56 (mo_64 G _) rfl rfl rfl rfl (Nat.le_of_ble_eq_true rfl) (lw_room (by decide) (by decide)) ⟨Nat.le_of_ble_eq_true rfl, Nat.le_of_ble_eq_true rfl⟩ dL_law_498 ?_
      refine mj_ic_eq (r1 := ()) (r2 := ()) (r := ()) C dL_law_501 rfl (ite_self _) (fun _ _ => ?_) (fun hc _ => absurd rfl hc)
      exact hgo σ2 hI2
    by_cases hw10 : x = 10
    · rw [hw10]
      refine mj_tsIn (off := 473) C dL_law_33 (by decide) (by decide) (by rfl) rfl ?_
      obtain ⟨v, σ1, σ2, e9, e10, hI2⟩ := O_mend σ a1 a2 a3 hI
      have c9 : mj_C G l yX9_mend cX9_mend 5 (some .int) 7 [.ref (G.2.1 0), .int a1, .int a2, .int a3] σ (some (.int v)) σ1 := c_X9_mend σ a1 a2 a3 (v, σ1) e9
      have c10 : mj_C G l yX10_mend cX10_mend 4 (some .int) 3 [.ref (G.2.1 64), .int a1, .int a2, .int a3] σ1 (some (.int v)) σ2 := c_X10_mend σ1 a1 a2 a3 (v, σ2) e10
      refine mj_aload_n C dL_law_506 rfl ?_
      refine mj_aload_n C dL_law_507 rfl ?_
      refine mj_iload_n C dL_law_508 rfl ?_
      refine mj_iconstV (v := 1) C dL_law_509 (by decide) ?_
      refine mj_iadd C dL_law_510 ?_
      refine mj_sld C hX hbl hbA dL_law_511 (lw_ix (i := i) (k := 1) (nI_add i 1) (by omega) hL) ?_
      rw [ha1]
      refine mj_aload_n C dL_law_512 rfl ?_
      refine mj_iload_n C dL_law_513 rfl ?_
      refine mj_iconstV (v := 2) C dL_law_514 (by decide) ?_
      refine mj_iadd C dL_law_515 ?_
      refine mj_sld C hX hbl hbA dL_law_516 (lw_ix (i := i) (k := 2) (nI_add i 2) (by omega) hL) ?_
      rw [ha2]
      refine mj_aload_n C dL_law_517 rfl ?_
      refine mj_iload_n C dL_law_518 rfl ?_
      refine mj_iconstV (v := 3) C dL_law_519 (by decide) ?_
      refine mj_iadd C dL_law_520 ?_
      refine mj_sld C hX hbl hbA dL_law_521 (lw_ix (i := i) (k := 3) (nI_add i 3) (by omega) hL) ?_
      rw [ha3]
      refine mj_callVi C c9 yv_X9_mend kl_L_57 (mo_0 G _) rfl rfl rfl rfl (Nat.le_of_ble_eq_true rfl) (lw_room (by decide) (by decide)) ⟨Nat.le_of_ble_eq_true rfl, Nat.le_of_ble_eq_true rfl⟩ dL_law_522 ?_
      refine mj_aload_n C dL_law_525 rfl ?_
      refine mj_aload_n C dL_law_526 rfl ?_
      refine mj_iload_n C dL_law_527 rfl ?_
      refine mj_iconstV (v := 1) C dL_law_528 (by decide) ?_
      refine mj_iadd C dL_law_529 ?_
      refine mj_sld C hX hbl hbA dL_law_530 (lw_ix (i := i) (k := 1) (nI_add i 1) (by omega) hL) ?_
      rw [ha1]
      refine mj_aload_n C dL_law_531 rfl ?_
      refine mj_iload_n C dL_law_532 rfl ?_
      refine mj_iconstV (v := 2) C dL_law_533 (by decide) ?_
      refine mj_iadd C dL_law_534 ?_
      refine mj_sld C hX hbl hbA dL_law_535 (lw_ix (i := i) (k := 2) (nI_add i 2) (by omega) hL) ?_
      rw [ha2]
      refine mj_aload_n C dL_law_536 rfl ?_
      refine mj_iload_n C dL_law_537 rfl ?_
      refine mj_iconstV (v := 3) C dL_law_538 (by decide) ?_
      refine mj_iadd C dL_law_539 ?_
      refine mj_sld C hX hbl hbA dL_law_540 (lw_ix (i := i) (k := 3) (nI_add i 3) (by omega) hL) ?_
      rw [ha3]
      refine mj_callVi C c10 yv_X10_mend kl_L_60 (mo_64 G _) rfl rfl rfl rfl (Nat.le_of_ble_eq_true rfl) (lw_room (by decide) (by decide)) ⟨Nat.le_of_ble_eq_true rfl, Nat.le_of_ble_eq_true rfl⟩ dL_law_541 ?_
      refine mj_ic_eq (r1 := ()) (r2 := ()) (r := ()) C dL_law_544 rfl (ite_self _) (fun _ _ => ?_) (fun hc _ => absurd rfl hc)
      exact hgo σ2 hI2
    by_cases hw11 : x = 11
    · rw [hw11]
      refine mj_tsIn (off := 516) C dL_law_33 (by decide) (by decide) (by rfl) rfl ?_
      obtain ⟨v, σ1, σ2, e9, e10, hI2⟩ := O_off σ a1 a2 a3 hI
      have c9 : mj_C G l yX9_off cX9_off 4 (some .int) 4 [.ref (G.2.1 0), .int a1, .int a2, .int a3] σ (some (.int v)) σ1 := by
        obtain ⟨q1, q2⟩ := e9
        rw [q2]
        exact c_X9_off σ a1 a2 a3 v q1
      have c10 : mj_C G l yX10_off cX10_off 4 (some .int) 110 [.ref (G.2.1 64), .int a1, .int a2, .int a3] σ1 (some (.int v)) σ2 := c_X10_off σ1 a1 a2 a3 (v, σ2) e10
      refine mj_aload_n C dL_law_549 rfl ?_
      refine mj_aload_n C dL_law_550 rfl ?_
      refine mj_iload_n C dL_law_551 rfl ?_
      refine mj_iconstV (v := 1) C dL_law_552 (by decide) ?_
      refine mj_iadd C dL_law_553 ?_
      refine mj_sld C hX hbl hbA dL_law_554 (lw_ix (i := i) (k := 1) (nI_add i 1) (by omega) hL) ?_
      rw [ha1]
      refine mj_aload_n C dL_law_555 rfl ?_
      refine mj_iload_n C dL_law_556 rfl ?_
      refine mj_iconstV (v := 2) C dL_law_557 (by decide) ?_
      refine mj_iadd C dL_law_558 ?_
      refine mj_sld C hX hbl hbA dL_law_559 (lw_ix (i := i) (k := 2) (nI_add i 2) (by omega) hL) ?_
      rw [ha2]
      refine mj_aload_n C dL_law_560 rfl ?_
      refine mj_iload_n C dL_law_561 rfl ?_
      refine mj_iconstV (v := 3) C dL_law_562 (by decide) ?_
      refine mj_iadd C dL_law_563 ?_
      refine mj_sld C hX hbl hbA dL_law_564 (lw_ix (i := i) (k := 3) (nI_add i 3) (by omega) hL) ?_
      rw [ha3]
      refine mj_callVi C c9 yv_X9_off kl_L_61 (mo_0 G _) rfl rfl rfl rfl (Nat.le_of_ble_eq_true rfl) (lw_room (by decide) (by decide)) ⟨Nat.le_of_ble_eq_true rfl, Nat.le_of_ble_eq_true rfl⟩ dL_law_565 ?_
      refine mj_aload_n C dL_law_568 rfl ?_
      refine mj_aload_n C dL_law_569 rfl ?_
      refine mj_iload_n C dL_law_570 rfl ?_
      refine mj_iconstV (v := 1) C dL_law_571 (by decide) ?_
      refine mj_iadd C dL_law_572 ?_
      refine mj_sld C hX hbl hbA dL_law_573 (lw_ix (i := i) (k := 1) (nI_add i 1) (by omega) hL) ?_
      rw [ha1]
      refine mj_aload_n C dL_law_574 rfl ?_
      refine mj_iload_n C dL_law_575 rfl ?_
      refine mj_iconstV (v := 2) C dL_law_576 (by decide) ?_
      refine mj_iadd C dL_law_577 ?_
      refine mj_sld C hX hbl hbA dL_law_578 (lw_ix (i := i) (k := 2) (nI_add i 2) (by omega) hL) ?_
      rw [ha2]
      refine mj_aload_n C dL_law_579 rfl ?_
      refine mj_iload_n C dL_law_580 rfl ?_
      refine mj_iconstV (v := 3) C dL_law_581 (by decide) ?_
      refine mj_iadd C dL_law_582 ?_
      refine mj_sld C hX hbl hbA dL_law_583 (lw_ix (i := i) (k := 3) (nI_add i 3) (by omega) hL) ?_
      rw [ha3]
      refine mj_callVi C c10 yv_X10_off kl_L_64 (mo_64 G _) rfl rfl rfl rfl (Nat.le_of_ble_eq_true rfl) (lw_room (by decide) (by decide)) ⟨Nat.le_of_ble_eq_true rfl, Nat.le_of_ble_eq_true rfl⟩ dL_law_584 ?_
      refine mj_ic_eq (r1 := ()) (r2 := ()) (r := ()) C dL_law_587 rfl (ite_self _) (fun _ _ => ?_) (fun hc _ => absurd rfl hc)
      exact hgo σ2 hI2
    by_cases hw12 : x = 12
    · rw [hw12]
      refine mj_tsIn (off := 559) C dL_law_33 (by decide) (by decide) (by rfl) rfl ?_
      obtain ⟨v, σ1, σ2, e9, e10, hI2⟩ := O_whose σ a1 a2 hI
      have c9 : mj_C G l yX9_whose cX9_whose 3 (some .int) 6 [.ref (G.2.1 0), .int a1, .int a2] σ (some (.int v)) σ1 := c_X9_whose σ a1 a2 (v, σ1) e9
      have c10 : mj_C G l yX10_whose cX10_whose 3 (some .int) 112 [.ref (G.2.1 64), .int a1, .int a2] σ1 (some (.int v)) σ2 := c_X10_whose σ1 a1 a2 (v, σ2) e10
      refine mj_aload_n C dL_law_592 rfl ?_
      refine mj_aload_n C dL_law_593 rfl ?_
      refine mj_iload_n C dL_law_594 rfl ?_
      refine mj_iconstV (v := 1) C dL_law_595 (by decide) ?_
      refine mj_iadd C dL_law_596 ?_
      refine mj_sld C hX hbl hbA dL_law_597 (lw_ix (i := i) (k := 1) (nI_add i 1) (by omega) hL) ?_
      rw [ha1]
      refine mj_aload_n C dL_law_598 rfl ?_
      refine mj_iload_n C dL_law_599 rfl ?_
      refine mj_iconstV (v := 2) C dL_law_600 (by decide) ?_
      refine mj_iadd C dL_law_601 ?_
      refine mj_sld C hX hbl hbA dL_law_602 (lw_ix (i := i) (k := 2) (nI_add i 2) (by omega) hL) ?_
      rw [ha2]
      refine mj_callVi C c9 yv_X9_whose kl_L_65 (mo_0 G _) rfl rfl rfl rfl (Nat.le_of_ble_eq_true rfl) (lw_room (by decide) (by decide)) ⟨Nat.le_of_ble_eq_true rfl, Nat.le_of_ble_eq_true rfl⟩ dL_law_603 ?_
      refine mj_aload_n C dL_law_606 rfl ?_
      refine mj_aload_n C dL_law_607 rfl ?_
      refine mj_iload_n C dL_law_608 rfl ?_
      refine mj_iconstV (v := 1) C dL_law_609 (by decide) ?_
      refine mj_iadd C dL_law_610 ?_
      refine mj_sld C hX hbl hbA dL_law_611 (lw_ix (i := i) (k := 1) (nI_add i 1) (by omega) hL) ?_
      rw [ha1]
      refine mj_aload_n C dL_law_612 rfl ?_
      refine mj_iload_n C dL_law_613 rfl ?_
      refine mj_iconstV (v := 2) C dL_law_614 (by decide) ?_
      refine mj_iadd C dL_law_615 ?_
      refine mj_sld C hX hbl hbA dL_law_616 (lw_ix (i := i) (k := 2) (nI_add i 2) (by omega) hL) ?_
      rw [ha2]
      refine mj_callVi C c10 yv_X10_whose kl_L_68 (mo_64 G _) rfl rfl rfl rfl (Nat.le_of_ble_eq_true rfl) (lw_room (by decide) (by decide)) ⟨Nat.le_of_ble_eq_true rfl, Nat.le_of_ble_eq_true rfl⟩ dL_law_617 ?_
      refine mj_ic_eq (r1 := ()) (r2 := ()) (r := ()) C dL_law_620 rfl (ite_self _) (fun _ _ => ?_) (fun hc _ => absurd rfl hc)
      exact hgo σ2 hI2
    by_cases hw13 : x = 13
    · rw [hw13]
      refine mj_tsIn (off := 592) C dL_law_33 (by decide) (by decide) (by rfl) rfl ?_
      obtain ⟨v, σ1, σ2, e9, e10, hI2⟩ := O_odds σ a1 hI
      have c9 : mj_C G l yX9_odds cX9_odds 2 (some .int) 6 [.ref (G.2.1 0), .int a1] σ (some (.int v)) σ1 := by
        obtain ⟨q1, q2⟩ := e9
        rw [q2]
        exact c_X9_odds σ a1 v q1
      have c10 : mj_C G l yX10_odds cX10_odds 8 (some .int) 111 [.ref (G.2.1 64), .int a1] σ1 (some (.int v)) σ2 := c_X10_odds σ1 a1 (v, σ2) e10
      refine mj_aload_n C dL_law_625 rfl ?_
      refine mj_aload_n C dL_law_626 rfl ?_
      refine mj_iload_n C dL_law_627 rfl ?_
      refine mj_iconstV (v := 1) C dL_law_628 (by decide) ?_
      refine mj_iadd C dL_law_629 ?_
      refine mj_sld C hX hbl hbA dL_law_630 (lw_ix (i := i) (k := 1) (nI_add i 1) (by omega) hL) ?_
      rw [ha1]
      refine mj_callVi C c9 yv_X9_odds kl_L_69 (mo_0 G _) rfl rfl rfl rfl (Nat.le_of_ble_eq_true rfl) (lw_room (by decide) (by decide)) ⟨Nat.le_of_ble_eq_true rfl, Nat.le_of_ble_eq_true rfl⟩ dL_law_631 ?_
      refine mj_aload_n C dL_law_634 rfl ?_
      refine mj_aload_n C dL_law_635 rfl ?_
      refine mj_iload_n C dL_law_636 rfl ?_
      refine mj_iconstV (v := 1) C dL_law_637 (by decide) ?_
      refine mj_iadd C dL_law_638 ?_
      refine mj_sld C hX hbl hbA dL_law_639 (lw_ix (i := i) (k := 1) (nI_add i 1) (by omega) hL) ?_
      rw [ha1]
      refine mj_callVi C c10 yv_X10_odds kl_L_72 (mo_64 G _) rfl rfl rfl rfl (Nat.le_of_ble_eq_true rfl) (lw_room (by decide) (by decide)) ⟨Nat.le_of_ble_eq_true rfl, Nat.le_of_ble_eq_true rfl⟩ dL_law_640 ?_
      refine mj_ic_eq (r1 := ()) (r2 := ()) (r := ()) C dL_law_643 rfl (ite_self _) (fun _ _ => ?_) (fun hc _ => absurd rfl hc)
      exact hgo σ2 hI2
    by_cases hw14 : x = 14
    · rw [hw14]
      refine mj_tsIn (off := 615) C dL_law_33 (by decide) (by decide) (by rfl) rfl ?_
      obtain ⟨v, σ1, σ2, e9, e10, hI2⟩ := O_how σ a1 a2 hI
      have c9 : mj_C G l yX9_how cX9_how 3 (some .int) 7 [.ref (G.2.1 0), .int a1, .int a2] σ (some (.int v)) σ1 := c_X9_how σ a1 a2 (v, σ1) e9
      have c10 : mj_C G l yX10_how cX10_how 5 (some .int) 112 [.ref (G.2.1 64), .int a1, .int a2] σ1 (some (.int v)) σ2 := c_X10_how σ1 a1 a2 (v, σ2) e10
      refine mj_aload_n C dL_law_648 rfl ?_
      refine mj_aload_n C dL_law_649 rfl ?_
      refine mj_iload_n C dL_law_650 rfl ?_
      refine mj_iconstV (v := 1) C dL_law_651 (by decide) ?_
      refine mj_iadd C dL_law_652 ?_
      refine mj_sld C hX hbl hbA dL_law_653 (lw_ix (i := i) (k := 1) (nI_add i 1) (by omega) hL) ?_
      rw [ha1]
      refine mj_aload_n C dL_law_654 rfl ?_
      refine mj_iload_n C dL_law_655 rfl ?_
      refine mj_iconstV (v := 2) C dL_law_656 (by decide) ?_
      refine mj_iadd C dL_law_657 ?_
      refine mj_sld C hX hbl hbA dL_law_658 (lw_ix (i := i) (k := 2) (nI_add i 2) (by omega) hL) ?_
      rw [ha2]
      refine mj_callVi C c9 yv_X9_how kl_L_73 (mo_0 G _) rfl rfl rfl rfl (Nat.le_of_ble_eq_true rfl) (lw_room (by decide) (by decide)) ⟨Nat.le_of_ble_eq_true rfl, Nat.le_of_ble_eq_true rfl⟩ dL_law_659 ?_
      refine mj_aload_n C dL_law_662 rfl ?_
      refine mj_aload_n C dL_law_663 rfl ?_
      refine mj_iload_n C dL_law_664 rfl ?_
      refine mj_iconstV (v := 1) C dL_law_665 (by decide) ?_
      refine mj_iadd C dL_law_666 ?_
      refine mj_sld C hX hbl hbA dL_law_667 (lw_ix (i := i) (k := 1) (nI_add i 1) (by omega) hL) ?_
      rw [ha1]
      refine mj_aload_n C dL_law_668 rfl ?_
      refine mj_iload_n C dL_law_669 rfl ?_
      refine mj_iconstV (v := 2) C dL_law_670 (by decide) ?_
      refine mj_iadd C dL_law_671 ?_
      refine mj_sld C hX hbl hbA dL_law_672 (lw_ix (i := i) (k := 2) (nI_add i 2) (by omega) hL) ?_
      rw [ha2]
      refine mj_callVi C c10 yv_X10_how kl_L_76 (mo_64 G _) rfl rfl rfl rfl (Nat.le_of_ble_eq_true rfl) (lw_room (by decide) (by decide)) ⟨Nat.le_of_ble_eq_true rfl, Nat.le_of_ble_eq_true rfl⟩ dL_law_673 ?_
      refine mj_ic_eq (r1 := ()) (r2 := ()) (r := ()) C dL_law_676 rfl (ite_self _) (fun _ _ => ?_) (fun hc _ => absurd rfl hc)
      exact hgo σ2 hI2
    by_cases hw15 : x = 15
    · rw [hw15]
      refine mj_tsIn (off := 648) C dL_law_33 (by decide) (by decide) (by rfl) rfl ?_
      obtain ⟨v, σ1, σ2, e9, e10, hI2⟩ := O_together σ a1 a2 hI
      have c9 : mj_C G l yX9_together cX9_together 4 (some .int) 6 [.ref (G.2.1 0), .int a1, .int a2] σ (some (.int v)) σ1 := c_X9_together σ a1 a2 (v, σ1) e9
      have c10 : mj_C G l yX10_together cX10_together 5 (some .int) 212 [.ref (G.2.1 64), .int a1, .int a2] σ1 (some (.int v)) σ2 := c_X10_together σ1 a1 a2 (v, σ2) e10
      refine mj_aload_n C dL_law_681 rfl ?_
      refine mj_aload_n C dL_law_682 rfl ?_
      refine mj_iload_n C dL_law_683 rfl ?_
      refine mj_iconstV (v := 1) C dL_law_684 (by decide) ?_
      refine mj_iadd C dL_law_685 ?_
      refine mj_sld C hX hbl hbA dL_law_686 (lw_ix (i := i) (k := 1) (nI_add i 1) (by omega) hL) ?_
      rw [ha1]
      refine mj_aload_n C dL_law_687 rfl ?_
      refine mj_iload_n C dL_law_688 rfl ?_
      refine mj_iconstV (v := 2) C dL_law_689 (by decide) ?_
      refine mj_iadd C dL_law_690 ?_
      refine mj_sld C hX hbl hbA dL_law_691 (lw_ix (i := i) (k := 2) (nI_add i 2) (by omega) hL) ?_
      rw [ha2]
      refine mj_callVi C c9 yv_X9_together kl_L_77 (mo_0 G _) rfl rfl rfl rfl (Nat.le_of_ble_eq_true rfl) (lw_room (by decide) (by decide)) ⟨Nat.le_of_ble_eq_true rfl, Nat.le_of_ble_eq_true rfl⟩ dL_law_692 ?_
      refine mj_aload_n C dL_law_695 rfl ?_
      refine mj_aload_n C dL_law_696 rfl ?_
      refine mj_iload_n C dL_law_697 rfl ?_
      refine mj_iconstV (v := 1) C dL_law_698 (by decide) ?_
      refine mj_iadd C dL_law_699 ?_
      refine mj_sld C hX hbl hbA dL_law_700 (lw_ix (i := i) (k := 1) (nI_add i 1) (by omega) hL) ?_
      rw [ha1]
      refine mj_aload_n C dL_law_701 rfl ?_
      refine mj_iload_n C dL_law_702 rfl ?_
      refine mj_iconstV (v := 2) C dL_law_703 (by decide) ?_
      refine mj_iadd C dL_law_704 ?_
      refine mj_sld C hX hbl hbA dL_law_705 (lw_ix (i := i) (k := 2) (nI_add i 2) (by omega) hL) ?_
      rw [ha2]
      refine mj_callVi C c10 yv_X10_together kl_L_80 (mo_64 G _) rfl rfl rfl rfl (Nat.le_of_ble_eq_true rfl) (lw_room (by decide) (by decide)) ⟨Nat.le_of_ble_eq_true rfl, Nat.le_of_ble_eq_true rfl⟩ dL_law_706 ?_
      refine mj_ic_eq (r1 := ()) (r2 := ()) (r := ()) C dL_law_709 rfl (ite_self _) (fun _ _ => ?_) (fun hc _ => absurd rfl hc)
      exact hgo σ2 hI2
    by_cases hw16 : x = 16
    · rw [hw16]
      refine mj_tsIn (off := 681) C dL_law_33 (by decide) (by decide) (by rfl) rfl ?_
      obtain ⟨v, σ1, σ2, e9, e10, hI2⟩ := O_turned σ a1 a2 hI
      have c9 : mj_C G l yX9_turned cX9_turned 3 (some .int) 6 [.ref (G.2.1 0), .int a1, .int a2] σ (some (.int v)) σ1 := by
        obtain ⟨q1, q2⟩ := e9
        rw [q2]
        exact c_X9_turned σ a1 a2 v q1
      have c10 : mj_C G l yX10_turned cX10_turned 6 (some .int) 3 [.ref (G.2.1 64), .int a1, .int a2] σ1 (some (.int v)) σ2 := by
        obtain ⟨q1, q2⟩ := e10
        rw [q2]
        exact c_X10_turned σ1 a1 a2 v q1
      refine mj_aload_n C dL_law_714 rfl ?_
      refine mj_aload_n C dL_law_715 rfl ?_
      refine mj_iload_n C dL_law_716 rfl ?_
      refine mj_iconstV (v := 1) C dL_law_717 (by decide) ?_
      refine mj_iadd C dL_law_718 ?_
      refine mj_sld C hX hbl hbA dL_law_719 (lw_ix (i := i) (k := 1) (nI_add i 1) (by omega) hL) ?_
      rw [ha1]
      refine mj_aload_n C dL_law_720 rfl ?_
      refine mj_iload_n C dL_law_721 rfl ?_
      refine mj_iconstV (v := 2) C dL_law_722 (by decide) ?_
      refine mj_iadd C dL_law_723 ?_
      refine mj_sld C hX hbl hbA dL_law_724 (lw_ix (i := i) (k := 2) (nI_add i 2) (by omega) hL) ?_
      rw [ha2]
      refine mj_callVi C c9 yv_X9_turned kl_L_81 (mo_0 G _) rfl rfl rfl rfl (Nat.le_of_ble_eq_true rfl) (lw_room (by decide) (by decide)) ⟨Nat.le_of_ble_eq_true rfl, Nat.le_of_ble_eq_true rfl⟩ dL_law_725 ?_
      refine mj_aload_n C dL_law_728 rfl ?_
      refine mj_aload_n C dL_law_729 rfl ?_
      refine mj_iload_n C dL_law_730 rfl ?_
      refine mj_iconstV (v := 1) C dL_law_731 (by decide) ?_
      refine mj_iadd C dL_law_732 ?_
      refine mj_sld C hX hbl hbA dL_law_733 (lw_ix (i := i) (k := 1) (nI_add i 1) (by omega) hL) ?_
      rw [ha1]
      refine mj_aload_n C dL_law_734 rfl ?_
      refine mj_iload_n C dL_law_735 rfl ?_
      refine mj_iconstV (v := 2) C dL_law_736 (by decide) ?_
      refine mj_iadd C dL_law_737 ?_
      refine mj_sld C hX hbl hbA dL_law_738 (lw_ix (i := i) (k := 2) (nI_add i 2) (by omega) hL) ?_
      rw [ha2]
      refine mj_callVi C c10 yv_X10_turned kl_L_84 (mo_64 G _) rfl rfl rfl rfl (Nat.le_of_ble_eq_true rfl) (lw_room (by decide) (by decide)) ⟨Nat.le_of_ble_eq_true rfl, Nat.le_of_ble_eq_true rfl⟩ dL_law_739 ?_
      refine mj_ic_eq (r1 := ()) (r2 := ()) (r := ()) C dL_law_742 rfl (ite_self _) (fun _ _ => ?_) (fun hc _ => absurd rfl hc)
      exact hgo σ2 hI2
    by_cases hw17 : x = 17
    · rw [hw17]
      refine mj_tsIn (off := 714) C dL_law_33 (by decide) (by decide) (by rfl) rfl ?_
      obtain ⟨v, σ1, σ2, e9, e10, hI2⟩ := O_led σ a1 hI
      have c9 : mj_C G l yX9_led cX9_led 2 (some .int) 7 [.ref (G.2.1 0), .int a1] σ (some (.int v)) σ1 := c_X9_led σ a1 (v, σ1) e9
      have c10 : mj_C G l yX10_led cX10_led 4 (some .int) 112 [.ref (G.2.1 64), .int a1] σ1 (some (.int v)) σ2 := c_X10_led σ1 a1 (v, σ2) e10
      refine mj_aload_n C dL_law_747 rfl ?_
      refine mj_aload_n C dL_law_748 rfl ?_
      refine mj_iload_n C dL_law_749 rfl ?_
      refine mj_iconstV (v := 1) C dL_law_750 (by decide) ?_
      refine mj_iadd C dL_law_751 ?_
      refine mj_sld C hX hbl hbA dL_law_752 (lw_ix (i := i) (k := 1) (nI_add i 1) (by omega) hL) ?_
      rw [ha1]
      refine mj_callVi C c9 yv_X9_led kl_L_85 (mo_0 G _) rfl rfl rfl rfl (Nat.le_of_ble_eq_true rfl) (lw_room (by decide) (by decide)) ⟨Nat.le_of_ble_eq_true rfl, Nat.le_of_ble_eq_true rfl⟩ dL_law_753 ?_
      refine mj_aload_n C dL_law_756 rfl ?_
      refine mj_aload_n C dL_law_757 rfl ?_
      refine mj_iload_n C dL_law_758 rfl ?_
      refine mj_iconstV (v := 1) C dL_law_759 (by decide) ?_
      refine mj_iadd C dL_law_760 ?_
      refine mj_sld C hX hbl hbA dL_law_761 (lw_ix (i := i) (k := 1) (nI_add i 1) (by omega) hL) ?_
      rw [ha1]
      refine mj_callVi C c10 yv_X10_led kl_L_88 (mo_64 G _) rfl rfl rfl rfl (Nat.le_of_ble_eq_true rfl) (lw_room (by decide) (by decide)) ⟨Nat.le_of_ble_eq_true rfl, Nat.le_of_ble_eq_true rfl⟩ dL_law_762 ?_
      refine mj_ic_eq (r1 := ()) (r2 := ()) (r := ()) C dL_law_765 rfl (ite_self _) (fun _ _ => ?_) (fun hc _ => absurd rfl hc)
      exact hgo σ2 hI2
    by_cases hw18 : x = 18
    · rw [hw18]
      refine mj_tsIn (off := 737) C dL_law_33 (by decide) (by decide) (by rfl) rfl ?_
      obtain ⟨v, σ1, σ2, e9, e10, hI2⟩ := O_tall σ a1 a2 hI
      have c9 : mj_C G l yX9_tall cX9_tall 4 (some .int) 5 [.ref (G.2.1 0), .int a1, .int a2] σ (some (.int v)) σ1 := by
        obtain ⟨q1, q2⟩ := e9
        rw [q2]
        exact c_X9_tall σ a1 a2 v q1
      have c10 : mj_C G l yX10_tall cX10_tall 3 (some .int) 110 [.ref (G.2.1 64), .int a1, .int a2] σ1 (some (.int v)) σ2 := c_X10_tall σ1 a1 a2 (v, σ2) e10
      refine mj_aload_n C dL_law_770 rfl ?_
      refine mj_aload_n C dL_law_771 rfl ?_
      refine mj_iload_n C dL_law_772 rfl ?_
      refine mj_iconstV (v := 1) C dL_law_773 (by decide) ?_
      refine mj_iadd C dL_law_774 ?_
      refine mj_sld C hX hbl hbA dL_law_775 (lw_ix (i := i) (k := 1) (nI_add i 1) (by omega) hL) ?_
      rw [ha1]
      refine mj_aload_n C dL_law_776 rfl ?_
      refine mj_iload_n C dL_law_777 rfl ?_
      refine mj_iconstV (v := 2) C dL_law_778 (by decide) ?_
      refine mj_iadd C dL_law_779 ?_
      refine mj_sld C hX hbl hbA dL_law_780 (lw_ix (i := i) (k := 2) (nI_add i 2) (by omega) hL) ?_
      rw [ha2]
      refine mj_callVi C c9 yv_X9_tall kl_L_89 (mo_0 G _) rfl rfl rfl rfl (Nat.le_of_ble_eq_true rfl) (lw_room (by decide) (by decide)) ⟨Nat.le_of_ble_eq_true rfl, Nat.le_of_ble_eq_true rfl⟩ dL_law_781 ?_
      refine mj_aload_n C dL_law_784 rfl ?_
      refine mj_aload_n C dL_law_785 rfl ?_
      refine mj_iload_n C dL_law_786 rfl ?_
      refine mj_iconstV (v := 1) C dL_law_787 (by decide) ?_
      refine mj_iadd C dL_law_788 ?_
      refine mj_sld C hX hbl hbA dL_law_789 (lw_ix (i := i) (k := 1) (nI_add i 1) (by omega) hL) ?_
      rw [ha1]
      refine mj_aload_n C dL_law_790 rfl ?_
      refine mj_iload_n C dL_law_791 rfl ?_
      refine mj_iconstV (v := 2) C dL_law_792 (by decide) ?_
      refine mj_iadd C dL_law_793 ?_
      refine mj_sld C hX hbl hbA dL_law_794 (lw_ix (i := i) (k := 2) (nI_add i 2) (by omega) hL) ?_
      rw [ha2]
      refine mj_callVi C c10 yv_X10_tall kl_L_92 (mo_64 G _) rfl rfl rfl rfl (Nat.le_of_ble_eq_true rfl) (lw_room (by decide) (by decide)) ⟨Nat.le_of_ble_eq_true rfl, Nat.le_of_ble_eq_true rfl⟩ dL_law_795 ?_
      refine mj_ic_eq (r1 := ()) (r2 := ()) (r := ()) C dL_law_798 rfl (ite_self _) (fun _ _ => ?_) (fun hc _ => absurd rfl hc)
      exact hgo σ2 hI2
    by_cases hw19 : x = 19
    · rw [hw19]
      refine mj_tsIn (off := 770) C dL_law_33 (by decide) (by decide) (by rfl) rfl ?_
      obtain ⟨v, σ1, σ2, e9, e10, hI2⟩ := O_year σ a1 a2 hI
      have c9 : mj_C G l yX9_year cX9_year 4 (some .int) 5 [.ref (G.2.1 0), .int a1, .int a2] σ (some (.int v)) σ1 := by
        obtain ⟨q1, q2⟩ := e9
        rw [q2]
        exact c_X9_year σ a1 a2 v q1
      have c10 : mj_C G l yX10_year cX10_year 9 (some .int) 109 [.ref (G.2.1 64), .int a1, .int a2] σ1 (some (.int v)) σ2 := c_X10_year σ1 a1 a2 (v, σ2) e10
      refine mj_aload_n C dL_law_803 rfl ?_
      refine mj_aload_n C dL_law_804 rfl ?_
      refine mj_iload_n C dL_law_805 rfl ?_
      refine mj_iconstV (v := 1) C dL_law_806 (by decide) ?_
      refine mj_iadd C dL_law_807 ?_
      refine mj_sld C hX hbl hbA dL_law_808 (lw_ix (i := i) (k := 1) (nI_add i 1) (by omega) hL) ?_
      rw [ha1]
      refine mj_aload_n C dL_law_809 rfl ?_
      refine mj_iload_n C dL_law_810 rfl ?_
      refine mj_iconstV (v := 2) C dL_law_811 (by decide) ?_
      refine mj_iadd C dL_law_812 ?_
      refine mj_sld C hX hbl hbA dL_law_813 (lw_ix (i := i) (k := 2) (nI_add i 2) (by omega) hL) ?_
      rw [ha2]
      refine mj_callVi C c9 yv_X9_year kl_L_93 (mo_0 G _) rfl rfl rfl rfl (Nat.le_of_ble_eq_true rfl) (lw_room (by decide) (by decide)) ⟨Nat.le_of_ble_eq_true rfl, Nat.le_of_ble_eq_true rfl⟩ dL_law_814 ?_
      refine mj_aload_n C dL_law_817 rfl ?_
      refine mj_aload_n C dL_law_818 rfl ?_
      refine mj_iload_n C dL_law_819 rfl ?_
      refine mj_iconstV (v := 1) C dL_law_820 (by decide) ?_
      refine mj_iadd C dL_law_821 ?_
      refine mj_sld C hX hbl hbA dL_law_822 (lw_ix (i := i) (k := 1) (nI_add i 1) (by omega) hL) ?_
      rw [ha1]
      refine mj_aload_n C dL_law_823 rfl ?_
      refine mj_iload_n C dL_law_824 rfl ?_
      refine mj_iconstV (v := 2) C dL_law_825 (by decide) ?_
      refine mj_iadd C dL_law_826 ?_
      refine mj_sld C hX hbl hbA dL_law_827 (lw_ix (i := i) (k := 2) (nI_add i 2) (by omega) hL) ?_
      rw [ha2]
      refine mj_callVi C c10 yv_X10_year kl_L_96 (mo_64 G _) rfl rfl rfl rfl (Nat.le_of_ble_eq_true rfl) (lw_room (by decide) (by decide)) ⟨Nat.le_of_ble_eq_true rfl, Nat.le_of_ble_eq_true rfl⟩ dL_law_828 ?_
      refine mj_ic_eq (r1 := ()) (r2 := ()) (r := ()) C dL_law_831 rfl (ite_self _) (fun _ _ => ?_) (fun hc _ => absurd rfl hc)
      exact hgo σ2 hI2
    by_cases hw20 : x = 20
    · rw [hw20]
      refine mj_tsIn (off := 803) C dL_law_33 (by decide) (by decide) (by rfl) rfl ?_
      obtain ⟨v, σ1, σ2, e9, e10, hI2⟩ := O_line σ a1 a2 hI
      have c9 : mj_C G l yX9_line cX9_line 3 (some .int) 4 [.ref (G.2.1 0), .int a1, .int a2] σ (some (.int v)) σ1 := by
        obtain ⟨q1, q2⟩ := e9
        rw [q2]
        exact c_X9_line σ a1 a2 v q1
      have c10 : mj_C G l yX10_line cX10_line 3 (some .int) 110 [.ref (G.2.1 64), .int a1, .int a2] σ1 (some (.int v)) σ2 := c_X10_line σ1 a1 a2 (v, σ2) e10
      refine mj_aload_n C dL_law_836 rfl ?_
      refine mj_aload_n C dL_law_837 rfl ?_
      refine mj_iload_n C dL_law_838 rfl ?_
      refine mj_iconstV (v := 1) C dL_law_839 (by decide) ?_
      refine mj_iadd C dL_law_840 ?_
      refine mj_sld C hX hbl hbA dL_law_841 (lw_ix (i := i) (k := 1) (nI_add i 1) (by omega) hL) ?_
      rw [ha1]
      refine mj_aload_n C dL_law_842 rfl ?_
      refine mj_iload_n C dL_law_843 rfl ?_
      refine mj_iconstV (v := 2) C dL_law_844 (by decide) ?_
      refine mj_iadd C dL_law_845 ?_
      refine mj_sld C hX hbl hbA dL_law_846 (lw_ix (i := i) (k := 2) (nI_add i 2) (by omega) hL) ?_
      rw [ha2]
      refine mj_callVi C c9 yv_X9_line kl_L_97 (mo_0 G _) rfl rfl rfl rfl (Nat.le_of_ble_eq_true rfl) (lw_room (by decide) (by decide)) ⟨Nat.le_of_ble_eq_true rfl, Nat.le_of_ble_eq_true rfl⟩ dL_law_847 ?_
      refine mj_aload_n C dL_law_850 rfl ?_
      refine mj_aload_n C dL_law_851 rfl ?_
      refine mj_iload_n C dL_law_852 rfl ?_
      refine mj_iconstV (v := 1) C dL_law_853 (by decide) ?_
      refine mj_iadd C dL_law_854 ?_
      refine mj_sld C hX hbl hbA dL_law_855 (lw_ix (i := i) (k := 1) (nI_add i 1) (by omega) hL) ?_
      rw [ha1]
      refine mj_aload_n C dL_law_856 rfl ?_
      refine mj_iload_n C dL_law_857 rfl ?_
      refine mj_iconstV (v := 2) C dL_law_858 (by decide) ?_
      refine mj_iadd C dL_law_859 ?_
      refine mj_sld C hX hbl hbA dL_law_860 (lw_ix (i := i) (k := 2) (nI_add i 2) (by omega) hL) ?_
      rw [ha2]
      refine mj_callVi C c10 yv_X10_line kl_L_100 (mo_64 G _) rfl rfl rfl rfl (Nat.le_of_ble_eq_true rfl) (lw_room (by decide) (by decide)) ⟨Nat.le_of_ble_eq_true rfl, Nat.le_of_ble_eq_true rfl⟩ dL_law_861 ?_
      refine mj_ic_eq (r1 := ()) (r2 := ()) (r := ()) C dL_law_864 rfl (ite_self _) (fun _ _ => ?_) (fun hc _ => absurd rfl hc)
      exact hgo σ2 hI2
    by_cases hw21 : x = 21
    · rw [hw21]
      refine mj_tsIn (off := 836) C dL_law_33 (by decide) (by decide) (by rfl) rfl ?_
      obtain ⟨v, σ1, σ2, e9, e10, hI2⟩ := O_falls σ a1 hI
      have c9 : mj_C G l yX9_falls cX9_falls 2 (some .int) 5 [.ref (G.2.1 0), .int a1] σ (some (.int v)) σ1 := by
        obtain ⟨q1, q2⟩ := e9
        rw [q2]
        exact c_X9_falls σ a1 v q1
      have c10 : mj_C G l yX10_falls cX10_falls 5 (some .int) 110 [.ref (G.2.1 64), .int a1] σ1 (some (.int v)) σ2 := c_X10_falls σ1 a1 (v, σ2) e10
      refine mj_aload_n C dL_law_869 rfl ?_
      refine mj_aload_n C dL_law_870 rfl ?_
      refine mj_iload_n C dL_law_871 rfl ?_
      refine mj_iconstV (v := 1) C dL_law_872 (by decide) ?_
      refine mj_iadd C dL_law_873 ?_
      refine mj_sld C hX hbl hbA dL_law_874 (lw_ix (i := i) (k := 1) (nI_add i 1) (by omega) hL) ?_
      rw [ha1]
      refine mj_callVi C c9 yv_X9_falls kl_L_101 (mo_0 G _) rfl rfl rfl rfl (Nat.le_of_ble_eq_true rfl) (lw_room (by decide) (by decide)) ⟨Nat.le_of_ble_eq_true rfl, Nat.le_of_ble_eq_true rfl⟩ dL_law_875 ?_
      refine mj_aload_n C dL_law_878 rfl ?_
      refine mj_aload_n C dL_law_879 rfl ?_
      refine mj_iload_n C dL_law_880 rfl ?_
      refine mj_iconstV (v := 1) C dL_law_881 (by decide) ?_
      refine mj_iadd C dL_law_882 ?_
      refine mj_sld C hX hbl hbA dL_law_883 (lw_ix (i := i) (k := 1) (nI_add i 1) (by omega) hL) ?_
      rw [ha1]
      refine mj_callVi C c10 yv_X10_falls kl_L_104 (mo_64 G _) rfl rfl rfl rfl (Nat.le_of_ble_eq_true rfl) (lw_room (by decide) (by decide)) ⟨Nat.le_of_ble_eq_true rfl, Nat.le_of_ble_eq_true rfl⟩ dL_law_884 ?_
      refine mj_ic_eq (r1 := ()) (r2 := ()) (r := ()) C dL_law_887 rfl (ite_self _) (fun _ _ => ?_) (fun hc _ => absurd rfl hc)
      exact hgo σ2 hI2
    by_cases hw22 : x = 22
    · rw [hw22]
      refine mj_tsIn (off := 859) C dL_law_33 (by decide) (by decide) (by rfl) rfl ?_
      obtain ⟨v, σ1, σ2, e9, e10, hI2⟩ := O_overtakes σ a1 hI
      have c9 : mj_C G l yX9_overtakes cX9_overtakes 2 (some .int) 5 [.ref (G.2.1 0), .int a1] σ (some (.int v)) σ1 := by
        obtain ⟨q1, q2⟩ := e9
        rw [q2]
        exact c_X9_overtakes σ a1 v q1
      have c10 : mj_C G l yX10_overtakes cX10_overtakes 6 (some .int) 109 [.ref (G.2.1 64), .int a1] σ1 (some (.int v)) σ2 := c_X10_overtakes σ1 a1 (v, σ2) e10
      refine mj_aload_n C dL_law_892 rfl ?_
      refine mj_aload_n C dL_law_893 rfl ?_
      refine mj_iload_n C dL_law_894 rfl ?_
      refine mj_iconstV (v := 1) C dL_law_895 (by decide) ?_
      refine mj_iadd C dL_law_896 ?_
      refine mj_sld C hX hbl hbA dL_law_897 (lw_ix (i := i) (k := 1) (nI_add i 1) (by omega) hL) ?_
      rw [ha1]
      refine mj_callVi C c9 yv_X9_overtakes kl_L_105 (mo_0 G _) rfl rfl rfl rfl (Nat.le_of_ble_eq_true rfl) (lw_room (by decide) (by decide)) ⟨Nat.le_of_ble_eq_true rfl, Nat.le_of_ble_eq_true rfl⟩ dL_law_898 ?_
      refine mj_aload_n C dL_law_901 rfl ?_
      refine mj_aload_n C dL_law_902 rfl ?_
      refine mj_iload_n C dL_law_903 rfl ?_
      refine mj_iconstV (v := 1) C dL_law_904 (by decide) ?_
      refine mj_iadd C dL_law_905 ?_
      refine mj_sld C hX hbl hbA dL_law_906 (lw_ix (i := i) (k := 1) (nI_add i 1) (by omega) hL) ?_
      rw [ha1]
      refine mj_callVi C c10 yv_X10_overtakes kl_L_108 (mo_64 G _) rfl rfl rfl rfl (Nat.le_of_ble_eq_true rfl) (lw_room (by decide) (by decide)) ⟨Nat.le_of_ble_eq_true rfl, Nat.le_of_ble_eq_true rfl⟩ dL_law_907 ?_
      refine mj_ic_eq (r1 := ()) (r2 := ()) (r := ()) C dL_law_910 rfl (ite_self _) (fun _ _ => ?_) (fun hc _ => absurd rfl hc)
      exact hgo σ2 hI2
    by_cases hw23 : x = 23
    · rw [hw23]
      refine mj_tsIn (off := 882) C dL_law_33 (by decide) (by decide) (by rfl) rfl ?_
      obtain ⟨v, σ1, σ2, e9, e10, hI2⟩ := O_enough σ a1 a2 a3 hI
      have c9 : mj_C G l yX9_enough cX9_enough 4 (some .int) 7 [.ref (G.2.1 0), .int a1, .int a2, .int a3] σ (some (.int v)) σ1 := c_X9_enough σ a1 a2 a3 (v, σ1) e9
      have c10 : mj_C G l yX10_enough cX10_enough 6 (some .int) 110 [.ref (G.2.1 64), .int a1, .int a2, .int a3] σ1 (some (.int v)) σ2 := c_X10_enough σ1 a1 a2 a3 (v, σ2) e10
      refine mj_aload_n C dL_law_915 rfl ?_
      refine mj_aload_n C dL_law_916 rfl ?_
      refine mj_iload_n C dL_law_917 rfl ?_
      refine mj_iconstV (v := 1) C dL_law_918 (by decide) ?_
      refine mj_iadd C dL_law_919 ?_
      refine mj_sld C hX hbl hbA dL_law_920 (lw_ix (i := i) (k := 1) (nI_add i 1) (by omega) hL) ?_
      rw [ha1]
      refine mj_aload_n C dL_law_921 rfl ?_
      refine mj_iload_n C dL_law_922 rfl ?_
      refine mj_iconstV (v := 2) C dL_law_923 (by decide) ?_
      refine mj_iadd C dL_law_924 ?_
      refine mj_sld C hX hbl hbA dL_law_925 (lw_ix (i := i) (k := 2) (nI_add i 2) (by omega) hL) ?_
      rw [ha2]
      refine mj_aload_n C dL_law_926 rfl ?_
      refine mj_iload_n C dL_law_927 rfl ?_
      refine mj_iconstV (v := 3) C dL_law_928 (by decide) ?_
      refine mj_iadd C dL_law_929 ?_
      refine mj_sld C hX hbl hbA dL_law_930 (lw_ix (i := i) (k := 3) (nI_add i 3) (by omega) hL) ?_
      rw [ha3]
      refine mj_callVi C c9 yv_X9_enough kl_L_109 (mo_0 G _) rfl rfl rfl rfl (Nat.le_of_ble_eq_true rfl) (lw_room (by decide) (by decide)) ⟨Nat.le_of_ble_eq_true rfl, Nat.le_of_ble_eq_true rfl⟩ dL_law_931 ?_
      refine mj_aload_n C dL_law_934 rfl ?_
      refine mj_aload_n C dL_law_935 rfl ?_
      refine mj_iload_n C dL_law_936 rfl ?_
      refine mj_iconstV (v := 1) C dL_law_937 (by decide) ?_
      refine mj_iadd C dL_law_938 ?_
      refine mj_sld C hX hbl hbA dL_law_939 (lw_ix (i := i) (k := 1) (nI_add i 1) (by omega) hL) ?_
      rw [ha1]
      refine mj_aload_n C dL_law_940 rfl ?_
      refine mj_iload_n C dL_law_941 rfl ?_
      refine mj_iconstV (v := 2) C dL_law_942 (by decide) ?_
      refine mj_iadd C dL_law_943 ?_
      refine mj_sld C hX hbl hbA dL_law_944 (lw_ix (i := i) (k := 2) (nI_add i 2) (by omega) hL) ?_
      rw [ha2]
      refine mj_aload_n C dL_law_945 rfl ?_
      refine mj_iload_n C dL_law_946 rfl ?_
      refine mj_iconstV (v := 3) C dL_law_947 (by decide) ?_
      refine mj_iadd C dL_law_948 ?_
      refine mj_sld C hX hbl hbA dL_law_949 (lw_ix (i := i) (k := 3) (nI_add i 3) (by omega) hL) ?_
      rw [ha3]
      refine mj_callVi C c10 yv_X10_enough kl_L_112 (mo_64 G _) rfl rfl rfl rfl (Nat.le_of_ble_eq_true rfl) (lw_room (by decide) (by decide)) ⟨Nat.le_of_ble_eq_true rfl, Nat.le_of_ble_eq_true rfl⟩ dL_law_950 ?_
      refine mj_ic_eq (r1 := ()) (r2 := ()) (r := ()) C dL_law_953 rfl (ite_self _) (fun _ _ => ?_) (fun hc _ => absurd rfl hc)
      exact hgo σ2 hI2
    by_cases hw24 : x = 24
    · rw [hw24]
      refine mj_tsIn (off := 925) C dL_law_33 (by decide) (by decide) (by rfl) rfl ?_
      obtain ⟨v, σ1, σ2, e9, e10, hI2⟩ := O_slips σ a1 a2 a3 a4 hI
      have c9 : mj_C G l yX9_slips cX9_slips 5 (some .int) 6 [.ref (G.2.1 0), .int a1, .int a2, .int a3, .int a4] σ (some (.int v)) σ1 := c_X9_slips σ a1 a2 a3 a4 (v, σ1) e9
      have c10 : mj_C G l yX10_slips cX10_slips 9 (some .int) 111 [.ref (G.2.1 64), .int a1, .int a2, .int a3, .int a4] σ1 (some (.int v)) σ2 := c_X10_slips σ1 a1 a2 a3 a4 (v, σ2) e10
      refine mj_aload_n C dL_law_958 rfl ?_
      refine mj_aload_n C dL_law_959 rfl ?_
      refine mj_iload_n C dL_law_960 rfl ?_
      refine mj_iconstV (v := 1) C dL_law_961 (by decide) ?_
      refine mj_iadd C dL_law_962 ?_
      refine mj_sld C hX hbl hbA dL_law_963 (lw_ix (i := i) (k := 1) (nI_add i 1) (by omega) hL) ?_
      rw [ha1]
      refine mj_aload_n C dL_law_964 rfl ?_
      refine mj_iload_n C dL_law_965 rfl ?_
      refine mj_iconstV (v := 2) C dL_law_966 (by decide) ?_
      refine mj_iadd C dL_law_967 ?_
      refine mj_sld C hX hbl hbA dL_law_968 (lw_ix (i := i) (k := 2) (nI_add i 2) (by omega) hL) ?_
      rw [ha2]
      refine mj_aload_n C dL_law_969 rfl ?_
      refine mj_iload_n C dL_law_970 rfl ?_
      refine mj_iconstV (v := 3) C dL_law_971 (by decide) ?_
      refine mj_iadd C dL_law_972 ?_
      refine mj_sld C hX hbl hbA dL_law_973 (lw_ix (i := i) (k := 3) (nI_add i 3) (by omega) hL) ?_
      rw [ha3]
      refine mj_aload_n C dL_law_974 rfl ?_
      refine mj_iload_n C dL_law_975 rfl ?_
      refine mj_iconstV (v := 4) C dL_law_976 (by decide) ?_
      refine mj_iadd C dL_law_977 ?_
      refine mj_sld C hX hbl hbA dL_law_978 (lw_ix (i := i) (k := 4) (nI_add i 4) (by omega) hL) ?_
      rw [ha4]
      refine mj_callVi C c9 yv_X9_slips kl_L_113 (mo_0 G _) rfl rfl rfl rfl (Nat.le_of_ble_eq_true rfl) (lw_room (by decide) (by decide)) ⟨Nat.le_of_ble_eq_true rfl, Nat.le_of_ble_eq_true rfl⟩ dL_law_979 ?_
      refine mj_aload_n C dL_law_982 rfl ?_
      refine mj_aload_n C dL_law_983 rfl ?_
      refine mj_iload_n C dL_law_984 rfl ?_
      refine mj_iconstV (v := 1) C dL_law_985 (by decide) ?_
      refine mj_iadd C dL_law_986 ?_
      refine mj_sld C hX hbl hbA dL_law_987 (lw_ix (i := i) (k := 1) (nI_add i 1) (by omega) hL) ?_
      rw [ha1]
      refine mj_aload_n C dL_law_988 rfl ?_
      refine mj_iload_n C dL_law_989 rfl ?_
      refine mj_iconstV (v := 2) C dL_law_990 (by decide) ?_
      refine mj_iadd C dL_law_991 ?_
      refine mj_sld C hX hbl hbA dL_law_992 (lw_ix (i := i) (k := 2) (nI_add i 2) (by omega) hL) ?_
      rw [ha2]
      refine mj_aload_n C dL_law_993 rfl ?_
      refine mj_iload_n C dL_law_994 rfl ?_
      refine mj_iconstV (v := 3) C dL_law_995 (by decide) ?_
      refine mj_iadd C dL_law_996 ?_
      refine mj_sld C hX hbl hbA dL_law_997 (lw_ix (i := i) (k := 3) (nI_add i 3) (by omega) hL) ?_
      rw [ha3]
      refine mj_aload_n C dL_law_998 rfl ?_
      refine mj_iload_n C dL_law_999 rfl ?_
      refine mj_iconstV (v := 4) C dL_law_1000 (by decide) ?_
      refine mj_iadd C dL_law_1001 ?_
      refine mj_sld C hX hbl hbA dL_law_1002 (lw_ix (i := i) (k := 4) (nI_add i 4) (by omega) hL) ?_
      rw [ha4]
      refine mj_callVi C c10 yv_X10_slips kl_L_117 (mo_64 G _) rfl rfl rfl rfl (Nat.le_of_ble_eq_true rfl) (lw_room (by decide) (by decide)) ⟨Nat.le_of_ble_eq_true rfl, Nat.le_of_ble_eq_true rfl⟩ dL_law_1003 ?_
      refine mj_ic_eq (r1 := ()) (r2 := ()) (r := ()) C dL_law_1006 rfl (ite_self _) (fun _ _ => ?_) (fun hc _ => absurd rfl hc)
      exact hgo σ2 hI2
    by_cases hw25 : x = 25
    · rw [hw25]
      refine mj_tsIn (off := 978) C dL_law_33 (by decide) (by decide) (by rfl) rfl ?_
      obtain ⟨v, σ1, σ2, e9, e10, hI2⟩ := O_undo σ  hI
      have c9 : mj_C G l yX9_undo cX9_undo 1 (some .int) 7 [.ref (G.2.1 0)] σ (some (.int v)) σ1 := c_X9_undo σ (v, σ1) e9
      have c10 : mj_C G l yX10_undo cX10_undo 1 (some .int) 1 [.ref (G.2.1 64)] σ1 (some (.int v)) σ2 := c_X10_undo σ1 (v, σ2) e10
      refine mj_aload_n C dL_law_1011 rfl ?_
      refine mj_callVi C c9 yv_X9_undo kl_L_118 (mo_0 G _) rfl rfl rfl rfl (Nat.le_of_ble_eq_true rfl) (lw_room (by decide) (by decide)) ⟨Nat.le_of_ble_eq_true rfl, Nat.le_of_ble_eq_true rfl⟩ dL_law_1012 ?_
      refine mj_aload_n C dL_law_1015 rfl ?_
      refine mj_callVi C c10 yv_X10_undo kl_L_121 (mo_64 G _) rfl rfl rfl rfl (Nat.le_of_ble_eq_true rfl) (lw_room (by decide) (by decide)) ⟨Nat.le_of_ble_eq_true rfl, Nat.le_of_ble_eq_true rfl⟩ dL_law_1016 ?_
      refine mj_ic_eq (r1 := ()) (r2 := ()) (r := ()) C dL_law_1019 rfl (ite_self _) (fun _ _ => ?_) (fun hc _ => absurd rfl hc)
      exact hgo σ2 hI2
    by_cases hw26 : x = 26
    · rw [hw26]
      refine mj_tsIn (off := 991) C dL_law_33 (by decide) (by decide) (by rfl) rfl ?_
      obtain ⟨v, σ1, σ2, e9, e10, hI2⟩ := O_redo σ  hI
      have c9 : mj_C G l yX9_redo cX9_redo 1 (some .int) 7 [.ref (G.2.1 0)] σ (some (.int v)) σ1 := c_X9_redo σ (v, σ1) e9
      have c10 : mj_C G l yX10_redo cX10_redo 1 (some .int) 1 [.ref (G.2.1 64)] σ1 (some (.int v)) σ2 := c_X10_redo σ1 (v, σ2) e10
      refine mj_aload_n C dL_law_1024 rfl ?_
      refine mj_callVi C c9 yv_X9_redo kl_L_122 (mo_0 G _) rfl rfl rfl rfl (Nat.le_of_ble_eq_true rfl) (lw_room (by decide) (by decide)) ⟨Nat.le_of_ble_eq_true rfl, Nat.le_of_ble_eq_true rfl⟩ dL_law_1025 ?_
      refine mj_aload_n C dL_law_1028 rfl ?_
      refine mj_callVi C c10 yv_X10_redo kl_L_125 (mo_64 G _) rfl rfl rfl rfl (Nat.le_of_ble_eq_true rfl) (lw_room (by decide) (by decide)) ⟨Nat.le_of_ble_eq_true rfl, Nat.le_of_ble_eq_true rfl⟩ dL_law_1029 ?_
      refine mj_ic_eq (r1 := ()) (r2 := ()) (r := ()) C dL_law_1032 rfl (ite_self _) (fun _ _ => ?_) (fun hc _ => absurd rfl hc)
      exact hgo σ2 hI2
    by_cases hw27 : x = 27
    · rw [hw27]
      refine mj_tsIn (off := 1004) C dL_law_33 (by decide) (by decide) (by rfl) rfl ?_
      obtain ⟨v, σ1, σ2, e9, e10, hI2⟩ := O_body σ a1 hI
      have c9 : mj_C G l yX9_body cX9_body 2 (some .int) 3 [.ref (G.2.1 0), .int a1] σ (some (.int v)) σ1 := c_X9_body σ a1 (v, σ1) e9
      have c10 : mj_C G l yX10_body cX10_body 2 (some .int) 2 [.ref (G.2.1 64), .int a1] σ1 (some (.int v)) σ2 := c_X10_body σ1 a1 (v, σ2) e10
      refine mj_aload_n C dL_law_1037 rfl ?_
      refine mj_aload_n C dL_law_1038 rfl ?_
      refine mj_iload_n C dL_law_1039 rfl ?_
      refine mj_iconstV (v := 1) C dL_law_1040 (by decide) ?_
      refine mj_iadd C dL_law_1041 ?_
      refine mj_sld C hX hbl hbA dL_law_1042 (lw_ix (i := i) (k := 1) (nI_add i 1) (by omega) hL) ?_
      rw [ha1]
      refine mj_callVi C c9 yv_X9_body kl_L_126 (mo_0 G _) rfl rfl rfl rfl (Nat.le_of_ble_eq_true rfl) (lw_room (by decide) (by decide)) ⟨Nat.le_of_ble_eq_true rfl, Nat.le_of_ble_eq_true rfl⟩ dL_law_1043 ?_
      refine mj_aload_n C dL_law_1046 rfl ?_
      refine mj_aload_n C dL_law_1047 rfl ?_
      refine mj_iload_n C dL_law_1048 rfl ?_
      refine mj_iconstV (v := 1) C dL_law_1049 (by decide) ?_
      refine mj_iadd C dL_law_1050 ?_
      refine mj_sld C hX hbl hbA dL_law_1051 (lw_ix (i := i) (k := 1) (nI_add i 1) (by omega) hL) ?_
      rw [ha1]
      refine mj_callVi C c10 yv_X10_body kl_L_129 (mo_64 G _) rfl rfl rfl rfl (Nat.le_of_ble_eq_true rfl) (lw_room (by decide) (by decide)) ⟨Nat.le_of_ble_eq_true rfl, Nat.le_of_ble_eq_true rfl⟩ dL_law_1052 ?_
      refine mj_ic_eq (r1 := ()) (r2 := ()) (r := ()) C dL_law_1055 rfl (ite_self _) (fun _ _ => ?_) (fun hc _ => absurd rfl hc)
      exact hgo σ2 hI2
    by_cases hw28 : x = 28
    · rw [hw28]
      refine mj_tsIn (off := 1027) C dL_law_33 (by decide) (by decide) (by rfl) rfl ?_
      obtain ⟨v, σ1, σ2, e9, e10, hI2⟩ := O_act σ a1 a2 a3 hI
      have c9 : mj_C G l yX9_act cX9_act 4 (some .int) 106 [.ref (G.2.1 0), .int a1, .int a2, .int a3] σ (some (.int v)) σ1 := c_X9_act σ a1 a2 a3 (v, σ1) e9
      have c10 : mj_C G l yX10_act cX10_act 4 (some .int) 406 [.ref (G.2.1 64), .int a1, .int a2, .int a3] σ1 (some (.int v)) σ2 := c_X10_act σ1 a1 a2 a3 (v, σ2) e10
      refine mj_aload_n C dL_law_1060 rfl ?_
      refine mj_aload_n C dL_law_1061 rfl ?_
      refine mj_iload_n C dL_law_1062 rfl ?_
      refine mj_iconstV (v := 1) C dL_law_1063 (by decide) ?_
      refine mj_iadd C dL_law_1064 ?_
      refine mj_sld C hX hbl hbA dL_law_1065 (lw_ix (i := i) (k := 1) (nI_add i 1) (by omega) hL) ?_
      rw [ha1]
      refine mj_aload_n C dL_law_1066 rfl ?_
      refine mj_iload_n C dL_law_1067 rfl ?_
      refine mj_iconstV (v := 2) C dL_law_1068 (by decide) ?_
      refine mj_iadd C dL_law_1069 ?_
      refine mj_sld C hX hbl hbA dL_law_1070 (lw_ix (i := i) (k := 2) (nI_add i 2) (by omega) hL) ?_
      rw [ha2]
      refine mj_aload_n C dL_law_1071 rfl ?_
      refine mj_iload_n C dL_law_1072 rfl ?_
      refine mj_iconstV (v := 3) C dL_law_1073 (by decide) ?_
      refine mj_iadd C dL_law_1074 ?_
      refine mj_sld C hX hbl hbA dL_law_1075 (lw_ix (i := i) (k := 3) (nI_add i 3) (by omega) hL) ?_
      rw [ha3]
      refine mj_callVi C c9 yv_X9_act kl_L_130 (mo_0 G _) rfl rfl rfl rfl (Nat.le_of_ble_eq_true rfl) (lw_room (by decide) (by decide)) ⟨Nat.le_of_ble_eq_true rfl, Nat.le_of_ble_eq_true rfl⟩ dL_law_1076 ?_
      refine mj_aload_n C dL_law_1079 rfl ?_
      refine mj_aload_n C dL_law_1080 rfl ?_
      refine mj_iload_n C dL_law_1081 rfl ?_
      refine mj_iconstV (v := 1) C dL_law_1082 (by decide) ?_
      refine mj_iadd C dL_law_1083 ?_
      refine mj_sld C hX hbl hbA dL_law_1084 (lw_ix (i := i) (k := 1) (nI_add i 1) (by omega) hL) ?_
      rw [ha1]
      refine mj_aload_n C dL_law_1085 rfl ?_
      refine mj_iload_n C dL_law_1086 rfl ?_
      refine mj_iconstV (v := 2) C dL_law_1087 (by decide) ?_
      refine mj_iadd C dL_law_1088 ?_
      refine mj_sld C hX hbl hbA dL_law_1089 (lw_ix (i := i) (k := 2) (nI_add i 2) (by omega) hL) ?_
      rw [ha2]
      refine mj_aload_n C dL_law_1090 rfl ?_
      refine mj_iload_n C dL_law_1091 rfl ?_
      refine mj_iconstV (v := 3) C dL_law_1092 (by decide) ?_
      refine mj_iadd C dL_law_1093 ?_
      refine mj_sld C hX hbl hbA dL_law_1094 (lw_ix (i := i) (k := 3) (nI_add i 3) (by omega) hL) ?_
      rw [ha3]
      refine mj_callVi C c10 yv_X10_act kl_L_133 (mo_64 G _) rfl rfl rfl rfl (Nat.le_of_ble_eq_true rfl) (lw_room (by decide) (by decide)) ⟨Nat.le_of_ble_eq_true rfl, Nat.le_of_ble_eq_true rfl⟩ dL_law_1095 ?_
      refine mj_ic_eq (r1 := ()) (r2 := ()) (r := ()) C dL_law_1098 rfl (ite_self _) (fun _ _ => ?_) (fun hc _ => absurd rfl hc)
      exact hgo σ2 hI2
    by_cases hw29 : x = 29
    · rw [hw29]
      refine mj_tsIn (off := 1070) C dL_law_33 (by decide) (by decide) (by rfl) rfl ?_
      obtain ⟨v, σ1, σ2, e9, e10, hI2⟩ := O_trace σ a1 hI
      have c9 : mj_C G l yX9_trace cX9_trace 2 (some .int) 2 [.ref (G.2.1 0), .int a1] σ (some (.int v)) σ1 := by
        obtain ⟨q1, q2⟩ := e9
        rw [q2]
        exact c_X9_trace σ a1 v q1
      have c10 : mj_C G l yX10_trace cX10_trace 2 (some .int) 1 [.ref (G.2.1 64), .int a1] σ1 (some (.int v)) σ2 := by
        obtain ⟨q1, q2⟩ := e10
        rw [q2]
        exact c_X10_trace σ1 a1 v q1
      refine mj_aload_n C dL_law_1103 rfl ?_
      refine mj_aload_n C dL_law_1104 rfl ?_
      refine mj_iload_n C dL_law_1105 rfl ?_
      refine mj_iconstV (v := 1) C dL_law_1106 (by decide) ?_
      refine mj_iadd C dL_law_1107 ?_
      refine mj_sld C hX hbl hbA dL_law_1108 (lw_ix (i := i) (k := 1) (nI_add i 1) (by omega) hL) ?_
      rw [ha1]
      refine mj_callVi C c9 yv_X9_trace kl_L_134 (mo_0 G _) rfl rfl rfl rfl (Nat.le_of_ble_eq_true rfl) (lw_room (by decide) (by decide)) ⟨Nat.le_of_ble_eq_true rfl, Nat.le_of_ble_eq_true rfl⟩ dL_law_1109 ?_
      refine mj_aload_n C dL_law_1112 rfl ?_
      refine mj_aload_n C dL_law_1113 rfl ?_
      refine mj_iload_n C dL_law_1114 rfl ?_
      refine mj_iconstV (v := 1) C dL_law_1115 (by decide) ?_
      refine mj_iadd C dL_law_1116 ?_
      refine mj_sld C hX hbl hbA dL_law_1117 (lw_ix (i := i) (k := 1) (nI_add i 1) (by omega) hL) ?_
      rw [ha1]
      refine mj_callVi C c10 yv_X10_trace kl_L_137 (mo_64 G _) rfl rfl rfl rfl (Nat.le_of_ble_eq_true rfl) (lw_room (by decide) (by decide)) ⟨Nat.le_of_ble_eq_true rfl, Nat.le_of_ble_eq_true rfl⟩ dL_law_1118 ?_
      refine mj_ic_eq (r1 := ()) (r2 := ()) (r := ()) C dL_law_1121 rfl (ite_self _) (fun _ _ => ?_) (fun hc _ => absurd rfl hc)
      exact hgo σ2 hI2
    by_cases hw30 : x = 30
    · rw [hw30]
      refine mj_tsIn (off := 1093) C dL_law_33 (by decide) (by decide) (by rfl) rfl ?_
      obtain ⟨v, σ1, σ2, e9, e10, hI2⟩ := O_keep σ a1 a2 hI
      have c9 : mj_C G l yX9_keep cX9_keep 3 (some .int) 3 [.ref (G.2.1 0), .int a1, .int a2] σ (some (.int v)) σ1 := c_X9_keep σ a1 a2 (v, σ1) e9
      have c10 : mj_C G l yX10_keep cX10_keep 3 (some .int) 3 [.ref (G.2.1 64), .int a1, .int a2] σ1 (some (.int v)) σ2 := c_X10_keep σ1 a1 a2 (v, σ2) e10
      refine mj_aload_n C dL_law_1126 rfl ?_
      refine mj_aload_n C dL_law_1127 rfl ?_
      refine mj_iload_n C dL_law_1128 rfl ?_
      refine mj_iconstV (v := 1) C dL_law_1129 (by decide) ?_
      refine mj_iadd C dL_law_1130 ?_
      refine mj_sld C hX hbl hbA dL_law_1131 (lw_ix (i := i) (k := 1) (nI_add i 1) (by omega) hL) ?_
      rw [ha1]
      refine mj_aload_n C dL_law_1132 rfl ?_
      refine mj_iload_n C dL_law_1133 rfl ?_
      refine mj_iconstV (v := 2) C dL_law_1134 (by decide) ?_
      refine mj_iadd C dL_law_1135 ?_
      refine mj_sld C hX hbl hbA dL_law_1136 (lw_ix (i := i) (k := 2) (nI_add i 2) (by omega) hL) ?_
      rw [ha2]
      refine mj_callVi C c9 yv_X9_keep kl_L_138 (mo_0 G _) rfl rfl rfl rfl (Nat.le_of_ble_eq_true rfl) (lw_room (by decide) (by decide)) ⟨Nat.le_of_ble_eq_true rfl, Nat.le_of_ble_eq_true rfl⟩ dL_law_1137 ?_
      refine mj_aload_n C dL_law_1140 rfl ?_
      refine mj_aload_n C dL_law_1141 rfl ?_
      refine mj_iload_n C dL_law_1142 rfl ?_
      refine mj_iconstV (v := 1) C dL_law_1143 (by decide) ?_
      refine mj_iadd C dL_law_1144 ?_
      refine mj_sld C hX hbl hbA dL_law_1145 (lw_ix (i := i) (k := 1) (nI_add i 1) (by omega) hL) ?_
      rw [ha1]
      refine mj_aload_n C dL_law_1146 rfl ?_
      refine mj_iload_n C dL_law_1147 rfl ?_
      refine mj_iconstV (v := 2) C dL_law_1148 (by decide) ?_
      refine mj_iadd C dL_law_1149 ?_
      refine mj_sld C hX hbl hbA dL_law_1150 (lw_ix (i := i) (k := 2) (nI_add i 2) (by omega) hL) ?_
      rw [ha2]
      refine mj_callVi C c10 yv_X10_keep kl_L_141 (mo_64 G _) rfl rfl rfl rfl (Nat.le_of_ble_eq_true rfl) (lw_room (by decide) (by decide)) ⟨Nat.le_of_ble_eq_true rfl, Nat.le_of_ble_eq_true rfl⟩ dL_law_1151 ?_
      refine mj_ic_eq (r1 := ()) (r2 := ()) (r := ()) C dL_law_1154 rfl (ite_self _) (fun _ _ => ?_) (fun hc _ => absurd rfl hc)
      exact hgo σ2 hI2
    by_cases hw31 : x = 31
    · rw [hw31]
      refine mj_tsIn (off := 1126) C dL_law_33 (by decide) (by decide) (by rfl) rfl ?_
      obtain ⟨v, σ1, σ2, e9, e10, hI2⟩ := O_row σ a1 a2 a3 hI
      have c9 : mj_C G l yX9_row cX9_row 4 (some .int) 3 [.ref (G.2.1 0), .int a1, .int a2, .int a3] σ (some (.int v)) σ1 := c_X9_row σ a1 a2 a3 (v, σ1) e9
      have c10 : mj_C G l yX10_row cX10_row 5 (some .int) 3 [.ref (G.2.1 64), .int a1, .int a2, .int a3] σ1 (some (.int v)) σ2 := c_X10_row σ1 a1 a2 a3 (v, σ2) e10
      refine mj_aload_n C dL_law_1159 rfl ?_
      refine mj_aload_n C dL_law_1160 rfl ?_
      refine mj_iload_n C dL_law_1161 rfl ?_
      refine mj_iconstV (v := 1) C dL_law_1162 (by decide) ?_
      refine mj_iadd C dL_law_1163 ?_
      refine mj_sld C hX hbl hbA dL_law_1164 (lw_ix (i := i) (k := 1) (nI_add i 1) (by omega) hL) ?_
      rw [ha1]
      refine mj_aload_n C dL_law_1165 rfl ?_
      refine mj_iload_n C dL_law_1166 rfl ?_
      refine mj_iconstV (v := 2) C dL_law_1167 (by decide) ?_
      refine mj_iadd C dL_law_1168 ?_
      refine mj_sld C hX hbl hbA dL_law_1169 (lw_ix (i := i) (k := 2) (nI_add i 2) (by omega) hL) ?_
      rw [ha2]
      refine mj_aload_n C dL_law_1170 rfl ?_
      refine mj_iload_n C dL_law_1171 rfl ?_
      refine mj_iconstV (v := 3) C dL_law_1172 (by decide) ?_
      refine mj_iadd C dL_law_1173 ?_
      refine mj_sld C hX hbl hbA dL_law_1174 (lw_ix (i := i) (k := 3) (nI_add i 3) (by omega) hL) ?_
      rw [ha3]
      refine mj_callVi C c9 yv_X9_row kl_L_142 (mo_0 G _) rfl rfl rfl rfl (Nat.le_of_ble_eq_true rfl) (lw_room (by decide) (by decide)) ⟨Nat.le_of_ble_eq_true rfl, Nat.le_of_ble_eq_true rfl⟩ dL_law_1175 ?_
      refine mj_aload_n C dL_law_1178 rfl ?_
      refine mj_aload_n C dL_law_1179 rfl ?_
      refine mj_iload_n C dL_law_1180 rfl ?_
      refine mj_iconstV (v := 1) C dL_law_1181 (by decide) ?_
      refine mj_iadd C dL_law_1182 ?_
      refine mj_sld C hX hbl hbA dL_law_1183 (lw_ix (i := i) (k := 1) (nI_add i 1) (by omega) hL) ?_
      rw [ha1]
      refine mj_aload_n C dL_law_1184 rfl ?_
      refine mj_iload_n C dL_law_1185 rfl ?_
      refine mj_iconstV (v := 2) C dL_law_1186 (by decide) ?_
      refine mj_iadd C dL_law_1187 ?_
      refine mj_sld C hX hbl hbA dL_law_1188 (lw_ix (i := i) (k := 2) (nI_add i 2) (by omega) hL) ?_
      rw [ha2]
      refine mj_aload_n C dL_law_1189 rfl ?_
      refine mj_iload_n C dL_law_1190 rfl ?_
      refine mj_iconstV (v := 3) C dL_law_1191 (by decide) ?_
      refine mj_iadd C dL_law_1192 ?_
      refine mj_sld C hX hbl hbA dL_law_1193 (lw_ix (i := i) (k := 3) (nI_add i 3) (by omega) hL) ?_
      rw [ha3]
      refine mj_callVi C c10 yv_X10_row kl_L_145 (mo_64 G _) rfl rfl rfl rfl (Nat.le_of_ble_eq_true rfl) (lw_room (by decide) (by decide)) ⟨Nat.le_of_ble_eq_true rfl, Nat.le_of_ble_eq_true rfl⟩ dL_law_1194 ?_
      refine mj_ic_eq (r1 := ()) (r2 := ()) (r := ()) C dL_law_1197 rfl (ite_self _) (fun _ _ => ?_) (fun hc _ => absurd rfl hc)
      exact hgo σ2 hI2
    by_cases hw32 : x = 32
    · rw [hw32]
      refine mj_tsIn (off := 1169) C dL_law_33 (by decide) (by decide) (by rfl) rfl ?_
      obtain ⟨v, σ1, σ2, e9, e10, hI2⟩ := O_put σ a1 a2 ((a3.toInt64 <<< ((32 : Int32).toInt64 &&& 63)) ||| (a4.toInt64 &&& 4294967295)) hI
      have c9 : mj_C G l yX9_put cX9_put 6 (some .int) 4 [.ref (G.2.1 0), .int a1, .int a2, .long ((a3.toInt64 <<< ((32 : Int32).toInt64 &&& 63)) ||| (a4.toInt64 &&& 4294967295))] σ (some (.int v)) σ1 := c_X9_put σ a1 a2 ((a3.toInt64 <<< ((32 : Int32).toInt64 &&& 63)) ||| (a4.toInt64 &&& 4294967295)) (v, σ1) e9
      have c10 : mj_C G l yX10_put cX10_put 6 (some .int) 4 [.ref (G.2.1 64), .int a1, .int a2, .long ((a3.toInt64 <<< ((32 : Int32).toInt64 &&& 63)) ||| (a4.toInt64 &&& 4294967295))] σ1 (some (.int v)) σ2 := c_X10_put σ1 a1 a2 ((a3.toInt64 <<< ((32 : Int32).toInt64 &&& 63)) ||| (a4.toInt64 &&& 4294967295)) (v, σ2) e10
      refine mj_aload_n C dL_law_1202 rfl ?_
      refine mj_aload_n C dL_law_1203 rfl ?_
      refine mj_iload_n C dL_law_1204 rfl ?_
      refine mj_iconstV (v := 1) C dL_law_1205 (by decide) ?_
      refine mj_iadd C dL_law_1206 ?_
      refine mj_sld C hX hbl hbA dL_law_1207 (lw_ix (i := i) (k := 1) (nI_add i 1) (by omega) hL) ?_
      rw [ha1]
      refine mj_aload_n C dL_law_1208 rfl ?_
      refine mj_iload_n C dL_law_1209 rfl ?_
      refine mj_iconstV (v := 2) C dL_law_1210 (by decide) ?_
      refine mj_iadd C dL_law_1211 ?_
      refine mj_sld C hX hbl hbA dL_law_1212 (lw_ix (i := i) (k := 2) (nI_add i 2) (by omega) hL) ?_
      rw [ha2]
      refine mj_aload_n C dL_law_1213 rfl ?_
      refine mj_iload_n C dL_law_1214 rfl ?_
      refine mj_iconstV (v := 3) C dL_law_1215 (by decide) ?_
      refine mj_iadd C dL_law_1216 ?_
      refine mj_sld C hX hbl hbA dL_law_1217 (lw_ix (i := i) (k := 3) (nI_add i 3) (by omega) hL) ?_
      rw [ha3]
      refine mj_i2l C dL_law_1218 ?_
      refine mj_bipushV (v := 32) C dL_law_1219 (by decide) ?_
      refine mj_lshl C dL_law_1221 ?_
      refine mj_aload_n C dL_law_1222 rfl ?_
      refine mj_iload_n C dL_law_1223 rfl ?_
      refine mj_iconstV (v := 4) C dL_law_1224 (by decide) ?_
      refine mj_iadd C dL_law_1225 ?_
      refine mj_sld C hX hbl hbA dL_law_1226 (lw_ix (i := i) (k := 4) (nI_add i 4) (by omega) hL) ?_
      rw [ha4]
      refine mj_i2l C dL_law_1227 ?_
      refine mj_ldc2 C dL_law_1228 kc_L_146 ?_
      refine mj_land C dL_law_1231 ?_
      refine mj_lor C dL_law_1232 ?_
      refine mj_callVi C c9 yv_X9_put kl_L_148 (mo_0 G _) rfl rfl rfl rfl (Nat.le_of_ble_eq_true rfl) (lw_room (by decide) (by decide)) ⟨Nat.le_of_ble_eq_true rfl, Nat.le_of_ble_eq_true rfl⟩ dL_law_1233 ?_
      refine mj_aload_n C dL_law_1236 rfl ?_
      refine mj_aload_n C dL_law_1237 rfl ?_
      refine mj_iload_n C dL_law_1238 rfl ?_
      refine mj_iconstV (v := 1) C dL_law_1239 (by decide) ?_
      refine mj_iadd C dL_law_1240 ?_
      refine mj_sld C hX hbl hbA dL_law_1241 (lw_ix (i := i) (k := 1) (nI_add i 1) (by omega) hL) ?_
      rw [ha1]
      refine mj_aload_n C dL_law_1242 rfl ?_
      refine mj_iload_n C dL_law_1243 rfl ?_
      refine mj_iconstV (v := 2) C dL_law_1244 (by decide) ?_
      refine mj_iadd C dL_law_1245 ?_
      refine mj_sld C hX hbl hbA dL_law_1246 (lw_ix (i := i) (k := 2) (nI_add i 2) (by omega) hL) ?_
      rw [ha2]
      refine mj_aload_n C dL_law_1247 rfl ?_
      refine mj_iload_n C dL_law_1248 rfl ?_
      refine mj_iconstV (v := 3) C dL_law_1249 (by decide) ?_
      refine mj_iadd C dL_law_1250 ?_
      refine mj_sld C hX hbl hbA dL_law_1251 (lw_ix (i := i) (k := 3) (nI_add i 3) (by omega) hL) ?_
      rw [ha3]
      refine mj_i2l C dL_law_1252 ?_
      refine mj_bipushV (v := 32) C dL_law_1253 (by decide) ?_
      refine mj_lshl C dL_law_1255 ?_
      refine mj_aload_n C dL_law_1256 rfl ?_
      refine mj_iload_n C dL_law_1257 rfl ?_
      refine mj_iconstV (v := 4) C dL_law_1258 (by decide) ?_
      refine mj_iadd C dL_law_1259 ?_
      refine mj_sld C hX hbl hbA dL_law_1260 (lw_ix (i := i) (k := 4) (nI_add i 4) (by omega) hL) ?_
      rw [ha4]
      refine mj_i2l C dL_law_1261 ?_
      refine mj_ldc2 C dL_law_1262 kc_L_146 ?_
      refine mj_land C dL_law_1265 ?_
      refine mj_lor C dL_law_1266 ?_
      refine mj_callVi C c10 yv_X10_put kl_L_152 (mo_64 G _) rfl rfl rfl rfl (Nat.le_of_ble_eq_true rfl) (lw_room (by decide) (by decide)) ⟨Nat.le_of_ble_eq_true rfl, Nat.le_of_ble_eq_true rfl⟩ dL_law_1267 ?_
      refine mj_ic_eq (r1 := ()) (r2 := ()) (r := ()) C dL_law_1270 rfl (ite_self _) (fun _ _ => ?_) (fun hc _ => absurd rfl hc)
      exact hgo σ2 hI2
    by_cases hw33 : x = 33
    · rw [hw33]
      refine mj_tsIn (off := 1242) C dL_law_33 (by decide) (by decide) (by rfl) rfl ?_
      obtain ⟨v, σ1, σ2, e9, e10, hI2⟩ := O_element σ a1 a2 hI
      have c9 : mj_C G l yX9_element cX9_element 3 (some .long) 4 [.ref (G.2.1 0), .int a1, .int a2] σ (some (.long v)) σ1 := by
        obtain ⟨q1, q2⟩ := e9
        rw [q2]
        exact c_X9_element σ a1 a2 v q1
      have c10 : mj_C G l yX10_element cX10_element 3 (some .long) 4 [.ref (G.2.1 64), .int a1, .int a2] σ1 (some (.long v)) σ2 := by
        obtain ⟨q1, q2⟩ := e10
        rw [q2]
        exact c_X10_element σ1 a1 a2 v q1
      refine mj_aload_n C dL_law_1275 rfl ?_
      refine mj_aload_n C dL_law_1276 rfl ?_
      refine mj_iload_n C dL_law_1277 rfl ?_
      refine mj_iconstV (v := 1) C dL_law_1278 (by decide) ?_
      refine mj_iadd C dL_law_1279 ?_
      refine mj_sld C hX hbl hbA dL_law_1280 (lw_ix (i := i) (k := 1) (nI_add i 1) (by omega) hL) ?_
      rw [ha1]
      refine mj_aload_n C dL_law_1281 rfl ?_
      refine mj_iload_n C dL_law_1282 rfl ?_
      refine mj_iconstV (v := 2) C dL_law_1283 (by decide) ?_
      refine mj_iadd C dL_law_1284 ?_
      refine mj_sld C hX hbl hbA dL_law_1285 (lw_ix (i := i) (k := 2) (nI_add i 2) (by omega) hL) ?_
      rw [ha2]
      refine mj_callVl C c9 yv_X9_element kl_L_153 (mo_0 G _) rfl rfl rfl rfl (Nat.le_of_ble_eq_true rfl) (lw_room (by decide) (by decide)) ⟨Nat.le_of_ble_eq_true rfl, Nat.le_of_ble_eq_true rfl⟩ dL_law_1286 ?_
      refine mj_aload_n C dL_law_1289 rfl ?_
      refine mj_aload_n C dL_law_1290 rfl ?_
      refine mj_iload_n C dL_law_1291 rfl ?_
      refine mj_iconstV (v := 1) C dL_law_1292 (by decide) ?_
      refine mj_iadd C dL_law_1293 ?_
      refine mj_sld C hX hbl hbA dL_law_1294 (lw_ix (i := i) (k := 1) (nI_add i 1) (by omega) hL) ?_
      rw [ha1]
      refine mj_aload_n C dL_law_1295 rfl ?_
      refine mj_iload_n C dL_law_1296 rfl ?_
      refine mj_iconstV (v := 2) C dL_law_1297 (by decide) ?_
      refine mj_iadd C dL_law_1298 ?_
      refine mj_sld C hX hbl hbA dL_law_1299 (lw_ix (i := i) (k := 2) (nI_add i 2) (by omega) hL) ?_
      rw [ha2]
      refine mj_callVl C c10 yv_X10_element kl_L_157 (mo_64 G _) rfl rfl rfl rfl (Nat.le_of_ble_eq_true rfl) (lw_room (by decide) (by decide)) ⟨Nat.le_of_ble_eq_true rfl, Nat.le_of_ble_eq_true rfl⟩ dL_law_1300 ?_
      refine mj_lcmp C dL_law_1303 ?_
      refine mj_if_eq (r1 := ()) (r2 := ()) (r := ()) C dL_law_1304 rfl (ite_self _) (fun _ _ => ?_) (fun hc _ => absurd (by simp [lg_cmp]) hc)
      exact hgo σ2 hI2
    by_cases hw34 : x = 34
    · rw [hw34]
      refine mj_tsIn (off := 1276) C dL_law_33 (by decide) (by decide) (by rfl) rfl ?_
      obtain ⟨v, σ1, σ2, e9, e10, hI2⟩ := O_shift σ a1 a2 a3 a4 a5 hI
      have c9 : mj_C G l yX9_shift cX9_shift 6 (some .int) 4 [.ref (G.2.1 0), .int a1, .int a2, .int a3, .int a4, .int a5] σ (some (.int v)) σ1 := c_X9_shift σ a1 a2 a3 a4 a5 (v, σ1) e9
      have c10 : mj_C G l yX10_shift cX10_shift 7 (some .int) 3 [.ref (G.2.1 64), .int a1, .int a2, .int a3, .int a4, .int a5] σ1 (some (.int v)) σ2 := c_X10_shift σ1 a1 a2 a3 a4 a5 (v, σ2) e10
      refine mj_aload_n C dL_law_1309 rfl ?_
      refine mj_aload_n C dL_law_1310 rfl ?_
      refine mj_iload_n C dL_law_1311 rfl ?_
      refine mj_iconstV (v := 1) C dL_law_1312 (by decide) ?_
      refine mj_iadd C dL_law_1313 ?_
      refine mj_sld C hX hbl hbA dL_law_1314 (lw_ix (i := i) (k := 1) (nI_add i 1) (by omega) hL) ?_
      rw [ha1]
      refine mj_aload_n C dL_law_1315 rfl ?_
      refine mj_iload_n C dL_law_1316 rfl ?_
      refine mj_iconstV (v := 2) C dL_law_1317 (by decide) ?_
      refine mj_iadd C dL_law_1318 ?_
      refine mj_sld C hX hbl hbA dL_law_1319 (lw_ix (i := i) (k := 2) (nI_add i 2) (by omega) hL) ?_
      rw [ha2]
      refine mj_aload_n C dL_law_1320 rfl ?_
      refine mj_iload_n C dL_law_1321 rfl ?_
      refine mj_iconstV (v := 3) C dL_law_1322 (by decide) ?_
      refine mj_iadd C dL_law_1323 ?_
      refine mj_sld C hX hbl hbA dL_law_1324 (lw_ix (i := i) (k := 3) (nI_add i 3) (by omega) hL) ?_
      rw [ha3]
      refine mj_aload_n C dL_law_1325 rfl ?_
      refine mj_iload_n C dL_law_1326 rfl ?_
      refine mj_iconstV (v := 4) C dL_law_1327 (by decide) ?_
      refine mj_iadd C dL_law_1328 ?_
      refine mj_sld C hX hbl hbA dL_law_1329 (lw_ix (i := i) (k := 4) (nI_add i 4) (by omega) hL) ?_
      rw [ha4]
      refine mj_aload_n C dL_law_1330 rfl ?_
      refine mj_iload_n C dL_law_1331 rfl ?_
      refine mj_iconstV (v := 5) C dL_law_1332 (by decide) ?_
      refine mj_iadd C dL_law_1333 ?_
      refine mj_sld C hX hbl hbA dL_law_1334 (lw_ix (i := i) (k := 5) (nI_add i 5) (by omega) hL) ?_
      rw [ha5]
      refine mj_callVi C c9 yv_X9_shift kl_L_158 (mo_0 G _) rfl rfl rfl rfl (Nat.le_of_ble_eq_true rfl) (lw_room (by decide) (by decide)) ⟨Nat.le_of_ble_eq_true rfl, Nat.le_of_ble_eq_true rfl⟩ dL_law_1335 ?_
      refine mj_aload_n C dL_law_1338 rfl ?_
      refine mj_aload_n C dL_law_1339 rfl ?_
      refine mj_iload_n C dL_law_1340 rfl ?_
      refine mj_iconstV (v := 1) C dL_law_1341 (by decide) ?_
      refine mj_iadd C dL_law_1342 ?_
      refine mj_sld C hX hbl hbA dL_law_1343 (lw_ix (i := i) (k := 1) (nI_add i 1) (by omega) hL) ?_
      rw [ha1]
      refine mj_aload_n C dL_law_1344 rfl ?_
      refine mj_iload_n C dL_law_1345 rfl ?_
      refine mj_iconstV (v := 2) C dL_law_1346 (by decide) ?_
      refine mj_iadd C dL_law_1347 ?_
      refine mj_sld C hX hbl hbA dL_law_1348 (lw_ix (i := i) (k := 2) (nI_add i 2) (by omega) hL) ?_
      rw [ha2]
      refine mj_aload_n C dL_law_1349 rfl ?_
      refine mj_iload_n C dL_law_1350 rfl ?_
      refine mj_iconstV (v := 3) C dL_law_1351 (by decide) ?_
      refine mj_iadd C dL_law_1352 ?_
      refine mj_sld C hX hbl hbA dL_law_1353 (lw_ix (i := i) (k := 3) (nI_add i 3) (by omega) hL) ?_
      rw [ha3]
      refine mj_aload_n C dL_law_1354 rfl ?_
      refine mj_iload_n C dL_law_1355 rfl ?_
      refine mj_iconstV (v := 4) C dL_law_1356 (by decide) ?_
      refine mj_iadd C dL_law_1357 ?_
      refine mj_sld C hX hbl hbA dL_law_1358 (lw_ix (i := i) (k := 4) (nI_add i 4) (by omega) hL) ?_
      rw [ha4]
      refine mj_aload_n C dL_law_1359 rfl ?_
      refine mj_iload_n C dL_law_1360 rfl ?_
      refine mj_iconstV (v := 5) C dL_law_1361 (by decide) ?_
      refine mj_iadd C dL_law_1362 ?_
      refine mj_sld C hX hbl hbA dL_law_1363 (lw_ix (i := i) (k := 5) (nI_add i 5) (by omega) hL) ?_
      rw [ha5]
      refine mj_callVi C c10 yv_X10_shift kl_L_162 (mo_64 G _) rfl rfl rfl rfl (Nat.le_of_ble_eq_true rfl) (lw_room (by decide) (by decide)) ⟨Nat.le_of_ble_eq_true rfl, Nat.le_of_ble_eq_true rfl⟩ dL_law_1364 ?_
      refine mj_ic_eq (r1 := ()) (r2 := ()) (r := ()) C dL_law_1367 rfl (ite_self _) (fun _ _ => ?_) (fun hc _ => absurd rfl hc)
      exact hgo σ2 hI2
    by_cases hw35 : x = 35
    · rw [hw35]
      refine mj_tsIn (off := 1339) C dL_law_33 (by decide) (by decide) (by rfl) rfl ?_
      obtain ⟨v, σ1, σ2, e9, e10, hI2⟩ := O_taken σ a1 a2 hI
      have c9 : mj_C G l yX9_taken cX9_taken 4 (some .int) 4 [.ref (G.2.1 0), .int a1, .int a2] σ (some (.int v)) σ1 := by
        obtain ⟨q1, q2⟩ := e9
        rw [q2]
        exact c_X9_taken σ a1 a2 v q1
      have c10 : mj_C G l yX10_taken cX10_taken 4 (some .int) 3 [.ref (G.2.1 64), .int a1, .int a2] σ1 (some (.int v)) σ2 := by
        obtain ⟨q1, q2⟩ := e10
        rw [q2]
        exact c_X10_taken σ1 a1 a2 v q1
      refine mj_aload_n C dL_law_1372 rfl ?_
      refine mj_aload_n C dL_law_1373 rfl ?_
      refine mj_iload_n C dL_law_1374 rfl ?_
      refine mj_iconstV (v := 1) C dL_law_1375 (by decide) ?_
      refine mj_iadd C dL_law_1376 ?_
      refine mj_sld C hX hbl hbA dL_law_1377 (lw_ix (i := i) (k := 1) (nI_add i 1) (by omega) hL) ?_
      rw [ha1]
      refine mj_aload_n C dL_law_1378 rfl ?_
      refine mj_iload_n C dL_law_1379 rfl ?_
      refine mj_iconstV (v := 2) C dL_law_1380 (by decide) ?_
      refine mj_iadd C dL_law_1381 ?_
      refine mj_sld C hX hbl hbA dL_law_1382 (lw_ix (i := i) (k := 2) (nI_add i 2) (by omega) hL) ?_
      rw [ha2]
      refine mj_callVi C c9 yv_X9_taken kl_L_163 (mo_0 G _) rfl rfl rfl rfl (Nat.le_of_ble_eq_true rfl) (lw_room (by decide) (by decide)) ⟨Nat.le_of_ble_eq_true rfl, Nat.le_of_ble_eq_true rfl⟩ dL_law_1383 ?_
      refine mj_aload_n C dL_law_1386 rfl ?_
      refine mj_aload_n C dL_law_1387 rfl ?_
      refine mj_iload_n C dL_law_1388 rfl ?_
      refine mj_iconstV (v := 1) C dL_law_1389 (by decide) ?_
      refine mj_iadd C dL_law_1390 ?_
      refine mj_sld C hX hbl hbA dL_law_1391 (lw_ix (i := i) (k := 1) (nI_add i 1) (by omega) hL) ?_
      rw [ha1]
      refine mj_aload_n C dL_law_1392 rfl ?_
      refine mj_iload_n C dL_law_1393 rfl ?_
      refine mj_iconstV (v := 2) C dL_law_1394 (by decide) ?_
      refine mj_iadd C dL_law_1395 ?_
      refine mj_sld C hX hbl hbA dL_law_1396 (lw_ix (i := i) (k := 2) (nI_add i 2) (by omega) hL) ?_
      rw [ha2]
      refine mj_callVi C c10 yv_X10_taken kl_L_166 (mo_64 G _) rfl rfl rfl rfl (Nat.le_of_ble_eq_true rfl) (lw_room (by decide) (by decide)) ⟨Nat.le_of_ble_eq_true rfl, Nat.le_of_ble_eq_true rfl⟩ dL_law_1397 ?_
      refine mj_ic_eq (r1 := ()) (r2 := ()) (r := ()) C dL_law_1400 rfl (ite_self _) (fun _ _ => ?_) (fun hc _ => absurd rfl hc)
      exact hgo σ2 hI2
    by_cases hw36 : x = 36
    · rw [hw36]
      refine mj_tsIn (off := 1372) C dL_law_33 (by decide) (by decide) (by rfl) rfl ?_
      obtain ⟨v, σ1, σ2, e9, e10, hI2⟩ := O_count σ a1 hI
      have c9 : mj_C G l yX9_count cX9_count 2 (some .int) 2 [.ref (G.2.1 0), .int a1] σ (some (.int v)) σ1 := by
        obtain ⟨q1, q2⟩ := e9
        have q := c_X9_count (G := G) (l := l) σ a1
        rw [q1] at q
        rw [q2]
        exact q
      have c10 : mj_C G l yX10_count cX10_count 2 (some .int) 1 [.ref (G.2.1 64), .int a1] σ1 (some (.int v)) σ2 := by
        obtain ⟨q1, q2⟩ := e10
        have q := c_X10_count (G := G) (l := l) σ1 a1
        rw [q1] at q
        rw [q2]
        exact q
      refine mj_aload_n C dL_law_1405 rfl ?_
      refine mj_aload_n C dL_law_1406 rfl ?_
      refine mj_iload_n C dL_law_1407 rfl ?_
      refine mj_iconstV (v := 1) C dL_law_1408 (by decide) ?_
      refine mj_iadd C dL_law_1409 ?_
      refine mj_sld C hX hbl hbA dL_law_1410 (lw_ix (i := i) (k := 1) (nI_add i 1) (by omega) hL) ?_
      rw [ha1]
      refine mj_callVi C c9 yv_X9_count kl_L_167 (mo_0 G _) rfl rfl rfl rfl (Nat.le_of_ble_eq_true rfl) (lw_room (by decide) (by decide)) ⟨Nat.le_of_ble_eq_true rfl, Nat.le_of_ble_eq_true rfl⟩ dL_law_1411 ?_
      refine mj_aload_n C dL_law_1414 rfl ?_
      refine mj_aload_n C dL_law_1415 rfl ?_
      refine mj_iload_n C dL_law_1416 rfl ?_
      refine mj_iconstV (v := 1) C dL_law_1417 (by decide) ?_
      refine mj_iadd C dL_law_1418 ?_
      refine mj_sld C hX hbl hbA dL_law_1419 (lw_ix (i := i) (k := 1) (nI_add i 1) (by omega) hL) ?_
      rw [ha1]
      refine mj_callVi C c10 yv_X10_count kl_L_170 (mo_64 G _) rfl rfl rfl rfl (Nat.le_of_ble_eq_true rfl) (lw_room (by decide) (by decide)) ⟨Nat.le_of_ble_eq_true rfl, Nat.le_of_ble_eq_true rfl⟩ dL_law_1420 ?_
      refine mj_ic_eq (r1 := ()) (r2 := ()) (r := ()) C dL_law_1423 rfl (ite_self _) (fun _ _ => ?_) (fun hc _ => absurd rfl hc)
      exact hgo σ2 hI2
    refine mj_tsOut C dL_law_33 (mj_sw_law hw0 hw1 hw2 hw3 hw4 hw5 hw6 hw7 hw8 hw9 hw10 hw11 hw12 hw13 hw14 hw15 hw16 hw17 hw18 hw19 hw20 hw21 hw22 hw23 hw24 hw25 hw26 hw27 hw28 hw29 hw30 hw31 hw32 hw33 hw34 hw35 hw36) rfl ?_
    exact hgo σ hI
/-- the state of both systems behind the constructors -/
def mj_s0 : mj_S := (fun k => if k = 35 then (fun j => if j = 5 then (-1) else 0) else if k = 40 then (fun j => if j = 2 then (-1) else if j = 3 then (-1) else 0) else if k = 54 then ((upd (upd (upd (upd (upd (upd (fun _ => 0) 0 (-1)) 1 (-1)) 2 (-1)) 3 (-1)) 4 (-1)) 5 (-1))) else if k = 55 then ((upd (upd (upd (upd (upd (upd (fun _ => 0) 0 (-1)) 1 (-1)) 2 (-1)) 3 (-1)) 4 (-1)) 5 (-1))) else if k = 64 then (fun j => if j = 18 then (-1) else if j = 30 then (-1) else 0) else if k = 87 then ((upd (upd (upd (upd (upd (upd (fun _ => 0) 0 (-1)) 1 (-1)) 2 (-1)) 3 (-1)) 4 (-1)) 5 (-1))) else (fun _ => 0), fun _ _ => 0)
def mj_ad (ts : Nat × Nat × Nat × Nat) (as : List Nat) : Nat → Nat := fun k => if k = 1000 then ts.1 else if k = 1001 then ts.2.1 else if k = 1002 then ts.2.2.1 else if k = 1003 then ts.2.2.2 else as.getD k 0
set_option maxRecDepth 100000 in
set_option maxHeartbeats 20000000 in
theorem mj_wd0 (D : va_G) (cy : Nat → ClassId) (A : Nat → Prop) (ts : Nat × Nat × Nat × Nat) (G0 : mj_G) (hG0 : G0.2.2.1 = cy) (u u1 u2 u3 u4 u5 u6 u7 u8 u9 u10 u11 u12 u13 u14 u15 u16 u17 u18 u19 u20 u21 u22 u23 u24 u25 u26 u27 u28 u29 u30 u31 u32 u33 u34 u35 u36 u37 u38 u39 u40 u41 u42 u43 u44 u45 w w1 w2 w3 w4 w5 w6 w7 w8 w9 w10 w11 w12 w13 w14 w15 w16 w17 w18 w19 w20 w21 w22 w23 w24 w25 w26 : Nat) : ([] : va_W) ++ ([(u, .inr (9, [.ref u1, .ref u5, .ref u9, .ref u23, .ref u28, .ref u32, .ref u33, .ref u38, .ref u41])), (u1, .inr (4, [.ref u2, .ref u3, .ref u4, .int 0, .int 0, .int 0])), (u2, .inl (G0.2.2.1 0, 121, .inl (fun _ => 0))), (u3, .inl (G0.2.2.1 0, 121, .inl (fun _ => 0))), (u4, .inl (G0.2.2.1 0, 121, .inl (fun _ => 0))), (u5, .inr (7, [.ref u6, .ref u7, .ref u8, .int 0, .int 0, .int 0])), (u6, .inl (G0.2.2.1 0, 120, .inl (fun _ => 0))), (u7, .inl (G0.2.2.1 0, 121, .inl (fun _ => 0))), (u8, .inl (G0.2.2.1 0, 121, .inl (fun _ => 0))), (u9, .inr (2, [.ref u1, .ref u10, .ref u11, .ref u12, .ref u13, .ref u14, .int 0, .ref u15, .ref u16, .ref u17, .int 0, .ref u18, .ref u19, .ref u20, .ref u21, .ref u22])), (u10, .inl (G0.2.2.1 0, 6, .inl (fun _ => 0))), (u11, .inl (G0.2.2.1 0, 6, .inl (fun _ => 0))), (u12, .inl (G0.2.2.1 0, 6, .inl (fun _ => 0))), (u13, .inl (G0.2.2.1 0, 6, .inl (fun _ => 0))), (u14, .inl (G0.2.2.1 0, 6, .inl (fun _ => 0))), (u15, .inl (G0.2.2.1 0, 600, .inl (fun _ => 0))), (u16, .inl (G0.2.2.1 0, 600, .inl (fun _ => 0))), (u17, .inl (G0.2.2.1 0, 600, .inl (fun _ => 0))), (u18, .inl (G0.2.2.1 3, 6, .inr (.inr (.inr (.inr (fun i => if i < 6 then some (u18 + 1 + i) else none)))))), ((u18 + 1 + 0), .inl (G0.2.2.1 0, 600, .inl (fun _ => 0))), ((u18 + 1 + 1), .inl (G0.2.2.1 0, 600, .inl (fun _ => 0))), ((u18 + 1 + 2), .inl (G0.2.2.1 0, 600, .inl (fun _ => 0))), ((u18 + 1 + 3), .inl (G0.2.2.1 0, 600, .inl (fun _ => 0))), ((u18 + 1 + 4), .inl (G0.2.2.1 0, 600, .inl (fun _ => 0))), ((u18 + 1 + 5), .inl (G0.2.2.1 0, 600, .inl (fun _ => 0))), (u19, .inl (G0.2.2.1 3, 6, .inr (.inr (.inr (.inr (fun i => if i < 6 then some (u19 + 1 + i) else none)))))), ((u19 + 1 + 0), .inl (G0.2.2.1 0, 600, .inl (fun _ => 0))), ((u19 + 1 + 1), .inl (G0.2.2.1 0, 600, .inl (fun _ => 0))), ((u19 + 1 + 2), .inl (G0.2.2.1 0, 600, .inl (fun _ => 0))), ((u19 + 1 + 3), .inl (G0.2.2.1 0, 600, .inl (fun _ => 0))), ((u19 + 1 + 4), .inl (G0.2.2.1 0, 600, .inl (fun _ => 0))), ((u19 + 1 + 5), .inl (G0.2.2.1 0, 600, .inl (fun _ => 0))), (u20, .inl (G0.2.2.1 0, 600, .inl (fun _ => 0))), (u21, .inl (G0.2.2.1 2, 6, .inl (fun _ => 0))), (u22, .inl (G0.2.2.1 0, 7, .inl (fun _ => 0))), (u23, .inr (5, [.ref u24, .ref u25, .ref u26, .ref u27, .int 0, .int (-1), .int 0])), (u24, .inl (G0.2.2.1 0, 30, .inl (fun _ => 0))), (u25, .inl (G0.2.2.1 0, 30, .inl (fun _ => 0))), (u26, .inl (G0.2.2.1 0, 30, .inl (fun _ => 0))), (u27, .inl (G0.2.2.1 0, 30, .inl (fun _ => 0))), (u28, .inr (3, [.ref u9, .ref u23, .int (-1), .int (-1), .int 0, .ref u29, .int 0, .ref u30, .ref u31, .int 0])), (u29, .inl (G0.2.2.1 0, 4, .inl (fun _ => 0))), (u30, .inl (G0.2.2.1 0, 4, .inl (fun _ => 0))), (u31, .inl (G0.2.2.1 0, 4, .inl (fun _ => 0))), (u32, .inr (6, [.ref u9])), (u33, .inr (1, [.ref u9, .ref u23, .ref u34, .ref u35, .ref u36, .ref u37, .int 0, .int 0])), (u34, .inl (G0.2.2.1 0, 40, .inl (fun _ => 0))), (u35, .inl (G0.2.2.1 0, 40, .inl (fun _ => 0))), (u36, .inl (G0.2.2.1 0, 40, .inl (fun _ => 0))), (u37, .inl (G0.2.2.1 0, 40, .inl (fun _ => 0))), (u38, .inr (0, [.ref u39, .int 0, .ref u40, .int 0, .int 0, .int 0])), (u39, .inl (G0.2.2.1 0, 50, .inl (fun _ => 0))), (u40, .inl (G0.2.2.1 0, 24, .inl (fun _ => 0))), (u41, .inr (8, [.ref u42, .ref u43, .ref u44, .ref u45])), (u42, .inl (G0.2.2.1 0, 6, .inl (upd (upd (upd (upd (upd (upd (fun _ => 0) 0 (-1)) 1 (-1)) 2 (-1)) 3 (-1)) 4 (-1)) 5 (-1)))), (u43, .inl (G0.2.2.1 0, 6, .inl (upd (upd (upd (upd (upd (upd (fun _ => 0) 0 (-1)) 1 (-1)) 2 (-1)) 3 (-1)) 4 (-1)) 5 (-1)))), (u44, .inl (G0.2.2.1 0, 6, .inl (fun _ => 0))), (u45, .inl (G0.2.2.1 4, 6, .inr (.inr (.inr (.inr (fun i => if i < 6 then some (u45 + 1 + i) else none)))))), ((u45 + 1 + 0), .inl (G0.2.2.1 1, 60, .inr (.inl (fun _ => 0)))), ((u45 + 1 + 1), .inl (G0.2.2.1 1, 60, .inr (.inl (fun _ => 0)))), ((u45 + 1 + 2), .inl (G0.2.2.1 1, 60, .inr (.inl (fun _ => 0)))), ((u45 + 1 + 3), .inl (G0.2.2.1 1, 60, .inr (.inl (fun _ => 0)))), ((u45 + 1 + 4), .inl (G0.2.2.1 1, 60, .inr (.inl (fun _ => 0)))), ((u45 + 1 + 5), .inl (G0.2.2.1 1, 60, .inr (.inl (fun _ => 0))))] ++ [(w, .inr (10, [.ref w1, .ref w2, .ref w3, .ref w4, .int 0, .int 0, .int 0, .int 0, .ref w5, .ref w6, .ref w7, .int 0, .ref w8, .ref w9, .ref w10, .ref w11, .int 0, .ref w12, .int (-1), .int 0, .int 0, .int 0, .int 0, .int 0, .ref w13, .ref w14, .int 0, .ref w15, .ref w16, .ref w17, .int (-1), .int 0, .int 0, .int 0, .ref w18, .ref w19, .ref w20, .int 0, .int 0, .ref w21, .ref w22, .int 0, .int 0, .int 0, .ref w23, .ref w24, .ref w25, .ref w26])), (w1, .inl (G0.2.2.1 0, 72, .inl (fun _ => 0))), (w2, .inl (G0.2.2.1 0, 40, .inl (fun _ => 0))), (w3, .inl (G0.2.2.1 0, 40, .inl (fun _ => 0))), (w4, .inl (G0.2.2.1 0, 40, .inl (fun _ => 0))), (w5, .inl (G0.2.2.1 0, 7, .inl (fun _ => 0))), (w6, .inl (G0.2.2.1 0, 7, .inl (fun _ => 0))), (w7, .inl (G0.2.2.1 0, 7, .inl (fun _ => 0))), (w8, .inl (G0.2.2.1 0, 11, .inl (fun _ => 0))), (w9, .inl (G0.2.2.1 0, 11, .inl (fun _ => 0))), (w10, .inl (G0.2.2.1 0, 11, .inl (fun _ => 0))), (w11, .inl (G0.2.2.1 0, 120, .inl (fun _ => 0))), (w12, .inl (G0.2.2.1 0, 120, .inl (fun _ => 0))), (w13, .inl (G0.2.2.1 0, 7, .inl (fun _ => 0))), (w14, .inl (G0.2.2.1 0, 4200, .inl (fun _ => 0))), (w15, .inl (G0.2.2.1 0, 30, .inl (fun _ => 0))), (w16, .inl (G0.2.2.1 0, 30, .inl (fun _ => 0))), (w17, .inl (G0.2.2.1 2, 30, .inl (fun _ => 0))), (w18, .inl (G0.2.2.1 0, 4, .inl (fun _ => 0))), (w19, .inl (G0.2.2.1 0, 4, .inl (fun _ => 0))), (w20, .inl (G0.2.2.1 0, 4, .inl (fun _ => 0))), (w21, .inl (G0.2.2.1 0, 50, .inl (fun _ => 0))), (w22, .inl (G0.2.2.1 0, 24, .inl (fun _ => 0))), (w23, .inl (G0.2.2.1 0, 6, .inl (upd (upd (upd (upd (upd (upd (fun _ => 0) 0 (-1)) 1 (-1)) 2 (-1)) 3 (-1)) 4 (-1)) 5 (-1)))), (w24, .inl (G0.2.2.1 0, 6, .inl (fun _ => 0))), (w25, .inl (G0.2.2.1 1, 360, .inr (.inl (fun _ => 0)))), (w26, .inl (G0.2.2.1 1, 60, .inr (.inl (fun _ => 0))))]) = mj_wd (D, mj_ad ts [u, u1, u2, u3, u4, u5, u6, u7, u8, u9, u10, u11, u12, u13, u14, u15, u16, u17, u18, (u18 + 1 + 0), (u18 + 1 + 1), (u18 + 1 + 2), (u18 + 1 + 3), (u18 + 1 + 4), (u18 + 1 + 5), u19, (u19 + 1 + 0), (u19 + 1 + 1), (u19 + 1 + 2), (u19 + 1 + 3), (u19 + 1 + 4), (u19 + 1 + 5), u20, u21, u22, u23, u24, u25, u26, u27, u28, u29, u30, u31, u32, u33, u34, u35, u36, u37, u38, u39, u40, u41, u42, u43, u44, u45, (u45 + 1 + 0), (u45 + 1 + 1), (u45 + 1 + 2), (u45 + 1 + 3), (u45 + 1 + 4), (u45 + 1 + 5), w, w1, w2, w3, w4, w5, w6, w7, w8, w9, w10, w11, w12, w13, w14, w15, w16, w17, w18, w19, w20, w21, w22, w23, w24, w25, w26], cy, A) mj_s0 := by
  rw [hG0]
  have e18 : (fun i => if i < 6 then some (u18 + 1 + i) else none) = (fun j => if j < 6 then some (mj_ad ts [u, u1, u2, u3, u4, u5, u6, u7, u8, u9, u10, u11, u12, u13, u14, u15, u16, u17, u18, (u18 + 1 + 0), (u18 + 1 + 1), (u18 + 1 + 2), (u18 + 1 + 3), (u18 + 1 + 4), (u18 + 1 + 5), u19, (u19 + 1 + 0), (u19 + 1 + 1), (u19 + 1 + 2), (u19 + 1 + 3), (u19 + 1 + 4), (u19 + 1 + 5), u20, u21, u22, u23, u24, u25, u26, u27, u28, u29, u30, u31, u32, u33, u34, u35, u36, u37, u38, u39, u40, u41, u42, u43, u44, u45, (u45 + 1 + 0), (u45 + 1 + 1), (u45 + 1 + 2), (u45 + 1 + 3), (u45 + 1 + 4), (u45 + 1 + 5), w, w1, w2, w3, w4, w5, w6, w7, w8, w9, w10, w11, w12, w13, w14, w15, w16, w17, w18, w19, w20, w21, w22, w23, w24, w25, w26] (18 + 1 + j)) else none) := by
    funext j
    by_cases h : j < 6
    · rw [if_pos h, if_pos h]
      match j, h with
      | 0, _ => rfl
      | 1, _ => rfl
      | 2, _ => rfl
      | 3, _ => rfl
      | 4, _ => rfl
      | 5, _ => rfl
    · rw [if_neg h, if_neg h]
  have e25 : (fun i => if i < 6 then some (u19 + 1 + i) else none) = (fun j => if j < 6 then some (mj_ad ts [u, u1, u2, u3, u4, u5, u6, u7, u8, u9, u10, u11, u12, u13, u14, u15, u16, u17, u18, (u18 + 1 + 0), (u18 + 1 + 1), (u18 + 1 + 2), (u18 + 1 + 3), (u18 + 1 + 4), (u18 + 1 + 5), u19, (u19 + 1 + 0), (u19 + 1 + 1), (u19 + 1 + 2), (u19 + 1 + 3), (u19 + 1 + 4), (u19 + 1 + 5), u20, u21, u22, u23, u24, u25, u26, u27, u28, u29, u30, u31, u32, u33, u34, u35, u36, u37, u38, u39, u40, u41, u42, u43, u44, u45, (u45 + 1 + 0), (u45 + 1 + 1), (u45 + 1 + 2), (u45 + 1 + 3), (u45 + 1 + 4), (u45 + 1 + 5), w, w1, w2, w3, w4, w5, w6, w7, w8, w9, w10, w11, w12, w13, w14, w15, w16, w17, w18, w19, w20, w21, w22, w23, w24, w25, w26] (25 + 1 + j)) else none) := by
    funext j
    by_cases h : j < 6
    · rw [if_pos h, if_pos h]
      match j, h with
      | 0, _ => rfl
      | 1, _ => rfl
      | 2, _ => rfl
      | 3, _ => rfl
      | 4, _ => rfl
      | 5, _ => rfl
    · rw [if_neg h, if_neg h]
  have e57 : (fun i => if i < 6 then some (u45 + 1 + i) else none) = (fun j => if j < 6 then some (mj_ad ts [u, u1, u2, u3, u4, u5, u6, u7, u8, u9, u10, u11, u12, u13, u14, u15, u16, u17, u18, (u18 + 1 + 0), (u18 + 1 + 1), (u18 + 1 + 2), (u18 + 1 + 3), (u18 + 1 + 4), (u18 + 1 + 5), u19, (u19 + 1 + 0), (u19 + 1 + 1), (u19 + 1 + 2), (u19 + 1 + 3), (u19 + 1 + 4), (u19 + 1 + 5), u20, u21, u22, u23, u24, u25, u26, u27, u28, u29, u30, u31, u32, u33, u34, u35, u36, u37, u38, u39, u40, u41, u42, u43, u44, u45, (u45 + 1 + 0), (u45 + 1 + 1), (u45 + 1 + 2), (u45 + 1 + 3), (u45 + 1 + 4), (u45 + 1 + 5), w, w1, w2, w3, w4, w5, w6, w7, w8, w9, w10, w11, w12, w13, w14, w15, w16, w17, w18, w19, w20, w21, w22, w23, w24, w25, w26] (57 + 1 + j)) else none) := by
    funext j
    by_cases h : j < 6
    · rw [if_pos h, if_pos h]
      match j, h with
      | 0, _ => rfl
      | 1, _ => rfl
      | 2, _ => rfl
      | 3, _ => rfl
      | 4, _ => rfl
      | 5, _ => rfl
    · rw [if_neg h, if_neg h]
  rw [e18, e25, e57]
  rfl
set_option maxRecDepth 100000 in
set_option maxHeartbeats 20000000 in
theorem whole_open {p : Program} {e : Env} {s : State} {m : MethodId} {below : List Frame} {meth : Method} {c : Code} (l : Launch) {b L : Nat} {xs : Nat → Int32} (hL : L ≤ 384) (C0 : lw_At p s m meth c b L xs) (I : mj_S → Prop) (hI0 : I mj_s0) (O_child : lw_op_child I) (O_want : lw_op_want I) (O_feed : lw_op_feed I) (O_law : lw_op_law I) (O_height : lw_op_height I) (O_wants : lw_op_wants I) (O_mark : lw_op_mark I) (O_marks : lw_op_marks I) (O_paint : lw_op_paint I) (O_of : lw_op_of I) (O_mend : lw_op_mend I) (O_off : lw_op_off I) (O_whose : lw_op_whose I) (O_odds : lw_op_odds I) (O_how : lw_op_how I) (O_together : lw_op_together I) (O_turned : lw_op_turned I) (O_led : lw_op_led I) (O_tall : lw_op_tall I) (O_year : lw_op_year I) (O_line : lw_op_line I) (O_falls : lw_op_falls I) (O_overtakes : lw_op_overtakes I) (O_enough : lw_op_enough I) (O_slips : lw_op_slips I) (O_undo : lw_op_undo I) (O_redo : lw_op_redo I) (O_body : lw_op_body I) (O_act : lw_op_act I) (O_trace : lw_op_trace I) (O_keep : lw_op_keep I) (O_row : lw_op_row I) (O_put : lw_op_put I) (O_element : lw_op_element I) (O_shift : lw_op_shift I) (O_taken : lw_op_taken I) (O_count : lw_op_count I) : W p l e room_1 s m #[Value.ref b] below meth c s.heap [] 0 0 (lw_Z below #[Value.ref b] s) (entryFrame m ([Value.ref b] : List Value).toArray 4) := by
  obtain ⟨hx, hb, hr, hml, hown, hts, hX, hbl, hlocks, hgv⟩ := id C0
  have htb : ∀ w ∈ mj_TB, w.before #[Value.ref b] s = true := fun w hw => hts w (List.mem_filter.mp hw).1
  obtain ⟨c0, i0, hk0⟩ := u_known (C := RX0) (T := TX0) (N := 6) (n := 6) htb wi_X0 (htb _ kv_in_X0.1)
  obtain ⟨c1, i1, hk1⟩ := u_known (C := RX1) (T := TX1) (N := 8) (n := 8) htb wi_X1 (htb _ kv_in_X1.1)
  obtain ⟨c2, i2, hk2⟩ := u_known (C := RX2) (T := TX2) (N := 16) (n := 16) htb wi_X2 (htb _ kv_in_X2.1)
  obtain ⟨c3, i3, hk3⟩ := u_known (C := RX3) (T := TX3) (N := 10) (n := 10) htb wi_X3 (htb _ kv_in_X3.1)
  obtain ⟨c4, i4, hk4⟩ := u_known (C := RX4) (T := TX4) (N := 6) (n := 6) htb wi_X4 (htb _ kv_in_X4.1)
  obtain ⟨c5, i5, hk5⟩ := u_known (C := RX5) (T := TX5) (N := 7) (n := 7) htb wi_X5 (htb _ kv_in_X5.1)
  obtain ⟨c6, i6, hk6⟩ := u_known (C := RX6) (T := TX6) (N := 1) (n := 1) htb wi_X6 (htb _ kv_in_X6.1)
  obtain ⟨c7, i7, hk7⟩ := u_known (C := RX7) (T := TX7) (N := 6) (n := 6) htb wi_X7 (htb _ kv_in_X7.1)
  obtain ⟨c8, i8, hk8⟩ := u_known (C := RX8) (T := TX8) (N := 4) (n := 4) htb wi_X8 (htb _ kv_in_X8.1)
  obtain ⟨c9, i9, hk9⟩ := u_known (C := RX9) (T := TX9) (N := 9) (n := 9) htb wi_X9 (htb _ kv_in_X9.1)
  obtain ⟨c10, i10, hk10⟩ := u_known (C := RX10) (T := TX10) (N := 48) (n := 48) htb wi_X10 (htb _ kv_in_X10.1)
  obtain ⟨yI, kAI, cmI, fI, gI, rI⟩ := Cond.arrayClass_spec (htb _ kv_ac_int)
  obtain ⟨yJ, kAJ, cmJ, fJ, gJ, rJ⟩ := Cond.arrayClass_spec (htb _ kv_ac_long)
  obtain ⟨yZ, kAZ, cmZ, fZ, gZ, rZ⟩ := Cond.arrayClass_spec (htb _ kv_ac_boolean)
  have haoI : (Cond.arrayOver (.array .int)).before #[Value.ref b] s = true := hts _ (List.mem_append_right _ (List.mem_append_left _ (List.mem_of_getElem? (i := 85) (by decide +kernel))))
  obtain ⟨cnI, zI, kzI, p1I, p2I, p3I, p4I, p5I⟩ := Stand.arrayOver_specB haoI
  have haoJ : (Cond.arrayOver (.array .long)).before #[Value.ref b] s = true := hts _ (List.mem_append_right _ (List.mem_append_right _ (List.mem_append_left _ (List.mem_of_getElem? (i := 34) (by decide +kernel)))))
  obtain ⟨cnJ, zJ, kzJ, p1J, p2J, p3J, p4J, p5J⟩ := Stand.arrayOver_specB haoJ
  have hA0 : ∀ a : Nat, a < s.heap.size → ¬ (fun q : Nat => s.heap.size ≤ q) a := fun a ha q => absurd q (Nat.not_le.mpr ha)
  have hs := flat_of_before _ hgv
  obtain ⟨tA, evA, hTA⟩ := va_Tof (tm := .static RX0 "ABOVE" "[I") (ty := .int) (N := 8) (f := fun j => .int (mj_above j)) (A := fun q : Nat => s.heap.size ≤ q) (by decide) (hs _ (by decide +kernel)) (va_eqt (hs _ (by decide +kernel))) (fun j hj => by
      match j, hj with
      | 0, _ => exact va_eqt (hs _ (by decide +kernel))
      | 1, _ => exact va_eqt (hs _ (by decide +kernel))
      | 2, _ => exact va_eqt (hs _ (by decide +kernel))
      | 3, _ => exact va_eqt (hs _ (by decide +kernel))
      | 4, _ => exact va_eqt (hs _ (by decide +kernel))
      | 5, _ => exact va_eqt (hs _ (by decide +kernel))
      | 6, _ => exact va_eqt (hs _ (by decide +kernel))
      | 7, _ => exact va_eqt (hs _ (by decide +kernel))
      | j + 8, h => exact absurd h (by omega)) hA0
  have hZA : va_Z RX0 "ABOVE" "[I" (.ref tA) (fun q : Nat => s.heap.size ≤ q) s s.heap := va_Zref (hts _ (List.mem_append_right _ (List.mem_append_right _ (List.mem_append_right _ (List.mem_append_right _ (List.mem_append_right _ (List.mem_append_left _ (List.mem_of_getElem? (i := 101) (by decide +kernel))))))))) (hts _ (List.mem_append_right _ (List.mem_append_left _ (List.mem_of_getElem? (i := 9) (by decide +kernel))))) evA hA0
  obtain ⟨tO, evO, hTO⟩ := va_Tof (tm := .static RX0 "OWN_BODIES" "[I") (ty := .int) (N := 32) (f := fun j => .int (mj_own j)) (A := fun q : Nat => s.heap.size ≤ q) (by decide) (hs _ (by decide +kernel)) (va_eqt (hs _ (by decide +kernel))) (fun j hj => by
      match j, hj with
      | 0, _ => exact va_eqt (hs _ (by decide +kernel))
      | 1, _ => exact va_eqt (hs _ (by decide +kernel))
      | 2, _ => exact va_eqt (hs _ (by decide +kernel))
      | 3, _ => exact va_eqt (hs _ (by decide +kernel))
      | 4, _ => exact va_eqt (hs _ (by decide +kernel))
      | 5, _ => exact va_eqt (hs _ (by decide +kernel))
      | 6, _ => exact va_eqt (hs _ (by decide +kernel))
      | 7, _ => exact va_eqt (hs _ (by decide +kernel))
      | 8, _ => exact va_eqt (hs _ (by decide +kernel))
      | 9, _ => exact va_eqt (hs _ (by decide +kernel))
      | 10, _ => exact va_eqt (hs _ (by decide +kernel))
      | 11, _ => exact va_eqt (hs _ (by decide +kernel))
      | 12, _ => exact va_eqt (hs _ (by decide +kernel))
      | 13, _ => exact va_eqt (hs _ (by decide +kernel))
      | 14, _ => exact va_eqt (hs _ (by decide +kernel))
      | 15, _ => exact va_eqt (hs _ (by decide +kernel))
      | 16, _ => exact va_eqt (hs _ (by decide +kernel))
      | 17, _ => exact va_eqt (hs _ (by decide +kernel))
      | 18, _ => exact va_eqt (hs _ (by decide +kernel))
      | 19, _ => exact va_eqt (hs _ (by decide +kernel))
      | 20, _ => exact va_eqt (hs _ (by decide +kernel))
      | 21, _ => exact va_eqt (hs _ (by decide +kernel))
      | 22, _ => exact va_eqt (hs _ (by decide +kernel))
      | 23, _ => exact va_eqt (hs _ (by decide +kernel))
      | 24, _ => exact va_eqt (hs _ (by decide +kernel))
      | 25, _ => exact va_eqt (hs _ (by decide +kernel))
      | 26, _ => exact va_eqt (hs _ (by decide +kernel))
      | 27, _ => exact va_eqt (hs _ (by decide +kernel))
      | 28, _ => exact va_eqt (hs _ (by decide +kernel))
      | 29, _ => exact va_eqt (hs _ (by decide +kernel))
      | 30, _ => exact va_eqt (hs _ (by decide +kernel))
      | 31, _ => exact va_eqt (hs _ (by decide +kernel))
      | j + 32, h => exact absurd h (by omega)) hA0
  have hZO : va_Z RX0 "OWN_BODIES" "[I" (.ref tO) (fun q : Nat => s.heap.size ≤ q) s s.heap := va_Zref (hts _ (List.mem_append_right _ (List.mem_append_right _ (List.mem_append_right _ (List.mem_append_right _ (List.mem_append_right _ (List.mem_append_left _ (List.mem_of_getElem? (i := 99) (by decide +kernel))))))))) (hts _ (List.mem_append_right _ (List.mem_append_left _ (List.mem_of_getElem? (i := 9) (by decide +kernel))))) evO hA0
  obtain ⟨adK, adV, hSS, evS⟩ := vk_Sof (args := #[Value.ref b]) (s := s) (N := 1) (tm := fun _ => .string RX7 73) (len := [7]) (byt := [[97, 115, 119, 104, 112, 109, 107]]) (A := fun q : Nat => s.heap.size ≤ q) (fun i hi => by
      match i, hi with
      | 0, _ => decide) (fun i hi => hs _ (by decide +kernel)) (fun i hi => hs _ (by decide +kernel)) (fun i hi => hs _ (by decide +kernel)) (fun i hi => by
      match i, hi with
      | 0, _ => exact hs _ (by decide +kernel)) (fun i hi j hj => by
      match i, hi, j, hj with
      | 0, _, 0, _ => exact hs _ (by decide +kernel)
      | 0, _, 1, _ => exact hs _ (by decide +kernel)
      | 0, _, 2, _ => exact hs _ (by decide +kernel)
      | 0, _, 3, _ => exact hs _ (by decide +kernel)
      | 0, _, 4, _ => exact hs _ (by decide +kernel)
      | 0, _, 5, _ => exact hs _ (by decide +kernel)
      | 0, _, 6, _ => exact hs _ (by decide +kernel)) (fun i j hi hj hne => absurd (by omega) hne) hA0
  have hR7 : vk_R RX7 73 "aswhpmk" (adK 0) s := vk_R.of (hts _ (List.mem_append_right _ (List.mem_append_right _ (List.mem_append_left _ (List.mem_of_getElem? (i := 228) (by decide +kernel)))))) (evS 0 (by decide))
  have hCS : va_Z "java/lang/String" "COMPACT_STRINGS" "Z" (.int 1) (fun q : Nat => s.heap.size ≤ q) s s.heap := va_Zof (hts _ (List.mem_append_right _ (List.mem_append_right _ (List.mem_append_right _ (List.mem_append_left _ (List.mem_of_getElem? (i := 2) (by decide +kernel))))))) (hts _ (List.mem_append_right _ (List.mem_append_left _ (List.mem_of_getElem? (i := 13) (by decide +kernel))))) (va_eqi (hs _ (by decide +kernel))) hA0
  have hN : ∀ w ∈ mj_nests, va_Nw w s := by
    intro w hw
    simp only [mj_nests, List.mem_cons, List.not_mem_nil, or_false] at hw
    rcases hw with rfl | rfl | rfl | rfl | rfl | rfl | rfl | rfl | rfl
    · exact va_Nw.of rfl (hts _ (List.mem_append_right _ (List.mem_append_left _ (List.mem_of_getElem? (i := 29) (by decide +kernel)))))
    · exact va_Nw.of rfl (hts _ (List.mem_append_right _ (List.mem_append_left _ (List.mem_of_getElem? (i := 55) (by decide +kernel)))))
    · exact va_Nw.of rfl (hts _ (List.mem_append_right _ (List.mem_append_left _ (List.mem_of_getElem? (i := 138) (by decide +kernel)))))
    · exact va_Nw.of rfl (hts _ (List.mem_append_right _ (List.mem_append_right _ (List.mem_append_left _ (List.mem_of_getElem? (i := 4) (by decide +kernel))))))
    · exact va_Nw.of rfl (hts _ (List.mem_append_right _ (List.mem_append_right _ (List.mem_append_right _ (List.mem_append_right _ (List.mem_append_right _ (List.mem_append_left _ (List.mem_of_getElem? (i := 62) (by decide +kernel)))))))))
    · exact va_Nw.of rfl (hts _ (List.mem_append_right _ (List.mem_append_right _ (List.mem_append_right _ (List.mem_append_left _ (List.mem_of_getElem? (i := 109) (by decide +kernel)))))))
    · exact va_Nw.of rfl (hts _ (List.mem_append_right _ (List.mem_append_right _ (List.mem_append_right _ (List.mem_append_right _ (List.mem_append_left _ (List.mem_of_getElem? (i := 60) (by decide +kernel))))))))
    · exact va_Nw.of rfl (hts _ (List.mem_append_right _ (List.mem_append_right _ (List.mem_append_right _ (List.mem_append_right _ (List.mem_append_left _ (List.mem_of_getElem? (i := 187) (by decide +kernel))))))))
    · exact va_Nw.of rfl (hts _ (List.mem_append_right _ (List.mem_append_right _ (List.mem_append_right _ (List.mem_append_right _ (List.mem_append_right _ (List.mem_append_left _ (List.mem_of_getElem? (i := 134) (by decide +kernel)))))))))
  obtain ⟨D, hD⟩ : ∃ D : va_G, D = (fun k => [c0, c1, c2, c3, c4, c5, c6, c7, c8, c9, c10].getD k c0, fun k => [i0, i1, i2, i3, i4, i5, i6, i7, i8, i9, i10].getD k i0) := ⟨_, rfl⟩
  obtain ⟨cy, hcy⟩ : ∃ cy : Nat → ClassId, cy = fun k => [yI, yJ, yZ, zI, zJ].getD k yI := ⟨_, rfl⟩
  have hKc : ∀ (k : Nat) (q : vw_C), vwCl[k]? = some q → u_Kn s q.1 q.2.1 q.2.2 (D.1 k) (D.2 k) := by
    rw [hD]
    intro k q hq
    match k, hq with
    | 0, hq => cases hq; exact hk0
    | 1, hq => cases hq; exact hk1
    | 2, hq => cases hq; exact hk2
    | 3, hq => cases hq; exact hk3
    | 4, hq => cases hq; exact hk4
    | 5, hq => cases hq; exact hk5
    | 6, hq => cases hq; exact hk6
    | 7, hq => cases hq; exact hk7
    | 8, hq => cases hq; exact hk8
    | 9, hq => cases hq; exact hk9
    | 10, hq => cases hq; exact hk10
    | k + 11, hq => simp [vwCl] at hq
  have hKt : ∀ (ad : Nat → Nat) (A : Nat → Prop), va_K D vwCl (mj_ty (D, ad, cy, A)) s := fun ad A => ⟨hKc, fun k q hq => by
    rw [hcy] at hq
    match k, hq with
    | 0, hq =>
      cases hq
      exact ⟨fun n z => ⟨fun k h => (by cases h), kAI, gI, cmI, rI⟩, fI⟩
    | 1, hq =>
      cases hq
      exact ⟨fun n z => ⟨fun k h => (by cases h), kAJ, gJ, cmJ, rJ⟩, fJ⟩
    | 2, hq =>
      cases hq
      exact ⟨fun n z => ⟨fun k h => (by cases h), kAZ, gZ, cmZ, rZ⟩, fZ⟩
    | 3, hq =>
      cases hq
      exact ⟨fun n z => ⟨fun k h => (by cases h), kzI, p3I, cnI, p4I⟩, p5I⟩
    | 4, hq =>
      cases hq
      exact ⟨fun n z => ⟨fun k h => (by cases h), kzJ, p3J, cnJ, p4J⟩, p5J⟩
    | k + 5, hq => simp [mj_ty] at hq⟩
  obtain ⟨G0, hG0⟩ : ∃ G0 : mj_G, G0 = (D, fun _ => 0, cy, fun q : Nat => s.heap.size ≤ q) := ⟨_, rfl⟩
  have C1 : mj_Y p s m #[Value.ref b] meth c G0 code 4 RL := by
    rw [hG0]
    exact ⟨hx, hb, hml, hown, htb, hKt _ _, fun q hq => hq, hN, haoI, haoJ⟩
  have hl := lv_entry ([.ref b]) (n := 4) (Nat.le_of_ble_eq_true rfl)
  rw [lg_entry_eq]
  have hl : lv_has ((lg_sl [Value.ref b] ++ List.replicate (4 - (lg_sl [Value.ref b]).length) Slot.unset).toArray) 4 [(0, .ref b)] := hl
  have hS : va_S G0.2.2.2 s.heap s.heap [] := va_S.rf
  have hP : va_P G0.1 vwCl (([] : va_W) ++ []) s.heap := fun k q h => by simp at h
  have hDD : va_D G0.2.2.2 (([] : va_W) ++ []) := ⟨fun i j p q h => by simp at h, fun k q h => by simp at h⟩
  refine (?_ : mj_V p l e room_1 s m #[Value.ref b] below meth c G0 4 (lw_Z below #[Value.ref b] s) 0 [(0, .ref b)] [] [] [] 0 0) s.heap [] _ hl hP hDD hS
  refine mjv_new (ci := 9) (N := 9) (C0 := RX9) (T := TX9) (fs := [.null, .null, .null, .null, .null, .null, .null, .null, .null]) (L1 := fun u => [(u, .inr (9, [.null, .null, .null, .null, .null, .null, .null, .null, .null]))]) C1 dL_law_0 wi_X9 tyX9 tyX9_ok (mj_t1 19 (by decide +kernel) rfl) kv_in_X9.1 kv_in_X9.2 rfl (fun j hj => by rcases (show j = 0 ∨ j = 1 ∨ j = 2 ∨ j = 3 ∨ j = 4 ∨ j = 5 ∨ j = 6 ∨ j = 7 ∨ j = 8 by omega) with rfl | rfl | rfl | rfl | rfl | rfl | rfl | rfl | rfl <;> rfl) (Nat.le_of_ble_eq_true rfl) (Nat.le_of_ble_eq_true rfl) (fun _ => rfl) (fun u => ?_)
  refine mjv_dup C1 dL_law_3 rfl ?_
  refine mjv_callI (W1 := []) (L2 := [(u, .inr (9, [.null, .null, .null, .null, .null, .null, .null, .null, .null]))]) C1 (cv_X9 _ u) rfl kv_y_X9_init.1 kv_in_X9.2 kv_y_X9_init.2.1 kv_y_X9_init.2.2 (mj_t1 21 (by decide +kernel) rfl) rfl rfl (Nat.le_of_ble_eq_true rfl) ⟨Nat.le_of_ble_eq_true rfl, Nat.le_of_ble_eq_true rfl⟩ ⟨Nat.le_of_ble_eq_true rfl, Nat.le_of_ble_eq_true rfl⟩ dL_law_4 (fun L1 hp => ?_)
  obtain ⟨u1, u2, u3, u4, u5, u6, u7, u8, u9, u10, u11, u12, u13, u14, u15, u16, u17, u18, u19, u20, u21, u22, u23, u24, u25, u26, u27, u28, u29, u30, u31, u32, u33, u34, u35, u36, u37, u38, u39, u40, u41, u42, u43, u44, u45, rfl⟩ := hp
  refine mjv_astore_n C1 dL_law_7 (by decide) ?_
  generalize hLD : ([(u, .inr (9, [.ref u1, .ref u5, .ref u9, .ref u23, .ref u28, .ref u32, .ref u33, .ref u38, .ref u41])), (u1, .inr (4, [.ref u2, .ref u3, .ref u4, .int 0, .int 0, .int 0])), (u2, .inl (G0.2.2.1 0, 121, .inl (fun _ => 0))), (u3, .inl (G0.2.2.1 0, 121, .inl (fun _ => 0))), (u4, .inl (G0.2.2.1 0, 121, .inl (fun _ => 0))), (u5, .inr (7, [.ref u6, .ref u7, .ref u8, .int 0, .int 0, .int 0])), (u6, .inl (G0.2.2.1 0, 120, .inl (fun _ => 0))), (u7, .inl (G0.2.2.1 0, 121, .inl (fun _ => 0))), (u8, .inl (G0.2.2.1 0, 121, .inl (fun _ => 0))), (u9, .inr (2, [.ref u1, .ref u10, .ref u11, .ref u12, .ref u13, .ref u14, .int 0, .ref u15, .ref u16, .ref u17, .int 0, .ref u18, .ref u19, .ref u20, .ref u21, .ref u22])), (u10, .inl (G0.2.2.1 0, 6, .inl (fun _ => 0))), (u11, .inl (G0.2.2.1 0, 6, .inl (fun _ => 0))), (u12, .inl (G0.2.2.1 0, 6, .inl (fun _ => 0))), (u13, .inl (G0.2.2.1 0, 6, .inl (fun _ => 0))), (u14, .inl (G0.2.2.1 0, 6, .inl (fun _ => 0))), (u15, .inl (G0.2.2.1 0, 600, .inl (fun _ => 0))), (u16, .inl (G0.2.2.1 0, 600, .inl (fun _ => 0))), (u17, .inl (G0.2.2.1 0, 600, .inl (fun _ => 0))), (u18, .inl (G0.2.2.1 3, 6, .inr (.inr (.inr (.inr (fun i => if i < 6 then some (u18 + 1 + i) else none)))))), ((u18 + 1 + 0), .inl (G0.2.2.1 0, 600, .inl (fun _ => 0))), ((u18 + 1 + 1), .inl (G0.2.2.1 0, 600, .inl (fun _ => 0))), ((u18 + 1 + 2), .inl (G0.2.2.1 0, 600, .inl (fun _ => 0))), ((u18 + 1 + 3), .inl (G0.2.2.1 0, 600, .inl (fun _ => 0))), ((u18 + 1 + 4), .inl (G0.2.2.1 0, 600, .inl (fun _ => 0))), ((u18 + 1 + 5), .inl (G0.2.2.1 0, 600, .inl (fun _ => 0))), (u19, .inl (G0.2.2.1 3, 6, .inr (.inr (.inr (.inr (fun i => if i < 6 then some (u19 + 1 + i) else none)))))), ((u19 + 1 + 0), .inl (G0.2.2.1 0, 600, .inl (fun _ => 0))), ((u19 + 1 + 1), .inl (G0.2.2.1 0, 600, .inl (fun _ => 0))), ((u19 + 1 + 2), .inl (G0.2.2.1 0, 600, .inl (fun _ => 0))), ((u19 + 1 + 3), .inl (G0.2.2.1 0, 600, .inl (fun _ => 0))), ((u19 + 1 + 4), .inl (G0.2.2.1 0, 600, .inl (fun _ => 0))), ((u19 + 1 + 5), .inl (G0.2.2.1 0, 600, .inl (fun _ => 0))), (u20, .inl (G0.2.2.1 0, 600, .inl (fun _ => 0))), (u21, .inl (G0.2.2.1 2, 6, .inl (fun _ => 0))), (u22, .inl (G0.2.2.1 0, 7, .inl (fun _ => 0))), (u23, .inr (5, [.ref u24, .ref u25, .ref u26, .ref u27, .int 0, .int (-1), .int 0])), (u24, .inl (G0.2.2.1 0, 30, .inl (fun _ => 0))), (u25, .inl (G0.2.2.1 0, 30, .inl (fun _ => 0))), (u26, .inl (G0.2.2.1 0, 30, .inl (fun _ => 0))), (u27, .inl (G0.2.2.1 0, 30, .inl (fun _ => 0))), (u28, .inr (3, [.ref u9, .ref u23, .int (-1), .int (-1), .int 0, .ref u29, .int 0, .ref u30, .ref u31, .int 0])), (u29, .inl (G0.2.2.1 0, 4, .inl (fun _ => 0))), (u30, .inl (G0.2.2.1 0, 4, .inl (fun _ => 0))), (u31, .inl (G0.2.2.1 0, 4, .inl (fun _ => 0))), (u32, .inr (6, [.ref u9])), (u33, .inr (1, [.ref u9, .ref u23, .ref u34, .ref u35, .ref u36, .ref u37, .int 0, .int 0])), (u34, .inl (G0.2.2.1 0, 40, .inl (fun _ => 0))), (u35, .inl (G0.2.2.1 0, 40, .inl (fun _ => 0))), (u36, .inl (G0.2.2.1 0, 40, .inl (fun _ => 0))), (u37, .inl (G0.2.2.1 0, 40, .inl (fun _ => 0))), (u38, .inr (0, [.ref u39, .int 0, .ref u40, .int 0, .int 0, .int 0])), (u39, .inl (G0.2.2.1 0, 50, .inl (fun _ => 0))), (u40, .inl (G0.2.2.1 0, 24, .inl (fun _ => 0))), (u41, .inr (8, [.ref u42, .ref u43, .ref u44, .ref u45])), (u42, .inl (G0.2.2.1 0, 6, .inl (upd (upd (upd (upd (upd (upd (fun _ => 0) 0 (-1)) 1 (-1)) 2 (-1)) 3 (-1)) 4 (-1)) 5 (-1)))), (u43, .inl (G0.2.2.1 0, 6, .inl (upd (upd (upd (upd (upd (upd (fun _ => 0) 0 (-1)) 1 (-1)) 2 (-1)) 3 (-1)) 4 (-1)) 5 (-1)))), (u44, .inl (G0.2.2.1 0, 6, .inl (fun _ => 0))), (u45, .inl (G0.2.2.1 4, 6, .inr (.inr (.inr (.inr (fun i => if i < 6 then some (u45 + 1 + i) else none)))))), ((u45 + 1 + 0), .inl (G0.2.2.1 1, 60, .inr (.inl (fun _ => 0)))), ((u45 + 1 + 1), .inl (G0.2.2.1 1, 60, .inr (.inl (fun _ => 0)))), ((u45 + 1 + 2), .inl (G0.2.2.1 1, 60, .inr (.inl (fun _ => 0)))), ((u45 + 1 + 3), .inl (G0.2.2.1 1, 60, .inr (.inl (fun _ => 0)))), ((u45 + 1 + 4), .inl (G0.2.2.1 1, 60, .inr (.inl (fun _ => 0)))), ((u45 + 1 + 5), .inl (G0.2.2.1 1, 60, .inr (.inl (fun _ => 0))))] : va_W) = LD
  refine mjv_new (ci := 10) (N := 48) (C0 := RX10) (T := TX10) (fs := [.null, .null, .null, .null, .int 0, .int 0, .int 0, .int 0, .null, .null, .null, .int 0, .null, .null, .null, .null, .int 0, .null, .int 0, .int 0, .int 0, .int 0, .int 0, .int 0, .null, .null, .int 0, .null, .null, .null, .int 0, .int 0, .int 0, .int 0, .null, .null, .null, .int 0, .int 0, .null, .null, .int 0, .int 0, .int 0, .null, .null, .null, .null]) (L1 := fun w => LD ++ [(w, .inr (10, [.null, .null, .null, .null, .int 0, .int 0, .int 0, .int 0, .null, .null, .null, .int 0, .null, .null, .null, .null, .int 0, .null, .int 0, .int 0, .int 0, .int 0, .int 0, .int 0, .null, .null, .int 0, .null, .null, .null, .int 0, .int 0, .int 0, .int 0, .null, .null, .null, .int 0, .int 0, .null, .null, .int 0, .int 0, .int 0, .null, .null, .null, .null]))]) C1 dL_law_8 wi_X10 tyX10 tyX10_ok (mj_t5 196 (by decide +kernel) rfl) kv_in_X10.1 kv_in_X10.2 rfl (fun j hj => by rcases (show j = 0 ∨ j = 1 ∨ j = 2 ∨ j = 3 ∨ j = 4 ∨ j = 5 ∨ j = 6 ∨ j = 7 ∨ j = 8 ∨ j = 9 ∨ j = 10 ∨ j = 11 ∨ j = 12 ∨ j = 13 ∨ j = 14 ∨ j = 15 ∨ j = 16 ∨ j = 17 ∨ j = 18 ∨ j = 19 ∨ j = 20 ∨ j = 21 ∨ j = 22 ∨ j = 23 ∨ j = 24 ∨ j = 25 ∨ j = 26 ∨ j = 27 ∨ j = 28 ∨ j = 29 ∨ j = 30 ∨ j = 31 ∨ j = 32 ∨ j = 33 ∨ j = 34 ∨ j = 35 ∨ j = 36 ∨ j = 37 ∨ j = 38 ∨ j = 39 ∨ j = 40 ∨ j = 41 ∨ j = 42 ∨ j = 43 ∨ j = 44 ∨ j = 45 ∨ j = 46 ∨ j = 47 by omega) with rfl | rfl | rfl | rfl | rfl | rfl | rfl | rfl | rfl | rfl | rfl | rfl | rfl | rfl | rfl | rfl | rfl | rfl | rfl | rfl | rfl | rfl | rfl | rfl | rfl | rfl | rfl | rfl | rfl | rfl | rfl | rfl | rfl | rfl | rfl | rfl | rfl | rfl | rfl | rfl | rfl | rfl | rfl | rfl | rfl | rfl | rfl | rfl <;> rfl) (Nat.le_of_ble_eq_true rfl) (Nat.le_of_ble_eq_true rfl) (fun _ => rfl) (fun w => ?_)
  refine mjv_dup C1 dL_law_11 rfl ?_
  refine mjv_callI (W1 := ([] : va_W) ++ LD) (L2 := [(w, .inr (10, [.null, .null, .null, .null, .int 0, .int 0, .int 0, .int 0, .null, .null, .null, .int 0, .null, .null, .null, .null, .int 0, .null, .int 0, .int 0, .int 0, .int 0, .int 0, .int 0, .null, .null, .int 0, .null, .null, .null, .int 0, .int 0, .int 0, .int 0, .null, .null, .null, .int 0, .int 0, .null, .null, .int 0, .int 0, .int 0, .null, .null, .null, .null]))]) C1 (cv_X10 _ w) (mjv_as rfl) kv_y_X10_init.1 kv_in_X10.2 kv_y_X10_init.2.1 kv_y_X10_init.2.2 (mj_t5 198 (by decide +kernel) rfl) rfl rfl (Nat.le_of_ble_eq_true rfl) ⟨Nat.le_of_ble_eq_true rfl, Nat.le_of_ble_eq_true rfl⟩ ⟨Nat.le_of_ble_eq_true rfl, Nat.le_of_ble_eq_true rfl⟩ dL_law_12 (fun L1 hp => ?_)
  obtain ⟨w1, w2, w3, w4, w5, w6, w7, w8, w9, w10, w11, w12, w13, w14, w15, w16, w17, w18, w19, w20, w21, w22, w23, w24, w25, w26, rfl⟩ := hp
  refine mjv_astore_n C1 dL_law_15 (by decide) ?_
  refine mjv_iconst (v := 0) C1 dL_law_16 (by decide) ?_
  refine mjv_istore_n C1 dL_law_17 (by decide) ?_
  refine mjv_toW (W1 := []) (L2 := LD ++ [(w, .inr (10, [.ref w1, .ref w2, .ref w3, .ref w4, .int 0, .int 0, .int 0, .int 0, .ref w5, .ref w6, .ref w7, .int 0, .ref w8, .ref w9, .ref w10, .ref w11, .int 0, .ref w12, .int (-1), .int 0, .int 0, .int 0, .int 0, .int 0, .ref w13, .ref w14, .int 0, .ref w15, .ref w16, .ref w17, .int (-1), .int 0, .int 0, .int 0, .ref w18, .ref w19, .ref w20, .int 0, .int 0, .ref w21, .ref w22, .int 0, .int 0, .int 0, .ref w23, .ref w24, .ref w25, .ref w26])), (w1, .inl (G0.2.2.1 0, 72, .inl (fun _ => 0))), (w2, .inl (G0.2.2.1 0, 40, .inl (fun _ => 0))), (w3, .inl (G0.2.2.1 0, 40, .inl (fun _ => 0))), (w4, .inl (G0.2.2.1 0, 40, .inl (fun _ => 0))), (w5, .inl (G0.2.2.1 0, 7, .inl (fun _ => 0))), (w6, .inl (G0.2.2.1 0, 7, .inl (fun _ => 0))), (w7, .inl (G0.2.2.1 0, 7, .inl (fun _ => 0))), (w8, .inl (G0.2.2.1 0, 11, .inl (fun _ => 0))), (w9, .inl (G0.2.2.1 0, 11, .inl (fun _ => 0))), (w10, .inl (G0.2.2.1 0, 11, .inl (fun _ => 0))), (w11, .inl (G0.2.2.1 0, 120, .inl (fun _ => 0))), (w12, .inl (G0.2.2.1 0, 120, .inl (fun _ => 0))), (w13, .inl (G0.2.2.1 0, 7, .inl (fun _ => 0))), (w14, .inl (G0.2.2.1 0, 4200, .inl (fun _ => 0))), (w15, .inl (G0.2.2.1 0, 30, .inl (fun _ => 0))), (w16, .inl (G0.2.2.1 0, 30, .inl (fun _ => 0))), (w17, .inl (G0.2.2.1 2, 30, .inl (fun _ => 0))), (w18, .inl (G0.2.2.1 0, 4, .inl (fun _ => 0))), (w19, .inl (G0.2.2.1 0, 4, .inl (fun _ => 0))), (w20, .inl (G0.2.2.1 0, 4, .inl (fun _ => 0))), (w21, .inl (G0.2.2.1 0, 50, .inl (fun _ => 0))), (w22, .inl (G0.2.2.1 0, 24, .inl (fun _ => 0))), (w23, .inl (G0.2.2.1 0, 6, .inl (upd (upd (upd (upd (upd (upd (fun _ => 0) 0 (-1)) 1 (-1)) 2 (-1)) 3 (-1)) 4 (-1)) 5 (-1)))), (w24, .inl (G0.2.2.1 0, 6, .inl (fun _ => 0))), (w25, .inl (G0.2.2.1 1, 360, .inr (.inl (fun _ => 0)))), (w26, .inl (G0.2.2.1 1, 60, .inr (.inl (fun _ => 0))))]) (mjv_as rfl).symm ?_
  intro H locs la h1 h2 h3 h4
  subst hLD
  obtain ⟨G, hG⟩ : ∃ G : mj_G, G = (D, mj_ad (tA, tO, adK 0, adV 0) [u, u1, u2, u3, u4, u5, u6, u7, u8, u9, u10, u11, u12, u13, u14, u15, u16, u17, u18, (u18 + 1 + 0), (u18 + 1 + 1), (u18 + 1 + 2), (u18 + 1 + 3), (u18 + 1 + 4), (u18 + 1 + 5), u19, (u19 + 1 + 0), (u19 + 1 + 1), (u19 + 1 + 2), (u19 + 1 + 3), (u19 + 1 + 4), (u19 + 1 + 5), u20, u21, u22, u23, u24, u25, u26, u27, u28, u29, u30, u31, u32, u33, u34, u35, u36, u37, u38, u39, u40, u41, u42, u43, u44, u45, (u45 + 1 + 0), (u45 + 1 + 1), (u45 + 1 + 2), (u45 + 1 + 3), (u45 + 1 + 4), (u45 + 1 + 5), w, w1, w2, w3, w4, w5, w6, w7, w8, w9, w10, w11, w12, w13, w14, w15, w16, w17, w18, w19, w20, w21, w22, w23, w24, w25, w26], cy, fun q : Nat => s.heap.size ≤ q) := ⟨_, rfl⟩
  rw [mj_wd0 D cy (fun q : Nat => s.heap.size ≤ q) (tA, tO, adK 0, adV 0) G0 (by rw [hG0]), ← hG] at h2 h3
  have eG1 : G0.1 = G.1 := by rw [hG0, hG]
  have eG2 : G0.2.2.2 = G.2.2.2 := by rw [hG0, hG]
  rw [eG1] at h2
  rw [eG2] at h3 h4
  have hZ : mj_Z G s s.heap := by
    rw [hG]
    refine ⟨⟨hZA, hTA⟩, ⟨hZO, hTO⟩, ⟨hR7, ?_, hCS⟩, hN⟩
    exact ⟨fun i hi => by
      obtain rfl : i = 0 := by omega
      exact hSS.1 0 hi, fun i j hi hj _ => by omega⟩
  have C2 : mj_X p s m #[Value.ref b] meth c G code 4 RL := ⟨hx, hb, hml, hown, htb, by rw [hG]; exact hKt _ _, fun σ => mj_D_any h3 σ, hZ⟩
  have e0 : G.2.1 0 = u := by rw [hG]; rfl
  have e64 : G.2.1 64 = w := by rw [hG]; rfl
  refine (law_loop hL I O_child O_want O_feed O_law O_height O_wants O_mark O_marks O_paint O_of O_mend O_off O_whose O_odds O_how O_together O_turned O_led O_tall O_year O_line O_falls O_overtakes O_enough O_slips O_undo O_redo O_body O_act O_trace O_keep O_row O_put O_element O_shift O_taken O_count C2 hr hlocks hX hbl (by rw [hG]) ⟨rfl, rfl⟩ 64 0 mj_s0 (by decide) (by decide) hI0) H locs la ?_ h2 h4
  refine ⟨h1.1, h1.2.1, fun q hq => h1.2.2 q ?_⟩
  refine mj_sub_mem (l' := [(0, .ref b), (1, .ref (G.2.1 0)), (2, .ref (G.2.1 64)), (3, .int (nI 0))]) ?_ q hq
  rw [e0, e64]
  exact ⟨rfl, rfl, rfl, rfl, trivial⟩
