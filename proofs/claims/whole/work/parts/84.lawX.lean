-- law: the class works a text out
def ml_st (c : Nat → Int32) : List Int32 → Prop
  | [] => True
  | x :: r => c r.length = x ∧ ml_st c r
theorem ml_st_cong {c c' : Nat → Int32} : ∀ (l : List Int32), (∀ i, i < l.length → c' i = c i) → ml_st c l → ml_st c' l
  | [], _, _ => trivial
  | x :: r, h, k => by
    have e : (x :: r).length = r.length + 1 := rfl
    exact ⟨(h r.length (by omega)).trans k.1, ml_st_cong r (fun i hi => h i (by omega)) k.2⟩
def ml_SS (α : mj_S) (st : List Int32) : Prop := α.1 1 4 = nI st.length ∧ ml_st (α.1 4) st
theorem ml_pop {α : mj_S} : ∀ {st : List Int32}, ml_SS α st → st.length ≤ 121 → ∃ α', f_X4_pop α = some (st.headD 0, α') ∧ mk_fr mk_Z4 α α' ∧ ml_SS α' st.tail
  | [], h, _ => by
    have e : α.1 1 4 = 0 := h.1
    refine ⟨α, ?_, ⟨fun _ _ _ => rfl, rfl⟩, h⟩
    unfold f_X4_pop
    rw [e, if_neg (by decide)]
    rfl
  | x :: r, h, hl => by
    have e : (x :: r).length = r.length + 1 := rfl
    have e4 : α.1 1 4 = nI (r.length + 1) := h.1
    have i : 0 ≤ (nI r.length).toInt ∧ (nI r.length).toInt < 121 := by
      rw [nI_toInt (by omega)]
      omega
    refine ⟨mj_sI α 1 4 (nI r.length), ?_, mk_frI (by unfold mk_Z4; omega), ?_, ?_⟩
    · unfold f_X4_pop
      rw [e4, if_pos (show (0 : Int32) < nI (r.length + 1) from nI_lt (a := 0) (b := r.length + 1) (by omega) (by omega)), nI_pred, if_pos i, nI_clamp (by omega), h.2.1]
      rfl
    · rw [mk_g, if_pos ⟨rfl, rfl⟩]
      rfl
    · exact h.2.2
theorem ml_push {α : mj_S} {st : List Int32} (h : ml_SS α st) (hl : st.length < 121) (v : Int32) : ∃ α', f_X4_push α v = some α' ∧ mk_fr mk_Z4 α α' ∧ ml_SS α' (v :: st) := by
  have i : 0 ≤ (nI st.length).toInt ∧ (nI st.length).toInt < 121 := by
    rw [nI_toInt (by omega)]
    omega
  have e1 : nI st.length + 1 = nI (st.length + 1) := nI_add st.length 1
  refine ⟨mj_sI (mj_sI α 4 st.length v) 1 4 (nI (st.length + 1)), ?_, mk_frt (mk_frI (by unfold mk_Z4; omega)) (mk_frI (by unfold mk_Z4; omega)), ?_, ?_, ?_⟩
  · unfold f_X4_push
    rw [h.1, if_neg (show ¬ (121 : Int32) ≤ nI st.length from nI_ge (a := st.length) (b := 121) hl (by omega)), if_pos i, nI_clamp (by omega), e1]
  · rw [mk_g, if_pos ⟨rfl, rfl⟩]
    rfl
  · rw [mk_g, if_neg (by omega), mk_g, if_pos ⟨rfl, rfl⟩]
  · refine ml_st_cong st (fun i hi => ?_) h.2
    rw [mk_g, if_neg (by omega), mk_g, if_neg (by omega)]
theorem ml_joE (σ : mj_S) (op x y : Int32) : f_X4_joined σ op x y = some (ml_jo op x y) := by
  have ex : ∃ v, f_X4_joined mk_z op x y = some v := by
    cases hx : f_X4_joined mk_z op x y with
    | some v => exact ⟨v, rfl⟩
    | none =>
      exfalso
      unfold f_X4_joined at hx
      repeat' split at hx
      all_goals first
        | contradiction
        | cases hx
  obtain ⟨v, hv⟩ := ex
  unfold ml_jo
  rw [hv]
  exact hv
theorem ml_stepX {α : mj_S} {st : List Int32} {N : Nat → Int32} (hN : ∀ k, k < 7 → α.1 34 k = N k) (h : ml_SS α st) (hl : st.length < 121) (s : Int32 × Int32) : ∃ α', f_X4_takeStep α s.1 s.2 34 7 = some α' ∧ mk_fr mk_Z4 α α' ∧ ml_SS α' (ml_step N s st) ∧ (ml_step N s st).length ≤ st.length + 1 := by
  have ht : st.tail.length ≤ st.length := by
    rw [List.length_tail]
    omega
  have htt : st.tail.tail.length ≤ st.length := by
    rw [List.length_tail]
    omega
  unfold f_X4_takeStep ml_step
  by_cases q1 : s.1 = 33
  · rw [if_pos q1, if_pos q1]
    obtain ⟨α1, o1, o2, o3⟩ := ml_pop h (by omega)
    rw [o1, mk_bs]
    obtain ⟨α2, u1, u2, u3⟩ := ml_push o3 (by omega) (if st.headD 0 = 0 then 1 else 0)
    refine ⟨α2, ?_, mk_frt o2 u2, u3, by show st.tail.length + 1 ≤ _; omega⟩
    show (if st.headD 0 = 0 then b_X4_takeStep_102 1 α1 else b_X4_takeStep_102 0 α1) = _
    unfold b_X4_takeStep_102
    by_cases z : st.headD 0 = 0
    · rw [if_pos z] at u1
      rw [if_pos z, u1, mk_bs]
    · rw [if_neg z] at u1
      rw [if_neg z, u1, mk_bs]
  rw [if_neg q1, if_neg q1]
  by_cases q2 : s.1 = 48
  · rw [if_pos q2, if_pos q2]
    obtain ⟨α2, u1, u2, u3⟩ := ml_push h hl s.2
    exact ⟨α2, by rw [u1, mk_bs], u2, u3, by show st.length + 1 ≤ _; omega⟩
  rw [if_neg q2, if_neg q2]
  by_cases q3 : s.1 = 97
  · rw [if_pos q3, if_pos q3]
    have z7 : Int32.ofNat 7 = (7 : Int32) := rfl
    rw [z7]
    by_cases r1 : s.2 < (0 : Int32)
    · rw [if_pos r1, if_pos r1]
      obtain ⟨α2, u1, u2, u3⟩ := ml_push h hl 0
      exact ⟨α2, by unfold b_X4_takeStep_70 b_X4_takeStep_71; rw [u1, mk_bs], u2, u3, by show st.length + 1 ≤ _; omega⟩
    rw [if_neg r1, if_neg r1]
    by_cases r2 : (7 : Int32) ≤ s.2
    · rw [if_pos r2, if_pos r2]
      obtain ⟨α2, u1, u2, u3⟩ := ml_push h hl 0
      exact ⟨α2, by unfold b_X4_takeStep_70 b_X4_takeStep_71; rw [u1, mk_bs], u2, u3, by show st.length + 1 ≤ _; omega⟩
    rw [if_neg r2, if_neg r2]
    have e0 : (0 : Int32).toInt = 0 := rfl
    have e7 : (7 : Int32).toInt = 7 := rfl
    rw [mk_ltt, e0] at r1
    rw [mk_lee, e7] at r2
    have ek : s.2 = nI s.2.toInt.toNat := mk_ofNN (by omega)
    have i : 0 ≤ s.2.toInt ∧ s.2.toInt < ((7 : Nat) : Int) := by omega
    have hk : s.2.toNatClampNeg < 7 := by
      rw [ek, nI_clamp (by omega)]
      omega
    rw [if_pos i, hN _ hk]
    obtain ⟨α2, u1, u2, u3⟩ := ml_push h hl (N s.2.toNatClampNeg)
    exact ⟨α2, by unfold b_X4_takeStep_71; rw [u1, mk_bs], u2, u3, by show st.length + 1 ≤ _; omega⟩
  rw [if_neg q3, if_neg q3]
  by_cases q4 : s.1 = 110
  · rw [if_pos q4, if_pos q4]
    obtain ⟨α1, o1, o2, o3⟩ := ml_pop h (by omega)
    rw [o1, mk_bs]
    obtain ⟨α2, u1, u2, u3⟩ := ml_push o3 (by omega) (- st.headD 0)
    refine ⟨α2, ?_, mk_frt o2 u2, u3, by show st.tail.length + 1 ≤ _; omega⟩
    show ((f_X4_push α1 (- st.headD 0)).bind fun r11 => some r11) = _
    rw [u1, mk_bs]
  rw [if_neg q4, if_neg q4]
  obtain ⟨α1, o1, o2, o3⟩ := ml_pop h (by omega)
  obtain ⟨α2, p1, p2, p3⟩ := ml_pop o3 (by omega)
  obtain ⟨α3, u1, u2, u3⟩ := ml_push p3 (by omega) (ml_jo s.1 (st.tail.headD 0) (st.headD 0))
  refine ⟨α3, ?_, mk_frt o2 (mk_frt p2 u2), u3, by show st.tail.tail.length + 1 ≤ _; omega⟩
  rw [o1, mk_bs]
  show ((f_X4_pop α1).bind _) = _
  rw [p1, mk_bs]
  show ((f_X4_joined α2 s.1 (st.tail.headD 0) (st.headD 0)).bind _) = _
  rw [ml_joE, mk_bs, u1, mk_bs]
theorem ml_in121 {i : Nat} (h : i < 121) : 0 ≤ (nI i).toInt ∧ (nI i).toInt < 121 := by
  rw [nI_toInt (by omega)]
  omega
theorem ml_codeX {N : Nat → Int32} {len vv : Nat} (hlen : len ≤ 121) : ∀ (code : List (Int32 × Int32)) (i f : Nat) (α : mj_S) (st : List Int32), (∀ k, k < 7 → α.1 34 k = N k) → ml_SS α st → st.length ≤ i → i + code.length ≤ len → ml_pl (α.1 2) (α.1 3) i code → vv ≤ i → α.1 1 3 = nI len → (∀ s, s ∈ code → s.1 ≠ 59 ∧ s.1 ≠ 63) → ∃ α', b_X4_workOut_9 (f + code.length) 34 7 (nI vv) (nI i) α = b_X4_workOut_9 f 34 7 (nI vv) (nI (i + code.length)) α' ∧ mk_fr mk_Z4 α α' ∧ ml_SS α' (ml_run N code st)
  | [], i, f, α, st, _, h, _, _, _, _, _, _ => ⟨α, rfl, ⟨fun _ _ _ => rfl, rfl⟩, h⟩
  | s :: r, i, f, α, st, hN, h, hl, hi, hp, hv, h3, hs => by
    have el : (s :: r).length = r.length + 1 := rfl
    obtain ⟨α1, o1, o2, o3, o4⟩ := ml_stepX hN h (by omega) s
    have s1 := hs s (List.mem_cons_self ..)
    obtain ⟨α2, u1, u2, u3⟩ := ml_codeX (N := N) (vv := vv) hlen r (i + 1) f α1 (ml_step N s st) (fun k hk => (o2.1 34 k (by unfold mk_Z4; omega)).trans (hN k hk)) o3 (by omega) (by omega) (by
      rw [funext fun y => o2.1 2 y (by unfold mk_Z4; omega), funext fun y => o2.1 3 y (by unfold mk_Z4; omega)]
      exact hp.2.2) (by omega) ((o2.1 1 3 (by unfold mk_Z4; omega)).trans h3) (fun z hz => hs z (List.mem_cons_of_mem _ hz))
    refine ⟨α2, ?_, mk_frt o2 u2, u3⟩
    have e1 : nI i + 1 = nI (i + 1) := nI_add i 1
    have e2 : i + (s :: r).length = i + 1 + r.length := by omega
    rw [e2, ← u1]
    show b_X4_workOut_9 ((f + r.length) + 1) 34 7 (nI vv) (nI i) α = _
    have ib := ml_in121 (i := i) (by omega)
    rw [b_X4_workOut_9, h3, if_neg (nI_ge (by omega) (by omega)), if_pos ib, if_pos (nI_le hv (by omega)), nI_clamp (by omega), hp.1, if_neg s1.1, if_neg s1.2, if_pos ib, hp.2.1, o1, mk_bs, e1]
theorem ml_skipX {len u : Nat} (hlen : len ≤ 121) (hu : u ≤ len) {α : mj_S} (h3 : α.1 1 3 = nI len) : ∀ (d f : Nat), d ≤ u → b_X4_workOut_9 (f + d) 34 7 (nI u) (nI (u - d)) α = b_X4_workOut_9 f 34 7 (nI u) (nI u) α
  | 0, f, _ => rfl
  | d + 1, f, hd => by
    have ih := ml_skipX hlen hu h3 d f (by omega)
    rw [← ih]
    show b_X4_workOut_9 ((f + d) + 1) 34 7 (nI u) (nI (u - (d + 1))) α = _
    have ib := ml_in121 (i := u - (d + 1)) (by omega)
    have e1 : nI (u - (d + 1)) + 1 = nI (u - d) := by
      have e : nI (u - (d + 1)) + 1 = nI (u - (d + 1) + 1) := nI_add _ 1
      rw [e]
      congr 1
      omega
    rw [b_X4_workOut_9, h3, if_neg (nI_ge (by omega) (by omega)), if_pos ib, if_neg (nI_ge (by omega) (by omega)), e1]
/-- what a text gives -/
def ml_tv (N : Nat → Int32) : List ml_Ln → Int32
  | [] => 0
  | l :: r => match l.1 with
    | none => l.2.1 N
    | some c => if c.1 N = 0 then ml_tv N r else l.2.1 N
def ml_GL (l : ml_Ln) : Prop := (∀ e, l.1 = some e → (∀ s, s ∈ e.2 → s.1 ≠ 59 ∧ s.1 ≠ 63) ∧ ∀ N st, ml_run N e.2 st = e.1 N :: st) ∧ (∀ s, s ∈ l.2.2 → s.1 ≠ 59 ∧ s.1 ≠ 63) ∧ ∀ N st, ml_run N l.2.2 st = l.2.1 N :: st
theorem ml_tx_good {b : Nat → Int32} {n : Nat} {X : Nat → ml_P} (hX : ml_Gf n X) : ∀ (F p : Nat) (ls : List ml_Ln), p ≤ n → (ml_tx b n X F p).2 = some ls → ∀ l, l ∈ ls → ml_GL l
  | 0, p, ls, _, h => absurd (show (none : Option (List ml_Ln)) = some ls from h) (by intro z; cases z)
  | F + 1, p, ls, hp, h => by
    obtain ⟨g1, g2, g3⟩ := ml_ln_good (b := b) hX hp
    rcases hx : (ml_ln b n X p).2 with _ | l0
    · have etx : (ml_tx b n X (F + 1) p).2 = none := by
        show (match (ml_ln b n X p).2 with | none => _ | some l => _ : Nat × Option (List ml_Ln)).2 = _
        rw [hx]
      rw [etx] at h
      cases h
    · obtain ⟨k1, k2, k3⟩ := g3 l0 hx
      have etx : (ml_tx b n X (F + 1) p).2 = (if (ml_ln b n X p).1 < n then (if ml_c b n (ml_ln b n X p).1 = 59 then ((ml_tx b n X F ((ml_ln b n X p).1 + 1)).1, (ml_tx b n X F ((ml_ln b n X p).1 + 1)).2.map fun r => l0 :: r) else ((ml_ln b n X p).1, none)) else ((ml_ln b n X p).1, some [l0])).2 := by
        show (match (ml_ln b n X p).2 with | none => _ | some l => _ : Nat × Option (List ml_Ln)).2 = _
        rw [hx]
      rw [etx] at h
      intro l hl
      by_cases q : (ml_ln b n X p).1 < n
      · rw [if_pos q] at h
        by_cases q2 : ml_c b n (ml_ln b n X p).1 = 59
        · rw [if_pos q2] at h
          obtain ⟨r, r1, r2⟩ := Option.map_eq_some_iff.mp (show (ml_tx b n X F ((ml_ln b n X p).1 + 1)).2.map (fun r => l0 :: r) = some ls from h)
          rw [← r2] at hl
          rcases List.mem_cons.mp hl with z | z
          · rw [z]
            exact k3
          · exact ml_tx_good hX F _ r (by omega) r1 l z
        · rw [if_neg q2] at h
          cases h
      · rw [if_neg q] at h
        have h' : [l0] = ls := Option.some.inj h
        rw [← h'] at hl
        rw [List.mem_singleton.mp hl]
        exact k3
theorem ml_semi {len i vv f : Nat} (hlen : len ≤ 121) (hi : i < len) (hv : vv ≤ i) {α : mj_S} (h3 : α.1 1 3 = nI len) (h2 : α.1 2 i = 59) {x : Int32} (h : ml_SS α [x]) : ∃ α', b_X4_workOut_9 (f + 1) 34 7 (nI vv) (nI i) α = some (x, α') ∧ mk_fr mk_Z4 α α' := by
  obtain ⟨α1, o1, o2, _⟩ := ml_pop h (by show 1 ≤ 121; omega)
  refine ⟨α1, ?_, o2⟩
  have ib := ml_in121 (i := i) (by omega)
  rw [b_X4_workOut_9, h3, if_neg (nI_ge (by omega) (by omega)), if_pos ib, if_pos (nI_le hv (by omega)), nI_clamp (by omega), h2, if_pos rfl, o1, mk_bs]
  rfl
theorem ml_textX {N : Nat → Int32} {len : Nat} (hlen : len ≤ 121) : ∀ (ls : List ml_Ln) (w vv f : Nat) (α : mj_S), (∀ l, l ∈ ls → ml_GL l) → (∀ k, k < 7 → α.1 34 k = N k) → ml_SS α [] → w + (ml_tc w ls).length = len → ml_pl (α.1 2) (α.1 3) w (ml_tc w ls) → vv ≤ w → α.1 1 3 = nI len → len < f + w → ∃ α', b_X4_workOut_9 f 34 7 (nI vv) (nI w) α = some (ml_tv N ls, α') ∧ mk_fr mk_Z4 α α'
  | [], w, vv, f, α, _, _, _, hw, _, _, h3, hf => by
    have hw' : w = len := hw
    obtain ⟨f', rfl⟩ : ∃ f', f = f' + 1 := ⟨f - 1, by omega⟩
    refine ⟨α, ?_, ⟨fun _ _ _ => rfl, rfl⟩⟩
    rw [b_X4_workOut_9, h3, if_pos (nI_le (by omega) (by omega))]
    rfl
  | (none, e) :: r, w, vv, f, α, hG, hN, hS, hw, hp, hv, h3, hf => by
    obtain ⟨_, g2, g3⟩ := hG (none, e) (List.mem_cons_self ..)
    have g2' : ∀ s, s ∈ e.2 → s.1 ≠ 59 ∧ s.1 ≠ 63 := g2
    have g3' : ∀ N st, ml_run N e.2 st = e.1 N :: st := g3
    have hp' : ml_pl (α.1 2) (α.1 3) w ((e.2 ++ [((59 : Int32), (0 : Int32))]) ++ ml_tc (w + (e.2 ++ [((59 : Int32), (0 : Int32))]).length) r) := hp
    have hw' : w + ((e.2 ++ [((59 : Int32), (0 : Int32))]) ++ ml_tc (w + (e.2 ++ [((59 : Int32), (0 : Int32))]).length) r).length = len := hw
    rw [List.length_append, List.length_append] at hw'
    have one : [((59 : Int32), (0 : Int32))].length = 1 := rfl
    rw [one] at hw'
    obtain ⟨p1, _⟩ := ml_pl_split _ _ _ hp'
    obtain ⟨p3, p4⟩ := ml_pl_split _ _ _ p1
    obtain ⟨α1, o1, o2, o3⟩ := ml_codeX hlen (N := N) (vv := vv) e.2 w (f - e.2.length) α [] hN hS (by show 0 ≤ w; omega) (by omega) p3 hv h3 g2'
    rw [g3'] at o3
    obtain ⟨f', hf'⟩ : ∃ f', f - e.2.length = f' + 1 := ⟨f - e.2.length - 1, by omega⟩
    obtain ⟨α2, u1, u2⟩ := ml_semi (f := f') hlen (i := w + e.2.length) (vv := vv) (by omega) (by omega) ((o2.1 1 3 (by unfold mk_Z4; omega)).trans h3) ((o2.1 2 _ (by unfold mk_Z4; omega)).trans p4.1) o3
    refine ⟨α2, ?_, mk_frt o2 u2⟩
    rw [show f - e.2.length + e.2.length = f by omega, hf'] at o1
    rw [o1]
    exact u1
  | (some c, e) :: r, w, vv, f, α, hG, hN, hS, hw, hp, hv, h3, hf => by
    obtain ⟨g1, g2, g3⟩ := hG (some c, e) (List.mem_cons_self ..)
    obtain ⟨c2, c3⟩ := g1 c rfl
    have g2' : ∀ s, s ∈ e.2 → s.1 ≠ 59 ∧ s.1 ≠ 63 := g2
    have g3' : ∀ N st, ml_run N e.2 st = e.1 N :: st := g3
    obtain ⟨nx, hnx⟩ : ∃ nx, nx = w + c.2.length + 1 + e.2.length + 1 := ⟨_, rfl⟩
    have hp' : ml_pl (α.1 2) (α.1 3) w ((c.2 ++ [((63 : Int32), nI (w + c.2.length + 1 + e.2.length + 1))] ++ e.2 ++ [((59 : Int32), (0 : Int32))]) ++ ml_tc (w + (c.2 ++ [((63 : Int32), nI (w + c.2.length + 1 + e.2.length + 1))] ++ e.2 ++ [((59 : Int32), (0 : Int32))]).length) r) := hp
    have hw' : w + ((c.2 ++ [((63 : Int32), nI (w + c.2.length + 1 + e.2.length + 1))] ++ e.2 ++ [((59 : Int32), (0 : Int32))]) ++ ml_tc (w + (c.2 ++ [((63 : Int32), nI (w + c.2.length + 1 + e.2.length + 1))] ++ e.2 ++ [((59 : Int32), (0 : Int32))]).length) r).length = len := hw
    rw [← hnx] at hp' hw'
    have ll : (c.2 ++ [((63 : Int32), nI nx)] ++ e.2 ++ [((59 : Int32), (0 : Int32))]).length = c.2.length + 1 + e.2.length + 1 := by
      rw [List.length_append, List.length_append, List.length_append]
      rfl
    have l2 : (c.2 ++ [((63 : Int32), nI nx)] ++ e.2).length = c.2.length + 1 + e.2.length := by
      rw [List.length_append, List.length_append]
      rfl
    have l1 : (c.2 ++ [((63 : Int32), nI nx)]).length = c.2.length + 1 := by
      rw [List.length_append]
      rfl
    rw [List.length_append, ll] at hw'
    obtain ⟨p1, pr⟩ := ml_pl_split _ _ _ hp'
    rw [ll] at pr
    obtain ⟨p2, p59⟩ := ml_pl_split _ _ _ p1
    rw [l2] at p59
    obtain ⟨p3, pe⟩ := ml_pl_split _ _ _ p2
    rw [l1] at pe
    obtain ⟨pc, p63⟩ := ml_pl_split _ _ _ p3
    obtain ⟨α1, o1, o2, o3⟩ := ml_codeX hlen (N := N) (vv := vv) c.2 w (f - c.2.length) α [] hN hS (by show 0 ≤ w; omega) (by omega) pc hv h3 c2
    rw [c3] at o3
    have k1 : ∀ x y, ¬ mk_Z4 x y → α1.1 x y = α.1 x y := o2.1
    obtain ⟨f', hf'⟩ : ∃ f', f - c.2.length = f' + 1 := ⟨f - c.2.length - 1, by omega⟩
    rw [show f - c.2.length + c.2.length = f by omega, hf'] at o1
    obtain ⟨α2, q1, q2, q3⟩ := ml_pop o3 (by show 1 ≤ 121; omega)
    have q1' : f_X4_pop α1 = some (c.1 N, α2) := q1
    have q3' : ml_SS α2 [] := q3
    have f12 := mk_frt o2 q2
    have ib := ml_in121 (i := w + c.2.length) (by omega)
    have e1 : nI (w + c.2.length) + 1 = nI (w + c.2.length + 1) := nI_add _ 1
    have st : b_X4_workOut_9 (f' + 1) 34 7 (nI vv) (nI (w + c.2.length)) α1 = if c.1 N = 0 then b_X4_workOut_9 f' 34 7 (nI nx) (nI (w + c.2.length + 1)) α2 else b_X4_workOut_9 f' 34 7 (nI (w + c.2.length)) (nI (w + c.2.length + 1)) α2 := by
      rw [b_X4_workOut_9, k1 1 3 (by unfold mk_Z4; omega), h3, if_neg (nI_ge (by omega) (by omega)), if_pos ib, if_pos (nI_le (by omega) (by omega)), nI_clamp (by omega), k1 2 _ (by unfold mk_Z4; omega), p63.1, if_neg (show ¬ (63 : Int32) = 59 by decide), if_pos rfl, q1', mk_bs, if_pos ib, e1]
      show (if c.1 N = 0 then b_X4_workOut_9 f' 34 7 (α2.1 3 (w + c.2.length)) (nI (w + c.2.length + 1)) α2 else b_X4_workOut_9 f' 34 7 (nI (w + c.2.length)) (nI (w + c.2.length + 1)) α2) = _
      rw [f12.1 3 _ (by unfold mk_Z4; omega), p63.2.1]
    have pl2 : ∀ (i : Nat) (l : List (Int32 × Int32)), ml_pl (α.1 2) (α.1 3) i l → ml_pl (α2.1 2) (α2.1 3) i l := fun i l h => by
      rw [funext fun y => f12.1 2 y (by unfold mk_Z4; omega), funext fun y => f12.1 3 y (by unfold mk_Z4; omega)]
      exact h
    have h32 : α2.1 1 3 = nI len := (f12.1 1 3 (by unfold mk_Z4; omega)).trans h3
    have hN2 : ∀ k, k < 7 → α2.1 34 k = N k := fun k hk => (f12.1 34 k (by unfold mk_Z4; omega)).trans (hN k hk)
    rw [o1, st]
    show ∃ α', _ = some ((if c.1 N = 0 then ml_tv N r else e.1 N), α') ∧ _
    by_cases cz : c.1 N = 0
    · rw [if_pos cz, if_pos cz]
      have sk := ml_skipX hlen (u := nx) (by omega) h32 (e.2.length + 1) (f' - (e.2.length + 1)) (by omega)
      rw [show f' - (e.2.length + 1) + (e.2.length + 1) = f' by omega, show nx - (e.2.length + 1) = w + c.2.length + 1 by omega] at sk
      rw [sk]
      have wnx : w + (c.2.length + 1 + e.2.length + 1) = nx := by omega
      rw [wnx] at pr hw'
      obtain ⟨α3, v1, v2⟩ := ml_textX hlen r nx nx (f' - (e.2.length + 1)) α2 (fun l hl => hG l (List.mem_cons_of_mem _ hl)) hN2 q3' (by omega) (pl2 _ _ pr) (by omega) h32 (by omega)
      exact ⟨α3, v1, mk_frt f12 v2⟩
    · rw [if_neg cz, if_neg cz]
      obtain ⟨α3, v1, v2, v3⟩ := ml_codeX hlen (N := N) (vv := w + c.2.length) e.2 (w + c.2.length + 1) (f' - e.2.length) α2 [] hN2 q3' (by show 0 ≤ _; omega) (by omega) (pl2 _ _ pe) (by omega) h32 g2'
      rw [g3'] at v3
      have f123 := mk_frt f12 v2
      obtain ⟨f2, hf2⟩ : ∃ f2, f' - e.2.length = f2 + 1 := ⟨f' - e.2.length - 1, by omega⟩
      obtain ⟨α4, u1, u2⟩ := ml_semi (f := f2) hlen (i := w + c.2.length + 1 + e.2.length) (vv := w + c.2.length) (by omega) (by omega) ((f123.1 1 3 (by unfold mk_Z4; omega)).trans h3) ((f123.1 2 _ (by unfold mk_Z4; omega)).trans (by
        have := p59.1
        rw [show w + (c.2.length + 1 + e.2.length) = w + c.2.length + 1 + e.2.length by omega] at this
        exact this)) v3
      refine ⟨α4, ?_, mk_frt f123 u2⟩
      rw [show f' - e.2.length + e.2.length = f' by omega, hf2] at v1
      rw [v1]
      exact u1
def ml_nm7 (a b c d e f h : Int32) (k : Nat) : Int32 := match k with
  | 0 => a
  | 1 => b
  | 2 => c
  | 3 => d
  | 4 => e
  | 5 => f
  | _ => h
def ml_g (ls : List ml_Ln) : mk_G := fun a b c d e f h => mj_max 0 (mj_min 99 (ml_tv (ml_nm7 a b c d e f h) ls))
theorem ml_g_small (ls : List ml_Ln) (a b c d e f h : Int32) : 0 ≤ (ml_g ls a b c d e f h).toInt ∧ (ml_g ls a b c d e f h).toInt ≤ 99 := by
  have e0 : (0 : Int32).toInt = 0 := rfl
  have e99 : (99 : Int32).toInt = 99 := rfl
  unfold ml_g mj_max mj_min
  by_cases q : ml_tv (ml_nm7 a b c d e f h) ls < (99 : Int32)
  · rw [if_pos q]
    by_cases q2 : (0 : Int32) < ml_tv (ml_nm7 a b c d e f h) ls
    · rw [if_pos q2]
      rw [mk_ltt, e99] at q
      rw [mk_ltt, e0] at q2
      omega
    · rw [if_neg q2]
      decide
  · rw [if_neg q]
    decide
theorem ml_growth {ls : List ml_Ln} (hG : ∀ l, l ∈ ls → ml_GL l) (hlen : (ml_tc 0 ls).length ≤ 121) {c2 c3 : Nat → Int32} (hp : ml_pl c2 c3 0 (ml_tc 0 ls)) (τ : mj_S) (h13 : τ.1 1 3 = nI (ml_tc 0 ls).length) (h15 : τ.1 1 5 = 1) (h2 : τ.1 2 = c2) (h3 : τ.1 3 = c3) : ∃ τ', f_X4_growth τ 34 7 = some (ml_g ls (τ.1 34 0) (τ.1 34 1) (τ.1 34 2) (τ.1 34 3) (τ.1 34 4) (τ.1 34 5) (τ.1 34 6), τ') ∧ mk_fr mk_Z4 τ τ' := by
  have hN : ∀ k, k < 7 → (mj_sI τ 1 4 0).1 34 k = ml_nm7 (τ.1 34 0) (τ.1 34 1) (τ.1 34 2) (τ.1 34 3) (τ.1 34 4) (τ.1 34 5) (τ.1 34 6) k := by
    intro k hk
    rw [mk_g, if_neg (by omega)]
    match k, hk with
    | 0, _ => rfl
    | 1, _ => rfl
    | 2, _ => rfl
    | 3, _ => rfl
    | 4, _ => rfl
    | 5, _ => rfl
    | 6, _ => rfl
  obtain ⟨τ', o1, o2⟩ := ml_textX (len := (ml_tc 0 ls).length) hlen ls 0 0 mj_fu (mj_sI τ 1 4 0) hG hN ⟨rfl, trivial⟩ (by omega) (by
    show ml_pl (τ.1 2) (τ.1 3) 0 (ml_tc 0 ls)
    rw [h2, h3]
    exact hp) (by omega) h13 (by show _ < 5000 + 0; omega)
  rw [nI_0] at o1
  refine ⟨τ', ?_, mk_frt (mk_frI (by unfold mk_Z4; omega)) o2⟩
  unfold f_X4_growth f_X4_workOut b_X4_growth_30
  rw [if_pos (by decide), h15, if_neg (show ¬ (1 : Int32) = 0 by decide), o1, mk_bs]
  rfl
