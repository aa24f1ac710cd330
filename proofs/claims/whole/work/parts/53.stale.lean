-- what is kept while rows are stale
def mk_K (g : mk_G) (c w n k d d2 a : Nat) (σ : mj_S) : Prop :=
  (c ≤ 6) ∧
  (σ.1 9 6 = nI c) ∧
  (σ.1 64 7 = nI c) ∧
  (∀ j, j < c → mk_kid (σ.1 10) (σ.1 11) (σ.1 12) (σ.1 13) (σ.1 14) (σ.1 65) (σ.1 69) (σ.1 70) (σ.1 71) j) ∧
  (w ≤ 10) ∧
  (σ.1 9 10 = nI w) ∧
  (σ.1 64 11 = nI w) ∧
  (∀ m, m < 600 → σ.1 15 m = mk_wo (σ.1 72) (σ.1 73) (σ.1 74) (nI m) w) ∧
  (∀ m, m < 600 → σ.1 16 m = 0) ∧
  (n ≤ 120) ∧
  (σ.1 5 3 = nI n) ∧
  (σ.1 64 16 = nI n) ∧
  (σ.1 6 = σ.1 75) ∧
  (∀ i, i < n → mk_r (σ.1 6 i) 255) ∧
  (mk_law g (σ.1 1 3) (σ.1 1 5) (σ.1 64 18) (σ.1 2) (σ.1 3) (σ.1 76)) ∧
  (k ≤ 30) ∧
  (σ.1 35 4 = nI k) ∧
  (σ.1 64 26 = nI k) ∧
  (∀ i, i < k → mk_mark (σ.1 36) (σ.1 37) (σ.1 38) (σ.1 39) (σ.1 65) (σ.1 79) (σ.1 80) i) ∧
  (σ.1 35 5 = σ.1 64 30) ∧
  (∃ q, q ≤ k ∧ σ.1 35 6 = nI q ∧ ∀ i, i < k → σ.1 81 i = if i < q then 1 else 0) ∧
  (d ≤ d2) ∧
  (d2 ≤ 40) ∧
  (σ.1 45 6 = nI d) ∧
  (σ.1 64 5 = nI d) ∧
  (σ.1 45 7 = nI d2) ∧
  (σ.1 64 4 = nI d2) ∧
  (∀ i, i < d2 → mk_chg (σ.1 46) (σ.1 47) (σ.1 48) (σ.1 49) (σ.1 66) (σ.1 67) (σ.1 68) c k i) ∧
  (a ≤ 50) ∧
  (σ.1 50 1 = nI a) ∧
  (σ.1 64 38 = nI a) ∧
  (∀ i, i < a → σ.1 51 i = σ.1 85 i ∧ mk_r (σ.1 51 i) 7) ∧
  (σ.1 50 3 = σ.1 64 41) ∧
  (∀ i, i < 24 → σ.1 52 i = σ.1 86 i) ∧
  (∀ e, e < 6 → mk_shelf (σ.1 54) (σ.1 55) (σ.1 56) (σ.1 87) (σ.1 88) (σ.2 58) (σ.2 59) (σ.2 60) (σ.2 61) (σ.2 62) (σ.2 63) (σ.2 89) a e)
theorem mk_K.mk {g : mk_G} {c w n k d d2 a : Nat} {σ : mj_S}
    (hc : c ≤ 6)
    (c9 : σ.1 9 6 = nI c)
    (c64 : σ.1 64 7 = nI c)
    (kid : ∀ j, j < c → mk_kid (σ.1 10) (σ.1 11) (σ.1 12) (σ.1 13) (σ.1 14) (σ.1 65) (σ.1 69) (σ.1 70) (σ.1 71) j)
    (hw : w ≤ 10)
    (w9 : σ.1 9 10 = nI w)
    (w64 : σ.1 64 11 = nI w)
    (want : ∀ m, m < 600 → σ.1 15 m = mk_wo (σ.1 72) (σ.1 73) (σ.1 74) (nI m) w)
    (noWant : ∀ m, m < 600 → σ.1 16 m = 0)
    (hn : n ≤ 120)
    (n5 : σ.1 5 3 = nI n)
    (n64 : σ.1 64 16 = nI n)
    (tape : σ.1 6 = σ.1 75)
    (bytes : ∀ i, i < n → mk_r (σ.1 6 i) 255)
    (law : mk_law g (σ.1 1 3) (σ.1 1 5) (σ.1 64 18) (σ.1 2) (σ.1 3) (σ.1 76))
    (hk : k ≤ 30)
    (k35 : σ.1 35 4 = nI k)
    (k64 : σ.1 64 26 = nI k)
    (mark : ∀ i, i < k → mk_mark (σ.1 36) (σ.1 37) (σ.1 38) (σ.1 39) (σ.1 65) (σ.1 79) (σ.1 80) i)
    (painted : σ.1 35 5 = σ.1 64 30)
    (ahead : ∃ q, q ≤ k ∧ σ.1 35 6 = nI q ∧ ∀ i, i < k → σ.1 81 i = if i < q then 1 else 0)
    (hd : d ≤ d2)
    (hd2 : d2 ≤ 40)
    (d45 : σ.1 45 6 = nI d)
    (d64 : σ.1 64 5 = nI d)
    (e45 : σ.1 45 7 = nI d2)
    (e64 : σ.1 64 4 = nI d2)
    (chg : ∀ i, i < d2 → mk_chg (σ.1 46) (σ.1 47) (σ.1 48) (σ.1 49) (σ.1 66) (σ.1 67) (σ.1 68) c k i)
    (ha : a ≤ 50)
    (a50 : σ.1 50 1 = nI a)
    (a64 : σ.1 64 38 = nI a)
    (body : ∀ i, i < a → σ.1 51 i = σ.1 85 i ∧ mk_r (σ.1 51 i) 7)
    (ran : σ.1 50 3 = σ.1 64 41)
    (trace : ∀ i, i < 24 → σ.1 52 i = σ.1 86 i)
    (shelf : ∀ e, e < 6 → mk_shelf (σ.1 54) (σ.1 55) (σ.1 56) (σ.1 87) (σ.1 88) (σ.2 58) (σ.2 59) (σ.2 60) (σ.2 61) (σ.2 62) (σ.2 63) (σ.2 89) a e) :
    mk_K g c w n k d d2 a σ := ⟨hc, c9, c64, kid, hw, w9, w64, want, noWant, hn, n5, n64, tape, bytes, law, hk, k35, k64, mark, painted, ahead, hd, hd2, d45, d64, e45, e64, chg, ha, a50, a64, body, ran, trace, shelf⟩
theorem mk_K.hc {g : mk_G} {c w n k d d2 a : Nat} {σ : mj_S} (h : mk_K g c w n k d d2 a σ) : c ≤ 6 := h.1
theorem mk_K.c9 {g : mk_G} {c w n k d d2 a : Nat} {σ : mj_S} (h : mk_K g c w n k d d2 a σ) : σ.1 9 6 = nI c := h.2.1
theorem mk_K.c64 {g : mk_G} {c w n k d d2 a : Nat} {σ : mj_S} (h : mk_K g c w n k d d2 a σ) : σ.1 64 7 = nI c := h.2.2.1
theorem mk_K.kid {g : mk_G} {c w n k d d2 a : Nat} {σ : mj_S} (h : mk_K g c w n k d d2 a σ) : ∀ j, j < c → mk_kid (σ.1 10) (σ.1 11) (σ.1 12) (σ.1 13) (σ.1 14) (σ.1 65) (σ.1 69) (σ.1 70) (σ.1 71) j := h.2.2.2.1
theorem mk_K.hw {g : mk_G} {c w n k d d2 a : Nat} {σ : mj_S} (h : mk_K g c w n k d d2 a σ) : w ≤ 10 := h.2.2.2.2.1
theorem mk_K.w9 {g : mk_G} {c w n k d d2 a : Nat} {σ : mj_S} (h : mk_K g c w n k d d2 a σ) : σ.1 9 10 = nI w := h.2.2.2.2.2.1
theorem mk_K.w64 {g : mk_G} {c w n k d d2 a : Nat} {σ : mj_S} (h : mk_K g c w n k d d2 a σ) : σ.1 64 11 = nI w := h.2.2.2.2.2.2.1
theorem mk_K.want {g : mk_G} {c w n k d d2 a : Nat} {σ : mj_S} (h : mk_K g c w n k d d2 a σ) : ∀ m, m < 600 → σ.1 15 m = mk_wo (σ.1 72) (σ.1 73) (σ.1 74) (nI m) w := h.2.2.2.2.2.2.2.1
theorem mk_K.noWant {g : mk_G} {c w n k d d2 a : Nat} {σ : mj_S} (h : mk_K g c w n k d d2 a σ) : ∀ m, m < 600 → σ.1 16 m = 0 := h.2.2.2.2.2.2.2.2.1
theorem mk_K.hn {g : mk_G} {c w n k d d2 a : Nat} {σ : mj_S} (h : mk_K g c w n k d d2 a σ) : n ≤ 120 := h.2.2.2.2.2.2.2.2.2.1
theorem mk_K.n5 {g : mk_G} {c w n k d d2 a : Nat} {σ : mj_S} (h : mk_K g c w n k d d2 a σ) : σ.1 5 3 = nI n := h.2.2.2.2.2.2.2.2.2.2.1
theorem mk_K.n64 {g : mk_G} {c w n k d d2 a : Nat} {σ : mj_S} (h : mk_K g c w n k d d2 a σ) : σ.1 64 16 = nI n := h.2.2.2.2.2.2.2.2.2.2.2.1
theorem mk_K.tape {g : mk_G} {c w n k d d2 a : Nat} {σ : mj_S} (h : mk_K g c w n k d d2 a σ) : σ.1 6 = σ.1 75 := h.2.2.2.2.2.2.2.2.2.2.2.2.1
theorem mk_K.bytes {g : mk_G} {c w n k d d2 a : Nat} {σ : mj_S} (h : mk_K g c w n k d d2 a σ) : ∀ i, i < n → mk_r (σ.1 6 i) 255 := h.2.2.2.2.2.2.2.2.2.2.2.2.2.1
theorem mk_K.law {g : mk_G} {c w n k d d2 a : Nat} {σ : mj_S} (h : mk_K g c w n k d d2 a σ) : mk_law g (σ.1 1 3) (σ.1 1 5) (σ.1 64 18) (σ.1 2) (σ.1 3) (σ.1 76) := h.2.2.2.2.2.2.2.2.2.2.2.2.2.2.1
theorem mk_K.hk {g : mk_G} {c w n k d d2 a : Nat} {σ : mj_S} (h : mk_K g c w n k d d2 a σ) : k ≤ 30 := h.2.2.2.2.2.2.2.2.2.2.2.2.2.2.2.1
theorem mk_K.k35 {g : mk_G} {c w n k d d2 a : Nat} {σ : mj_S} (h : mk_K g c w n k d d2 a σ) : σ.1 35 4 = nI k := h.2.2.2.2.2.2.2.2.2.2.2.2.2.2.2.2.1
theorem mk_K.k64 {g : mk_G} {c w n k d d2 a : Nat} {σ : mj_S} (h : mk_K g c w n k d d2 a σ) : σ.1 64 26 = nI k := h.2.2.2.2.2.2.2.2.2.2.2.2.2.2.2.2.2.1
theorem mk_K.mark {g : mk_G} {c w n k d d2 a : Nat} {σ : mj_S} (h : mk_K g c w n k d d2 a σ) : ∀ i, i < k → mk_mark (σ.1 36) (σ.1 37) (σ.1 38) (σ.1 39) (σ.1 65) (σ.1 79) (σ.1 80) i := h.2.2.2.2.2.2.2.2.2.2.2.2.2.2.2.2.2.2.1
theorem mk_K.painted {g : mk_G} {c w n k d d2 a : Nat} {σ : mj_S} (h : mk_K g c w n k d d2 a σ) : σ.1 35 5 = σ.1 64 30 := h.2.2.2.2.2.2.2.2.2.2.2.2.2.2.2.2.2.2.2.1
theorem mk_K.ahead {g : mk_G} {c w n k d d2 a : Nat} {σ : mj_S} (h : mk_K g c w n k d d2 a σ) : ∃ q, q ≤ k ∧ σ.1 35 6 = nI q ∧ ∀ i, i < k → σ.1 81 i = if i < q then 1 else 0 := h.2.2.2.2.2.2.2.2.2.2.2.2.2.2.2.2.2.2.2.2.1
theorem mk_K.hd {g : mk_G} {c w n k d d2 a : Nat} {σ : mj_S} (h : mk_K g c w n k d d2 a σ) : d ≤ d2 := h.2.2.2.2.2.2.2.2.2.2.2.2.2.2.2.2.2.2.2.2.2.1
theorem mk_K.hd2 {g : mk_G} {c w n k d d2 a : Nat} {σ : mj_S} (h : mk_K g c w n k d d2 a σ) : d2 ≤ 40 := h.2.2.2.2.2.2.2.2.2.2.2.2.2.2.2.2.2.2.2.2.2.2.1
theorem mk_K.d45 {g : mk_G} {c w n k d d2 a : Nat} {σ : mj_S} (h : mk_K g c w n k d d2 a σ) : σ.1 45 6 = nI d := h.2.2.2.2.2.2.2.2.2.2.2.2.2.2.2.2.2.2.2.2.2.2.2.1
theorem mk_K.d64 {g : mk_G} {c w n k d d2 a : Nat} {σ : mj_S} (h : mk_K g c w n k d d2 a σ) : σ.1 64 5 = nI d := h.2.2.2.2.2.2.2.2.2.2.2.2.2.2.2.2.2.2.2.2.2.2.2.2.1
theorem mk_K.e45 {g : mk_G} {c w n k d d2 a : Nat} {σ : mj_S} (h : mk_K g c w n k d d2 a σ) : σ.1 45 7 = nI d2 := h.2.2.2.2.2.2.2.2.2.2.2.2.2.2.2.2.2.2.2.2.2.2.2.2.2.1
theorem mk_K.e64 {g : mk_G} {c w n k d d2 a : Nat} {σ : mj_S} (h : mk_K g c w n k d d2 a σ) : σ.1 64 4 = nI d2 := h.2.2.2.2.2.2.2.2.2.2.2.2.2.2.2.2.2.2.2.2.2.2.2.2.2.2.1
theorem mk_K.chg {g : mk_G} {c w n k d d2 a : Nat} {σ : mj_S} (h : mk_K g c w n k d d2 a σ) : ∀ i, i < d2 → mk_chg (σ.1 46) (σ.1 47) (σ.1 48) (σ.1 49) (σ.1 66) (σ.1 67) (σ.1 68) c k i := h.2.2.2.2.2.2.2.2.2.2.2.2.2.2.2.2.2.2.2.2.2.2.2.2.2.2.2.1
theorem mk_K.ha {g : mk_G} {c w n k d d2 a : Nat} {σ : mj_S} (h : mk_K g c w n k d d2 a σ) : a ≤ 50 := h.2.2.2.2.2.2.2.2.2.2.2.2.2.2.2.2.2.2.2.2.2.2.2.2.2.2.2.2.1
theorem mk_K.a50 {g : mk_G} {c w n k d d2 a : Nat} {σ : mj_S} (h : mk_K g c w n k d d2 a σ) : σ.1 50 1 = nI a := h.2.2.2.2.2.2.2.2.2.2.2.2.2.2.2.2.2.2.2.2.2.2.2.2.2.2.2.2.2.1
theorem mk_K.a64 {g : mk_G} {c w n k d d2 a : Nat} {σ : mj_S} (h : mk_K g c w n k d d2 a σ) : σ.1 64 38 = nI a := h.2.2.2.2.2.2.2.2.2.2.2.2.2.2.2.2.2.2.2.2.2.2.2.2.2.2.2.2.2.2.1
theorem mk_K.body {g : mk_G} {c w n k d d2 a : Nat} {σ : mj_S} (h : mk_K g c w n k d d2 a σ) : ∀ i, i < a → σ.1 51 i = σ.1 85 i ∧ mk_r (σ.1 51 i) 7 := h.2.2.2.2.2.2.2.2.2.2.2.2.2.2.2.2.2.2.2.2.2.2.2.2.2.2.2.2.2.2.2.1
theorem mk_K.ran {g : mk_G} {c w n k d d2 a : Nat} {σ : mj_S} (h : mk_K g c w n k d d2 a σ) : σ.1 50 3 = σ.1 64 41 := h.2.2.2.2.2.2.2.2.2.2.2.2.2.2.2.2.2.2.2.2.2.2.2.2.2.2.2.2.2.2.2.2.1
theorem mk_K.trace {g : mk_G} {c w n k d d2 a : Nat} {σ : mj_S} (h : mk_K g c w n k d d2 a σ) : ∀ i, i < 24 → σ.1 52 i = σ.1 86 i := h.2.2.2.2.2.2.2.2.2.2.2.2.2.2.2.2.2.2.2.2.2.2.2.2.2.2.2.2.2.2.2.2.2.1
theorem mk_K.shelf {g : mk_G} {c w n k d d2 a : Nat} {σ : mj_S} (h : mk_K g c w n k d d2 a σ) : ∀ e, e < 6 → mk_shelf (σ.1 54) (σ.1 55) (σ.1 56) (σ.1 87) (σ.1 88) (σ.2 58) (σ.2 59) (σ.2 60) (σ.2 61) (σ.2 62) (σ.2 63) (σ.2 89) a e := h.2.2.2.2.2.2.2.2.2.2.2.2.2.2.2.2.2.2.2.2.2.2.2.2.2.2.2.2.2.2.2.2.2.2
theorem mk_JK {g c w n k d d2 a σ} (h : mk_J g c w n k d d2 a σ) : mk_K g c w n k d d2 a σ := ⟨h.hc, h.c9, h.c64, h.kid, h.hw, h.w9, h.w64, h.want, h.noWant, h.hn, h.n5, h.n64, h.tape, h.bytes, h.law, h.hk, h.k35, h.k64, h.mark, h.painted, h.ahead, h.hd, h.hd2, h.d45, h.d64, h.e45, h.e64, h.chg, h.ha, h.a50, h.a64, h.body, h.ran, h.trace, h.shelf⟩
theorem mk_JR {g c w n k d d2 a σ τ} (h : mk_K g c w n k d d2 a σ) (q : mk_fr mk_Zr σ τ) (hr : ∀ j, j < c → τ.1 33 j = 0 ∧ mk_rr g σ τ j) (h6 : τ.1 64 6 = 0) : mk_J g c w n k d d2 a τ := by
  have hc := h.hc
  have e : ∀ x, (∀ y, ¬ mk_Zr x y) → τ.1 x = σ.1 x := fun x hx => funext fun y => q.1 x y (hx y)
  have f : ∀ x y, ¬ mk_Zr x y → τ.1 x y = σ.1 x y := q.1
  have l := q.2
  have e2 := e 2 (fun y => by unfold mk_Zr; omega)
  have e3 := e 3 (fun y => by unfold mk_Zr; omega)
  have e6 := e 6 (fun y => by unfold mk_Zr; omega)
  have e10 := e 10 (fun y => by unfold mk_Zr; omega)
  have e11 := e 11 (fun y => by unfold mk_Zr; omega)
  have e12 := e 12 (fun y => by unfold mk_Zr; omega)
  have e13 := e 13 (fun y => by unfold mk_Zr; omega)
  have e14 := e 14 (fun y => by unfold mk_Zr; omega)
  have e15 := e 15 (fun y => by unfold mk_Zr; omega)
  have e16 := e 16 (fun y => by unfold mk_Zr; omega)
  have e36 := e 36 (fun y => by unfold mk_Zr; omega)
  have e37 := e 37 (fun y => by unfold mk_Zr; omega)
  have e38 := e 38 (fun y => by unfold mk_Zr; omega)
  have e39 := e 39 (fun y => by unfold mk_Zr; omega)
  have e46 := e 46 (fun y => by unfold mk_Zr; omega)
  have e47 := e 47 (fun y => by unfold mk_Zr; omega)
  have e48 := e 48 (fun y => by unfold mk_Zr; omega)
  have e49 := e 49 (fun y => by unfold mk_Zr; omega)
  have e51 := e 51 (fun y => by unfold mk_Zr; omega)
  have e52 := e 52 (fun y => by unfold mk_Zr; omega)
  have e54 := e 54 (fun y => by unfold mk_Zr; omega)
  have e55 := e 55 (fun y => by unfold mk_Zr; omega)
  have e56 := e 56 (fun y => by unfold mk_Zr; omega)
  have e65 := e 65 (fun y => by unfold mk_Zr; omega)
  have e66 := e 66 (fun y => by unfold mk_Zr; omega)
  have e67 := e 67 (fun y => by unfold mk_Zr; omega)
  have e68 := e 68 (fun y => by unfold mk_Zr; omega)
  have e69 := e 69 (fun y => by unfold mk_Zr; omega)
  have e70 := e 70 (fun y => by unfold mk_Zr; omega)
  have e71 := e 71 (fun y => by unfold mk_Zr; omega)
  have e72 := e 72 (fun y => by unfold mk_Zr; omega)
  have e73 := e 73 (fun y => by unfold mk_Zr; omega)
  have e74 := e 74 (fun y => by unfold mk_Zr; omega)
  have e75 := e 75 (fun y => by unfold mk_Zr; omega)
  have e76 := e 76 (fun y => by unfold mk_Zr; omega)
  have e79 := e 79 (fun y => by unfold mk_Zr; omega)
  have e80 := e 80 (fun y => by unfold mk_Zr; omega)
  have e81 := e 81 (fun y => by unfold mk_Zr; omega)
  have e85 := e 85 (fun y => by unfold mk_Zr; omega)
  have e86 := e 86 (fun y => by unfold mk_Zr; omega)
  have e87 := e 87 (fun y => by unfold mk_Zr; omega)
  have e88 := e 88 (fun y => by unfold mk_Zr; omega)
  have f1_3 := f 1 3 (by unfold mk_Zr; omega)
  have f1_5 := f 1 5 (by unfold mk_Zr; omega)
  have f5_3 := f 5 3 (by unfold mk_Zr; omega)
  have f9_6 := f 9 6 (by unfold mk_Zr; omega)
  have f9_10 := f 9 10 (by unfold mk_Zr; omega)
  have f35_4 := f 35 4 (by unfold mk_Zr; omega)
  have f35_5 := f 35 5 (by unfold mk_Zr; omega)
  have f35_6 := f 35 6 (by unfold mk_Zr; omega)
  have f45_6 := f 45 6 (by unfold mk_Zr; omega)
  have f45_7 := f 45 7 (by unfold mk_Zr; omega)
  have f50_1 := f 50 1 (by unfold mk_Zr; omega)
  have f50_3 := f 50 3 (by unfold mk_Zr; omega)
  have f64_4 := f 64 4 (by unfold mk_Zr; omega)
  have f64_5 := f 64 5 (by unfold mk_Zr; omega)
  have f64_7 := f 64 7 (by unfold mk_Zr; omega)
  have f64_11 := f 64 11 (by unfold mk_Zr; omega)
  have f64_16 := f 64 16 (by unfold mk_Zr; omega)
  have f64_18 := f 64 18 (by unfold mk_Zr; omega)
  have f64_26 := f 64 26 (by unfold mk_Zr; omega)
  have f64_30 := f 64 30 (by unfold mk_Zr; omega)
  have f64_38 := f 64 38 (by unfold mk_Zr; omega)
  have f64_41 := f 64 41 (by unfold mk_Zr; omega)
  refine mk_J.mk (hc := h.hc) (c9 := ?_) (c64 := ?_) (kid := ?_) (hw := h.hw) (w9 := ?_) (w64 := ?_) (want := ?_) (noWant := ?_) (hn := h.hn) (n5 := ?_) (n64 := ?_) (tape := ?_) (bytes := ?_) (law := ?_) (stale := ?_) (rows := ?_) (rowsM := ?_) (grown := ?_) (hk := h.hk) (k35 := ?_) (k64 := ?_) (mark := ?_) (painted := ?_) (ahead := ?_) (hd := h.hd) (hd2 := h.hd2) (d45 := ?_) (d64 := ?_) (e45 := ?_) (e64 := ?_) (chg := ?_) (ha := h.ha) (a50 := ?_) (a64 := ?_) (body := ?_) (ran := ?_) (trace := ?_) (shelf := ?_)
  · rw [f9_6]; exact h.c9
  · rw [f64_7]; exact h.c64
  · rw [e10, e11, e12, e13, e14, e65, e69, e70, e71]; exact h.kid
  · rw [f9_10]; exact h.w9
  · rw [f64_11]; exact h.w64
  · rw [e15, e72, e73, e74]; exact h.want
  · rw [e16]; exact h.noWant
  · rw [f5_3]; exact h.n5
  · rw [f64_16]; exact h.n64
  · rw [e6, e75]; exact h.tape
  · rw [e6]; exact h.bytes
  · rw [e2, e3, e76, f1_3, f1_5, f64_18]; exact h.law
  · exact fun j hj => (hr j hj).1
  · intro j hj m hm
    rw [e10, e11, e12, e13, e14, e15]
    exact (congrFun (mk_selE τ.1 19 j (by omega)) m).trans ((hr j hj).2 m hm).1
  · intro j hj m hm
    rw [e10, e11, e16]
    exact (congrFun (mk_selE τ.1 26 j (by omega)) m).trans ((hr j hj).2 m hm).2
  · exact .inl h6
  · rw [f35_4]; exact h.k35
  · rw [f64_26]; exact h.k64
  · rw [e36, e37, e38, e39, e65, e79, e80]; exact h.mark
  · rw [f35_5, f64_30]; exact h.painted
  · rw [e81, f35_6]; exact h.ahead
  · rw [f45_6]; exact h.d45
  · rw [f64_5]; exact h.d64
  · rw [f45_7]; exact h.e45
  · rw [f64_4]; exact h.e64
  · rw [e46, e47, e48, e49, e66, e67, e68]; exact h.chg
  · rw [f50_1]; exact h.a50
  · rw [f64_38]; exact h.a64
  · rw [e51, e85]; exact h.body
  · rw [f50_3, f64_41]; exact h.ran
  · rw [e52, e86]; exact h.trace
  · rw [e54, e55, e56, e87, e88, l]; exact h.shelf
