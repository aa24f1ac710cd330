-- what each method does, as a function (laid by wip/whole/gen.py out of the decode rows)
def mj_ix (ch : Int32) : Int32 := if ch = 97 then 0 else if ch = 115 then 1 else if ch = 119 then 2 else if ch = 104 then 3 else if ch = 112 then 4 else if ch = 109 then 5 else if ch = 107 then 6 else -1
-- DoorPostModel
def f_X10_within (σ : mj_S) (p0 : Int64) (p2 : Int64) (p4 : Int64) : Int32 :=
    (if (lg_cmp p0 p2) < 0 then 0 else (if (0 : Int32) < (lg_cmp p0 p4) then 0 else 1))
def f_X10_size (σ : mj_S) (p0 : Int32) : Int32 :=
    (if (0 : Int32) ≤ p0 then p0 else -p0)
def b_X10_becomes_97 (v1 : Int32) (v2 : Int32) (v3 : Int32) (σ : mj_S) : Option (Int32 × mj_S) :=
    (if 0 ≤ (σ.1 64 5).toInt ∧ (σ.1 64 5).toInt < 40 then (if 0 ≤ (σ.1 64 5).toInt ∧ (σ.1 64 5).toInt < 40 then (if 0 ≤ (σ.1 64 5).toInt ∧ (σ.1 64 5).toInt < 40 then (if 0 ≤ v1.toInt ∧ v1.toInt < 72 then some (v3, (mj_sI (mj_sI (mj_sI (mj_sI (mj_sI (mj_sI (mj_sI σ 66 (σ.1 64 5).toNatClampNeg v1) 67 (σ.1 64 5).toNatClampNeg v3) 68 (σ.1 64 5).toNatClampNeg v2) 64 5 ((σ.1 64 5) + 1)) 64 4 ((σ.1 64 5) + 1)) 65 v1.toNatClampNeg v2) 64 6 0)) else none) else none) else none) else none)
def b_X10_becomes_26 : Nat → Int32 → Int32 → Int32 → Int32 → mj_S → Option (Int32 × mj_S)
  | 0, _, _, _, _, _ => none
  | n + 1, v1, v2, v3, v4, σ =>
    (if (40 : Int32) ≤ v4 then b_X10_becomes_97 v1 v2 v3 (mj_sI σ 64 5 ((σ.1 64 5) - 1)) else (if 0 ≤ v4.toInt ∧ v4.toInt < 40 then (if 0 ≤ (v4 - 1).toInt ∧ (v4 - 1).toInt < 40 then (if 0 ≤ v4.toInt ∧ v4.toInt < 40 then (if 0 ≤ (v4 - 1).toInt ∧ (v4 - 1).toInt < 40 then (if 0 ≤ v4.toInt ∧ v4.toInt < 40 then (if 0 ≤ (v4 - 1).toInt ∧ (v4 - 1).toInt < 40 then b_X10_becomes_26 n v1 v2 v3 (v4 + 1) (mj_sI (mj_sI (mj_sI σ 66 (v4 - 1).toNatClampNeg (σ.1 66 v4.toNatClampNeg)) 67 (v4 - 1).toNatClampNeg (σ.1 67 v4.toNatClampNeg)) 68 (v4 - 1).toNatClampNeg (σ.1 68 v4.toNatClampNeg)) else none) else none) else none) else none) else none) else none))
def f_X10_becomes (σ : mj_S) (p1 : Int32) (p2 : Int32) : Option (Int32 × mj_S) :=
    (if 0 ≤ p1.toInt ∧ p1.toInt < 72 then (if (σ.1 65 p1.toNatClampNeg) = p2 then some (σ.1 65 p1.toNatClampNeg, σ) else (if (σ.1 64 5) = 40 then b_X10_becomes_26 mj_fu p1 p2 (σ.1 65 p1.toNatClampNeg) 1 σ else b_X10_becomes_97 p1 p2 (σ.1 65 p1.toNatClampNeg) σ)) else none)
def f_X10_undo (σ : mj_S) : Option (Int32 × mj_S) :=
    (if (σ.1 64 5) = 0 then some ((-5), σ) else (if 0 ≤ ((σ.1 64 5) - 1).toInt ∧ ((σ.1 64 5) - 1).toInt < 40 then (if 0 ≤ ((σ.1 64 5) - 1).toInt ∧ ((σ.1 64 5) - 1).toInt < 40 then (if 0 ≤ (σ.1 66 ((σ.1 64 5) - 1).toNatClampNeg).toInt ∧ (σ.1 66 ((σ.1 64 5) - 1).toNatClampNeg).toInt < 72 then some ((σ.1 64 5) - 1, (mj_sI (mj_sI (mj_sI σ 64 5 ((σ.1 64 5) - 1)) 65 (σ.1 66 ((σ.1 64 5) - 1).toNatClampNeg).toNatClampNeg (σ.1 67 ((σ.1 64 5) - 1).toNatClampNeg)) 64 6 0)) else none) else none) else none))
def f_X10_redo (σ : mj_S) : Option (Int32 × mj_S) :=
    (if (σ.1 64 5) = (σ.1 64 4) then some ((-5), σ) else (if 0 ≤ (σ.1 64 5).toInt ∧ (σ.1 64 5).toInt < 40 then (if 0 ≤ (σ.1 64 5).toInt ∧ (σ.1 64 5).toInt < 40 then (if 0 ≤ (σ.1 66 (σ.1 64 5).toNatClampNeg).toInt ∧ (σ.1 66 (σ.1 64 5).toNatClampNeg).toInt < 72 then some ((σ.1 64 4) - ((σ.1 64 5) + 1), (mj_sI (mj_sI (mj_sI σ 65 (σ.1 66 (σ.1 64 5).toNatClampNeg).toNatClampNeg (σ.1 68 (σ.1 64 5).toNatClampNeg)) 64 5 ((σ.1 64 5) + 1)) 64 6 0)) else none) else none) else none))
def f_X10_isChild (σ : mj_S) (p1 : Int32) : Int32 :=
    mj_zb (f_X10_within σ p1.toInt64 0 (((σ.1 64 7) - 1).toInt64))
def f_X10_isMonth (σ : mj_S) (p0 : Int32) : Int32 :=
    mj_zb (f_X10_within σ p0.toInt64 0 599)
def f_X10_isLate (σ : mj_S) (p0 : Int32) : Int32 :=
    mj_zb (f_X10_within σ p0.toInt64 (-24) 24)
def f_X10_areParents (σ : mj_S) (p0 : Int32) : Int32 :=
    mj_zb (f_X10_within σ p0.toInt64 3000 6000)
def f_X10_child (σ : mj_S) (p1 : Int32) (p2 : Int32) (p3 : Int32) : Option (Int32 × mj_S) :=
    (if p1 < 0 then some ((-1), σ) else (if (f_X10_isMonth σ (p1 / 10)) = 0 then some ((-1), σ) else (if (1 : Int32) < (mj_rem p1 10) then some ((-1), σ) else (if (f_X10_within σ p2.toInt64 500 2000) = 0 then some ((-1), σ) else (if p3 < 0 then some ((-1), σ) else (if (f_X10_isLate σ ((p3 / 10000) - 24)) = 0 then some ((-1), σ) else (if (f_X10_areParents σ (mj_rem p3 10000)) = 0 then some ((-1), σ) else (if (σ.1 64 7) = 6 then some ((-3), σ) else (if 0 ≤ (σ.1 64 7).toInt ∧ (σ.1 64 7).toInt < 7 then (if 0 ≤ (σ.1 64 7).toInt ∧ (σ.1 64 7).toInt < 7 then (if 0 ≤ (σ.1 64 7).toInt ∧ (σ.1 64 7).toInt < 7 then (if 0 ≤ (σ.1 64 7).toInt ∧ (σ.1 64 7).toInt < 72 then (if 0 ≤ (6 + (σ.1 64 7)).toInt ∧ (6 + (σ.1 64 7)).toInt < 72 then some (((σ.1 64 7) + 1) - 1, (mj_sI (mj_sI (mj_sI (mj_sI (mj_sI (mj_sI (mj_sI σ 69 (σ.1 64 7).toNatClampNeg (p1 / 10)) 70 (σ.1 64 7).toNatClampNeg (mj_rem p1 10)) 71 (σ.1 64 7).toNatClampNeg p2) 65 (σ.1 64 7).toNatClampNeg ((p3 / 10000) - 24)) 65 (6 + (σ.1 64 7)).toNatClampNeg (mj_rem p3 10000)) 64 7 ((σ.1 64 7) + 1)) 64 6 0)) else none) else none) else none) else none) else none)))))))))
def f_X10_isSpan (σ : mj_S) (p0 : Int32) : Int32 :=
    (if p0 < 0 then 0 else (if (f_X10_isMonth σ (p0 / 1000)) = 0 then 0 else (if (f_X10_isMonth σ (mj_rem p0 1000)) = 0 then 0 else (if (mj_rem p0 1000) < (p0 / 1000) then 0 else 1))))
def f_X10_tellsWant (σ : mj_S) (p1 : Int32) (p2 : Int32) : Option mj_S :=
    (if 0 ≤ (σ.1 64 11).toInt ∧ (σ.1 64 11).toInt < 11 then (if 0 ≤ (σ.1 64 11).toInt ∧ (σ.1 64 11).toInt < 11 then (if 0 ≤ (σ.1 64 11).toInt ∧ (σ.1 64 11).toInt < 11 then some (mj_sI (mj_sI (mj_sI (mj_sI (mj_sI σ 72 (σ.1 64 11).toNatClampNeg (p1 / 1000)) 73 (σ.1 64 11).toNatClampNeg (mj_rem p1 1000)) 74 (σ.1 64 11).toNatClampNeg p2) 64 11 ((σ.1 64 11) + 1)) 64 6 0) else none) else none) else none)
def f_X10_want (σ : mj_S) (p1 : Int32) (p2 : Int32) : Option (Int32 × mj_S) :=
    (if (f_X10_isSpan σ p1) = 0 then some ((-1), σ) else (if (f_X10_within σ p2.toInt64 1 9) = 0 then some ((-1), σ) else (if (σ.1 64 11) = 10 then some ((-3), σ) else ((f_X10_tellsWant σ p1 p2).bind fun r4 => some ((r4.1 64 11) - 1, r4)))))
def b_X10_wantOf_4 (σ : mj_S) : Nat → Int32 → Int32 → Int32 → Option Int32
  | 0, _, _, _ => none
  | n + 1, v1, v2, v3 =>
    (if (σ.1 64 11) ≤ v3 then some v2 else (if 0 ≤ v3.toInt ∧ v3.toInt < 11 then (if 0 ≤ v3.toInt ∧ v3.toInt < 11 then (if (f_X10_within σ v1.toInt64 ((σ.1 72 v3.toNatClampNeg).toInt64) ((σ.1 73 v3.toNatClampNeg).toInt64)) = 0 then b_X10_wantOf_4 σ n v1 v2 (v3 + 1) else (if 0 ≤ v3.toInt ∧ v3.toInt < 11 then (if (σ.1 74 v3.toNatClampNeg) ≤ v2 then b_X10_wantOf_4 σ n v1 v2 (v3 + 1) else (if 0 ≤ v3.toInt ∧ v3.toInt < 11 then b_X10_wantOf_4 σ n v1 (σ.1 74 v3.toNatClampNeg) (v3 + 1) else none)) else none)) else none) else none))
def f_X10_wantOf (σ : mj_S) (p1 : Int32) : Option Int32 :=
    b_X10_wantOf_4 σ mj_fu p1 0 0
def f_X10_wants (σ : mj_S) (p1 : Int32) : Option Int32 :=
    (if (f_X10_isMonth σ p1) = 0 then some (-1) else ((f_X10_wantOf σ p1).bind fun r2 => some r2))
def f_X10_feed (σ : mj_S) (p1 : Int32) : Option (Int32 × mj_S) :=
    (if (f_X10_within σ p1.toInt64 0 255) = 0 then some ((-1), σ) else (if (σ.1 64 16) = 120 then some ((-3), σ) else (if 0 ≤ (σ.1 64 16).toInt ∧ (σ.1 64 16).toInt < 120 then some ((σ.1 64 16) + 1, (mj_sI (mj_sI σ 75 (σ.1 64 16).toNatClampNeg p1) 64 16 ((σ.1 64 16) + 1))) else none)))
def f_X10_byteAt (σ : mj_S) : Option Int32 :=
    (if (σ.1 64 21) ≤ (σ.1 64 20) then some 0 else (if (0 : Int32) ≤ (σ.1 64 19) then (if 0 ≤ ((σ.1 64 19) + (σ.1 64 20)).toInt ∧ ((σ.1 64 19) + (σ.1 64 20)).toInt < 120 then some (σ.1 76 ((σ.1 64 19) + (σ.1 64 20)).toNatClampNeg) else none) else (if 0 ≤ (σ.1 64 20).toInt ∧ (σ.1 64 20).toInt < 120 then some (σ.1 75 (σ.1 64 20).toNatClampNeg) else none)))
def b_X10_wrong_19 (t1 : Int32) (σ : mj_S) : (Int32 × mj_S) :=
    (0, (mj_sI σ 64 22 t1))
def f_X10_wrong (σ : mj_S) : (Int32 × mj_S) :=
    (if (0 : Int32) ≤ (σ.1 64 22) then b_X10_wrong_19 (σ.1 64 22) σ else b_X10_wrong_19 (σ.1 64 20) σ)
def f_X10_takes (σ : mj_S) (p1 : Int32) : Option (Int32 × mj_S) :=
    (if (0 : Int32) ≤ (σ.1 64 22) then some (0, σ) else ((f_X10_byteAt σ).bind fun r2 => (if r2 = p1 then some (1, (mj_sI σ 64 20 ((σ.1 64 20) + 1))) else some (0, σ))))
def f_X10_nameOf (σ : mj_S) (p0 : Int32) : Int32 :=
    (if p0 = 97 then 0 else (if p0 = 98 then (-1) else (if p0 = 99 then (-1) else (if p0 = 100 then (-1) else (if p0 = 101 then (-1) else (if p0 = 102 then (-1) else (if p0 = 103 then (-1) else (if p0 = 104 then 3 else (if p0 = 105 then (-1) else (if p0 = 106 then (-1) else (if p0 = 107 then 6 else (if p0 = 108 then (-1) else (if p0 = 109 then 5 else (if p0 = 110 then (-1) else (if p0 = 111 then (-1) else (if p0 = 112 then 4 else (if p0 = 113 then (-1) else (if p0 = 114 then (-1) else (if p0 = 115 then 1 else (if p0 = 116 then (-1) else (if p0 = 117 then (-1) else (if p0 = 118 then (-1) else (if p0 = 119 then 2 else (-1))))))))))))))))))))))))
def b_X10_either_5 (rec : Nat → mj_S → Option (Int32 × mj_S)) : Nat → Int32 → mj_S → Option (Int32 × mj_S)
  | 0, _, _ => none
  | n + 1, v1, σ =>
    ((f_X10_takes σ 124).bind fun r2 => (if r2.1 = 0 then some (v1, r2.2) else ((rec 1  r2.2).bind fun r4 => (if v1 = 0 then (if r4.1 = 0 then b_X10_either_5 rec n 0 r4.2 else b_X10_either_5 rec n 1 r4.2) else b_X10_either_5 rec n 1 r4.2))))
def F_X10_either (rec : Nat → mj_S → Option (Int32 × mj_S)) (σ : mj_S) : Option (Int32 × mj_S) :=
    ((rec 1  σ).bind fun r1 => b_X10_either_5 rec mj_fu r1.1 r1.2)
def b_X10_both_5 (rec : Nat → mj_S → Option (Int32 × mj_S)) : Nat → Int32 → mj_S → Option (Int32 × mj_S)
  | 0, _, _ => none
  | n + 1, v1, σ =>
    ((f_X10_takes σ 38).bind fun r2 => (if r2.1 = 0 then some (v1, r2.2) else ((rec 2  r2.2).bind fun r4 => (if v1 = 0 then b_X10_both_5 rec n 0 r4.2 else (if r4.1 = 0 then b_X10_both_5 rec n 0 r4.2 else b_X10_both_5 rec n 1 r4.2)))))
def F_X10_both (rec : Nat → mj_S → Option (Int32 × mj_S)) (σ : mj_S) : Option (Int32 × mj_S) :=
    ((rec 2  σ).bind fun r1 => b_X10_both_5 rec mj_fu r1.1 r1.2)
def b_X10_compared_37 (rec : Nat → mj_S → Option (Int32 × mj_S)) (v1 : Int32) (v2 : Int32) (σ : mj_S) : Option (Int32 × mj_S) :=
    ((rec 3  (mj_sI σ 64 20 ((σ.1 64 20) + 1))).bind fun r5 => (if v2 = 60 then (if r5.1 ≤ v1 then some (0, r5.2) else some (1, r5.2)) else (if v2 = 61 then (if v1 = r5.1 then some (1, r5.2) else some (0, r5.2)) else (if v1 ≤ r5.1 then some (0, r5.2) else some (1, r5.2)))))
def F_X10_compared (rec : Nat → mj_S → Option (Int32 × mj_S)) (σ : mj_S) : Option (Int32 × mj_S) :=
    ((rec 3  σ).bind fun r1 => ((f_X10_byteAt r1.2).bind fun r2 => (if (0 : Int32) ≤ (r1.2.1 64 22) then some (r1.1, r1.2) else (if r2 = 60 then b_X10_compared_37 rec r1.1 r2 r1.2 else (if r2 = 61 then b_X10_compared_37 rec r1.1 r2 r1.2 else (if r2 = 62 then b_X10_compared_37 rec r1.1 r2 r1.2 else some (r1.1, r1.2)))))))
def b_X10_sums_44 (rec : Nat → mj_S → Option (Int32 × mj_S)) (K5 : Int32 → mj_S → Option (Int32 × mj_S)) (v1 : Int32) (t0 : Int32) (σ : mj_S) : Option (Int32 × mj_S) :=
    ((rec 4  (mj_sI σ 64 20 ((σ.1 64 20) + 1))).bind fun r7 => (if t0 = 0 then K5 (v1 - r7.1) r7.2 else K5 (v1 + r7.1) r7.2))
def b_X10_sums_30 (rec : Nat → mj_S → Option (Int32 × mj_S)) (K5 : Int32 → mj_S → Option (Int32 × mj_S)) (v1 : Int32) (σ : mj_S) : Option (Int32 × mj_S) :=
    ((f_X10_byteAt σ).bind fun r5 => (if r5 = 43 then b_X10_sums_44 rec K5 v1 1 σ else b_X10_sums_44 rec K5 v1 0 σ))
def b_X10_sums_5 (rec : Nat → mj_S → Option (Int32 × mj_S)) : Nat → Int32 → mj_S → Option (Int32 × mj_S)
  | 0, _, _ => none
  | n + 1, v1, σ =>
    (if (0 : Int32) ≤ (σ.1 64 22) then some (v1, σ) else ((f_X10_byteAt σ).bind fun r3 => (if r3 = 43 then b_X10_sums_30 rec (b_X10_sums_5 rec n) v1 σ else ((f_X10_byteAt σ).bind fun r9 => (if r9 = 45 then b_X10_sums_30 rec (b_X10_sums_5 rec n) v1 σ else some (v1, σ))))))
def F_X10_sums (rec : Nat → mj_S → Option (Int32 × mj_S)) (σ : mj_S) : Option (Int32 × mj_S) :=
    ((rec 4  σ).bind fun r1 => b_X10_sums_5 rec mj_fu r1.1 r1.2)
def b_X10_product_85 (rec : Nat → mj_S → Option (Int32 × mj_S)) (K10 : Int32 → Int32 → mj_S → Option (Int32 × mj_S)) (t0 : Int32) (σ : mj_S) : Option (Int32 × mj_S) :=
    ((f_X10_byteAt σ).bind fun r10 => K10 t0 r10 σ)
def b_X10_product_35 (rec : Nat → mj_S → Option (Int32 × mj_S)) (K10 : Int32 → Int32 → mj_S → Option (Int32 × mj_S)) (v1 : Int32) (v2 : Int32) (σ : mj_S) : Option (Int32 × mj_S) :=
    ((rec 5  (mj_sI σ 64 20 ((σ.1 64 20) + 1))).bind fun r5 => (if v2 = 42 then b_X10_product_85 rec K10 (v1 * r5.1) r5.2 else (if r5.1 = 0 then b_X10_product_85 rec K10 0 r5.2 else (if v2 = 47 then (if r5.1 = 0 then none else b_X10_product_85 rec K10 (v1 / r5.1) r5.2) else (if r5.1 = 0 then none else b_X10_product_85 rec K10 (mj_rem v1 r5.1) r5.2)))))
def b_X10_product_10 (rec : Nat → mj_S → Option (Int32 × mj_S)) : Nat → Int32 → Int32 → mj_S → Option (Int32 × mj_S)
  | 0, _, _, _ => none
  | n + 1, v1, v2, σ =>
    (if (0 : Int32) ≤ (σ.1 64 22) then some (v1, σ) else (if v2 = 42 then b_X10_product_35 rec (b_X10_product_10 rec n) v1 v2 σ else (if v2 = 47 then b_X10_product_35 rec (b_X10_product_10 rec n) v1 v2 σ else (if v2 = 37 then b_X10_product_35 rec (b_X10_product_10 rec n) v1 v2 σ else some (v1, σ)))))
def F_X10_product (rec : Nat → mj_S → Option (Int32 × mj_S)) (σ : mj_S) : Option (Int32 × mj_S) :=
    ((rec 5  σ).bind fun r1 => ((f_X10_byteAt r1.2).bind fun r2 => b_X10_product_10 rec mj_fu r1.1 r2 r1.2))
def b_X10_one_104 (rec : Nat → mj_S → Option (Int32 × mj_S)) (v1 : Int32) (v2 : Int32) (σ : mj_S) : Option (Int32 × mj_S) :=
    (if v1 = 40 then some (v2, (mj_sI σ 64 23 ((σ.1 64 23) - 1))) else (if v1 = 45 then some (-v2, (mj_sI σ 64 23 ((σ.1 64 23) - 1))) else (if v2 = 0 then some (1, (mj_sI σ 64 23 ((σ.1 64 23) - 1))) else some (0, (mj_sI σ 64 23 ((σ.1 64 23) - 1))))))
def b_X10_one_83 (rec : Nat → mj_S → Option (Int32 × mj_S)) (v1 : Int32) (t0 : Int32) (σ : mj_S) : Option (Int32 × mj_S) :=
    (if v1 = 40 then ((f_X10_takes σ 41).bind fun r11 => (if r11.1 = 0 then (mj_let (f_X10_wrong r11.2) fun r13 => some (r13.1, r13.2)) else b_X10_one_104 rec v1 t0 r11.2)) else b_X10_one_104 rec v1 t0 σ)
def b_X10_one_32 (rec : Nat → mj_S → Option (Int32 × mj_S)) (v1 : Int32) (σ : mj_S) : Option (Int32 × mj_S) :=
    (if (σ.1 64 23) = 6 then (mj_let (f_X10_wrong σ) fun r15 => some (r15.1, r15.2)) else (if v1 = 40 then ((rec 0  (mj_sI (mj_sI σ 64 23 ((σ.1 64 23) + 1)) 64 20 ((σ.1 64 20) + 1))).bind fun r14 => b_X10_one_83 rec v1 r14.1 r14.2) else ((rec 5  (mj_sI (mj_sI σ 64 23 ((σ.1 64 23) + 1)) 64 20 ((σ.1 64 20) + 1))).bind fun r6 => b_X10_one_83 rec v1 r6.1 r6.2)))
def b_X10_one_229 (rec : Nat → mj_S → Option (Int32 × mj_S)) (v3 : Int32) (v4 : Int32) (σ : mj_S) : Option (Int32 × mj_S) :=
    (if v4 = 0 then (mj_let (f_X10_wrong σ) fun r21 => some (r21.1, r21.2)) else some (v3, σ))
def b_X10_one_176 (rec : Nat → mj_S → Option (Int32 × mj_S)) : Nat → Int32 → Int32 → mj_S → Option (Int32 × mj_S)
  | 0, _, _, _ => none
  | n + 1, v3, v4, σ =>
    (if (4 : Int32) ≤ v4 then b_X10_one_229 rec v3 v4 σ else ((f_X10_byteAt σ).bind fun r22 => (if r22 < 48 then b_X10_one_229 rec v3 v4 σ else ((f_X10_byteAt σ).bind fun r24 => (if (57 : Int32) < r24 then b_X10_one_229 rec v3 v4 σ else ((f_X10_byteAt σ).bind fun r26 => b_X10_one_176 rec n (((10 * v3) + r26) - 48) (v4 + 1) (mj_sI σ 64 20 ((σ.1 64 20) + 1))))))))
def F_X10_one (rec : Nat → mj_S → Option (Int32 × mj_S)) (σ : mj_S) : Option (Int32 × mj_S) :=
    (if (σ.1 64 22) < 0 then ((f_X10_byteAt σ).bind fun r2 => (if r2 = 33 then b_X10_one_32 rec r2 σ else (if r2 = 45 then b_X10_one_32 rec r2 σ else (if r2 = 40 then b_X10_one_32 rec r2 σ else (if (f_X10_nameOf σ r2) < 0 then b_X10_one_176 rec mj_fu 0 0 σ else (if 0 ≤ (f_X10_nameOf σ r2).toInt ∧ (f_X10_nameOf σ r2).toInt < 7 then some (σ.1 77 (f_X10_nameOf σ r2).toNatClampNeg, (mj_sI σ 64 20 ((σ.1 64 20) + 1))) else none)))))) else some (0, σ))
def rc_X10_either : Nat → Nat → mj_S → Option (Int32 × mj_S)
  | 0, _, _ => none
  | k + 1, 0, σ => F_X10_either (rc_X10_either k) σ
  | k + 1, 1, σ => F_X10_both (rc_X10_either k) σ
  | k + 1, 2, σ => F_X10_compared (rc_X10_either k) σ
  | k + 1, 3, σ => F_X10_sums (rc_X10_either k) σ
  | k + 1, 4, σ => F_X10_product (rc_X10_either k) σ
  | k + 1, 5, σ => F_X10_one (rc_X10_either k) σ
  | _ + 1, _, _ => none
def f_X10_either (σ : mj_S) : Option (Int32 × mj_S) := rc_X10_either mj_fd 0 σ
def f_X10_both (σ : mj_S) : Option (Int32 × mj_S) := rc_X10_either mj_fd 1 σ
def f_X10_compared (σ : mj_S) : Option (Int32 × mj_S) := rc_X10_either mj_fd 2 σ
def f_X10_sums (σ : mj_S) : Option (Int32 × mj_S) := rc_X10_either mj_fd 3 σ
def f_X10_product (σ : mj_S) : Option (Int32 × mj_S) := rc_X10_either mj_fd 4 σ
def f_X10_one (σ : mj_S) : Option (Int32 × mj_S) := rc_X10_either mj_fd 5 σ
def b_X10_workOut_96 (K33 : Int32 → Int32 → Int32 → mj_S → Option (Int32 × mj_S)) (v3 : Int32) (v4 : Int32) (σ : mj_S) : Option (Int32 × mj_S) :=
    ((f_X10_takes σ 59).bind fun r9 => K33 v3 v4 r9.1 r9.2)
def b_X10_workOut_74 (K33 : Int32 → Int32 → Int32 → mj_S → Option (Int32 × mj_S)) (v3 : Int32) (v4 : Int32) (v6 : Int32) (v7 : Int32) (σ : mj_S) : Option (Int32 × mj_S) :=
    (if (0 : Int32) ≤ (σ.1 64 22) then b_X10_workOut_96 K33 v3 v4 σ else (if v7 = 0 then b_X10_workOut_96 K33 v3 v4 σ else (if v3 = 0 then b_X10_workOut_96 K33 1 v6 σ else b_X10_workOut_96 K33 v3 v4 σ)))
def b_X10_workOut_66 (K33 : Int32 → Int32 → Int32 → mj_S → Option (Int32 × mj_S)) (v3 : Int32) (v4 : Int32) (t0 : Int32) (σ : mj_S) : Option (Int32 × mj_S) :=
    ((f_X10_either σ).bind fun r13 => b_X10_workOut_74 K33 v3 v4 r13.1 t0 r13.2)
def b_X10_workOut_33 : Nat → Int32 → Int32 → Int32 → mj_S → Option (Int32 × mj_S)
  | 0, _, _, _, _ => none
  | n + 1, v3, v4, v5, σ =>
    (if v5 = 0 then (if (0 : Int32) ≤ (σ.1 64 22) then some (v4, σ) else (if (σ.1 64 21) ≤ (σ.1 64 20) then some (v4, σ) else (mj_let (f_X10_wrong σ) fun r4 => some (r4.1, r4.2)))) else ((f_X10_either σ).bind fun r5 => ((f_X10_takes r5.2 63).bind fun r6 => (if r6.1 = 0 then b_X10_workOut_74 (b_X10_workOut_33 n) v3 v4 r5.1 1 r6.2 else (if r5.1 = 0 then b_X10_workOut_66 (b_X10_workOut_33 n) v3 v4 0 r6.2 else b_X10_workOut_66 (b_X10_workOut_33 n) v3 v4 1 r6.2)))))
def f_X10_workOut (σ : mj_S) (p1 : Int32) (p2 : Int32) : Option (Int32 × mj_S) :=
    b_X10_workOut_33 mj_fu 0 0 1 (mj_sI (mj_sI (mj_sI (mj_sI (mj_sI σ 64 19 p1) 64 20 0) 64 21 p2) 64 22 (-1)) 64 23 0)
def b_X10_law_37 : Nat → Int32 → Int32 → mj_S → Option (Int32 × mj_S)
  | 0, _, _, _ => none
  | n + 1, v2, v3, σ =>
    (if v2 ≤ v3 then some (1, (mj_sI (mj_sI σ 64 18 v2) 64 6 0)) else (if 0 ≤ v3.toInt ∧ v3.toInt < 120 then (if 0 ≤ v3.toInt ∧ v3.toInt < 120 then b_X10_law_37 n v2 (v3 + 1) (mj_sI σ 76 v3.toNatClampNeg (σ.1 75 v3.toNatClampNeg)) else none) else none))
def f_X10_law (σ : mj_S) : Option (Int32 × mj_S) :=
    ((f_X10_workOut σ (-1) (σ.1 64 16)).bind fun r1 => (if (r1.2.1 64 22) < 0 then b_X10_law_37 mj_fu (r1.2.1 64 16) 0 (mj_sI r1.2 64 16 0) else some ((-100) - (r1.2.1 64 22), (mj_sI r1.2 64 16 0))))
def f_X10_growsBy (σ : mj_S) (p1 : Int32) (p2 : Int32) (p3 : Int32) (p4 : Int32) (p5 : Int32) (p6 : Int32) : Option (Int32 × mj_S) :=
    (if 0 ≤ p1.toInt ∧ p1.toInt < 7 then (if (0 : Int32) ≤ (σ.1 64 18) then (if 0 ≤ p1.toInt ∧ p1.toInt < 7 then ((f_X10_workOut (mj_sI (mj_sI (mj_sI (mj_sI (mj_sI (mj_sI (mj_sI σ 77 0 ((p6 - (σ.1 69 p1.toNatClampNeg)) - p2)) 77 1 (σ.1 70 p1.toNatClampNeg)) 77 2 p3) 77 3 (p4 / 64)) 77 4 (p5 / 64)) 77 5 (mj_rem p6 12)) 77 6 p1) 0 (σ.1 64 18)).bind fun r4 => (if (0 : Int32) ≤ r4.1 then (if r4.1 ≤ 99 then some (r4.1, r4.2) else some (99, r4.2)) else some (0, r4.2))) else none) else (if (12 : Int32) ≤ ((p6 - (σ.1 69 p1.toNatClampNeg)) - p2) then (if (132 : Int32) ≤ ((p6 - (σ.1 69 p1.toNatClampNeg)) - p2) then (if (168 : Int32) ≤ ((p6 - (σ.1 69 p1.toNatClampNeg)) - p2) then (if (204 : Int32) ≤ ((p6 - (σ.1 69 p1.toNatClampNeg)) - p2) then some (0, σ) else some (4, σ)) else some (20, σ)) else some (16, σ)) else some (40, σ))) else none)
def b_X10_growsUp_108 (K11 : Int32 → Int32 → Int32 → Int32 → Int32 → Int32 → mj_S → Option mj_S) (v1 : Int32) (v2 : Int32) (v3 : Int32) (v4 : Int32) (v5 : Int32) (v6 : Int32) (t1 : Int32) (t2 : Int32) (σ : mj_S) : Option mj_S :=
    (if 0 ≤ t1.toInt ∧ t1.toInt < 4200 then K11 v1 v2 v3 v4 v5 (v6 + 1) (mj_sI σ 78 t1.toNatClampNeg t2) else none)
def b_X10_growsUp_79 (K11 : Int32 → Int32 → Int32 → Int32 → Int32 → Int32 → mj_S → Option mj_S) (v1 : Int32) (v2 : Int32) (v3 : Int32) (v4 : Int32) (v5 : Int32) (v6 : Int32) (σ : mj_S) : Option mj_S :=
    (if 0 ≤ v1.toInt ∧ v1.toInt < 7 then (if (σ.1 69 v1.toNatClampNeg) ≤ v6 then b_X10_growsUp_108 K11 v1 v2 v3 v4 v5 v6 ((600 * v1) + v6) v5 σ else b_X10_growsUp_108 K11 v1 v2 v3 v4 v5 v6 ((600 * v1) + v6) 0 σ) else none)
def b_X10_growsUp_77 (K11 : Int32 → Int32 → Int32 → Int32 → Int32 → Int32 → mj_S → Option mj_S) (v1 : Int32) (v2 : Int32) (v3 : Int32) (v4 : Int32) (v6 : Int32) (t0 : Int32) (σ : mj_S) : Option mj_S :=
    b_X10_growsUp_79 K11 v1 v2 v3 v4 t0 v6 σ
def b_X10_growsUp_50 (K11 : Int32 → Int32 → Int32 → Int32 → Int32 → Int32 → mj_S → Option mj_S) (v1 : Int32) (v2 : Int32) (v3 : Int32) (v4 : Int32) (v5 : Int32) (v6 : Int32) (t0 : Int32) (t2 : Int32) (t3 : Int32) (t4 : Int32) (σ : mj_S) : Option mj_S :=
    ((f_X10_growsBy σ t2 t3 t4 v5 v3 v6).bind fun r9 => (if (t0 + r9.1) ≤ 8000 then b_X10_growsUp_77 K11 v1 v2 v3 v4 v6 (t0 + r9.1) r9.2 else b_X10_growsUp_77 K11 v1 v2 v3 v4 v6 8000 r9.2))
def b_X10_growsUp_11 : Nat → Int32 → Int32 → Int32 → Int32 → Int32 → Int32 → mj_S → Option mj_S
  | 0, _, _, _, _, _, _, _ => none
  | n + 1, v1, v2, v3, v4, v5, v6, σ =>
    (if (600 : Int32) ≤ v6 then some σ else (if 0 ≤ v1.toInt ∧ v1.toInt < 7 then (if v6 ≤ (σ.1 69 v1.toNatClampNeg) then b_X10_growsUp_79 (b_X10_growsUp_11 n) v1 v2 v3 v4 v5 v6 σ else (if v4 = 0 then b_X10_growsUp_50 (b_X10_growsUp_11 n) v1 v2 v3 v4 v5 v6 v5 v1 v2 0 σ else ((f_X10_wantOf σ v6).bind fun r11 => b_X10_growsUp_50 (b_X10_growsUp_11 n) v1 v2 v3 v4 v5 v6 v5 v1 v2 r11 σ))) else none))
def f_X10_growsUp (σ : mj_S) (p1 : Int32) (p2 : Int32) (p3 : Int32) (p4 : Int32) : Option mj_S :=
    (if 0 ≤ p1.toInt ∧ p1.toInt < 7 then b_X10_growsUp_11 mj_fu p1 p2 p3 p4 (σ.1 71 p1.toNatClampNeg) 0 σ else none)
def b_X10_allGrow_10 : Nat → Int32 → mj_S → Option mj_S
  | 0, _, _ => none
  | n + 1, v1, σ =>
    (if (σ.1 64 7) ≤ v1 then some (mj_sI σ 64 6 1) else (if 0 ≤ v1.toInt ∧ v1.toInt < 72 then (if 0 ≤ (6 + v1).toInt ∧ (6 + v1).toInt < 72 then ((f_X10_growsUp σ v1 (σ.1 65 v1.toNatClampNeg) (σ.1 65 (6 + v1).toNatClampNeg) 1).bind fun r5 => b_X10_allGrow_10 n (v1 + 1) r5) else none) else none))
def f_X10_allGrow (σ : mj_S) : Option mj_S :=
    (if (σ.1 64 6) = 0 then b_X10_allGrow_10 mj_fu 0 σ else some σ)
def f_X10_heightOf (σ : mj_S) (p1 : Int32) (p2 : Int32) : Option (Int32 × mj_S) :=
    ((f_X10_allGrow σ).bind fun r1 => (if 0 ≤ ((600 * p1) + p2).toInt ∧ ((600 * p1) + p2).toInt < 4200 then some (r1.1 78 ((600 * p1) + p2).toNatClampNeg, r1) else none))
def f_X10_height (σ : mj_S) (p1 : Int32) (p2 : Int32) : Option (Int32 × mj_S) :=
    (if (f_X10_isChild σ p1) = 0 then some ((-1), σ) else (if (f_X10_isMonth σ p2) = 0 then some ((-1), σ) else ((f_X10_heightOf σ p1 p2).bind fun r3 => some (r3.1, r3.2))))
def f_X10_isMark (σ : mj_S) (p1 : Int32) : Int32 :=
    mj_zb (f_X10_within σ p1.toInt64 0 (((σ.1 64 26) - 1).toInt64))
def f_X10_isOne (σ : mj_S) (p0 : Int64) (p2 : Int64) (p4 : Int64) (p6 : Int64) : Int32 :=
    (if (f_X10_within σ p0 0 9999) = 0 then 0 else (if (f_X10_within σ p2 0 6) = 0 then 0 else (if (f_X10_within σ p4 0 600) = 0 then 0 else (if (f_X10_within σ p6 0 4) = 0 then 0 else 1))))
def f_X10_adds (σ : mj_S) (p1 : Int32) (p2 : Int32) (p3 : Int32) (p4 : Int32) : Option mj_S :=
    (if 0 ≤ (12 + (σ.1 64 26)).toInt ∧ (12 + (σ.1 64 26)).toInt < 72 then (if 0 ≤ (σ.1 64 26).toInt ∧ (σ.1 64 26).toInt < 30 then (if 0 ≤ (σ.1 64 26).toInt ∧ (σ.1 64 26).toInt < 30 then (if 0 ≤ (42 + (σ.1 64 26)).toInt ∧ (42 + (σ.1 64 26)).toInt < 72 then (if 0 ≤ (σ.1 64 26).toInt ∧ (σ.1 64 26).toInt < 30 then some (mj_sI (mj_sI (mj_sI (mj_sI (mj_sI (mj_sI σ 65 (12 + (σ.1 64 26)).toNatClampNeg p1) 79 (σ.1 64 26).toNatClampNeg p2) 80 (σ.1 64 26).toNatClampNeg p3) 65 (42 + (σ.1 64 26)).toNatClampNeg p4) 81 (σ.1 64 26).toNatClampNeg 0) 64 26 ((σ.1 64 26) + 1)) else none) else none) else none) else none) else none)
def f_X10_mark (σ : mj_S) (p1 : Int32) (p2 : Int32) (p3 : Int32) : Option (Int32 × mj_S) :=
    (if p2 < 0 then some ((-1), σ) else (if (f_X10_isOne σ p1.toInt64 ((p2 / 10).toInt64) p3.toInt64 ((mj_rem p2 10).toInt64)) = 0 then some ((-1), σ) else (if (σ.1 64 26) = 30 then some ((-3), σ) else ((f_X10_adds σ p1 (p2 / 10) p3 (mj_rem p2 10)).bind fun r4 => some ((r4.1 64 26) - 1, r4)))))
def f_X10_isShelf (σ : mj_S) (p0 : Int32) : Int32 :=
    mj_zb (f_X10_within σ p0.toInt64 0 5)
def b_X10_marks_176 (K69 : Int32 → Int32 → Int32 → Int32 → Int32 → mj_S → Option (Int32 × mj_S)) (v1 : Int32) (v2 : Int32) (v3 : Int32) (v4 : Int32) (v6 : Int32) (t0 : Int32) (σ : mj_S) : Option (Int32 × mj_S) :=
    (if t0 = 0 then K69 v1 v2 v3 v4 t0 σ else (if 0 ≤ v6.toInt ∧ v6.toInt < 360 then (if 0 ≤ (v6 + 1).toInt ∧ (v6 + 1).toInt < 360 then (if 0 ≤ (v6 + 2).toInt ∧ (v6 + 2).toInt < 360 then (if 0 ≤ (v6 + 3).toInt ∧ (v6 + 3).toInt < 360 then ((f_X10_adds σ ((σ.2 89 v6.toNatClampNeg).toInt32) ((σ.2 89 (v6 + 1).toNatClampNeg).toInt32) ((σ.2 89 (v6 + 2).toNatClampNeg).toInt32) ((σ.2 89 (v6 + 3).toNatClampNeg).toInt32)).bind fun r17 => K69 v1 v2 v3 (v4 + 1) t0 r17) else none) else none) else none) else none))
def b_X10_marks_175 (K69 : Int32 → Int32 → Int32 → Int32 → Int32 → mj_S → Option (Int32 × mj_S)) (v1 : Int32) (v2 : Int32) (v3 : Int32) (v4 : Int32) (v6 : Int32) (σ : mj_S) : Option (Int32 × mj_S) :=
    b_X10_marks_176 K69 v1 v2 v3 v4 v6 0 σ
def b_X10_marks_111 (K69 : Int32 → Int32 → Int32 → Int32 → Int32 → mj_S → Option (Int32 × mj_S)) (v1 : Int32) (v2 : Int32) (v3 : Int32) (v4 : Int32) (t0 : Int32) (σ : mj_S) : Option (Int32 × mj_S) :=
    (if t0 = 0 then b_X10_marks_175 K69 v1 v2 v3 v4 (((60 * v1) + v2) + (4 * v4)) σ else (if 0 ≤ (((60 * v1) + v2) + (4 * v4)).toInt ∧ (((60 * v1) + v2) + (4 * v4)).toInt < 360 then (if 0 ≤ ((((60 * v1) + v2) + (4 * v4)) + 1).toInt ∧ ((((60 * v1) + v2) + (4 * v4)) + 1).toInt < 360 then (if 0 ≤ ((((60 * v1) + v2) + (4 * v4)) + 2).toInt ∧ ((((60 * v1) + v2) + (4 * v4)) + 2).toInt < 360 then (if 0 ≤ ((((60 * v1) + v2) + (4 * v4)) + 3).toInt ∧ ((((60 * v1) + v2) + (4 * v4)) + 3).toInt < 360 then (if (f_X10_isOne σ (σ.2 89 (((60 * v1) + v2) + (4 * v4)).toNatClampNeg) (σ.2 89 ((((60 * v1) + v2) + (4 * v4)) + 1).toNatClampNeg) (σ.2 89 ((((60 * v1) + v2) + (4 * v4)) + 2).toNatClampNeg) (σ.2 89 ((((60 * v1) + v2) + (4 * v4)) + 3).toNatClampNeg)) = 0 then b_X10_marks_175 K69 v1 v2 v3 v4 (((60 * v1) + v2) + (4 * v4)) σ else b_X10_marks_176 K69 v1 v2 v3 v4 (((60 * v1) + v2) + (4 * v4)) 1 σ) else none) else none) else none) else none))
def b_X10_marks_110 (K69 : Int32 → Int32 → Int32 → Int32 → Int32 → mj_S → Option (Int32 × mj_S)) (v1 : Int32) (v2 : Int32) (v3 : Int32) (v4 : Int32) (σ : mj_S) : Option (Int32 × mj_S) :=
    b_X10_marks_111 K69 v1 v2 v3 v4 0 σ
def b_X10_marks_69 : Nat → Int32 → Int32 → Int32 → Int32 → Int32 → mj_S → Option (Int32 × mj_S)
  | 0, _, _, _, _, _, _ => none
  | n + 1, v1, v2, v3, v4, v5, σ =>
    (if v5 = 0 then some (v4, σ) else (if v3 ≤ v4 then some (v4, σ) else (if 0 ≤ v1.toInt ∧ v1.toInt < 6 then (if (((σ.1 88 v1.toNatClampNeg) - 4) - (4 * v4)) < v2 then b_X10_marks_110 (b_X10_marks_69 n) v1 v2 v3 v4 σ else (if (30 : Int32) ≤ (σ.1 64 26) then b_X10_marks_110 (b_X10_marks_69 n) v1 v2 v3 v4 σ else b_X10_marks_111 (b_X10_marks_69 n) v1 v2 v3 v4 1 σ)) else none)))
def b_X10_marks_44 (v1 : Int32) (v2 : Int32) (v3 : Int32) (σ : mj_S) : Option (Int32 × mj_S) :=
    (if 0 ≤ v1.toInt ∧ v1.toInt < 6 then (if (σ.1 87 v1.toNatClampNeg) = 51 then (if v2 < 0 then b_X10_marks_69 mj_fu v1 v2 v3 0 0 σ else b_X10_marks_69 mj_fu v1 v2 v3 0 1 σ) else b_X10_marks_69 mj_fu v1 v2 v3 0 0 σ) else none)
def f_X10_marks (σ : mj_S) (p1 : Int32) (p2 : Int32) (p3 : Int32) : Option (Int32 × mj_S) :=
    (if (f_X10_isShelf σ p1) = 0 then some ((-1), σ) else (if (f_X10_within σ p3.toInt64 1 15) = 0 then some ((-1), σ) else (if 0 ≤ p1.toInt ∧ p1.toInt < 6 then (if (σ.1 87 p1.toNatClampNeg) < 0 then b_X10_marks_44 p1 p2 p3 σ else (if 0 ≤ p1.toInt ∧ p1.toInt < 6 then (if (σ.1 87 p1.toNatClampNeg) = 51 then b_X10_marks_44 p1 p2 p3 σ else some ((-12), σ)) else none)) else none)))
def f_X10_isCovered (σ : mj_S) (p1 : Int32) : Option Int32 :=
    (if 0 ≤ p1.toInt ∧ p1.toInt < 30 then (if (σ.1 80 p1.toNatClampNeg) = 600 then (if 0 ≤ p1.toInt ∧ p1.toInt < 30 then some (mj_zb (σ.1 81 p1.toNatClampNeg)) else none) else (if 0 ≤ p1.toInt ∧ p1.toInt < 30 then (if (σ.1 64 30) < (σ.1 80 p1.toNatClampNeg) then some 0 else some 1) else none)) else none)
def b_X10_paint_33 : Nat → Int32 → Int32 → mj_S → Option (Int32 × mj_S)
  | 0, _, _, _ => none
  | n + 1, v2, v3, σ =>
    (if (σ.1 64 26) ≤ v3 then some (v2, σ) else (if 0 ≤ v3.toInt ∧ v3.toInt < 30 then ((f_X10_isCovered (mj_sI σ 81 v3.toNatClampNeg 1) v3).bind fun r5 => (if r5 = 0 then b_X10_paint_33 n (v2 + 0) (v3 + 1) (mj_sI σ 81 v3.toNatClampNeg 1) else b_X10_paint_33 n (v2 + 1) (v3 + 1) (mj_sI σ 81 v3.toNatClampNeg 1))) else none))
def b_X10_paint_26 (t1 : Int32) (σ : mj_S) : Option (Int32 × mj_S) :=
    b_X10_paint_33 mj_fu 0 0 (mj_sI σ 64 30 t1)
def f_X10_paint (σ : mj_S) (p1 : Int32) : Option (Int32 × mj_S) :=
    (if (f_X10_isMonth σ p1) = 0 then some ((-1), σ) else (if p1 ≤ (σ.1 64 30) then b_X10_paint_26 (σ.1 64 30) σ else b_X10_paint_26 p1 σ))
def f_X10_ofMark (σ : mj_S) (p1 : Int32) (p2 : Int32) : Option Int32 :=
    (if p2 = 0 then (if 0 ≤ (12 + p1).toInt ∧ (12 + p1).toInt < 72 then some (σ.1 65 (12 + p1).toNatClampNeg) else none) else (if p2 = 1 then (if 0 ≤ p1.toInt ∧ p1.toInt < 30 then some (σ.1 79 p1.toNatClampNeg) else none) else (if p2 = 2 then (if 0 ≤ p1.toInt ∧ p1.toInt < 30 then some (σ.1 80 p1.toNatClampNeg) else none) else (if p2 = 3 then (if 0 ≤ (42 + p1).toInt ∧ (42 + p1).toInt < 72 then some (σ.1 65 (42 + p1).toNatClampNeg) else none) else ((f_X10_isCovered σ p1).bind fun r5 => (if r5 = 0 then some 0 else some 1))))))
def f_X10_ofChild (σ : mj_S) (p1 : Int32) (p2 : Int32) : Option Int32 :=
    (if p2 = 10 then (if 0 ≤ p1.toInt ∧ p1.toInt < 7 then some (σ.1 69 p1.toNatClampNeg) else none) else (if p2 = 11 then (if 0 ≤ p1.toInt ∧ p1.toInt < 7 then some (σ.1 70 p1.toNatClampNeg) else none) else (if p2 = 12 then (if 0 ≤ p1.toInt ∧ p1.toInt < 7 then some (σ.1 71 p1.toNatClampNeg) else none) else (if p2 = 13 then (if 0 ≤ p1.toInt ∧ p1.toInt < 72 then some (σ.1 65 p1.toNatClampNeg) else none) else (if 0 ≤ (6 + p1).toInt ∧ (6 + p1).toInt < 72 then some (σ.1 65 (6 + p1).toNatClampNeg) else none)))))
def f_X10_of (σ : mj_S) (p1 : Int32) (p2 : Int32) : Option Int32 :=
    (if (f_X10_within σ p2.toInt64 0 4) = 0 then (if (f_X10_within σ p2.toInt64 10 14) = 0 then some (-2000000000) else (if (f_X10_isChild σ p1) = 0 then some (-2000000000) else ((f_X10_ofChild σ p1 p2).bind fun r4 => some r4))) else (if (f_X10_isMark σ p1) = 0 then some (-2000000000) else ((f_X10_ofMark σ p1 p2).bind fun r6 => some r6)))
def f_X10_mend (σ : mj_S) (p1 : Int32) (p2 : Int32) (p3 : Int32) : Option (Int32 × mj_S) :=
    (if p2 = 0 then (if (f_X10_isMark σ p1) = 0 then some ((-2000000000), σ) else (if (f_X10_within σ p3.toInt64 0 9999) = 0 then some ((-2000000000), σ) else ((f_X10_becomes σ (12 + p1) p3).bind fun r4 => some (r4.1, r4.2)))) else (if p2 = 1 then (if (f_X10_isMark σ p1) = 0 then some ((-2000000000), σ) else (if (f_X10_within σ p3.toInt64 0 4) = 0 then some ((-2000000000), σ) else ((f_X10_becomes σ (42 + p1) p3).bind fun r7 => some (r7.1, r7.2)))) else (if p2 = 2 then (if (f_X10_isChild σ p1) = 0 then some ((-2000000000), σ) else (if (f_X10_isLate σ p3) = 0 then some ((-2000000000), σ) else ((f_X10_becomes σ p1 p3).bind fun r10 => some (r10.1, r10.2)))) else (if p2 = 3 then (if (f_X10_isChild σ p1) = 0 then some ((-2000000000), σ) else (if (f_X10_areParents σ p3) = 0 then some ((-2000000000), σ) else ((f_X10_becomes σ (6 + p1) p3).bind fun r13 => some (r13.1, r13.2)))) else some ((-2000000000), σ)))))
def f_X10_byWay (σ : mj_S) (p0 : Int32) (p1 : Int32) : Int32 :=
    (if p1 = 1 then p0 + 48 else (if p1 = 2 then p0 + 128 else (if p1 = 3 then (if (24 : Int32) ≤ p0 then p0 - 24 else 0) else (if p1 = 4 then ((p0 + 32) / 64) * 64 else p0))))
def f_X10_offBy (σ : mj_S) (p1 : Int32) (p2 : Int32) (p3 : Int32) (p4 : Int32) : Option (Int32 × mj_S) :=
    (if 0 ≤ p2.toInt ∧ p2.toInt < 7 then (if (σ.1 69 p2.toNatClampNeg) ≤ p3 then ((f_X10_heightOf σ p2 p3).bind fun r3 => some (f_X10_size r3.2 (p1 - (f_X10_byWay r3.2 r3.1 p4)), r3.2)) else some ((-2), σ)) else none)
def f_X10_offOf (σ : mj_S) (p1 : Int32) (p2 : Int32) (p3 : Int32) : Option (Int32 × mj_S) :=
    (if 0 ≤ (12 + p1).toInt ∧ (12 + p1).toInt < 72 then (if 0 ≤ (42 + p1).toInt ∧ (42 + p1).toInt < 72 then ((f_X10_offBy σ (σ.1 65 (12 + p1).toNatClampNeg) p2 p3 (σ.1 65 (42 + p1).toNatClampNeg)).bind fun r3 => some (r3.1, r3.2)) else none) else none)
def f_X10_isMc (σ : mj_S) (p1 : Int32) : Int32 :=
    (if p1 < 0 then 0 else (if (f_X10_isMark σ (p1 / 10)) = 0 then 0 else (if (f_X10_isChild σ (mj_rem p1 10)) = 0 then 0 else 1)))
def f_X10_off (σ : mj_S) (p1 : Int32) (p2 : Int32) (p3 : Int32) : Option (Int32 × mj_S) :=
    (if (f_X10_isMc σ p1) = 0 then some ((-1), σ) else (if (f_X10_isMonth σ p2) = 0 then some ((-1), σ) else (if (f_X10_within σ p3.toInt64 0 4) = 0 then some ((-1), σ) else (if 0 ≤ (12 + (p1 / 10)).toInt ∧ (12 + (p1 / 10)).toInt < 72 then ((f_X10_offBy σ (σ.1 65 (12 + (p1 / 10)).toNatClampNeg) (mj_rem p1 10) p2 p3).bind fun r5 => some (r5.1, r5.2)) else none))))
def f_X10_mayBe (σ : mj_S) (p1 : Int32) (p2 : Int32) : Option Int32 :=
    (if 0 ≤ p1.toInt ∧ p1.toInt < 30 then (if (f_X10_isChild σ (σ.1 79 p1.toNatClampNeg)) = 0 then some 1 else (if 0 ≤ p1.toInt ∧ p1.toInt < 30 then (if (σ.1 79 p1.toNatClampNeg) = p2 then some 1 else some 0) else none)) else none)
def b_X10_findWhose_134 (K78 : Int32 → Int32 → Int32 → Int32 → mj_S → Option mj_S) (v1 : Int32) (v3 : Int32) (v4 : Int32) (v5 : Int32) (v6 : Int32) (σ : mj_S) : Option mj_S :=
    K78 v1 v3 v4 (v5 + 1) (mj_sI (mj_sI (mj_sI σ 64 31 v5) 64 32 v4) 64 33 v6)
def b_X10_findWhose_111 (K78 : Int32 → Int32 → Int32 → Int32 → mj_S → Option mj_S) (v1 : Int32) (v3 : Int32) (v4 : Int32) (v5 : Int32) (t0 : Int32) (σ : mj_S) : Option mj_S :=
    (if t0 < 0 then K78 v1 v3 v4 (v5 + 1) σ else (if (σ.1 64 31) < 0 then b_X10_findWhose_134 K78 v1 v3 v4 v5 t0 σ else (if (σ.1 64 33) ≤ t0 then K78 v1 v3 v4 (v5 + 1) σ else b_X10_findWhose_134 K78 v1 v3 v4 v5 t0 σ)))
def b_X10_findWhose_78 (K69 : Int32 → Int32 → Int32 → mj_S → Option mj_S) : Nat → Int32 → Int32 → Int32 → Int32 → mj_S → Option mj_S
  | 0, _, _, _, _, _ => none
  | n + 1, v1, v3, v4, v5, σ =>
    (if (σ.1 64 7) ≤ v5 then K69 v1 v3 (v4 + 1) σ else ((f_X10_mayBe σ v1 v5).bind fun r9 => (if r9 = 0 then b_X10_findWhose_111 (b_X10_findWhose_78 K69 n) v1 v3 v4 v5 (-2) σ else ((f_X10_offOf σ v1 v5 v4).bind fun r14 => b_X10_findWhose_111 (b_X10_findWhose_78 K69 n) v1 v3 v4 v5 r14.1 r14.2))))
def b_X10_findWhose_69 : Nat → Int32 → Int32 → Int32 → mj_S → Option mj_S
  | 0, _, _, _, _ => none
  | n + 1, v1, v3, v4, σ =>
    (if v3 < v4 then some σ else b_X10_findWhose_78 (b_X10_findWhose_69 n) mj_fu v1 v3 v4 0 σ)
def b_X10_findWhose_40 (v1 : Int32) (t0 : Int32) (σ : mj_S) : Option mj_S :=
    (if 0 ≤ v1.toInt ∧ v1.toInt < 30 then (if (σ.1 80 v1.toNatClampNeg) = 600 then b_X10_findWhose_69 mj_fu v1 599 t0 σ else (if 0 ≤ v1.toInt ∧ v1.toInt < 30 then b_X10_findWhose_69 mj_fu v1 (σ.1 80 v1.toNatClampNeg) t0 σ else none)) else none)
def f_X10_findWhose (σ : mj_S) (p1 : Int32) : Option mj_S :=
    (if 0 ≤ p1.toInt ∧ p1.toInt < 30 then (if (σ.1 80 p1.toNatClampNeg) = 600 then b_X10_findWhose_40 p1 0 (mj_sI (mj_sI (mj_sI σ 64 31 (-2)) 64 32 (-2)) 64 33 (-2)) else (if 0 ≤ p1.toInt ∧ p1.toInt < 30 then b_X10_findWhose_40 p1 (σ.1 80 p1.toNatClampNeg) (mj_sI (mj_sI (mj_sI σ 64 31 (-2)) 64 32 (-2)) 64 33 (-2)) else none)) else none)
def f_X10_whose (σ : mj_S) (p1 : Int32) (p2 : Int32) : Option (Int32 × mj_S) :=
    (if (f_X10_isMark σ p1) = 0 then some ((-1), σ) else (if (f_X10_within σ p2.toInt64 0 2) = 0 then some ((-1), σ) else ((f_X10_findWhose σ p1).bind fun r3 => (if p2 = 0 then some (r3.1 64 31, r3) else (if p2 = 1 then some (r3.1 64 32, r3) else some (r3.1 64 33, r3))))))
def b_X10_odds_94 (K38 : Int32 → Int32 → Int32 → Int32 → Int32 → mj_S → Option (Int32 × mj_S)) (v1 : Int32) (v2 : Int32) (v3 : Int32) (v4 : Int32) (v5 : Int32) (t0 : Int32) (σ : mj_S) : Option (Int32 × mj_S) :=
    (if v5 = (mj_rem v1 10) then K38 v1 v2 (v3 + t0) t0 (v5 + 1) σ else K38 v1 v2 (v3 + t0) v4 (v5 + 1) σ)
def b_X10_odds_75 (K38 : Int32 → Int32 → Int32 → Int32 → Int32 → mj_S → Option (Int32 × mj_S)) (v1 : Int32) (v2 : Int32) (v3 : Int32) (v4 : Int32) (v5 : Int32) (t0 : Int32) (σ : mj_S) : Option (Int32 × mj_S) :=
    (if (0 : Int32) ≤ t0 then (if (1 + t0) = 0 then none else b_X10_odds_94 K38 v1 v2 v3 v4 v5 (10000 / (1 + t0)) σ) else b_X10_odds_94 K38 v1 v2 v3 v4 v5 0 σ)
def b_X10_odds_38 : Nat → Int32 → Int32 → Int32 → Int32 → Int32 → mj_S → Option (Int32 × mj_S)
  | 0, _, _, _, _, _, _ => none
  | n + 1, v1, v2, v3, v4, v5, σ =>
    (if (σ.1 64 7) ≤ v5 then (if v3 = 0 then some ((-2), σ) else (if v3 = 0 then none else some ((1000 * v4) / v3, σ))) else ((f_X10_mayBe σ v2 v5).bind fun r7 => (if r7 = 0 then b_X10_odds_75 (b_X10_odds_38 n) v1 v2 v3 v4 v5 (-2) σ else (if 0 ≤ v2.toInt ∧ v2.toInt < 30 then ((f_X10_offOf σ v2 v5 (σ.1 80 v2.toNatClampNeg)).bind fun r13 => b_X10_odds_75 (b_X10_odds_38 n) v1 v2 v3 v4 v5 r13.1 r13.2) else none))))
def f_X10_odds (σ : mj_S) (p1 : Int32) : Option (Int32 × mj_S) :=
    (if (f_X10_isMc σ p1) = 0 then some ((-1), σ) else (if 0 ≤ (p1 / 10).toInt ∧ (p1 / 10).toInt < 30 then (if (σ.1 80 (p1 / 10).toNatClampNeg) = 600 then some ((-2), σ) else b_X10_odds_38 mj_fu p1 (p1 / 10) 0 0 0 σ) else none))
def b_X10_how_40 : Nat → Int32 → Int32 → Int32 → Int32 → mj_S → Option (Int32 × mj_S)
  | 0, _, _, _, _, _ => none
  | n + 1, v1, v2, v3, v4, σ =>
    (if (5 : Int32) ≤ v4 then (if 0 ≤ (12 + v1).toInt ∧ (12 + v1).toInt < 72 then ((f_X10_offBy σ (σ.1 65 (12 + v1).toNatClampNeg) (σ.1 64 31) (σ.1 64 32) v3).bind fun r7 => (if v2 = 0 then some (v3, r7.2) else (if ((r7.2.1 64 33) - r7.1) < 32 then some (0, r7.2) else some (1, r7.2)))) else none) else (if 0 ≤ (12 + v1).toInt ∧ (12 + v1).toInt < 72 then ((f_X10_offBy σ (σ.1 65 (12 + v1).toNatClampNeg) (σ.1 64 31) (σ.1 64 32) v4).bind fun r11 => (if 0 ≤ (12 + v1).toInt ∧ (12 + v1).toInt < 72 then ((f_X10_offBy r11.2 (r11.2.1 65 (12 + v1).toNatClampNeg) (r11.2.1 64 31) (r11.2.1 64 32) v3).bind fun r13 => (if r13.1 ≤ r11.1 then b_X10_how_40 n v1 v2 v3 (v4 + 1) r13.2 else b_X10_how_40 n v1 v2 v4 (v4 + 1) r13.2)) else none)) else none))
def f_X10_how (σ : mj_S) (p1 : Int32) (p2 : Int32) : Option (Int32 × mj_S) :=
    (if (f_X10_isMark σ p1) = 0 then some ((-1), σ) else (if (f_X10_within σ p2.toInt64 0 1) = 0 then some ((-1), σ) else ((f_X10_findWhose σ p1).bind fun r3 => (if (0 : Int32) ≤ (r3.1 64 31) then b_X10_how_40 mj_fu p1 p2 0 1 r3 else some ((-2), r3)))))
def b_X10_goesTogether_61 (rec : Int32 → Int32 → Int32 → Int32 → Int32 → mj_S → Option mj_S) : Nat → Int32 → Int32 → Int32 → Int32 → Int32 → Int32 → mj_S → Option mj_S
  | 0, _, _, _, _, _, _, _ => none
  | n + 1, v1, v2, v3, v4, v5, v6, σ =>
    (if (σ.1 64 7) ≤ v6 then some σ else (if ((v4 >>> (v6 &&& 31)) &&& 1) = 0 then (if 0 ≤ v6.toInt ∧ v6.toInt < 7 then (if v1 < (σ.1 69 v6.toNatClampNeg) then b_X10_goesTogether_61 rec n v1 v2 v3 v4 v5 (v6 + 1) σ else (if 0 ≤ v3.toInt ∧ v3.toInt < 4 then (if 0 ≤ v3.toInt ∧ v3.toInt < 4 then ((f_X10_offOf (mj_sI σ 83 v3.toNatClampNeg v6) (σ.1 82 v3.toNatClampNeg) v6 v1).bind fun r9 => ((rec v1 v2 (v3 + 1) (v4 ||| ((1 : Int32) <<< (v6 &&& 31))) (v5 + r9.1) r9.2).bind fun r10 => b_X10_goesTogether_61 rec n v1 v2 v3 v4 v5 (v6 + 1) r10)) else none) else none)) else none) else b_X10_goesTogether_61 rec n v1 v2 v3 v4 v5 (v6 + 1) σ))
def b_X10_goesTogether_31 (rec : Int32 → Int32 → Int32 → Int32 → Int32 → mj_S → Option mj_S) : Nat → Int32 → Int32 → mj_S → Option mj_S
  | 0, _, _, _ => none
  | n + 1, v2, v6, σ =>
    (if v2 ≤ v6 then some σ else (if 0 ≤ v6.toInt ∧ v6.toInt < 4 then (if 0 ≤ v6.toInt ∧ v6.toInt < 4 then b_X10_goesTogether_31 rec n v2 (v6 + 1) (mj_sI σ 84 v6.toNatClampNeg (σ.1 83 v6.toNatClampNeg)) else none) else none))
def b_X10_goesTogether_17 (rec : Int32 → Int32 → Int32 → Int32 → Int32 → mj_S → Option mj_S) (v1 : Int32) (v2 : Int32) (v3 : Int32) (v4 : Int32) (v5 : Int32) (σ : mj_S) : Option mj_S :=
    (if v3 = v2 then b_X10_goesTogether_31 rec mj_fu v2 0 (mj_sI σ 64 37 v5) else b_X10_goesTogether_61 rec mj_fu v1 v2 v3 v4 v5 0 σ)
def F_X10_goesTogether (rec : Int32 → Int32 → Int32 → Int32 → Int32 → mj_S → Option mj_S) (σ : mj_S) (p1 : Int32) (p2 : Int32) (p3 : Int32) (p4 : Int32) (p5 : Int32) : Option mj_S :=
    (if (σ.1 64 37) < 0 then b_X10_goesTogether_17 rec p1 p2 p3 p4 p5 σ else (if p5 < (σ.1 64 37) then b_X10_goesTogether_17 rec p1 p2 p3 p4 p5 σ else some σ))
def rc_X10_goesTogether : Nat → Int32 → Int32 → Int32 → Int32 → Int32 → mj_S → Option mj_S
  | 0, _, _, _, _, _, _ => none
  | k + 1, x0, x1, x2, x3, x4, σ => F_X10_goesTogether (rc_X10_goesTogether k) σ x0 x1 x2 x3 x4
def f_X10_goesTogether (σ : mj_S) (p1 : Int32) (p2 : Int32) (p3 : Int32) (p4 : Int32) (p5 : Int32) : Option mj_S := rc_X10_goesTogether mj_fd p1 p2 p3 p4 p5 σ
def b_X10_together_19 : Nat → Int32 → Int32 → Int32 → Int32 → mj_S → Option (Int32 × mj_S)
  | 0, _, _, _, _, _ => none
  | n + 1, v1, v2, v3, v4, σ =>
    (if (σ.1 64 26) ≤ v4 then (if v2 < v3 then ((f_X10_goesTogether (mj_sI σ 64 37 (-1)) v1 v3 0 0 0).bind fun r5 => (if (0 : Int32) ≤ (r5.1 64 37) then (if v2 = (-1) then some (r5.1 64 37, r5) else (if 0 ≤ v2.toInt ∧ v2.toInt < 4 then some (r5.1 84 v2.toNatClampNeg, r5) else none)) else some ((-2), r5))) else some ((-1), σ)) else (if 0 ≤ v4.toInt ∧ v4.toInt < 30 then (if (σ.1 80 v4.toNatClampNeg) = v1 then (if 0 ≤ v4.toInt ∧ v4.toInt < 30 then (if (σ.1 79 v4.toNatClampNeg) = 6 then (if (4 : Int32) ≤ v3 then b_X10_together_19 n v1 v2 v3 (v4 + 1) σ else (if 0 ≤ v3.toInt ∧ v3.toInt < 4 then b_X10_together_19 n v1 v2 (v3 + 1) (v4 + 1) (mj_sI σ 82 v3.toNatClampNeg v4) else none)) else b_X10_together_19 n v1 v2 v3 (v4 + 1) σ) else none) else b_X10_together_19 n v1 v2 v3 (v4 + 1) σ) else none))
def f_X10_together (σ : mj_S) (p1 : Int32) (p2 : Int32) : Option (Int32 × mj_S) :=
    (if (f_X10_isMonth σ p1) = 0 then some ((-1), σ) else (if ((-1) : Int32) ≤ p2 then b_X10_together_19 mj_fu p1 p2 0 0 σ else some ((-1), σ)))
def b_X10_isTurned_2 (σ : mj_S) : Nat → Int32 → Int32 → Option Int32
  | 0, _, _ => none
  | n + 1, v1, v2 =>
    (if (σ.1 64 26) ≤ v2 then some 0 else (if 0 ≤ v2.toInt ∧ v2.toInt < 30 then (if 0 ≤ v1.toInt ∧ v1.toInt < 30 then (if (σ.1 79 v2.toNatClampNeg) = (σ.1 79 v1.toNatClampNeg) then (if 0 ≤ v2.toInt ∧ v2.toInt < 30 then (if 0 ≤ v1.toInt ∧ v1.toInt < 30 then (if (σ.1 80 v1.toNatClampNeg) ≤ (σ.1 80 v2.toNatClampNeg) then b_X10_isTurned_2 σ n v1 (v2 + 1) else (if 0 ≤ (12 + v1).toInt ∧ (12 + v1).toInt < 72 then (if 0 ≤ (12 + v2).toInt ∧ (12 + v2).toInt < 72 then (if (σ.1 65 (12 + v2).toNatClampNeg) < (σ.1 65 (12 + v1).toNatClampNeg) then b_X10_isTurned_2 σ n v1 (v2 + 1) else some 1) else none) else none)) else none) else none) else b_X10_isTurned_2 σ n v1 (v2 + 1)) else none) else none))
def f_X10_isTurned (σ : mj_S) (p1 : Int32) : Option Int32 :=
    b_X10_isTurned_2 σ mj_fu p1 0
def b_X10_turned_34 (σ : mj_S) : Nat → Int32 → Int32 → Int32 → Int32 → Int32 → Option Int32
  | 0, _, _, _, _, _ => none
  | n + 1, v1, v2, v3, v4, v5 =>
    (if v5 < 0 then (if v2 = 0 then some v3 else some v4) else (if 0 ≤ v5.toInt ∧ v5.toInt < 30 then (if (σ.1 79 v5.toNatClampNeg) = v1 then (if 0 ≤ v5.toInt ∧ v5.toInt < 30 then (if (600 : Int32) ≤ (σ.1 80 v5.toNatClampNeg) then b_X10_turned_34 σ n v1 v2 v3 v4 (v5 + (-1)) else ((f_X10_isTurned σ v5).bind fun r9 => (if r9 = 0 then b_X10_turned_34 σ n v1 v2 v3 v4 (v5 + (-1)) else b_X10_turned_34 σ n v1 v2 (v3 + 1) v5 (v5 + (-1))))) else none) else b_X10_turned_34 σ n v1 v2 v3 v4 (v5 + (-1))) else none))
def f_X10_turned (σ : mj_S) (p1 : Int32) (p2 : Int32) : Option Int32 :=
    (if (f_X10_isChild σ p1) = 0 then some (-1) else (if (f_X10_within σ p2.toInt64 0 1) = 0 then some (-1) else b_X10_turned_34 σ mj_fu p1 p2 0 (-2) ((σ.1 64 26) - 1)))
def b_X10_led_14 : Nat → Int32 → Int32 → Int32 → mj_S → Option (Int32 × mj_S)
  | 0, _, _, _, _ => none
  | n + 1, v1, v2, v3, σ =>
    (if (σ.1 64 26) ≤ v3 then some (v2, σ) else ((f_X10_findWhose σ v3).bind fun r3 => (if (r3.1 64 31) = v1 then b_X10_led_14 n v1 (v2 + 1) (v3 + 1) r3 else b_X10_led_14 n v1 (v2 + 0) (v3 + 1) r3)))
def f_X10_led (σ : mj_S) (p1 : Int32) : Option (Int32 × mj_S) :=
    (if (f_X10_isChild σ p1) = 0 then some ((-1), σ) else b_X10_led_14 mj_fu p1 0 0 σ)
def b_X10_endOf_27 (t1 : Int32) (t2 : Int32) (σ : mj_S) : Option (Int32 × mj_S) :=
    ((f_X10_heightOf σ t1 t2).bind fun r3 => some (r3.1, r3.2))
def f_X10_endOf (σ : mj_S) (p1 : Int32) : Option (Int32 × mj_S) :=
    (if 0 ≤ p1.toInt ∧ p1.toInt < 7 then (if ((σ.1 69 p1.toNatClampNeg) + 240) ≤ 599 then b_X10_endOf_27 p1 ((σ.1 69 p1.toNatClampNeg) + 240) σ else b_X10_endOf_27 p1 599 σ) else none)
def f_X10_twiceOf (σ : mj_S) (p1 : Int32) : Option (Int32 × mj_S) :=
    (if 0 ≤ p1.toInt ∧ p1.toInt < 7 then (if (600 : Int32) ≤ ((σ.1 69 p1.toNatClampNeg) + 24) then some ((-2), σ) else (if 0 ≤ p1.toInt ∧ p1.toInt < 7 then ((f_X10_heightOf σ p1 ((σ.1 69 p1.toNatClampNeg) + 24)).bind fun r4 => some (2 * r4.1, r4.2)) else none)) else none)
def f_X10_byParents (σ : mj_S) (p1 : Int32) : Option Int32 :=
    (if 0 ≤ (6 + p1).toInt ∧ (6 + p1).toInt < 72 then (if 0 ≤ p1.toInt ∧ p1.toInt < 7 then (if (σ.1 70 p1.toNatClampNeg) = 1 then some ((σ.1 65 (6 + p1).toNatClampNeg) + 160) else some ((σ.1 65 (6 + p1).toNatClampNeg) + (-160))) else none) else none)
def f_X10_tall (σ : mj_S) (p1 : Int32) (p2 : Int32) : Option (Int32 × mj_S) :=
    (if (f_X10_isChild σ p1) = 0 then some ((-2000000000), σ) else (if p2 = 0 then ((f_X10_endOf σ p1).bind fun r3 => some (r3.1, r3.2)) else (if p2 = 1 then ((f_X10_twiceOf σ p1).bind fun r4 => some (r4.1, r4.2)) else (if p2 = 2 then ((f_X10_byParents σ p1).bind fun r5 => some (r5, σ)) else (if p2 = 3 then ((f_X10_twiceOf σ p1).bind fun r6 => (if (0 : Int32) ≤ r6.1 then ((f_X10_endOf r6.2 p1).bind fun r8 => ((f_X10_twiceOf r8.2 p1).bind fun r9 => some (r8.1 - r9.1, r9.2))) else some ((-2000000000), r6.2))) else (if p2 = 4 then ((f_X10_endOf σ p1).bind fun r10 => ((f_X10_byParents r10.2 p1).bind fun r11 => some (r10.1 - r11, r10.2))) else some ((-2000000000), σ)))))))
def b_X10_year_147 (v2 : Int32) (v3 : Int32) (v4 : Int32) (v5 : Int32) (v6 : Int32) (σ : mj_S) : Option (Int32 × mj_S) :=
    (if v2 = 0 then some (v4, σ) else (if v2 = 1 then some (v3, σ) else (if v2 = 2 then some (v6, σ) else some (v5, σ))))
def b_X10_year_121 (K40 : Int32 → Int32 → Int32 → Int32 → Int32 → Int32 → Int32 → mj_S → Option (Int32 × mj_S)) (v1 : Int32) (v2 : Int32) (v3 : Int32) (v4 : Int32) (v5 : Int32) (v6 : Int32) (v7 : Int32) (v8 : Int32) (σ : mj_S) : Option (Int32 × mj_S) :=
    (if v5 < 0 then K40 v1 v2 v3 v4 v8 v7 (v7 + 1) σ else (if v5 ≤ v8 then K40 v1 v2 v3 v4 v5 v6 (v7 + 1) σ else K40 v1 v2 v3 v4 v8 v7 (v7 + 1) σ))
def b_X10_year_40 : Nat → Int32 → Int32 → Int32 → Int32 → Int32 → Int32 → Int32 → mj_S → Option (Int32 × mj_S)
  | 0, _, _, _, _, _, _, _, _ => none
  | n + 1, v1, v2, v3, v4, v5, v6, v7, σ =>
    (if (20 : Int32) ≤ v7 then b_X10_year_147 v2 v3 v4 v5 v6 σ else (if 0 ≤ v1.toInt ∧ v1.toInt < 7 then (if (600 : Int32) ≤ (((σ.1 69 v1.toNatClampNeg) + (12 * v7)) + 12) then b_X10_year_147 v2 v3 v4 v5 v6 σ else (if 0 ≤ v1.toInt ∧ v1.toInt < 7 then ((f_X10_heightOf σ v1 (((σ.1 69 v1.toNatClampNeg) + (12 * v7)) + 12)).bind fun r10 => (if 0 ≤ v1.toInt ∧ v1.toInt < 7 then ((f_X10_heightOf r10.2 v1 ((r10.2.1 69 v1.toNatClampNeg) + (12 * v7))).bind fun r12 => (if (r10.1 - r12.1) ≤ v3 then b_X10_year_121 (b_X10_year_40 n) v1 v2 v3 v4 v5 v6 v7 (r10.1 - r12.1) r12.2 else b_X10_year_121 (b_X10_year_40 n) v1 v2 (r10.1 - r12.1) v7 v5 v6 v7 (r10.1 - r12.1) r12.2)) else none)) else none)) else none))
def f_X10_year (σ : mj_S) (p1 : Int32) (p2 : Int32) : Option (Int32 × mj_S) :=
    (if (f_X10_isChild σ p1) = 0 then some ((-1), σ) else (if (f_X10_within σ p2.toInt64 0 3) = 0 then some ((-1), σ) else b_X10_year_40 mj_fu p1 p2 (-2) (-2) (-2) (-2) 0 σ))
def f_X10_growsOther (σ : mj_S) (p1 : Int32) : Option mj_S :=
    (if 0 ≤ p1.toInt ∧ p1.toInt < 7 then (if 0 ≤ p1.toInt ∧ p1.toInt < 7 then ((f_X10_growsUp (mj_sI (mj_sI (mj_sI σ 69 6 (σ.1 69 p1.toNatClampNeg)) 70 6 (σ.1 70 p1.toNatClampNeg)) 71 6 1280) 6 0 4300 0).bind fun r3 => some r3) else none) else none)
def f_X10_lineOf (σ : mj_S) (p1 : Int32) (p2 : Int32) : Option (Int32 × mj_S) :=
    ((f_X10_heightOf σ p1 p2).bind fun r1 => (if 0 ≤ (3600 + p2).toInt ∧ (3600 + p2).toInt < 4200 then (if (r1.2.1 78 (3600 + p2).toNatClampNeg) = 0 then none else some ((((100 * r1.1) / (r1.2.1 78 (3600 + p2).toNatClampNeg)) - 100) / 4, r1.2)) else none))
def f_X10_line (σ : mj_S) (p1 : Int32) (p2 : Int32) : Option (Int32 × mj_S) :=
    (if (f_X10_isChild σ p1) = 0 then some ((-2000000000), σ) else (if (f_X10_isMonth σ p2) = 0 then some ((-2000000000), σ) else (if 0 ≤ p1.toInt ∧ p1.toInt < 7 then (if (σ.1 69 p1.toNatClampNeg) ≤ p2 then ((f_X10_growsOther σ p1).bind fun r5 => ((f_X10_lineOf r5 p1 p2).bind fun r6 => some (r6.1, r6.2))) else some ((-1000), σ)) else none)))
def b_X10_falls_36 : Nat → Int32 → Int32 → Int32 → mj_S → Option (Int32 × mj_S)
  | 0, _, _, _, _ => none
  | n + 1, v1, v2, v3, σ =>
    (if (600 : Int32) ≤ v3 then some ((-2), σ) else ((f_X10_lineOf σ v1 v3).bind fun r7 => (if (v2 - 2) < r7.1 then (if r7.1 ≤ v2 then b_X10_falls_36 n v1 v2 (v3 + 1) r7.2 else b_X10_falls_36 n v1 r7.1 (v3 + 1) r7.2) else some (v3, r7.2))))
def f_X10_falls (σ : mj_S) (p1 : Int32) : Option (Int32 × mj_S) :=
    (if (f_X10_isChild σ p1) = 0 then some ((-1), σ) else ((f_X10_growsOther σ p1).bind fun r2 => (if 0 ≤ p1.toInt ∧ p1.toInt < 7 then ((f_X10_lineOf r2 p1 (r2.1 69 p1.toNatClampNeg)).bind fun r4 => (if 0 ≤ p1.toInt ∧ p1.toInt < 7 then b_X10_falls_36 mj_fu p1 r4.1 ((r4.2.1 69 p1.toNatClampNeg) + 1) r4.2 else none)) else none)))
def b_X10_overtakes_87 : Nat → Int32 → Int32 → Int32 → mj_S → Option (Int32 × mj_S)
  | 0, _, _, _, _ => none
  | n + 1, v2, v3, v5, σ =>
    (if (600 : Int32) ≤ v5 then some ((-2), σ) else ((f_X10_heightOf σ v2 v5).bind fun r10 => ((f_X10_heightOf r10.2 v3 v5).bind fun r11 => (if r10.1 ≤ r11.1 then b_X10_overtakes_87 n v2 v3 (v5 + 1) r11.2 else ((f_X10_heightOf r11.2 v2 (v5 - 1)).bind fun r13 => ((f_X10_heightOf r13.2 v3 (v5 - 1)).bind fun r14 => (if r14.1 < r13.1 then b_X10_overtakes_87 n v2 v3 (v5 + 1) r14.2 else some (v5, r14.2))))))))
def f_X10_overtakes (σ : mj_S) (p1 : Int32) : Option (Int32 × mj_S) :=
    (if p1 < 0 then some ((-1), σ) else (if (f_X10_isChild σ (p1 / 10)) = 0 then some ((-1), σ) else (if (f_X10_isChild σ (mj_rem p1 10)) = 0 then some ((-1), σ) else (if (p1 / 10) = (mj_rem p1 10) then some ((-1), σ) else (if 0 ≤ (p1 / 10).toInt ∧ (p1 / 10).toInt < 7 then (if 0 ≤ (mj_rem p1 10).toInt ∧ (mj_rem p1 10).toInt < 7 then (if (σ.1 69 (p1 / 10).toNatClampNeg) ≤ (σ.1 69 (mj_rem p1 10).toNatClampNeg) then (if 0 ≤ (mj_rem p1 10).toInt ∧ (mj_rem p1 10).toInt < 7 then b_X10_overtakes_87 mj_fu (p1 / 10) (mj_rem p1 10) ((σ.1 69 (mj_rem p1 10).toNatClampNeg) + 1) σ else none) else (if 0 ≤ (p1 / 10).toInt ∧ (p1 / 10).toInt < 7 then b_X10_overtakes_87 mj_fu (p1 / 10) (mj_rem p1 10) ((σ.1 69 (p1 / 10).toNatClampNeg) + 1) σ else none)) else none) else none)))))
def f_X10_enough (σ : mj_S) (p1 : Int32) (p2 : Int32) (p3 : Int32) : Option (Int32 × mj_S) :=
    (if (f_X10_isChild σ p1) = 0 then some ((-2000000000), σ) else (if (f_X10_isSpan σ p2) = 0 then some ((-2000000000), σ) else (if (f_X10_within σ p3.toInt64 1 9) = 0 then some ((-2000000000), σ) else ((f_X10_endOf σ p1).bind fun r4 => ((f_X10_tellsWant r4.2 p2 p3).bind fun r5 => ((f_X10_endOf r5 p1).bind fun r6 => some (r6.1 - r4.1, (mj_sI (mj_sI r6.2 64 11 ((r6.2.1 64 11) - 1)) 64 6 0))))))))
def b_X10_nearest_9 : Nat → Int32 → Int32 → Int32 → Int32 → Int32 → mj_S → Option (Int32 × mj_S)
  | 0, _, _, _, _, _, _ => none
  | n + 1, v1, v2, v3, v4, v5, σ =>
    (if (σ.1 64 7) ≤ v5 then some (v3, σ) else ((f_X10_offBy σ v1 v5 v2 0).bind fun r2 => (if r2.1 < 0 then b_X10_nearest_9 n v1 v2 v3 v4 (v5 + 1) r2.2 else (if v3 < 0 then b_X10_nearest_9 n v1 v2 v5 r2.1 (v5 + 1) r2.2 else (if v4 ≤ r2.1 then b_X10_nearest_9 n v1 v2 v3 v4 (v5 + 1) r2.2 else b_X10_nearest_9 n v1 v2 v5 r2.1 (v5 + 1) r2.2)))))
def f_X10_nearest (σ : mj_S) (p1 : Int32) (p2 : Int32) : Option (Int32 × mj_S) :=
    b_X10_nearest_9 mj_fu p1 p2 (-2) 0 0 σ
def b_X10_slips_67 : Nat → Int32 → Int32 → Int32 → Int32 → Int32 → Int32 → Int32 → mj_S → Option (Int32 × mj_S)
  | 0, _, _, _, _, _, _, _, _ => none
  | n + 1, v1, v2, v4, v5, v6, v7, v8, σ =>
    (if (v4 / 100) ≤ v8 then some (v7, σ) else ((f_X10_heightOf σ v1 v2).bind fun r8 => (if ((2 * v5) + 1) = 0 then none else ((f_X10_nearest r8.2 ((r8.1 + (mj_rem (mj_ushr ((v6 * 1103515245) + 12345) 8) ((2 * v5) + 1))) - v5) v2).bind fun r10 => (if r10.1 = v1 then b_X10_slips_67 n v1 v2 v4 v5 ((v6 * 1103515245) + 12345) (v7 + 1) (v8 + 1) r10.2 else b_X10_slips_67 n v1 v2 v4 v5 ((v6 * 1103515245) + 12345) (v7 + 0) (v8 + 1) r10.2)))))
def f_X10_slips (σ : mj_S) (p1 : Int32) (p2 : Int32) (p3 : Int32) (p4 : Int32) : Option (Int32 × mj_S) :=
    (if (f_X10_isChild σ p1) = 0 then some ((-1), σ) else (if (f_X10_isMonth σ p2) = 0 then some ((-1), σ) else (if p4 < 0 then some ((-1), σ) else (if (f_X10_within σ ((p4 / 100).toInt64) 1 50) = 0 then some ((-1), σ) else (if 0 ≤ p1.toInt ∧ p1.toInt < 7 then (if (σ.1 69 p1.toNatClampNeg) ≤ p2 then b_X10_slips_67 mj_fu p1 p2 p4 (mj_rem p4 100) p3 0 0 σ else some ((-2), σ)) else none)))))
def f_X10_isBody (σ : mj_S) (p1 : Int32) : Int32 :=
    mj_zb (f_X10_within σ p1.toInt64 0 (((σ.1 64 38) - 1).toInt64))
def f_X10_kindOf (σ : mj_S) (p1 : Int32) : Option Int32 :=
    (if 0 ≤ p1.toInt ∧ p1.toInt < 50 then some (σ.1 85 p1.toNatClampNeg) else none)
def f_X10_body (σ : mj_S) (p1 : Int32) : Option (Int32 × mj_S) :=
    (if (f_X10_within σ p1.toInt64 0 7) = 0 then some ((-1), σ) else (if (σ.1 64 38) = 50 then some ((-3), σ) else (if 0 ≤ (σ.1 64 38).toInt ∧ (σ.1 64 38).toInt < 50 then some (((σ.1 64 38) + 1) - 1, (mj_sI (mj_sI σ 85 (σ.1 64 38).toNatClampNeg p1) 64 38 ((σ.1 64 38) + 1))) else none)))
def f_X10_above (σ : mj_S) (p0 : Int32) : Int32 :=
    (if p0 = 3 then 1 else (if p0 = 5 then 4 else (if p0 = 6 then 3 else (if p0 = 7 then 2 else 0))))
def b_X10_begins_19 (σ : mj_S) : Option mj_S :=
    some (mj_sI σ 64 41 ((σ.1 64 41) + 1))
def f_X10_begins (σ : mj_S) (p1 : Int32) : Option mj_S :=
    (if (24 : Int32) ≤ (σ.1 64 41) then b_X10_begins_19 σ else (if 0 ≤ (σ.1 64 41).toInt ∧ (σ.1 64 41).toInt < 24 then b_X10_begins_19 (mj_sI σ 86 (σ.1 64 41).toNatClampNeg p1) else none))
def b_X10_growsAs_31 (rec : Int32 → Int32 → mj_S → Option (Int32 × mj_S)) (v2 : Int32) (σ : mj_S) : Option (Int32 × mj_S) :=
    ((f_X10_begins σ 20).bind fun r3 => ((rec 0 v2 r3).bind fun r4 => some (r4.1 + 3, r4.2)))
def F_X10_growsAs (rec : Int32 → Int32 → mj_S → Option (Int32 × mj_S)) (σ : mj_S) (p1 : Int32) (p2 : Int32) : Option (Int32 × mj_S) :=
    (if p1 = 6 then ((f_X10_begins σ 70).bind fun r7 => ((rec 3 p2 r7).bind fun r8 => some (r8.1 * 2, r8.2))) else (if p1 = 1 then b_X10_growsAs_31 rec p2 σ else (if p1 = 3 then b_X10_growsAs_31 rec p2 σ else ((f_X10_begins σ 1).bind fun r6 => some (p2 + (r6.1 64 43), r6)))))
def rc_X10_growsAs : Nat → Int32 → Int32 → mj_S → Option (Int32 × mj_S)
  | 0, _, _, _ => none
  | k + 1, x0, x1, σ => F_X10_growsAs (rc_X10_growsAs k) σ x0 x1
def f_X10_growsAs (σ : mj_S) (p1 : Int32) (p2 : Int32) : Option (Int32 × mj_S) := rc_X10_growsAs mj_fd p1 p2 σ
def b_X10_marksAs_11 (rec : Int32 → Int32 → mj_S → Option (Int32 × mj_S)) (v2 : Int32) (σ : mj_S) : Option (Int32 × mj_S) :=
    ((f_X10_begins σ 40).bind fun r2 => ((rec 1 v2 r2).bind fun r3 => some (r3.1 * 3, r3.2)))
def b_X10_marksAs_36 (rec : Int32 → Int32 → mj_S → Option (Int32 × mj_S)) (v2 : Int32) (σ : mj_S) : Option (Int32 × mj_S) :=
    ((f_X10_begins σ 50).bind fun r6 => ((rec 0 v2 r6).bind fun r7 => ((f_X10_growsAs r7.2 (r7.2.1 64 42) 2).bind fun r8 => some (r7.1 - r8.1, r8.2))))
def F_X10_marksAs (rec : Int32 → Int32 → mj_S → Option (Int32 × mj_S)) (σ : mj_S) (p1 : Int32) (p2 : Int32) : Option (Int32 × mj_S) :=
    (if p1 = 3 then b_X10_marksAs_11 rec p2 σ else (if p1 = 6 then b_X10_marksAs_11 rec p2 σ else (if p1 = 4 then b_X10_marksAs_36 rec p2 σ else (if p1 = 5 then b_X10_marksAs_36 rec p2 σ else ((f_X10_begins σ 11).bind fun r10 => some (p2 ^^^ (r10.1 64 43), r10))))))
def rc_X10_marksAs : Nat → Int32 → Int32 → mj_S → Option (Int32 × mj_S)
  | 0, _, _, _ => none
  | k + 1, x0, x1, σ => F_X10_marksAs (rc_X10_marksAs k) σ x0 x1
def f_X10_marksAs (σ : mj_S) (p1 : Int32) (p2 : Int32) : Option (Int32 × mj_S) := rc_X10_marksAs mj_fd p1 p2 σ
def b_X10_standsAs_11 (rec : Int32 → Int32 → mj_S → Option (Int32 × mj_S)) (v2 : Int32) (σ : mj_S) : Option (Int32 × mj_S) :=
    ((f_X10_begins σ 41).bind fun r2 => ((rec 1 (v2 + 1) r2).bind fun r3 => some (r3.1, r3.2)))
def F_X10_standsAs (rec : Int32 → Int32 → mj_S → Option (Int32 × mj_S)) (σ : mj_S) (p1 : Int32) (p2 : Int32) : Option (Int32 × mj_S) :=
    (if p1 = 3 then b_X10_standsAs_11 rec p2 σ else (if p1 = 6 then b_X10_standsAs_11 rec p2 σ else (if p1 = 7 then ((f_X10_begins σ 80).bind fun r11 => ((rec 2 p2 r11).bind fun r12 => ((f_X10_marksAs r12.2 (r12.2.1 64 42) 2).bind fun r13 => some (r12.1 + r13.1, r13.2)))) else (if p1 = 2 then ((f_X10_begins σ 30).bind fun r9 => ((rec 0 p2 r9).bind fun r10 => some (-r10.1, r10.2))) else ((f_X10_begins σ 10).bind fun r7 => ((f_X10_growsAs r7 (r7.1 64 42) p2).bind fun r8 => some (r8.1 * 2, r8.2)))))))
def rc_X10_standsAs : Nat → Int32 → Int32 → mj_S → Option (Int32 × mj_S)
  | 0, _, _, _ => none
  | k + 1, x0, x1, σ => F_X10_standsAs (rc_X10_standsAs k) σ x0 x1
def f_X10_standsAs (σ : mj_S) (p1 : Int32) (p2 : Int32) : Option (Int32 × mj_S) := rc_X10_standsAs mj_fd p1 p2 σ
def F_X10_tellsAs (rec : Int32 → Int32 → mj_S → Option (Int32 × mj_S)) (σ : mj_S) (p1 : Int32) (p2 : Int32) : Option (Int32 × mj_S) :=
    (if p1 = 5 then ((f_X10_begins σ 60).bind fun r8 => ((rec 4 p2 r8).bind fun r9 => some (r9.1 ^^^ 5, r9.2))) else (if p1 = 7 then ((f_X10_begins σ 81).bind fun r6 => ((rec 2 p2 r6).bind fun r7 => some (r7.1 - 1, r7.2))) else ((f_X10_begins σ 2).bind fun r3 => ((f_X10_standsAs r3 (r3.1 64 42) p2).bind fun r4 => ((f_X10_marksAs r4.2 (r4.2.1 64 42) 1).bind fun r5 => some (r4.1 - r5.1, r5.2))))))
def rc_X10_tellsAs : Nat → Int32 → Int32 → mj_S → Option (Int32 × mj_S)
  | 0, _, _, _ => none
  | k + 1, x0, x1, σ => F_X10_tellsAs (rc_X10_tellsAs k) σ x0 x1
def f_X10_tellsAs (σ : mj_S) (p1 : Int32) (p2 : Int32) : Option (Int32 × mj_S) := rc_X10_tellsAs mj_fd p1 p2 σ
def f_X10_act (σ : mj_S) (p1 : Int32) (p2 : Int32) (p3 : Int32) : Option (Int32 × mj_S) :=
    (if (f_X10_isBody (mj_sI σ 64 41 0) p1) = 0 then some (0, (mj_sI σ 64 41 0)) else (if 0 ≤ p1.toInt ∧ p1.toInt < 50 then (if p2 = 0 then ((f_X10_growsAs (mj_sI (mj_sI (mj_sI σ 64 41 0) 64 42 (σ.1 85 p1.toNatClampNeg)) 64 43 p1) (σ.1 85 p1.toNatClampNeg) p3).bind fun r4 => some (r4.1, r4.2)) else (if p2 = 1 then ((f_X10_standsAs (mj_sI (mj_sI (mj_sI σ 64 41 0) 64 42 (σ.1 85 p1.toNatClampNeg)) 64 43 p1) (σ.1 85 p1.toNatClampNeg) p3).bind fun r5 => some (r5.1, r5.2)) else (if p2 = 2 then ((f_X10_marksAs (mj_sI (mj_sI (mj_sI σ 64 41 0) 64 42 (σ.1 85 p1.toNatClampNeg)) 64 43 p1) (σ.1 85 p1.toNatClampNeg) p3).bind fun r6 => some (r6.1, r6.2)) else (if p2 = 3 then ((f_X10_tellsAs (mj_sI (mj_sI (mj_sI σ 64 41 0) 64 42 (σ.1 85 p1.toNatClampNeg)) 64 43 p1) (σ.1 85 p1.toNatClampNeg) p3).bind fun r7 => some (r7.1, r7.2)) else some (0, (mj_sI (mj_sI (mj_sI σ 64 41 0) 64 42 (σ.1 85 p1.toNatClampNeg)) 64 43 p1)))))) else none))
def f_X10_trace (σ : mj_S) (p1 : Int32) : Option Int32 :=
    (if p1 < 0 then some (-1) else (if (σ.1 64 41) ≤ p1 then some (-1) else (if (24 : Int32) ≤ p1 then some (-1) else (if 0 ≤ p1.toInt ∧ p1.toInt < 24 then some (σ.1 86 p1.toNatClampNeg) else none))))
def b_X10_keep_22 (v1 : Int32) (v2 : Int32) (σ : mj_S) : Option (Int32 × mj_S) :=
    (if 0 ≤ v1.toInt ∧ v1.toInt < 6 then (if 0 ≤ v1.toInt ∧ v1.toInt < 6 then some (1, (mj_sI (mj_sI σ 87 v1.toNatClampNeg v2) 88 v1.toNatClampNeg 0)) else none) else none)
def f_X10_keep (σ : mj_S) (p1 : Int32) (p2 : Int32) : Option (Int32 × mj_S) :=
    (if (f_X10_isShelf σ p1) = 0 then some ((-1), σ) else (if p2 = (-1) then b_X10_keep_22 p1 p2 σ else (if (f_X10_isBody σ p2) = 0 then some ((-1), σ) else b_X10_keep_22 p1 p2 σ)))
def b_X10_row_57 : Nat → Int32 → Int32 → mj_S → Option (Int32 × mj_S)
  | 0, _, _, _ => none
  | n + 1, v1, v4, σ =>
    (if ((60 * v1) + 60) ≤ v4 then some (1, σ) else (if 0 ≤ v4.toInt ∧ v4.toInt < 360 then b_X10_row_57 n v1 (v4 + 1) (mj_sL σ 89 v4.toNatClampNeg 0) else none))
def f_X10_row (σ : mj_S) (p1 : Int32) (p2 : Int32) (p3 : Int32) : Option (Int32 × mj_S) :=
    (if (f_X10_isShelf σ p1) = 0 then some ((-1), σ) else (if (f_X10_within σ p2.toInt64 0 4) = 0 then some ((-1), σ) else (if p3 ≤ 60 then (if (0 : Int32) ≤ p3 then (if 0 ≤ p1.toInt ∧ p1.toInt < 6 then (if 0 ≤ p1.toInt ∧ p1.toInt < 6 then b_X10_row_57 mj_fu p1 (60 * p1) (mj_sI (mj_sI σ 87 p1.toNatClampNeg (50 + p2)) 88 p1.toNatClampNeg p3) else none) else none) else some ((-14), σ)) else some ((-1), σ))))
def f_X10_refusal (σ : mj_S) (p1 : Int32) (p2 : Int32) : Option Int32 :=
    (if (f_X10_isShelf σ p1) = 0 then some (-1) else (if 0 ≤ p1.toInt ∧ p1.toInt < 6 then (if (0 : Int32) ≤ (σ.1 87 p1.toNatClampNeg) then (if 0 ≤ p1.toInt ∧ p1.toInt < 6 then (if (50 : Int32) ≤ (σ.1 87 p1.toNatClampNeg) then (if p2 < 0 then some (-13) else (if 0 ≤ p1.toInt ∧ p1.toInt < 6 then (if (σ.1 88 p1.toNatClampNeg) ≤ p2 then some (-13) else some 0) else none)) else some (-12)) else none) else some (-11)) else none))
def f_X10_asSort (σ : mj_S) (p0 : Int32) (p1 : Int64) : Int64 :=
    (if p0 = 0 then p1.toInt32.toInt8.toInt32.toInt64 else (if p0 = 1 then p1.toInt32.toInt16.toInt32.toInt64 else (if p0 = 2 then p1.toInt32.toInt64 else (if p0 = 4 then (if (lg_cmp p1 0) = 0 then 0 else 1) else p1))))
def b_X10_put_37 (v5 : Int32) (σ : mj_S) : Option (Int32 × mj_S) :=
    (if v5 = 0 then some (1, σ) else some (v5, σ))
def f_X10_put (σ : mj_S) (p1 : Int32) (p2 : Int32) (p3 : Int64) : Option (Int32 × mj_S) :=
    ((f_X10_refusal σ p1 p2).bind fun r1 => (if r1 = 0 then (if 0 ≤ p1.toInt ∧ p1.toInt < 6 then (if 0 ≤ ((60 * p1) + p2).toInt ∧ ((60 * p1) + p2).toInt < 360 then b_X10_put_37 r1 (mj_sL σ 89 ((60 * p1) + p2).toNatClampNeg (f_X10_asSort σ ((σ.1 87 p1.toNatClampNeg) - 50) p3)) else none) else none) else b_X10_put_37 r1 σ))
def f_X10_element (σ : mj_S) (p1 : Int32) (p2 : Int32) : Option Int64 :=
    ((f_X10_refusal σ p1 p2).bind fun r1 => (if r1 = 0 then (if 0 ≤ ((60 * p1) + p2).toInt ∧ ((60 * p1) + p2).toInt < 360 then some (σ.2 89 ((60 * p1) + p2).toNatClampNeg) else none) else some (-9223372036854775808)))
def b_X10_shift_150 : Nat → Int32 → Int32 → Int32 → Int32 → mj_S → Option (Int32 × mj_S)
  | 0, _, _, _, _, _ => none
  | n + 1, v3, v4, v5, v6, σ =>
    (if v5 ≤ v6 then some (v5, σ) else (if 0 ≤ v6.toInt ∧ v6.toInt < 60 then (if 0 ≤ (((60 * v3) + v4) + v6).toInt ∧ (((60 * v3) + v4) + v6).toInt < 360 then b_X10_shift_150 n v3 v4 v5 (v6 + 1) (mj_sL σ 89 (((60 * v3) + v4) + v6).toNatClampNeg (σ.2 90 v6.toNatClampNeg)) else none) else none))
def b_X10_shift_113 : Nat → Int32 → Int32 → Int32 → Int32 → Int32 → Int32 → mj_S → Option (Int32 × mj_S)
  | 0, _, _, _, _, _, _, _ => none
  | n + 1, v1, v2, v3, v4, v5, v6, σ =>
    (if v5 ≤ v6 then b_X10_shift_150 mj_fu v3 v4 v5 0 σ else (if 0 ≤ (((60 * v1) + v2) + v6).toInt ∧ (((60 * v1) + v2) + v6).toInt < 360 then (if 0 ≤ v6.toInt ∧ v6.toInt < 60 then b_X10_shift_113 n v1 v2 v3 v4 v5 (v6 + 1) (mj_sL σ 90 v6.toNatClampNeg (σ.2 89 (((60 * v1) + v2) + v6).toNatClampNeg)) else none) else none))
def f_X10_shift (σ : mj_S) (p1 : Int32) (p2 : Int32) (p3 : Int32) (p4 : Int32) (p5 : Int32) : Option (Int32 × mj_S) :=
    (if (f_X10_isShelf σ p1) = 0 then some ((-1), σ) else (if (f_X10_isShelf σ p3) = 0 then some ((-1), σ) else (if 0 ≤ p1.toInt ∧ p1.toInt < 6 then (if (σ.1 87 p1.toNatClampNeg) < 0 then some ((-11), σ) else (if 0 ≤ p3.toInt ∧ p3.toInt < 6 then (if (0 : Int32) ≤ (σ.1 87 p3.toNatClampNeg) then (if 0 ≤ p1.toInt ∧ p1.toInt < 6 then (if (σ.1 87 p1.toNatClampNeg) < 50 then some ((-12), σ) else (if 0 ≤ p1.toInt ∧ p1.toInt < 6 then (if 0 ≤ p3.toInt ∧ p3.toInt < 6 then (if (σ.1 87 p1.toNatClampNeg) = (σ.1 87 p3.toNatClampNeg) then (if p5 < 0 then some ((-13), σ) else (if p2 < 0 then some ((-13), σ) else (if p4 < 0 then some ((-13), σ) else (if 0 ≤ p1.toInt ∧ p1.toInt < 6 then (if ((σ.1 88 p1.toNatClampNeg) - p5) < p2 then some ((-13), σ) else (if 0 ≤ p3.toInt ∧ p3.toInt < 6 then (if p4 ≤ ((σ.1 88 p3.toNatClampNeg) - p5) then b_X10_shift_113 mj_fu p1 p2 p3 p4 p5 0 σ else some ((-13), σ)) else none)) else none)))) else some ((-12), σ)) else none) else none)) else none) else some ((-11), σ)) else none)) else none)))
def b_X10_taken_75 (σ : mj_S) (v1 : Int32) (v2 : Int32) (v3 : Int32) : Option Int32 :=
    (if v3 = v2 then (if 0 ≤ v1.toInt ∧ v1.toInt < 6 then ((f_X10_kindOf σ (σ.1 87 v1.toNatClampNeg)).bind fun r12 => some r12) else none) else some (-12))
def b_X10_taken_58 (σ : mj_S) : Nat → Int32 → Int32 → Int32 → Option Int32
  | 0, _, _, _ => none
  | n + 1, v1, v2, v3 =>
    (if v3 = v2 then b_X10_taken_75 σ v1 v2 v3 else (if v3 ≤ 0 then b_X10_taken_75 σ v1 v2 v3 else b_X10_taken_58 σ n v1 v2 (f_X10_above σ v3)))
def f_X10_taken (σ : mj_S) (p1 : Int32) (p2 : Int32) : Option Int32 :=
    (if (f_X10_isShelf σ p1) = 0 then some (-1) else (if (f_X10_within σ p2.toInt64 0 7) = 0 then some (-1) else (if 0 ≤ p1.toInt ∧ p1.toInt < 6 then (if (0 : Int32) ≤ (σ.1 87 p1.toNatClampNeg) then (if 0 ≤ p1.toInt ∧ p1.toInt < 6 then (if (σ.1 87 p1.toNatClampNeg) < 50 then (if 0 ≤ p1.toInt ∧ p1.toInt < 6 then ((f_X10_kindOf σ (σ.1 87 p1.toNatClampNeg)).bind fun r8 => b_X10_taken_58 σ mj_fu p1 p2 r8) else none) else some (-12)) else none) else some (-11)) else none)))
def f_X10_count (σ : mj_S) (p1 : Int32) : Int32 :=
    (if p1 = 0 then σ.1 64 7 else (if p1 = 1 then σ.1 64 11 else (if p1 = 2 then σ.1 64 26 else (if p1 = 3 then σ.1 64 16 else (if p1 = 4 then σ.1 64 5 else (if p1 = 5 then σ.1 64 38 else (if p1 = 6 then σ.1 64 41 else (-1))))))))
-- DoorPost$Family
def f_X2_has (σ : mj_S) (p1 : Int32) : Int32 :=
    (if p1 < (0 : Int32) then 0 else (if (σ.1 9 6) ≤ p1 then 0 else 1))
def f_X2_becomeLate (σ : mj_S) (p1 : Int32) (p2 : Int32) : Option mj_S :=
    (if (f_X2_has σ p1) = 0 then some σ else (if 0 ≤ p1.toInt ∧ p1.toInt < 6 then (if 0 ≤ p1.toInt ∧ p1.toInt < 6 then some (mj_sI (mj_sI σ 13 p1.toNatClampNeg p2) 33 p1.toNatClampNeg 1) else none) else none))
def f_X2_becomeParents (σ : mj_S) (p1 : Int32) (p2 : Int32) : Option mj_S :=
    (if (f_X2_has σ p1) = 0 then some σ else (if 0 ≤ p1.toInt ∧ p1.toInt < 6 then (if 0 ≤ p1.toInt ∧ p1.toInt < 6 then some (mj_sI (mj_sI σ 14 p1.toNatClampNeg p2) 33 p1.toNatClampNeg 1) else none) else none))
def f_X2_told (σ : mj_S) (p1 : Int32) (p2 : Int32) : Option Int32 :=
    (if (f_X2_has σ p1) = 0 then some (-2000000000) else (if p2 = 0 then (if 0 ≤ p1.toInt ∧ p1.toInt < 6 then some (σ.1 10 p1.toNatClampNeg) else none) else (if p2 = 1 then (if 0 ≤ p1.toInt ∧ p1.toInt < 6 then some (σ.1 11 p1.toNatClampNeg) else none) else (if p2 = 2 then (if 0 ≤ p1.toInt ∧ p1.toInt < 6 then some (σ.1 12 p1.toNatClampNeg) else none) else (if p2 = 3 then (if 0 ≤ p1.toInt ∧ p1.toInt < 6 then some (σ.1 13 p1.toNatClampNeg) else none) else (if p2 = 4 then (if 0 ≤ p1.toInt ∧ p1.toInt < 6 then some (σ.1 14 p1.toNatClampNeg) else none) else some (-2000000000)))))))
def f_X2_size (σ : mj_S) : Int32 :=
    σ.1 9 6
def f_X2_add (σ : mj_S) (p1 : Int32) (p2 : Int32) (p3 : Int32) (p4 : Int32) (p5 : Int32) : Option (Int32 × mj_S) :=
    (if (σ.1 9 6) < 6 then (if 0 ≤ (σ.1 9 6).toInt ∧ (σ.1 9 6).toInt < 6 then (if 0 ≤ (σ.1 9 6).toInt ∧ (σ.1 9 6).toInt < 6 then (if 0 ≤ (σ.1 9 6).toInt ∧ (σ.1 9 6).toInt < 6 then (if 0 ≤ (σ.1 9 6).toInt ∧ (σ.1 9 6).toInt < 6 then (if 0 ≤ (σ.1 9 6).toInt ∧ (σ.1 9 6).toInt < 6 then (if 0 ≤ (σ.1 9 6).toInt ∧ (σ.1 9 6).toInt < 6 then some (((σ.1 9 6) + 1) - 1, (mj_sI (mj_sI (mj_sI (mj_sI (mj_sI (mj_sI (mj_sI σ 10 (σ.1 9 6).toNatClampNeg p1) 11 (σ.1 9 6).toNatClampNeg p2) 12 (σ.1 9 6).toNatClampNeg p3) 13 (σ.1 9 6).toNatClampNeg p4) 14 (σ.1 9 6).toNatClampNeg p5) 33 (σ.1 9 6).toNatClampNeg 1) 9 6 ((σ.1 9 6) + 1))) else none) else none) else none) else none) else none) else none) else some ((-3), σ))
def f_X2_bornIn (σ : mj_S) (p1 : Int32) : Option Int32 :=
    (if (f_X2_has σ p1) = 0 then some 600 else (if 0 ≤ p1.toInt ∧ p1.toInt < 6 then some (σ.1 10 p1.toNatClampNeg) else none))
def f_X2_isBorn (σ : mj_S) (p1 : Int32) (p2 : Int32) : Option Int32 :=
    (if (f_X2_has σ p1) = 0 then some 0 else (if 0 ≤ p1.toInt ∧ p1.toInt < 6 then (if p2 < (σ.1 10 p1.toNatClampNeg) then some 0 else some 1) else none))
def f_X2_wantsTold (σ : mj_S) : Int32 :=
    σ.1 9 10
def b_X2_forgetHeights_2 : Nat → Int32 → mj_S → Option mj_S
  | 0, _, _ => none
  | n + 1, v1, σ =>
    (if (σ.1 9 6) ≤ v1 then some σ else (if (6 : Int32) ≤ v1 then some σ else (if 0 ≤ v1.toInt ∧ v1.toInt < 6 then b_X2_forgetHeights_2 n (v1 + 1) (mj_sI σ 33 v1.toNatClampNeg 1) else none)))
def f_X2_forgetHeights (σ : mj_S) : Option mj_S :=
    b_X2_forgetHeights_2 mj_fu 0 σ
def b_X2_raise_7 : Nat → Nat → Nat → Int32 → Int32 → Int32 → mj_S → Option mj_S
  | 0, _, _, _, _, _, _ => none
  | n + 1, a0, na0, v2, v3, v4, σ =>
    (if v2 < v4 then some σ else (if (Int32.ofNat na0) ≤ v4 then some σ else (if 0 ≤ v4.toInt ∧ v4.toInt < (na0 : Int) then (if 0 ≤ v4.toInt ∧ v4.toInt < (na0 : Int) then b_X2_raise_7 n a0 na0 v2 v3 (v4 + 1) (mj_sI σ a0 v4.toNatClampNeg (mj_max (σ.1 a0 v4.toNatClampNeg) v3)) else none) else none)))
def f_X2_raise (σ : mj_S) (a0 n0 : Nat) (p1 : Int32) (p2 : Int32) (p3 : Int32) : Option mj_S :=
    b_X2_raise_7 mj_fu a0 n0 p2 p3 (mj_max 0 p1) σ
def f_X2_addWant (σ : mj_S) (p1 : Int32) (p2 : Int32) (p3 : Int32) : Option (Int32 × mj_S) :=
    ((f_X2_raise σ 15 600 p1 p2 p3).bind fun r1 => ((f_X2_forgetHeights r1).bind fun r2 => some (((r2.1 9 10) + 1) - 1, (mj_sI r2 9 10 ((r2.1 9 10) + 1)))))
def f_X2_name (σ : mj_S) (p1 : Int32) (p2 : Int32) (p3 : Int32) : Option mj_S :=
    some (mj_sI (mj_sI (mj_sI σ 34 1 p1) 34 4 (p2 / 64)) 34 6 p3)
def f_X2_heightAt (σ : mj_S) (p1 : Int32) (p2 : Int32) : Option Int32 :=
    (if (f_X2_has σ p1) = 0 then some 0 else (if p2 < (0 : Int32) then some 0 else (if (600 : Int32) ≤ p2 then some 0 else (if 0 ≤ p1.toInt ∧ p1.toInt < 6 then (if 0 ≤ p2.toInt ∧ p2.toInt < 600 then some (σ.1 (18 + 1 + p1.toNatClampNeg) p2.toNatClampNeg) else none) else none))))
def f_X2_modelHeightAt (σ : mj_S) (p1 : Int32) (p2 : Int32) : Option Int32 :=
    (if (f_X2_has σ p1) = 0 then some 0 else (if p2 < (0 : Int32) then some 0 else (if (600 : Int32) ≤ p2 then some 0 else (if 0 ≤ p1.toInt ∧ p1.toInt < 6 then (if 0 ≤ p2.toInt ∧ p2.toInt < 600 then some (σ.1 (25 + 1 + p1.toNatClampNeg) p2.toNatClampNeg) else none) else none))))
def f_X2_thoughtHeightAt (σ : mj_S) (p1 : Int32) : Option Int32 :=
    (if p1 < (0 : Int32) then some 0 else (if (600 : Int32) ≤ p1 then some 0 else (if 0 ≤ p1.toInt ∧ p1.toInt < 600 then some (σ.1 32 p1.toNatClampNeg) else none)))
-- DoorPost$Acts
def f_X0_size (σ : mj_S) : Int32 :=
    σ.1 50 1
def f_X0_has (σ : mj_S) (p1 : Int32) : Int32 :=
    (if p1 < (0 : Int32) then 0 else (if (σ.1 50 1) ≤ p1 then 0 else 1))
def f_X0_add (σ : mj_S) (p1 : Int32) : Option (Int32 × mj_S) :=
    (if (σ.1 50 1) < 50 then (if 0 ≤ (σ.1 50 1).toInt ∧ (σ.1 50 1).toInt < 50 then some (((σ.1 50 1) + 1) - 1, (mj_sI (mj_sI σ 51 (σ.1 50 1).toNatClampNeg p1) 50 1 ((σ.1 50 1) + 1))) else none) else some ((-3), σ))
def f_X0_kindOf (σ : mj_S) (p1 : Int32) : Option Int32 :=
    (if (f_X0_has σ p1) = 0 then some (-1) else (if 0 ≤ p1.toInt ∧ p1.toInt < 50 then some (σ.1 51 p1.toNatClampNeg) else none))
def f_X0_ranInAll (σ : mj_S) : Int32 :=
    σ.1 50 3
def f_X0_ranAt (σ : mj_S) (p1 : Int32) : Option Int32 :=
    (if p1 < (0 : Int32) then some (-1) else (if (σ.1 50 3) ≤ p1 then some (-1) else (if (24 : Int32) ≤ p1 then some (-1) else (if 0 ≤ p1.toInt ∧ p1.toInt < 24 then some (σ.1 52 p1.toNatClampNeg) else none))))
def b_X0_note_19 (σ : mj_S) : Option mj_S :=
    some (mj_sI σ 50 3 ((σ.1 50 3) + 1))
def f_X0_note (σ : mj_S) (p1 : Int32) : Option mj_S :=
    (if (24 : Int32) ≤ (σ.1 50 3) then b_X0_note_19 σ else (if 0 ≤ (σ.1 50 3).toInt ∧ (σ.1 50 3).toInt < 24 then b_X0_note_19 (mj_sI σ 52 (σ.1 50 3).toNatClampNeg p1) else none))
def f_X0_ownBody (σ : mj_S) (p0 : Int32) (p1 : Int32) : Option Int32 :=
    (if ((p1 * 4) + p0) < (0 : Int32) then some 0 else (if (32 : Int32) ≤ ((p1 * 4) + p0) then some 0 else (if 0 ≤ ((p1 * 4) + p0).toInt ∧ ((p1 * 4) + p0).toInt < 32 then some (mj_own ((p1 * 4) + p0).toNatClampNeg) else none)))
-- DoorPost$Guesses
def f_X3_foundChild (σ : mj_S) : Int32 :=
    σ.1 40 2
def f_X3_foundMonth (σ : mj_S) : Int32 :=
    σ.1 40 3
def f_X3_foundDistance (σ : mj_S) : Int32 :=
    σ.1 40 4
def f_X3_made (σ : mj_S) (p0 : Int32) (p1 : Int32) : Int32 :=
    (if p1 = 1 then p0 + 48 else (if p1 = 2 then p0 + 128 else (if p1 = 3 then mj_max 0 (p0 - 24) else (if p1 = 4 then ((p0 + 32) / 64) * 64 else p0))))
def f_X3_distance (σ : mj_S) (p1 : Int32) (p2 : Int32) (p3 : Int32) (p4 : Int32) : Option Int32 :=
    ((f_X2_isBorn σ p2 p3).bind fun r1 => (if r1 = 0 then some (-2) else ((f_X2_heightAt σ p2 p3).bind fun r3 => some (mj_abs (p1 - (f_X3_made σ r3 p4))))))
def b_X3_isTriedBehind_8 (σ : mj_S) : Nat → Int32 → Int32 → Option Int32
  | 0, _, _ => none
  | n + 1, v2, v3 =>
    (if (σ.1 40 6) ≤ v3 then some 0 else (if (4 : Int32) ≤ v3 then some 0 else (if 0 ≤ v3.toInt ∧ v3.toInt < 4 then (if (σ.1 42 v3.toNatClampNeg) = v2 then some 1 else b_X3_isTriedBehind_8 σ n v2 (v3 + 1)) else none)))
def f_X3_isTriedBehind (σ : mj_S) (p1 : Int32) (p2 : Int32) : Option Int32 :=
    b_X3_isTriedBehind_8 σ mj_fu p2 ((mj_max (-1) p1) + 1)
def f_X3_sharedSum (σ : mj_S) : Int32 :=
    σ.1 40 9
def f_X3_sharedChild (σ : mj_S) (p1 : Int32) : Option Int32 :=
    (if p1 < (0 : Int32) then some (-1) else (if (σ.1 40 6) ≤ p1 then some (-1) else (if (4 : Int32) ≤ p1 then some (-1) else (if 0 ≤ p1.toInt ∧ p1.toInt < 4 then some (σ.1 43 p1.toNatClampNeg) else none))))
-- DoorPost$Reader
def f_X7_tapeLength (σ : mj_S) : Int32 :=
    σ.1 5 3
def f_X7_take (σ : mj_S) (p1 : Int32) : Option (Int32 × mj_S) :=
    (if (120 : Int32) ≤ (σ.1 5 3) then some (σ.1 5 3, σ) else (if 0 ≤ (σ.1 5 3).toInt ∧ (σ.1 5 3).toInt < 120 then some ((σ.1 5 3) + 1, (mj_sI (mj_sI σ 6 (σ.1 5 3).toNatClampNeg p1) 5 3 ((σ.1 5 3) + 1))) else none))
def f_X7_emptyTape (σ : mj_S) : mj_S :=
    (mj_sI σ 5 3 0)
def f_X7_isOperator (σ : mj_S) (p0 : Int32) (p1 : Int32) : Int32 :=
    (if p0 = 0 then (if p1 = 124 then 1 else 0) else (if p0 = 1 then (if p1 = 38 then 1 else 0) else (if p0 = 2 then (if p1 = 60 then 1 else (if p1 = 61 then 1 else (if p1 = 62 then 1 else 0))) else (if p0 = 3 then (if p1 = 43 then 1 else (if p1 = 45 then 1 else 0)) else (if p0 = 4 then (if p1 = 42 then 1 else (if p1 = 47 then 1 else (if p1 = 37 then 1 else 0))) else 0)))))
def f_X7_isDigit (σ : mj_S) (p0 : Int32) : Int32 :=
    (if p0 < (48 : Int32) then 0 else (if (57 : Int32) < p0 then 0 else 1))
def f_X7_seen (σ : mj_S) : Option Int32 :=
    (if (σ.1 5 4) < (0 : Int32) then some (-1) else (if (σ.1 5 3) ≤ (σ.1 5 4) then some (-1) else (if (120 : Int32) ≤ (σ.1 5 4) then some (-1) else (if 0 ≤ (σ.1 5 4).toInt ∧ (σ.1 5 4).toInt < 120 then some (σ.1 6 (σ.1 5 4).toNatClampNeg) else none))))
def f_X7_write (σ : mj_S) (p1 : Int32) (p2 : Int32) : Option mj_S :=
    (if (121 : Int32) ≤ (σ.1 5 5) then some σ else (if (121 : Int32) ≤ (σ.1 5 5) then some σ else (if 0 ≤ (σ.1 5 5).toInt ∧ (σ.1 5 5).toInt < 121 then (if 0 ≤ (σ.1 5 5).toInt ∧ (σ.1 5 5).toInt < 121 then some (mj_sI (mj_sI (mj_sI σ 7 (σ.1 5 5).toNatClampNeg p1) 8 (σ.1 5 5).toNatClampNeg p2) 5 5 ((σ.1 5 5) + 1)) else none) else none)))
def b_X7_readNumber_48 (v1 : Int32) (σ : mj_S) : Option mj_S :=
    ((f_X7_write σ 48 v1).bind fun r2 => some r2)
def b_X7_readNumber_4 : Nat → Int32 → Int32 → mj_S → Option mj_S
  | 0, _, _, _ => none
  | n + 1, v1, v2, σ =>
    (if (4 : Int32) ≤ v2 then b_X7_readNumber_48 v1 σ else ((f_X7_seen σ).bind fun r3 => (if (f_X7_isDigit σ r3) = 0 then b_X7_readNumber_48 v1 σ else ((f_X7_seen σ).bind fun r5 => b_X7_readNumber_4 n (((v1 * 10) + r5) - 48) (v2 + 1) (mj_sI σ 5 4 ((σ.1 5 4) + 1))))))
def f_X7_readNumber (σ : mj_S) : Option mj_S :=
    b_X7_readNumber_4 mj_fu 0 0 σ
def f_X7_skip (σ : mj_S) (p1 : Int32) : Option (Int32 × mj_S) :=
    ((f_X7_seen σ).bind fun r1 => (if r1 = p1 then some (1, (mj_sI σ 5 4 ((σ.1 5 4) + 1))) else some (0, σ)))
-- DoorPost$Outlook
def f_X6_endMonth (σ : mj_S) (p1 : Int32) : Option Int32 :=
    ((f_X2_bornIn σ p1).bind fun r1 => some (mj_min (r1 + 240) 599))
def f_X6_endOf (σ : mj_S) (p1 : Int32) : Option Int32 :=
    ((f_X6_endMonth σ p1).bind fun r1 => ((f_X2_heightAt σ p1 r1).bind fun r2 => some r2))
def f_X6_byParents (σ : mj_S) (p1 : Int32) : Option Int32 :=
    ((f_X2_told σ p1 4).bind fun r1 => ((f_X2_told σ p1 1).bind fun r2 => (if r2 = 1 then some (r1 + 160) else some (r1 - 160))))
def f_X6_growthInYear (σ : mj_S) (p1 : Int32) (p2 : Int32) : Option Int32 :=
    ((f_X2_bornIn σ p1).bind fun r1 => ((f_X2_heightAt σ p1 ((r1 + (12 * p2)) + 12)).bind fun r2 => ((f_X2_heightAt σ p1 (r1 + (12 * p2))).bind fun r3 => some (r2 - r3))))
def f_X6_isBetter (σ : mj_S) (p0 : Int32) (p1 : Int32) (p2 : Int32) : Int32 :=
    (if p2 = 0 then (if p1 ≤ p0 then 0 else 1) else (if p0 ≤ p1 then 0 else 1))
def f_X6_lineAt (σ : mj_S) (p1 : Int32) (p2 : Int32) : Option Int32 :=
    ((f_X2_modelHeightAt σ p1 p2).bind fun r1 => (if r1 = 0 then some 0 else ((f_X2_heightAt σ p1 p2).bind fun r3 => (if r1 = 0 then none else some ((((100 * r3) / r1) - 100) / 4)))))
def b_X6_firstFall_21 (σ : mj_S) : Nat → Int32 → Int32 → Int32 → Option Int32
  | 0, _, _, _ => none
  | n + 1, v1, v3, v4 =>
    (if (600 : Int32) ≤ v4 then some (-2) else ((f_X6_lineAt σ v1 v4).bind fun r4 => (if (v3 - r4) < 2 then b_X6_firstFall_21 σ n v1 (mj_max v3 r4) (v4 + 1) else some v4)))
def f_X6_firstFall (σ : mj_S) (p1 : Int32) : Option Int32 :=
    ((f_X2_bornIn σ p1).bind fun r1 => ((f_X6_lineAt σ p1 r1).bind fun r2 => b_X6_firstFall_21 σ mj_fu p1 r2 (r1 + 1)))
def f_X6_isHigher (σ : mj_S) (p1 : Int32) (p2 : Int32) (p3 : Int32) : Option Int32 :=
    ((f_X2_heightAt σ p1 p3).bind fun r1 => ((f_X2_heightAt σ p2 p3).bind fun r2 => (if r1 ≤ r2 then some 0 else some 1)))
def b_X6_firstOvertaking_25 (σ : mj_S) : Nat → Int32 → Int32 → Int32 → Option Int32
  | 0, _, _, _ => none
  | n + 1, v1, v2, v4 =>
    (if (600 : Int32) ≤ v4 then some (-2) else ((f_X6_isHigher σ v1 v2 v4).bind fun r4 => (if r4 = 0 then b_X6_firstOvertaking_25 σ n v1 v2 (v4 + 1) else ((f_X6_isHigher σ v1 v2 (v4 - 1)).bind fun r6 => (if r6 = 0 then some v4 else b_X6_firstOvertaking_25 σ n v1 v2 (v4 + 1))))))
def f_X6_firstOvertaking (σ : mj_S) (p1 : Int32) (p2 : Int32) : Option Int32 :=
    ((f_X2_bornIn σ p1).bind fun r1 => ((f_X2_bornIn σ p2).bind fun r2 => b_X6_firstOvertaking_25 σ mj_fu p1 p2 ((mj_max r1 r2) + 1)))
-- DoorPost$Law
def f_X4_withoutText (σ : mj_S) (p0 : Int32) : Int32 :=
    (if (12 : Int32) ≤ p0 then (if (132 : Int32) ≤ p0 then (if (168 : Int32) ≤ p0 then (if (204 : Int32) ≤ p0 then 0 else 4) else 20) else 16) else 40)
def f_X4_pop (σ : mj_S) : Option (Int32 × mj_S) :=
    (if (0 : Int32) < (σ.1 1 4) then (if 0 ≤ ((σ.1 1 4) - 1).toInt ∧ ((σ.1 1 4) - 1).toInt < 121 then some (σ.1 4 ((σ.1 1 4) - 1).toNatClampNeg, (mj_sI σ 1 4 ((σ.1 1 4) - 1))) else none) else some (0, σ))
def f_X4_joined (σ : mj_S) (p0 : Int32) (p1 : Int32) (p2 : Int32) : Option Int32 :=
    (if p0 = 37 then (if p2 = 0 then some 0 else (if p2 = 0 then none else some (mj_rem p1 p2))) else (if p0 = 38 then (if p1 = 0 then some 0 else (if p2 = 0 then some 0 else some 1)) else (if p0 = 42 then some (p1 * p2) else (if p0 = 43 then some (p1 + p2) else (if p0 = 45 then some (p1 - p2) else (if p0 = 47 then (if p2 = 0 then some 0 else (if p2 = 0 then none else some (p1 / p2))) else (if p0 = 60 then (if p2 ≤ p1 then some 0 else some 1) else (if p0 = 61 then (if p1 = p2 then some 1 else some 0) else (if p0 = 62 then (if p1 ≤ p2 then some 0 else some 1) else (if p0 = 124 then (if p1 = 0 then (if p2 = 0 then some 0 else some 1) else some 1) else some 0))))))))))
def f_X4_push (σ : mj_S) (p1 : Int32) : Option mj_S :=
    (if (121 : Int32) ≤ (σ.1 1 4) then some σ else (if 0 ≤ (σ.1 1 4).toInt ∧ (σ.1 1 4).toInt < 121 then some (mj_sI (mj_sI σ 4 (σ.1 1 4).toNatClampNeg p1) 1 4 ((σ.1 1 4) + 1)) else none))
def b_X4_takeStep_102 (t1 : Int32) (σ : mj_S) : Option mj_S :=
    ((f_X4_push σ t1).bind fun r4 => some r4)
def b_X4_takeStep_71 (t1 : Int32) (σ : mj_S) : Option mj_S :=
    ((f_X4_push σ t1).bind fun r7 => some r7)
def b_X4_takeStep_70 (σ : mj_S) : Option mj_S :=
    b_X4_takeStep_71 0 σ
def f_X4_takeStep (σ : mj_S) (p1 : Int32) (p2 : Int32) (a3 n3 : Nat) : Option mj_S :=
    (if p1 = 33 then ((f_X4_pop σ).bind fun r2 => (if r2.1 = 0 then b_X4_takeStep_102 1 r2.2 else b_X4_takeStep_102 0 r2.2)) else (if p1 = 48 then ((f_X4_push σ p2).bind fun r5 => some r5) else (if p1 = 97 then (if p2 < (0 : Int32) then b_X4_takeStep_70 σ else (if (Int32.ofNat n3) ≤ p2 then b_X4_takeStep_70 σ else (if 0 ≤ p2.toInt ∧ p2.toInt < (n3 : Int) then b_X4_takeStep_71 (σ.1 a3 p2.toNatClampNeg) σ else none))) else (if p1 = 110 then ((f_X4_pop σ).bind fun r10 => ((f_X4_push r10.2 (-r10.1)).bind fun r11 => some r11)) else ((f_X4_pop σ).bind fun r12 => ((f_X4_pop r12.2).bind fun r13 => ((f_X4_joined r13.2 p1 r13.1 r12.1).bind fun r14 => ((f_X4_push r13.2 r14).bind fun r15 => some r15))))))))
def b_X4_workOut_9 : Nat → Nat → Nat → Int32 → Int32 → mj_S → Option (Int32 × mj_S)
  | 0, _, _, _, _, _ => none
  | n + 1, a1, na1, v2, v3, σ =>
    (if (σ.1 1 3) ≤ v3 then some (0, σ) else (if 0 ≤ v3.toInt ∧ v3.toInt < 121 then (if v2 ≤ v3 then (if (σ.1 2 v3.toNatClampNeg) = 59 then ((f_X4_pop σ).bind fun r11 => some (r11.1, r11.2)) else (if (σ.1 2 v3.toNatClampNeg) = 63 then ((f_X4_pop σ).bind fun r8 => (if r8.1 = 0 then (if 0 ≤ v3.toInt ∧ v3.toInt < 121 then b_X4_workOut_9 n a1 na1 (r8.2.1 3 v3.toNatClampNeg) (v3 + 1) r8.2 else none) else b_X4_workOut_9 n a1 na1 v3 (v3 + 1) r8.2)) else (if 0 ≤ v3.toInt ∧ v3.toInt < 121 then ((f_X4_takeStep σ (σ.1 2 v3.toNatClampNeg) (σ.1 3 v3.toNatClampNeg) a1 na1).bind fun r7 => b_X4_workOut_9 n a1 na1 v2 (v3 + 1) r7) else none))) else b_X4_workOut_9 n a1 na1 v2 (v3 + 1) σ) else none))
def f_X4_workOut (σ : mj_S) (a1 n1 : Nat) : Option (Int32 × mj_S) :=
    b_X4_workOut_9 mj_fu a1 n1 0 0 (mj_sI σ 1 4 0)
def b_X4_growth_30 (t0 : Int32) (σ : mj_S) : Option (Int32 × mj_S) :=
    some (mj_max 0 (mj_min 99 t0), σ)
def f_X4_growth (σ : mj_S) (a1 n1 : Nat) : Option (Int32 × mj_S) :=
    (if (7 : Int32) ≤ (Int32.ofNat n1) then (if (σ.1 1 5) = 0 then (if 0 ≤ (0 : Int32).toInt ∧ (0 : Int32).toInt < (n1 : Int) then b_X4_growth_30 (f_X4_withoutText σ (σ.1 a1 0)) σ else none) else ((f_X4_workOut σ a1 n1).bind fun r4 => b_X4_growth_30 r4.1 r4.2)) else some (0, σ))
def b_X4_become_23 : Nat → Nat → Nat → Nat → Nat → Int32 → mj_S → Option mj_S
  | 0, _, _, _, _, _, _ => none
  | n + 1, a1, na1, a2, na2, v4, σ =>
    (if (σ.1 1 3) ≤ v4 then some (mj_sI σ 1 5 1) else (if 0 ≤ v4.toInt ∧ v4.toInt < (na1 : Int) then (if 0 ≤ v4.toInt ∧ v4.toInt < 121 then (if 0 ≤ v4.toInt ∧ v4.toInt < (na2 : Int) then (if 0 ≤ v4.toInt ∧ v4.toInt < 121 then b_X4_become_23 n a1 na1 a2 na2 (v4 + 1) (mj_sI (mj_sI σ 2 v4.toNatClampNeg (σ.1 a1 v4.toNatClampNeg)) 3 v4.toNatClampNeg ((mj_sI σ 2 v4.toNatClampNeg (σ.1 a1 v4.toNatClampNeg)).1 a2 v4.toNatClampNeg)) else none) else none) else none) else none))
def f_X4_become (σ : mj_S) (a1 n1 : Nat) (a2 n2 : Nat) (p3 : Int32) : Option mj_S :=
    b_X4_become_23 mj_fu a1 n1 a2 n2 0 (mj_sI σ 1 3 (mj_min p3 (mj_min 121 (mj_min (Int32.ofNat n1) (Int32.ofNat n2)))))
-- DoorPost
def f_X9_within (σ : mj_S) (p0 : Int32) (p1 : Int32) (p2 : Int32) : Int32 :=
    (if p0 < p1 then 0 else (if p2 < p0 then 0 else 1))
def f_X9_isMonth (σ : mj_S) (p0 : Int32) : Int32 :=
    mj_zb (f_X9_within σ p0 0 599)
def f_X9_isLate (σ : mj_S) (p0 : Int32) : Int32 :=
    mj_zb (f_X9_within σ p0 (-24) 24)
def f_X9_isParents (σ : mj_S) (p0 : Int32) : Int32 :=
    mj_zb (f_X9_within σ p0 3000 6000)
def f_X9_isSpan (σ : mj_S) (p0 : Int32) : Int32 :=
    (if p0 < 0 then 0 else (if (f_X9_isMonth σ (p0 / 1000)) = 0 then 0 else (if (f_X9_isMonth σ (mj_rem p0 1000)) = 0 then 0 else (if (mj_rem p0 1000) < (p0 / 1000) then 0 else 1))))
def f_X9_feed (σ : mj_S) (p1 : Int32) : Option (Int32 × mj_S) :=
    (if (f_X9_within σ p1 0 255) = 0 then some ((-1), σ) else (if (f_X7_tapeLength σ) < 120 then ((f_X7_take σ p1).bind fun r3 => some (r3.1, r3.2)) else some ((-3), σ)))
def f_X9_height (σ : mj_S) (p1 : Int32) (p2 : Int32) : Option Int32 :=
    (if (f_X2_has σ p1) = 0 then some (-1) else (if (f_X9_isMonth σ p2) = 0 then some (-1) else ((f_X2_heightAt σ p1 p2).bind fun r3 => some r3)))
def f_X9_isMark (σ : mj_S) (p0 : Int32) (p1 : Int32) (p2 : Int32) (p3 : Int32) : Int32 :=
    (if (f_X9_within σ p0 0 9999) = 0 then 0 else (if (f_X9_within σ p1 0 6) = 0 then 0 else (if (f_X9_within σ p2 0 600) = 0 then 0 else (if (f_X9_within σ p3 0 4) = 0 then 0 else 1))))
def f_X9_line (σ : mj_S) (p1 : Int32) (p2 : Int32) : Option Int32 :=
    (if (f_X2_has σ p1) = 0 then some (-2000000000) else (if (f_X9_isMonth σ p2) = 0 then some (-2000000000) else ((f_X2_isBorn σ p1 p2).bind fun r3 => (if r3 = 0 then some (-1000) else ((f_X6_lineAt σ p1 p2).bind fun r5 => some r5)))))
def f_X9_falls (σ : mj_S) (p1 : Int32) : Option Int32 :=
    (if (f_X2_has σ p1) = 0 then some (-1) else ((f_X6_firstFall σ p1).bind fun r2 => some r2))
def f_X9_overtakes (σ : mj_S) (p1 : Int32) : Option Int32 :=
    (if p1 < 0 then some (-1) else (if (f_X2_has σ (p1 / 10)) = 0 then some (-1) else (if (f_X2_has σ (mj_rem p1 10)) = 0 then some (-1) else (if (p1 / 10) = (mj_rem p1 10) then some (-1) else ((f_X6_firstOvertaking σ (p1 / 10) (mj_rem p1 10)).bind fun r5 => some r5)))))
def f_X9_trace (σ : mj_S) (p1 : Int32) : Option Int32 :=
    ((f_X0_ranAt σ p1).bind fun r1 => some r1)
-- DoorPost$Marks
def f_X5_has (σ : mj_S) (p1 : Int32) : Int32 :=
    (if p1 < (0 : Int32) then 0 else (if (σ.1 35 4) ≤ p1 then 0 else 1))
def f_X5_becomeHeight (σ : mj_S) (p1 : Int32) (p2 : Int32) : Option mj_S :=
    (if (f_X5_has σ p1) = 0 then some σ else (if 0 ≤ p1.toInt ∧ p1.toInt < 30 then some (mj_sI σ 36 p1.toNatClampNeg p2) else none))
def f_X5_becomeWay (σ : mj_S) (p1 : Int32) (p2 : Int32) : Option mj_S :=
    (if (f_X5_has σ p1) = 0 then some σ else (if 0 ≤ p1.toInt ∧ p1.toInt < 30 then some (mj_sI σ 39 p1.toNatClampNeg p2) else none))
def f_X5_heightOf (σ : mj_S) (p1 : Int32) : Option Int32 :=
    (if (f_X5_has σ p1) = 0 then some 0 else (if 0 ≤ p1.toInt ∧ p1.toInt < 30 then some (σ.1 36 p1.toNatClampNeg) else none))
def f_X5_wayOf (σ : mj_S) (p1 : Int32) : Option Int32 :=
    (if (f_X5_has σ p1) = 0 then some 0 else (if 0 ≤ p1.toInt ∧ p1.toInt < 30 then some (σ.1 39 p1.toNatClampNeg) else none))
def f_X5_monthOf (σ : mj_S) (p1 : Int32) : Option Int32 :=
    (if (f_X5_has σ p1) = 0 then some 600 else (if 0 ≤ p1.toInt ∧ p1.toInt < 30 then some (σ.1 38 p1.toNatClampNeg) else none))
def f_X5_nameOf (σ : mj_S) (p1 : Int32) : Option Int32 :=
    (if (f_X5_has σ p1) = 0 then some 6 else (if 0 ≤ p1.toInt ∧ p1.toInt < 30 then some (σ.1 37 p1.toNatClampNeg) else none))
def f_X5_size (σ : mj_S) : Int32 :=
    σ.1 35 4
def f_X5_add (σ : mj_S) (p1 : Int32) (p2 : Int32) (p3 : Int32) (p4 : Int32) : Option (Int32 × mj_S) :=
    (if (σ.1 35 4) < 30 then (if 0 ≤ (σ.1 35 4).toInt ∧ (σ.1 35 4).toInt < 30 then (if 0 ≤ (σ.1 35 4).toInt ∧ (σ.1 35 4).toInt < 30 then (if 0 ≤ (σ.1 35 4).toInt ∧ (σ.1 35 4).toInt < 30 then (if 0 ≤ (σ.1 35 4).toInt ∧ (σ.1 35 4).toInt < 30 then some (((σ.1 35 4) + 1) - 1, (mj_sI (mj_sI (mj_sI (mj_sI (mj_sI σ 36 (σ.1 35 4).toNatClampNeg p1) 37 (σ.1 35 4).toNatClampNeg p2) 38 (σ.1 35 4).toNatClampNeg p3) 39 (σ.1 35 4).toNatClampNeg p4) 35 4 ((σ.1 35 4) + 1))) else none) else none) else none) else none) else some ((-3), σ))
def f_X5_isCovered (σ : mj_S) (p1 : Int32) : Option Int32 :=
    ((f_X5_monthOf σ p1).bind fun r1 => (if r1 = 600 then (if (σ.1 35 6) ≤ p1 then some 0 else some 1) else (if (σ.1 35 5) < r1 then some 0 else some 1)))
def f_X5_told (σ : mj_S) (p1 : Int32) (p2 : Int32) : Option Int32 :=
    (if p2 = 0 then ((f_X5_heightOf σ p1).bind fun r2 => some r2) else (if p2 = 1 then ((f_X5_nameOf σ p1).bind fun r3 => some r3) else (if p2 = 2 then ((f_X5_monthOf σ p1).bind fun r4 => some r4) else (if p2 = 3 then ((f_X5_wayOf σ p1).bind fun r5 => some r5) else (if p2 = 4 then ((f_X5_isCovered σ p1).bind fun r6 => (if r6 = 0 then some 0 else some 1)) else some (-2000000000))))))
def f_X5_cover (σ : mj_S) (p1 : Int32) : mj_S :=
    (mj_sI (mj_sI σ 35 5 (mj_max (σ.1 35 5) p1)) 35 6 (σ.1 35 4))
def b_X5_covered_4 (σ : mj_S) : Nat → Int32 → Int32 → Option Int32
  | 0, _, _ => none
  | n + 1, v1, v2 =>
    (if (σ.1 35 4) ≤ v2 then some v1 else ((f_X5_isCovered σ v2).bind fun r2 => (if r2 = 0 then b_X5_covered_4 σ n v1 (v2 + 1) else b_X5_covered_4 σ n (v1 + 1) (v2 + 1))))
def f_X5_covered (σ : mj_S) : Option Int32 :=
    b_X5_covered_4 σ mj_fu 0 0
def f_X5_isToldOf (σ : mj_S) (p1 : Int32) (p2 : Int32) : Option Int32 :=
    ((f_X5_nameOf σ p1).bind fun r1 => (if r1 = p2 then ((f_X5_monthOf σ p1).bind fun r3 => (if r3 = 600 then some 0 else some 1)) else some 0))
def b_X5_isTurned_13 (σ : mj_S) : Nat → Int32 → Int32 → Int32 → Option Int32
  | 0, _, _, _ => none
  | n + 1, v1, v2, v3 =>
    (if (σ.1 35 4) ≤ v3 then some 0 else ((f_X5_isToldOf σ v3 v2).bind fun r4 => (if r4 = 0 then b_X5_isTurned_13 σ n v1 v2 (v3 + 1) else ((f_X5_monthOf σ v3).bind fun r6 => ((f_X5_monthOf σ v1).bind fun r7 => (if r7 ≤ r6 then b_X5_isTurned_13 σ n v1 v2 (v3 + 1) else ((f_X5_heightOf σ v1).bind fun r9 => ((f_X5_heightOf σ v3).bind fun r10 => (if r10 < r9 then b_X5_isTurned_13 σ n v1 v2 (v3 + 1) else some 1)))))))))
def f_X5_isTurned (σ : mj_S) (p1 : Int32) (p2 : Int32) : Option Int32 :=
    ((f_X5_isToldOf σ p1 p2).bind fun r1 => (if r1 = 0 then some 0 else b_X5_isTurned_13 σ mj_fu p1 p2 0))
def b_X5_turnedMarks_4 (σ : mj_S) : Nat → Int32 → Int32 → Int32 → Option Int32
  | 0, _, _, _ => none
  | n + 1, v1, v2, v3 =>
    (if (σ.1 35 4) ≤ v3 then some v2 else ((f_X5_isTurned σ v3 v1).bind fun r2 => (if r2 = 0 then b_X5_turnedMarks_4 σ n v1 v2 (v3 + 1) else b_X5_turnedMarks_4 σ n v1 (v2 + 1) (v3 + 1))))
def f_X5_turnedMarks (σ : mj_S) (p1 : Int32) : Option Int32 :=
    b_X5_turnedMarks_4 σ mj_fu p1 0 0
def b_X5_firstTurned_2 (σ : mj_S) : Nat → Int32 → Int32 → Option Int32
  | 0, _, _ => none
  | n + 1, v1, v2 =>
    (if (σ.1 35 4) ≤ v2 then some (-2) else ((f_X5_isTurned σ v2 v1).bind fun r2 => (if r2 = 0 then b_X5_firstTurned_2 σ n v1 (v2 + 1) else some v2)))
def f_X5_firstTurned (σ : mj_S) (p1 : Int32) : Option Int32 :=
    b_X5_firstTurned_2 σ mj_fu p1 0
-- DoorPost
def f_X9_mark (σ : mj_S) (p1 : Int32) (p2 : Int32) (p3 : Int32) : Option (Int32 × mj_S) :=
    (if p2 < 0 then some ((-1), σ) else (if (f_X9_isMark σ p1 (p2 / 10) p3 (mj_rem p2 10)) = 0 then some ((-1), σ) else (if (f_X5_size σ) < 30 then ((f_X5_add σ p1 (p2 / 10) p3 (mj_rem p2 10)).bind fun r4 => some (r4.1, r4.2)) else some ((-3), σ))))
def f_X9_paint (σ : mj_S) (p1 : Int32) : Option (Int32 × mj_S) :=
    (if (f_X9_isMonth σ p1) = 0 then some ((-1), σ) else (mj_let (f_X5_cover σ p1) fun r2 => ((f_X5_covered r2).bind fun r3 => some (r3, r2))))
def b_X9_of_30 (σ : mj_S) (v1 : Int32) (v2 : Int32) : Option Int32 :=
    (if (f_X9_within σ v2 10 14) = 0 then some (-2000000000) else (if (f_X2_has σ v1) = 0 then some (-2000000000) else ((f_X2_told σ v1 (v2 - 10)).bind fun r4 => some r4)))
def f_X9_of (σ : mj_S) (p1 : Int32) (p2 : Int32) : Option Int32 :=
    (if (f_X9_within σ p2 0 4) = 0 then b_X9_of_30 σ p1 p2 else (if (f_X5_has σ p1) = 0 then b_X9_of_30 σ p1 p2 else ((f_X5_told σ p1 p2).bind fun r6 => some r6)))
def f_X9_isMendable (σ : mj_S) (p1 : Int32) (p2 : Int32) (p3 : Int32) : Int32 :=
    (if p2 = 0 then (if (f_X5_has σ p1) = 0 then 0 else (if (f_X9_within σ p3 0 9999) = 0 then 0 else 1)) else (if p2 = 1 then (if (f_X5_has σ p1) = 0 then 0 else (if (f_X9_within σ p3 0 4) = 0 then 0 else 1)) else (if p2 = 2 then (if (f_X2_has σ p1) = 0 then 0 else (if (f_X9_isLate σ p3) = 0 then 0 else 1)) else (if p2 = 3 then (if (f_X2_has σ p1) = 0 then 0 else (if (f_X9_isParents σ p3) = 0 then 0 else 1)) else 0))))
def f_X9_isMarkAndChild (σ : mj_S) (p1 : Int32) : Int32 :=
    (if p1 < 0 then 0 else (if (f_X5_has σ (p1 / 10)) = 0 then 0 else (if (f_X2_has σ (mj_rem p1 10)) = 0 then 0 else 1)))
def f_X9_off (σ : mj_S) (p1 : Int32) (p2 : Int32) (p3 : Int32) : Option Int32 :=
    (if (f_X9_isMarkAndChild σ p1) = 0 then some (-1) else (if (f_X9_isMonth σ p2) = 0 then some (-1) else (if (f_X9_within σ p3 0 4) = 0 then some (-1) else ((f_X5_heightOf σ (p1 / 10)).bind fun r4 => ((f_X3_distance σ r4 (mj_rem p1 10) p2 p3).bind fun r5 => some r5)))))
def f_X9_turned (σ : mj_S) (p1 : Int32) (p2 : Int32) : Option Int32 :=
    (if (f_X2_has σ p1) = 0 then some (-1) else (if (f_X9_within σ p2 0 1) = 0 then some (-1) else (if p2 = 0 then ((f_X5_turnedMarks σ p1).bind fun r5 => some r5) else ((f_X5_firstTurned σ p1).bind fun r4 => some r4))))
-- DoorPost$Changes
def f_X1_toUndo (σ : mj_S) : Int32 :=
    σ.1 45 6
def f_X1_toRedo (σ : mj_S) : Int32 :=
    (σ.1 45 7) - (σ.1 45 6)
def f_X1_become (σ : mj_S) (p1 : Int32) (p2 : Int32) (p3 : Int32) : Option mj_S :=
    (if p2 = 0 then ((f_X5_becomeHeight σ p1 p3).bind fun r2 => some r2) else (if p2 = 1 then ((f_X5_becomeWay σ p1 p3).bind fun r3 => some r3) else (if p2 = 2 then ((f_X2_becomeLate σ p1 p3).bind fun r4 => some r4) else (if p2 = 3 then ((f_X2_becomeParents σ p1 p3).bind fun r5 => some r5) else some σ))))
def f_X1_dropOldest (σ : mj_S) : Option mj_S :=
    (if (0 ≤ (1 : Int32).toInt ∧ 0 ≤ (0 : Int32).toInt) ∧ 0 ≤ (39 : Int32).toInt ∧ (1 : Int32).toInt + (39 : Int32).toInt ≤ (40 : Int) ∧ (0 : Int32).toInt + (39 : Int32).toInt ≤ (40 : Int) then (if (0 ≤ (1 : Int32).toInt ∧ 0 ≤ (0 : Int32).toInt) ∧ 0 ≤ (39 : Int32).toInt ∧ (1 : Int32).toInt + (39 : Int32).toInt ≤ (40 : Int) ∧ (0 : Int32).toInt + (39 : Int32).toInt ≤ (40 : Int) then (if (0 ≤ (1 : Int32).toInt ∧ 0 ≤ (0 : Int32).toInt) ∧ 0 ≤ (39 : Int32).toInt ∧ (1 : Int32).toInt + (39 : Int32).toInt ≤ (40 : Int) ∧ (0 : Int32).toInt + (39 : Int32).toInt ≤ (40 : Int) then (if (0 ≤ (1 : Int32).toInt ∧ 0 ≤ (0 : Int32).toInt) ∧ 0 ≤ (39 : Int32).toInt ∧ (1 : Int32).toInt + (39 : Int32).toInt ≤ (40 : Int) ∧ (0 : Int32).toInt + (39 : Int32).toInt ≤ (40 : Int) then some (mj_sR (mj_sR (mj_sR (mj_sR (mj_sI σ 45 6 39) 46 (va_cpy (σ.1 46) (σ.1 46) 1 0 39)) 47 (va_cpy (σ.1 47) (σ.1 47) 1 0 39)) 48 (va_cpy (σ.1 48) (σ.1 48) 1 0 39)) 49 (va_cpy (σ.1 49) (σ.1 49) 1 0 39)) else none) else none) else none) else none)
def b_X1_remember_13 (v1 : Int32) (v2 : Int32) (v3 : Int32) (v4 : Int32) (σ : mj_S) : Option mj_S :=
    (if 0 ≤ (σ.1 45 6).toInt ∧ (σ.1 45 6).toInt < 40 then (if 0 ≤ (σ.1 45 6).toInt ∧ (σ.1 45 6).toInt < 40 then (if 0 ≤ (σ.1 45 6).toInt ∧ (σ.1 45 6).toInt < 40 then (if 0 ≤ (σ.1 45 6).toInt ∧ (σ.1 45 6).toInt < 40 then some (mj_sI (mj_sI (mj_sI (mj_sI (mj_sI (mj_sI σ 46 (σ.1 45 6).toNatClampNeg v1) 47 (σ.1 45 6).toNatClampNeg v2) 48 (σ.1 45 6).toNatClampNeg v3) 49 (σ.1 45 6).toNatClampNeg v4) 45 6 ((σ.1 45 6) + 1)) 45 7 ((σ.1 45 6) + 1)) else none) else none) else none) else none)
def f_X1_remember (σ : mj_S) (p1 : Int32) (p2 : Int32) (p3 : Int32) (p4 : Int32) : Option mj_S :=
    (if (σ.1 45 6) < 40 then b_X1_remember_13 p1 p2 p3 p4 σ else ((f_X1_dropOldest σ).bind fun r6 => b_X1_remember_13 p1 p2 p3 p4 r6))
def f_X1_valueOf (σ : mj_S) (p1 : Int32) (p2 : Int32) : Option Int32 :=
    (if p2 = 0 then ((f_X5_heightOf σ p1).bind fun r2 => some r2) else (if p2 = 1 then ((f_X5_wayOf σ p1).bind fun r3 => some r3) else (if p2 = 2 then ((f_X2_told σ p1 3).bind fun r4 => some r4) else (if p2 = 3 then ((f_X2_told σ p1 4).bind fun r5 => some r5) else some (-2000000000)))))
def f_X1_change (σ : mj_S) (p1 : Int32) (p2 : Int32) (p3 : Int32) : Option (Int32 × mj_S) :=
    ((f_X1_valueOf σ p1 p2).bind fun r1 => (if r1 = p3 then some (r1, σ) else ((f_X1_become σ p1 p2 p3).bind fun r3 => ((f_X1_remember r3 p1 p2 r1 p3).bind fun r4 => some (r1, r4)))))
def f_X1_goBack (σ : mj_S) : Option mj_S :=
    (if (σ.1 45 6) ≤ 0 then some σ else (if 0 ≤ ((σ.1 45 6) - 1).toInt ∧ ((σ.1 45 6) - 1).toInt < 40 then (if 0 ≤ ((σ.1 45 6) - 1).toInt ∧ ((σ.1 45 6) - 1).toInt < 40 then (if 0 ≤ ((σ.1 45 6) - 1).toInt ∧ ((σ.1 45 6) - 1).toInt < 40 then ((f_X1_become (mj_sI σ 45 6 ((σ.1 45 6) - 1)) (σ.1 46 ((σ.1 45 6) - 1).toNatClampNeg) (σ.1 47 ((σ.1 45 6) - 1).toNatClampNeg) (σ.1 48 ((σ.1 45 6) - 1).toNatClampNeg)).bind fun r5 => some r5) else none) else none) else none))
def f_X1_goForward (σ : mj_S) : Option mj_S :=
    (if (σ.1 45 7) ≤ (σ.1 45 6) then some σ else (if (40 : Int32) ≤ (σ.1 45 6) then some σ else (if 0 ≤ (σ.1 45 6).toInt ∧ (σ.1 45 6).toInt < 40 then (if 0 ≤ (σ.1 45 6).toInt ∧ (σ.1 45 6).toInt < 40 then (if 0 ≤ (σ.1 45 6).toInt ∧ (σ.1 45 6).toInt < 40 then ((f_X1_become σ (σ.1 46 (σ.1 45 6).toNatClampNeg) (σ.1 47 (σ.1 45 6).toNatClampNeg) (σ.1 49 (σ.1 45 6).toNatClampNeg)).bind fun r6 => some (mj_sI r6 45 6 ((r6.1 45 6) + 1))) else none) else none) else none)))
-- DoorPost$Guesses
def b_X3_find_137 (K94 : Int32 → Int32 → Int32 → Int32 → Int32 → Int32 → Int32 → mj_S → Option (Int32 × mj_S)) (v1 : Int32) (v4 : Int32) (v6 : Int32) (v7 : Int32) (v8 : Int32) (v9 : Int32) (v10 : Int32) (v11 : Int32) (σ : mj_S) : Option (Int32 × mj_S) :=
    K94 v1 v4 v6 v7 v8 v9 (v10 + 1) (mj_sI (mj_sI (mj_sI σ 40 2 v10) 40 3 v9) 40 4 v11)
def b_X3_find_94 (K83 : Int32 → Int32 → Int32 → Int32 → Int32 → Int32 → mj_S → Option (Int32 × mj_S)) : Nat → Int32 → Int32 → Int32 → Int32 → Int32 → Int32 → Int32 → mj_S → Option (Int32 × mj_S)
  | 0, _, _, _, _, _, _, _, _ => none
  | n + 1, v1, v4, v6, v7, v8, v9, v10, σ =>
    (if v8 < v10 then K83 v1 v4 v6 v7 v8 (v9 + 1) σ else ((f_X3_distance σ v1 v10 v9 v4).bind fun r8 => (if r8 = (-2) then b_X3_find_94 K83 n v1 v4 v6 v7 v8 v9 (v10 + 1) σ else (if (σ.1 40 2) < 0 then b_X3_find_137 (b_X3_find_94 K83 n) v1 v4 v6 v7 v8 v9 v10 r8 σ else (if (σ.1 40 4) ≤ r8 then b_X3_find_94 K83 n v1 v4 v6 v7 v8 v9 (v10 + 1) σ else b_X3_find_137 (b_X3_find_94 K83 n) v1 v4 v6 v7 v8 v9 v10 r8 σ)))))
def b_X3_find_83 : Nat → Int32 → Int32 → Int32 → Int32 → Int32 → Int32 → mj_S → Option (Int32 × mj_S)
  | 0, _, _, _, _, _, _, _ => none
  | n + 1, v1, v4, v6, v7, v8, v9, σ =>
    (if v6 < v9 then (if (σ.1 40 2) < 0 then some (0, σ) else some (1, σ)) else b_X3_find_94 (b_X3_find_83 n) mj_fu v1 v4 v6 v7 v8 v9 v7 σ)
def b_X3_find_51 (v1 : Int32) (v2 : Int32) (v4 : Int32) (v5 : Int32) (v6 : Int32) (t0 : Int32) (σ : mj_S) : Option (Int32 × mj_S) :=
    (if (f_X2_has σ v2) = 0 then b_X3_find_83 mj_fu v1 v4 v6 t0 ((f_X2_size σ) - 1) v5 σ else b_X3_find_83 mj_fu v1 v4 v6 t0 v2 v5 σ)
def b_X3_find_33 (v1 : Int32) (v2 : Int32) (v4 : Int32) (v5 : Int32) (t0 : Int32) (σ : mj_S) : Option (Int32 × mj_S) :=
    (if (f_X2_has σ v2) = 0 then b_X3_find_51 v1 v2 v4 v5 t0 0 σ else b_X3_find_51 v1 v2 v4 v5 t0 v2 σ)
def b_X3_find_17 (v1 : Int32) (v2 : Int32) (v3 : Int32) (v4 : Int32) (t0 : Int32) (σ : mj_S) : Option (Int32 × mj_S) :=
    (if (f_X9_isMonth σ v3) = 0 then b_X3_find_33 v1 v2 v4 t0 599 σ else b_X3_find_33 v1 v2 v4 t0 v3 σ)
def f_X3_find (σ : mj_S) (p1 : Int32) (p2 : Int32) (p3 : Int32) (p4 : Int32) : Option (Int32 × mj_S) :=
    (if (f_X9_isMonth (mj_sI σ 40 2 (-1)) p3) = 0 then b_X3_find_17 p1 p2 p3 p4 0 (mj_sI σ 40 2 (-1)) else b_X3_find_17 p1 p2 p3 p4 p3 (mj_sI σ 40 2 (-1)))
def f_X3_findFor (σ : mj_S) (p1 : Int32) : Option (Int32 × mj_S) :=
    ((f_X5_heightOf σ p1).bind fun r1 => ((f_X5_nameOf σ p1).bind fun r2 => ((f_X5_monthOf σ p1).bind fun r3 => ((f_X5_wayOf σ p1).bind fun r4 => ((f_X3_find σ r1 r2 r3 r4).bind fun r5 => some (mj_zb r5.1, r5.2))))))
def b_X3_leadingTo_4 : Nat → Int32 → Int32 → Int32 → mj_S → Option (Int32 × mj_S)
  | 0, _, _, _, _ => none
  | n + 1, v1, v2, v3, σ =>
    (if (f_X5_size σ) ≤ v3 then some (v2, σ) else ((f_X3_findFor σ v3).bind fun r2 => (if r2.1 = 0 then b_X3_leadingTo_4 n v1 v2 (v3 + 1) r2.2 else (if (r2.2.1 40 2) = v1 then b_X3_leadingTo_4 n v1 (v2 + 1) (v3 + 1) r2.2 else b_X3_leadingTo_4 n v1 v2 (v3 + 1) r2.2))))
def f_X3_leadingTo (σ : mj_S) (p1 : Int32) : Option (Int32 × mj_S) :=
    b_X3_leadingTo_4 mj_fu p1 0 0 σ
def b_X3_weight_45 (σ : mj_S) (v1 : Int32) (v2 : Int32) (v4 : Int32) : Option Int32 :=
    ((f_X5_heightOf σ v1).bind fun r5 => ((f_X5_wayOf σ v1).bind fun r6 => ((f_X3_distance σ r5 v2 v4 r6).bind fun r7 => (if (0 : Int32) ≤ r7 then (if (1 + r7) = 0 then none else some (10000 / (1 + r7))) else some 0))))
def f_X3_weight (σ : mj_S) (p1 : Int32) (p2 : Int32) : Option Int32 :=
    ((f_X5_nameOf σ p1).bind fun r1 => ((f_X5_monthOf σ p1).bind fun r2 => (if (f_X9_isMonth σ r2) = 0 then some 0 else (if (f_X2_has σ r1) = 0 then b_X3_weight_45 σ p1 p2 r2 else (if r1 = p2 then b_X3_weight_45 σ p1 p2 r2 else some 0)))))
def b_X3_chance_8 (σ : mj_S) : Nat → Int32 → Int32 → Int32 → Int32 → Int32 → Option Int32
  | 0, _, _, _, _, _ => none
  | n + 1, v1, v2, v3, v4, v5 =>
    (if (f_X2_size σ) ≤ v5 then (if v4 = 0 then some (-2) else (if v4 = 0 then none else some ((1000 * v3) / v4))) else ((f_X3_weight σ v1 v5).bind fun r4 => (if v5 = v2 then b_X3_chance_8 σ n v1 v2 r4 (v4 + r4) (v5 + 1) else b_X3_chance_8 σ n v1 v2 v3 (v4 + r4) (v5 + 1))))
def f_X3_chance (σ : mj_S) (p1 : Int32) (p2 : Int32) : Option Int32 :=
    b_X3_chance_8 σ mj_fu p1 p2 0 0 0
def f_X3_foundDistanceBy (σ : mj_S) (p1 : Int32) (p2 : Int32) : Option Int32 :=
    ((f_X5_heightOf σ p1).bind fun r1 => ((f_X3_distance σ r1 (σ.1 40 2) (σ.1 40 3) p2).bind fun r2 => some r2))
def b_X3_likeliestWay_4 (σ : mj_S) : Nat → Int32 → Int32 → Int32 → Option Int32
  | 0, _, _, _ => none
  | n + 1, v1, v2, v3 =>
    (if (4 : Int32) < v3 then some v2 else ((f_X3_foundDistanceBy σ v1 v3).bind fun r2 => ((f_X3_foundDistanceBy σ v1 v2).bind fun r3 => (if r3 ≤ r2 then b_X3_likeliestWay_4 σ n v1 v2 (v3 + 1) else b_X3_likeliestWay_4 σ n v1 v3 (v3 + 1)))))
def f_X3_likeliestWay (σ : mj_S) (p1 : Int32) : Option Int32 :=
    b_X3_likeliestWay_4 σ mj_fu p1 0 1
def f_X3_wrongWay (σ : mj_S) (p1 : Int32) : Option Int32 :=
    ((f_X3_likeliestWay σ p1).bind fun r1 => ((f_X3_foundDistanceBy σ p1 r1).bind fun r2 => ((f_X5_wayOf σ p1).bind fun r3 => ((f_X3_foundDistanceBy σ p1 r3).bind fun r4 => (if (r4 - r2) < 32 then some 0 else some 1)))))
def b_X3_gather_7 : Nat → Int32 → Int32 → mj_S → Option (Int32 × mj_S)
  | 0, _, _, _ => none
  | n + 1, v1, v2, σ =>
    (if (f_X5_size σ) ≤ v2 then some (σ.1 40 6, σ) else (if (4 : Int32) ≤ (σ.1 40 6) then some (σ.1 40 6, σ) else ((f_X5_monthOf σ v2).bind fun r3 => (if r3 = v1 then ((f_X5_nameOf σ v2).bind fun r5 => (if r5 = 6 then (if 0 ≤ (σ.1 40 6).toInt ∧ (σ.1 40 6).toInt < 4 then b_X3_gather_7 n v1 (v2 + 1) (mj_sI (mj_sI σ 41 (σ.1 40 6).toNatClampNeg v2) 40 6 ((σ.1 40 6) + 1)) else none) else b_X3_gather_7 n v1 (v2 + 1) σ)) else b_X3_gather_7 n v1 (v2 + 1) σ))))
def f_X3_gather (σ : mj_S) (p1 : Int32) : Option (Int32 × mj_S) :=
    b_X3_gather_7 mj_fu p1 0 (mj_sI σ 40 6 0)
def b_X3_sumOfRow_30 : Nat → Int32 → Int32 → Int32 → Int32 → Int32 → mj_S → Option (Int32 × mj_S)
  | 0, _, _, _, _, _, _ => none
  | n + 1, v2, v3, v4, v5, v6, σ =>
    (if v6 < 0 then some (v5, σ) else (if v3 = 0 then none else (if v3 = 0 then none else (if 0 ≤ v6.toInt ∧ v6.toInt < 4 then ((f_X5_heightOf σ (σ.1 41 v6.toNatClampNeg)).bind fun r5 => ((f_X5_wayOf σ (σ.1 41 v6.toNatClampNeg)).bind fun r6 => ((f_X3_distance σ r5 (mj_rem v4 v3) v2 r6).bind fun r7 => (if r7 = (-2) then some ((-2), σ) else ((f_X3_isTriedBehind σ v6 (mj_rem v4 v3)).bind fun r9 => (if r9 = 0 then (if 0 ≤ v6.toInt ∧ v6.toInt < 4 then b_X3_sumOfRow_30 n v2 v3 (v4 / v3) (v5 + r7) (v6 + (-1)) (mj_sI σ 42 v6.toNatClampNeg (mj_rem v4 v3)) else none) else some ((-2), σ))))))) else none))))
def f_X3_sumOfRow (σ : mj_S) (p1 : Int32) (p2 : Int32) : Option (Int32 × mj_S) :=
    b_X3_sumOfRow_30 mj_fu p2 (mj_max 1 (f_X2_size σ)) p1 0 ((mj_min (σ.1 40 6) 4) - 1) σ
def b_X3_shareOut_68 (K33 : Int32 → Int32 → Int32 → Int32 → mj_S → Option (Int32 × mj_S)) (v1 : Int32) (v2 : Int32) (v4 : Int32) (v5 : Int32) (σ : mj_S) : Option (Int32 × mj_S) :=
    (if (0 ≤ (0 : Int32).toInt ∧ 0 ≤ (0 : Int32).toInt) ∧ 0 ≤ (4 : Int32).toInt ∧ (0 : Int32).toInt + (4 : Int32).toInt ≤ (4 : Int) ∧ (0 : Int32).toInt + (4 : Int32).toInt ≤ (4 : Int) then K33 v1 v2 1 (v4 + 1) (mj_sR (mj_sI σ 40 9 v5) 43 (va_cpy (σ.1 42) (σ.1 43) 0 0 4)) else none)
def b_X3_shareOut_33 : Nat → Int32 → Int32 → Int32 → Int32 → mj_S → Option (Int32 × mj_S)
  | 0, _, _, _, _, _ => none
  | n + 1, v1, v2, v3, v4, σ =>
    (if v2 ≤ v4 then some (mj_zb v3, σ) else ((f_X3_sumOfRow σ v4 v1).bind fun r3 => (if r3.1 = (-2) then b_X3_shareOut_33 n v1 v2 v3 (v4 + 1) r3.2 else (if v3 = 0 then b_X3_shareOut_68 (b_X3_shareOut_33 n) v1 v2 v4 r3.1 r3.2 else (if (r3.2.1 40 9) ≤ r3.1 then b_X3_shareOut_33 n v1 v2 v3 (v4 + 1) r3.2 else b_X3_shareOut_68 (b_X3_shareOut_33 n) v1 v2 v4 r3.1 r3.2)))))
def b_X3_shareOut_4 : Nat → Int32 → Int32 → Int32 → mj_S → Option (Int32 × mj_S)
  | 0, _, _, _, _ => none
  | n + 1, v1, v2, v3, σ =>
    (if (σ.1 40 6) ≤ v3 then b_X3_shareOut_33 mj_fu v1 v2 0 0 σ else b_X3_shareOut_4 n v1 (v2 * (f_X2_size σ)) (v3 + 1) σ)
def f_X3_shareOut (σ : mj_S) (p1 : Int32) : Option (Int32 × mj_S) :=
    b_X3_shareOut_4 mj_fu p1 1 0 σ
def b_X3_slipsFound_32 : Nat → Int32 → Int32 → Int32 → Int32 → Int32 → Int32 → Int32 → Int32 → Int32 → mj_S → Option (Int32 × mj_S)
  | 0, _, _, _, _, _, _, _, _, _, _ => none
  | n + 1, v1, v2, v4, v5, v6, v7, v8, v9, v10, σ =>
    (if v4 ≤ v10 then some (v9, σ) else (if v7 = 0 then none else ((f_X3_find σ (v6 + ((mj_rem (mj_ushr ((v8 * 1103515245) + 12345) 8) v7) - v5)) 6 v2 0).bind fun r4 => (if r4.1 = 0 then b_X3_slipsFound_32 n v1 v2 v4 v5 v6 v7 ((v8 * 1103515245) + 12345) v9 (v10 + 1) r4.2 else (if (r4.2.1 40 2) = v1 then b_X3_slipsFound_32 n v1 v2 v4 v5 v6 v7 ((v8 * 1103515245) + 12345) (v9 + 1) (v10 + 1) r4.2 else b_X3_slipsFound_32 n v1 v2 v4 v5 v6 v7 ((v8 * 1103515245) + 12345) v9 (v10 + 1) r4.2)))))
def f_X3_slipsFound (σ : mj_S) (p1 : Int32) (p2 : Int32) (p3 : Int32) (p4 : Int32) (p5 : Int32) : Option (Int32 × mj_S) :=
    ((f_X2_heightAt σ p1 p2).bind fun r1 => b_X3_slipsFound_32 mj_fu p1 p2 p4 p5 r1 (mj_max 1 ((2 * p5) + 1)) p3 0 0 σ)
-- DoorPost
def f_X9_whose (σ : mj_S) (p1 : Int32) (p2 : Int32) : Option (Int32 × mj_S) :=
    (if (f_X5_has σ p1) = 0 then some ((-1), σ) else (if (f_X9_within σ p2 0 2) = 0 then some ((-1), σ) else ((f_X3_findFor σ p1).bind fun r3 => (if r3.1 = 0 then some ((-2), r3.2) else (if p2 = 0 then some (f_X3_foundChild r3.2, r3.2) else (if p2 = 1 then some (f_X3_foundMonth r3.2, r3.2) else some (f_X3_foundDistance r3.2, r3.2)))))))
def f_X9_odds (σ : mj_S) (p1 : Int32) : Option Int32 :=
    (if (f_X9_isMarkAndChild σ p1) = 0 then some (-1) else ((f_X3_chance σ (p1 / 10) (mj_rem p1 10)).bind fun r2 => some r2))
def f_X9_how (σ : mj_S) (p1 : Int32) (p2 : Int32) : Option (Int32 × mj_S) :=
    (if (f_X5_has σ p1) = 0 then some ((-1), σ) else (if (f_X9_within σ p2 0 1) = 0 then some ((-1), σ) else ((f_X3_findFor σ p1).bind fun r3 => (if r3.1 = 0 then some ((-2), r3.2) else (if p2 = 0 then ((f_X3_likeliestWay r3.2 p1).bind fun r7 => some (r7, r3.2)) else ((f_X3_wrongWay r3.2 p1).bind fun r6 => some (r6, r3.2)))))))
def f_X9_together (σ : mj_S) (p1 : Int32) (p2 : Int32) : Option (Int32 × mj_S) :=
    (if (f_X9_isMonth σ p1) = 0 then some ((-1), σ) else ((f_X3_gather σ p1).bind fun r2 => (if p2 < (-1) then some ((-1), r2.2) else (if p2 < r2.1 then ((f_X3_shareOut r2.2 p1).bind fun r5 => (if r5.1 = 0 then some ((-2), r5.2) else (if (0 : Int32) ≤ p2 then ((f_X3_sharedChild r5.2 p2).bind fun r8 => some (r8, r5.2)) else some (f_X3_sharedSum r5.2, r5.2)))) else some ((-1), r2.2)))))
def f_X9_led (σ : mj_S) (p1 : Int32) : Option (Int32 × mj_S) :=
    (if (f_X2_has σ p1) = 0 then some ((-1), σ) else ((f_X3_leadingTo σ p1).bind fun r2 => some (r2.1, r2.2)))
def f_X9_slips (σ : mj_S) (p1 : Int32) (p2 : Int32) (p3 : Int32) (p4 : Int32) : Option (Int32 × mj_S) :=
    (if (f_X2_has σ p1) = 0 then some ((-1), σ) else (if (f_X9_isMonth σ p2) = 0 then some ((-1), σ) else (if p4 < 0 then some ((-1), σ) else (if (f_X9_within σ (p4 / 100) 1 50) = 0 then some ((-1), σ) else ((f_X2_isBorn σ p1 p2).bind fun r5 => (if r5 = 0 then some ((-2), σ) else ((f_X3_slipsFound σ p1 p2 p3 (p4 / 100) (mj_rem p4 100)).bind fun r7 => some (r7.1, r7.2))))))))
def f_X9_count (σ : mj_S) (p1 : Int32) : Int32 :=
    (if p1 = 0 then f_X2_size σ else (if p1 = 1 then f_X2_wantsTold σ else (if p1 = 2 then f_X5_size σ else (if p1 = 3 then f_X7_tapeLength σ else (if p1 = 4 then f_X1_toUndo σ else (if p1 = 5 then f_X0_size σ else (if p1 = 6 then f_X0_ranInAll σ else (-1))))))))
-- DoorPost$Shelves
def f_X8_isSort (σ : mj_S) (p0 : Int32) : Int32 :=
    mj_zb (f_X9_within σ p0 0 4)
def f_X8_has (σ : mj_S) (p1 : Int32) : Int32 :=
    (if p1 < (0 : Int32) then 0 else (if (6 : Int32) ≤ p1 then 0 else 1))
def f_X8_holdsRow (σ : mj_S) (p1 : Int32) : Option Int32 :=
    (if (f_X8_has σ p1) = 0 then some 0 else (if 0 ≤ p1.toInt ∧ p1.toInt < 6 then (if (σ.1 55 p1.toNatClampNeg) = (-1) then some 0 else some 1) else none))
def f_X8_holdsShorts (σ : mj_S) (p1 : Int32) : Option Int32 :=
    (if (f_X8_has σ p1) = 0 then some 0 else (if 0 ≤ p1.toInt ∧ p1.toInt < 6 then (if (σ.1 55 p1.toNatClampNeg) = 1 then some 1 else some 0) else none))
def f_X8_holdsNothing (σ : mj_S) (p1 : Int32) : Option Int32 :=
    (if (f_X8_has σ p1) = 0 then some 0 else (if 0 ≤ p1.toInt ∧ p1.toInt < 6 then (if (σ.1 55 p1.toNatClampNeg) = (-1) then (if 0 ≤ p1.toInt ∧ p1.toInt < 6 then (if (σ.1 54 p1.toNatClampNeg) = (-1) then some 1 else some 0) else none) else some 0) else none))
def f_X8_bodyOn (σ : mj_S) (p1 : Int32) : Option Int32 :=
    (if (f_X8_has σ p1) = 0 then some (-1) else (if 0 ≤ p1.toInt ∧ p1.toInt < 6 then some (σ.1 54 p1.toNatClampNeg) else none))
def f_X8_holdBody (σ : mj_S) (p1 : Int32) (p2 : Int32) : Option mj_S :=
    (if (f_X8_has σ p1) = 0 then some σ else (if 0 ≤ p1.toInt ∧ p1.toInt < 6 then (if 0 ≤ p1.toInt ∧ p1.toInt < 6 then (if 0 ≤ p1.toInt ∧ p1.toInt < 6 then some (mj_sI (mj_sI (mj_sI σ 54 p1.toNatClampNeg p2) 55 p1.toNatClampNeg (-1)) 56 p1.toNatClampNeg 0) else none) else none) else none))
def b_X8_holdRow_43 : Nat → Int32 → Int32 → mj_S → Option mj_S
  | 0, _, _, _ => none
  | n + 1, v1, v4, σ =>
    (if (60 : Int32) ≤ v4 then some σ else (if 0 ≤ v1.toInt ∧ v1.toInt < 6 then (if 0 ≤ v4.toInt ∧ v4.toInt < 60 then b_X8_holdRow_43 n v1 (v4 + 1) (mj_sL σ (57 + 1 + v1.toNatClampNeg) v4.toNatClampNeg 0) else none) else none))
def f_X8_holdRow (σ : mj_S) (p1 : Int32) (p2 : Int32) (p3 : Int32) : Option mj_S :=
    (if (f_X8_has σ p1) = 0 then some σ else (if (f_X9_within σ p3 0 60) = 0 then some σ else (if 0 ≤ p1.toInt ∧ p1.toInt < 6 then (if 0 ≤ p1.toInt ∧ p1.toInt < 6 then (if 0 ≤ p1.toInt ∧ p1.toInt < 6 then b_X8_holdRow_43 mj_fu p1 0 (mj_sI (mj_sI (mj_sI σ 54 p1.toNatClampNeg (-1)) 55 p1.toNatClampNeg p2) 56 p1.toNatClampNeg p3) else none) else none) else none)))
def f_X8_areAlike (σ : mj_S) (p1 : Int32) (p2 : Int32) : Option Int32 :=
    (if (f_X8_has σ p1) = 0 then some 0 else (if (f_X8_has σ p2) = 0 then some 0 else (if 0 ≤ p1.toInt ∧ p1.toInt < 6 then (if 0 ≤ p2.toInt ∧ p2.toInt < 6 then (if (σ.1 55 p1.toNatClampNeg) = (σ.1 55 p2.toNatClampNeg) then some 1 else some 0) else none) else none)))
def f_X8_hasPlaces (σ : mj_S) (p1 : Int32) (p2 : Int32) (p3 : Int32) : Option Int32 :=
    (if (f_X8_has σ p1) = 0 then some 0 else (if p2 < 0 then some 0 else (if p3 < 0 then some 0 else (if 0 ≤ p1.toInt ∧ p1.toInt < 6 then (if (σ.1 56 p1.toNatClampNeg) < p2 then some 0 else (if 0 ≤ p1.toInt ∧ p1.toInt < 6 then (if ((σ.1 56 p1.toNatClampNeg) - p2) < p3 then some 0 else some 1) else none)) else none))))
def f_X8_get (σ : mj_S) (p1 : Int32) (p2 : Int32) : Option Int64 :=
    ((f_X8_hasPlaces σ p1 p2 1).bind fun r1 => (if r1 = 0 then some 0 else (if 0 ≤ p1.toInt ∧ p1.toInt < 6 then (if 0 ≤ p2.toInt ∧ p2.toInt < 60 then some (σ.2 (57 + 1 + p1.toNatClampNeg) p2.toNatClampNeg) else none) else none)))
def f_X8_lowestBits (σ : mj_S) (p0 : Int32) (p1 : Int64) : Int64 :=
    (if p0 = 0 then p1.toInt32.toInt8.toInt32.toInt64 else (if p0 = 1 then p1.toInt32.toInt16.toInt32.toInt64 else (if p0 = 2 then p1.toInt32.toInt64 else (if p0 = 3 then p1 else (if p0 = 4 then (if (lg_cmp p1 0) = 0 then 0 else 1) else 0)))))
def f_X8_set (σ : mj_S) (p1 : Int32) (p2 : Int32) (p3 : Int64) : Option mj_S :=
    ((f_X8_hasPlaces σ p1 p2 1).bind fun r1 => (if r1 = 0 then some σ else (if 0 ≤ p1.toInt ∧ p1.toInt < 6 then (if 0 ≤ p1.toInt ∧ p1.toInt < 6 then (if 0 ≤ p2.toInt ∧ p2.toInt < 60 then some (mj_sL σ (57 + 1 + p1.toNatClampNeg) p2.toNatClampNeg (f_X8_lowestBits σ (σ.1 55 p1.toNatClampNeg) p3)) else none) else none) else none)))
def f_X8_move (σ : mj_S) (p1 : Int32) (p2 : Int32) (p3 : Int32) (p4 : Int32) (p5 : Int32) : Option mj_S :=
    ((f_X8_hasPlaces σ p1 p2 p5).bind fun r1 => (if r1 = 0 then some σ else ((f_X8_hasPlaces σ p3 p4 p5).bind fun r3 => (if r3 = 0 then some σ else (if 0 ≤ p1.toInt ∧ p1.toInt < 6 then (if 0 ≤ p3.toInt ∧ p3.toInt < 6 then (if (0 ≤ p2.toInt ∧ 0 ≤ p4.toInt) ∧ 0 ≤ p5.toInt ∧ p2.toInt + p5.toInt ≤ (60 : Int) ∧ p4.toInt + p5.toInt ≤ (60 : Int) then some (mj_sQ σ (57 + 1 + p3.toNatClampNeg) (va_cpy (σ.2 (57 + 1 + p1.toNatClampNeg)) (σ.2 (57 + 1 + p3.toNatClampNeg)) p2.toNatClampNeg p4.toNatClampNeg p5.toNatClampNeg)) else none) else none) else none)))))
-- DoorPost
def f_X9_markFromRow (σ : mj_S) (p1 : Int32) (p2 : Int32) : Option (Int32 × mj_S) :=
    (if (30 : Int32) ≤ (f_X5_size σ) then some (0, σ) else ((f_X8_hasPlaces σ p1 p2 4).bind fun r2 => (if r2 = 0 then some (0, σ) else ((f_X8_get σ p1 p2).bind fun r4 => ((f_X8_get σ p1 (p2 + 1)).bind fun r5 => ((f_X8_get σ p1 (p2 + 2)).bind fun r6 => ((f_X8_get σ p1 (p2 + 3)).bind fun r7 => (if (f_X9_isMark σ r4.toInt32 r5.toInt32 r6.toInt32 r7.toInt32) = 0 then some (0, σ) else ((f_X5_add σ r4.toInt32 r5.toInt32 r6.toInt32 r7.toInt32).bind fun r9 => some (1, r9.2))))))))))
def b_X9_marks_54 : Nat → Int32 → Int32 → Int32 → Int32 → Int32 → mj_S → Option (Int32 × mj_S)
  | 0, _, _, _, _, _, _ => none
  | n + 1, v1, v2, v3, v4, v5, σ =>
    (if v3 ≤ v5 then some (v4, σ) else ((f_X9_markFromRow σ v1 (v2 + (4 * v5))).bind fun r6 => (if r6.1 = 0 then some (v4, r6.2) else b_X9_marks_54 n v1 v2 v3 (v4 + 1) (v5 + 1) r6.2)))
def f_X9_marks (σ : mj_S) (p1 : Int32) (p2 : Int32) (p3 : Int32) : Option (Int32 × mj_S) :=
    (if (f_X8_has σ p1) = 0 then some ((-1), σ) else (if (f_X9_within σ p3 1 15) = 0 then some ((-1), σ) else ((f_X8_holdsNothing σ p1).bind fun r3 => (if r3 = 0 then ((f_X8_holdsShorts σ p1).bind fun r8 => (if r8 = 0 then some ((-12), σ) else b_X9_marks_54 mj_fu p1 p2 p3 0 0 σ)) else b_X9_marks_54 mj_fu p1 p2 p3 0 0 σ))))
def b_X9_keep_29 (v1 : Int32) (v2 : Int32) (σ : mj_S) : Option (Int32 × mj_S) :=
    ((f_X8_holdBody σ v1 v2).bind fun r3 => some (1, r3))
def f_X9_keep (σ : mj_S) (p1 : Int32) (p2 : Int32) : Option (Int32 × mj_S) :=
    (if (f_X8_has σ p1) = 0 then some ((-1), σ) else (if p2 = (-1) then b_X9_keep_29 p1 p2 σ else (if (f_X0_has σ p2) = 0 then some ((-1), σ) else b_X9_keep_29 p1 p2 σ)))
def f_X9_row (σ : mj_S) (p1 : Int32) (p2 : Int32) (p3 : Int32) : Option (Int32 × mj_S) :=
    (if (f_X8_has σ p1) = 0 then some ((-1), σ) else (if (f_X8_isSort σ p2) = 0 then some ((-1), σ) else (if p3 ≤ 60 then (if (0 : Int32) ≤ p3 then ((f_X8_holdRow σ p1 p2 p3).bind fun r5 => some (1, r5)) else some ((-14), σ)) else some ((-1), σ))))
def f_X9_refusalAt (σ : mj_S) (p1 : Int32) (p2 : Int32) : Option Int32 :=
    (if (f_X8_has σ p1) = 0 then some (-1) else ((f_X8_holdsNothing σ p1).bind fun r2 => (if r2 = 0 then ((f_X8_holdsRow σ p1).bind fun r4 => (if r4 = 0 then some (-12) else ((f_X8_hasPlaces σ p1 p2 1).bind fun r6 => (if r6 = 0 then some (-13) else some 0)))) else some (-11))))
def f_X9_put (σ : mj_S) (p1 : Int32) (p2 : Int32) (p3 : Int64) : Option (Int32 × mj_S) :=
    ((f_X9_refusalAt σ p1 p2).bind fun r1 => (if r1 = 0 then ((f_X8_set σ p1 p2 p3).bind fun r3 => some (1, r3)) else some (r1, σ)))
def f_X9_element (σ : mj_S) (p1 : Int32) (p2 : Int32) : Option Int64 :=
    ((f_X9_refusalAt σ p1 p2).bind fun r1 => (if r1 = 0 then ((f_X8_get σ p1 p2).bind fun r3 => some r3) else some (-9223372036854775808)))
def f_X9_shift (σ : mj_S) (p1 : Int32) (p2 : Int32) (p3 : Int32) (p4 : Int32) (p5 : Int32) : Option (Int32 × mj_S) :=
    (if (f_X8_has σ p1) = 0 then some ((-1), σ) else (if (f_X8_has σ p3) = 0 then some ((-1), σ) else ((f_X8_holdsNothing σ p1).bind fun r3 => (if r3 = 0 then ((f_X8_holdsNothing σ p3).bind fun r5 => (if r5 = 0 then ((f_X8_holdsRow σ p1).bind fun r7 => (if r7 = 0 then some ((-12), σ) else ((f_X8_holdsRow σ p3).bind fun r9 => (if r9 = 0 then some ((-12), σ) else ((f_X8_areAlike σ p1 p3).bind fun r11 => (if r11 = 0 then some ((-12), σ) else ((f_X8_hasPlaces σ p1 p2 p5).bind fun r13 => (if r13 = 0 then some ((-13), σ) else ((f_X8_hasPlaces σ p3 p4 p5).bind fun r15 => (if r15 = 0 then some ((-13), σ) else ((f_X8_move σ p1 p2 p3 p4 p5).bind fun r17 => some (p5, r17)))))))))))) else some ((-11), σ))) else some ((-11), σ)))))
-- DoorPost$Family
def f_X2_wantAt (σ : mj_S) (p1 : Int32) : Option Int32 :=
    (if (f_X9_isMonth σ p1) = 0 then some 0 else (if 0 ≤ p1.toInt ∧ p1.toInt < 600 then some (σ.1 15 p1.toNatClampNeg) else none))
def b_X2_grow_107 (K6 : Nat → Nat → Int32 → Int32 → Int32 → Nat → Nat → Int32 → Int32 → mj_S → Option mj_S) (a1 na1 : Nat) (v2 : Int32) (v3 : Int32) (v4 : Int32) (a5 na5 : Nat) (v6 : Int32) (v7 : Int32) (σ : mj_S) : Option mj_S :=
    (if 0 ≤ v7.toInt ∧ v7.toInt < (na1 : Int) then K6 a1 na1 v2 v3 v4 a5 na5 v6 (v7 + 1) (mj_sI σ a1 v7.toNatClampNeg v6) else none)
def b_X2_grow_6 : Nat → Nat → Nat → Int32 → Int32 → Int32 → Nat → Nat → Int32 → Int32 → mj_S → Option mj_S
  | 0, _, _, _, _, _, _, _, _, _, _ => none
  | n + 1, a1, na1, v2, v3, v4, a5, na5, v6, v7, σ =>
    (if (Int32.ofNat na1) ≤ v7 then some σ else (if (Int32.ofNat na5) ≤ v7 then some σ else (if v7 = v2 then b_X2_grow_107 (b_X2_grow_6 n) a1 na1 v2 v3 v4 a5 na5 v3 v7 σ else (if v7 ≤ v2 then b_X2_grow_107 (b_X2_grow_6 n) a1 na1 v2 v3 v4 a5 na5 v6 v7 σ else (if 0 ≤ v7.toInt ∧ v7.toInt < (na5 : Int) then ((f_X4_growth (mj_sI (mj_sI (mj_sI (mj_sI σ 34 0 ((v7 - v2) - v4)) 34 2 ((mj_sI σ 34 0 ((v7 - v2) - v4)).1 a5 v7.toNatClampNeg)) 34 3 (v6 / 64)) 34 5 (mj_rem v7 12)) 34 7).bind fun r7 => b_X2_grow_107 (b_X2_grow_6 n) a1 na1 v2 v3 v4 a5 na5 (mj_min 8000 (v6 + r7.1)) v7 r7.2) else none)))))
def f_X2_grow (σ : mj_S) (a1 n1 : Nat) (p2 : Int32) (p3 : Int32) (p4 : Int32) (a5 n5 : Nat) : Option mj_S :=
    b_X2_grow_6 mj_fu a1 n1 p2 p3 p4 a5 n5 0 0 σ
def b_X2_refresh_2 : Nat → Int32 → mj_S → Option mj_S
  | 0, _, _ => none
  | n + 1, v1, σ =>
    (if (σ.1 9 6) ≤ v1 then some σ else (if (6 : Int32) ≤ v1 then some σ else (if 0 ≤ v1.toInt ∧ v1.toInt < 6 then (if (σ.1 33 v1.toNatClampNeg) = 0 then b_X2_refresh_2 n (v1 + 1) σ else (if 0 ≤ v1.toInt ∧ v1.toInt < 6 then (if 0 ≤ v1.toInt ∧ v1.toInt < 6 then ((f_X2_name σ (σ.1 11 v1.toNatClampNeg) (σ.1 14 v1.toNatClampNeg) v1).bind fun r7 => (if 0 ≤ v1.toInt ∧ v1.toInt < 6 then (if 0 ≤ v1.toInt ∧ v1.toInt < 6 then (if 0 ≤ v1.toInt ∧ v1.toInt < 6 then (if 0 ≤ v1.toInt ∧ v1.toInt < 6 then ((f_X2_grow r7 (18 + 1 + v1.toNatClampNeg) 600 (r7.1 10 v1.toNatClampNeg) (r7.1 12 v1.toNatClampNeg) (r7.1 13 v1.toNatClampNeg) 15 600).bind fun r13 => (if 0 ≤ v1.toInt ∧ v1.toInt < 6 then ((f_X2_name r13 (r13.1 11 v1.toNatClampNeg) 4300 6).bind fun r15 => (if 0 ≤ v1.toInt ∧ v1.toInt < 6 then (if 0 ≤ v1.toInt ∧ v1.toInt < 6 then ((f_X2_grow r15 (25 + 1 + v1.toNatClampNeg) 600 (r15.1 10 v1.toNatClampNeg) 1280 0 16 600).bind fun r19 => (if 0 ≤ v1.toInt ∧ v1.toInt < 6 then b_X2_refresh_2 n (v1 + 1) (mj_sI r19 33 v1.toNatClampNeg 0) else none)) else none) else none)) else none)) else none) else none) else none) else none)) else none) else none)) else none)))
def f_X2_refresh (σ : mj_S) : Option mj_S :=
    b_X2_refresh_2 mj_fu 0 σ
def f_X2_think (σ : mj_S) (p1 : Int32) (p2 : Int32) (p3 : Int32) (p4 : Int32) : Option mj_S :=
    (if (f_X2_has σ p1) = 0 then some σ else (if (0 ≤ (0 : Int32).toInt ∧ 0 ≤ (0 : Int32).toInt) ∧ 0 ≤ (600 : Int32).toInt ∧ (0 : Int32).toInt + (600 : Int32).toInt ≤ (600 : Int) ∧ (0 : Int32).toInt + (600 : Int32).toInt ≤ (600 : Int) then ((f_X2_raise (mj_sR σ 17 (va_cpy (σ.1 15) (σ.1 17) 0 0 600)) 17 600 p2 p3 p4).bind fun r3 => (if 0 ≤ p1.toInt ∧ p1.toInt < 6 then (if 0 ≤ p1.toInt ∧ p1.toInt < 6 then ((f_X2_name r3 (r3.1 11 p1.toNatClampNeg) (r3.1 14 p1.toNatClampNeg) p1).bind fun r6 => (if 0 ≤ p1.toInt ∧ p1.toInt < 6 then (if 0 ≤ p1.toInt ∧ p1.toInt < 6 then (if 0 ≤ p1.toInt ∧ p1.toInt < 6 then ((f_X2_grow r6 32 600 (r6.1 10 p1.toNatClampNeg) (r6.1 12 p1.toNatClampNeg) (r6.1 13 p1.toNatClampNeg) 17 600).bind fun r10 => some r10) else none) else none) else none)) else none) else none)) else none))
-- DoorPost
def f_X9_child (σ : mj_S) (p1 : Int32) (p2 : Int32) (p3 : Int32) : Option (Int32 × mj_S) :=
    (if p1 < 0 then some ((-1), σ) else (if (0 : Int32) ≤ p3 then (if (f_X9_isMonth σ (p1 / 10)) = 0 then some ((-1), σ) else (if (1 : Int32) < (mj_rem p1 10) then some ((-1), σ) else (if (f_X9_within σ p2 500 2000) = 0 then some ((-1), σ) else (if (f_X9_isLate σ ((p3 / 10000) - 24)) = 0 then some ((-1), σ) else (if (f_X9_isParents σ (mj_rem p3 10000)) = 0 then some ((-1), σ) else (if (f_X2_size σ) < 6 then ((f_X2_add σ (p1 / 10) (mj_rem p1 10) p2 ((p3 / 10000) - 24) (mj_rem p3 10000)).bind fun r9 => ((f_X2_refresh r9.2).bind fun r10 => some (r9.1, r10))) else some ((-3), σ))))))) else some ((-1), σ)))
def f_X9_want (σ : mj_S) (p1 : Int32) (p2 : Int32) : Option (Int32 × mj_S) :=
    (if (f_X9_isSpan σ p1) = 0 then some ((-1), σ) else (if (f_X9_within σ p2 1 9) = 0 then some ((-1), σ) else (if (f_X2_wantsTold σ) < 10 then ((f_X2_addWant σ (p1 / 1000) (mj_rem p1 1000) p2).bind fun r4 => ((f_X2_refresh r4.2).bind fun r5 => some (r4.1, r5))) else some ((-3), σ))))
def f_X9_wants (σ : mj_S) (p1 : Int32) : Option Int32 :=
    (if (f_X9_isMonth σ p1) = 0 then some (-1) else ((f_X2_wantAt σ p1).bind fun r2 => some r2))
def f_X9_mend (σ : mj_S) (p1 : Int32) (p2 : Int32) (p3 : Int32) : Option (Int32 × mj_S) :=
    (if (f_X9_isMendable σ p1 p2 p3) = 0 then some ((-2000000000), σ) else ((f_X1_change σ p1 p2 p3).bind fun r2 => ((f_X2_refresh r2.2).bind fun r3 => some (r2.1, r3))))
def f_X9_enough (σ : mj_S) (p1 : Int32) (p2 : Int32) (p3 : Int32) : Option (Int32 × mj_S) :=
    (if (f_X2_has σ p1) = 0 then some ((-2000000000), σ) else (if (f_X9_isSpan σ p2) = 0 then some ((-2000000000), σ) else (if (f_X9_within σ p3 1 9) = 0 then some ((-2000000000), σ) else ((f_X2_think σ p1 (p2 / 1000) (mj_rem p2 1000) p3).bind fun r4 => ((f_X6_endMonth r4 p1).bind fun r5 => ((f_X2_thoughtHeightAt r4 r5).bind fun r6 => ((f_X6_endOf r4 p1).bind fun r7 => some (r6 - r7, r4))))))))
def f_X9_undo (σ : mj_S) : Option (Int32 × mj_S) :=
    (if (f_X1_toUndo σ) = 0 then some ((-5), σ) else ((f_X1_goBack σ).bind fun r2 => ((f_X2_refresh r2).bind fun r3 => some (f_X1_toUndo r3, r3))))
def f_X9_redo (σ : mj_S) : Option (Int32 × mj_S) :=
    (if (f_X1_toRedo σ) = 0 then some ((-5), σ) else ((f_X1_goForward σ).bind fun r2 => ((f_X2_refresh r2).bind fun r3 => some (f_X1_toRedo r3, r3))))
-- DoorPost$Outlook
def f_X6_twiceAtTwo (σ : mj_S) (p1 : Int32) : Option Int32 :=
    ((f_X2_bornIn σ p1).bind fun r1 => (if (f_X9_isMonth σ (r1 + 24)) = 0 then some (-2) else ((f_X2_heightAt σ p1 (r1 + 24)).bind fun r3 => some (2 * r3))))
def f_X6_isWholeYear (σ : mj_S) (p1 : Int32) (p2 : Int32) : Option Int32 :=
    ((f_X2_bornIn σ p1).bind fun r1 => some (mj_zb (f_X9_isMonth σ (r1 + (12 * (p2 + 1))))))
def b_X6_yearOf_6 (σ : mj_S) : Nat → Int32 → Int32 → Int32 → Int32 → Option Int32
  | 0, _, _, _, _ => none
  | n + 1, v1, v2, v3, v4 =>
    (if (20 : Int32) ≤ v4 then some v3 else ((f_X6_isWholeYear σ v1 v4).bind fun r2 => (if r2 = 0 then some v3 else (if v3 = (-2) then b_X6_yearOf_6 σ n v1 v2 v4 (v4 + 1) else ((f_X6_growthInYear σ v1 v4).bind fun r5 => ((f_X6_growthInYear σ v1 v3).bind fun r6 => (if (f_X6_isBetter σ r5 r6 v2) = 0 then b_X6_yearOf_6 σ n v1 v2 v3 (v4 + 1) else b_X6_yearOf_6 σ n v1 v2 v4 (v4 + 1))))))))
def f_X6_yearOf (σ : mj_S) (p1 : Int32) (p2 : Int32) : Option Int32 :=
    b_X6_yearOf_6 σ mj_fu p1 p2 (-2) 0
-- java/lang/String
def f_J0_isLatin1_aae02 (σ : mj_S) : Int32 :=
    1
def f_J0_coder_7d493 (σ : mj_S) : Int32 :=
    0
def f_J0_length_8abf5 (σ : mj_S) : Int32 :=
    (7 : Int32) >>> (0 &&& 31)
-- java/lang/StringLatin1
def f_J1_canEncode_9a6ad (σ : mj_S) (p0 : Int32) : Int32 :=
    (if p0 < 0 then 0 else (if (255 : Int32) < p0 then 0 else 1))
def b_J1_indexOfChar_4cfef_7 (σ : mj_S) : Nat → Int32 → Int32 → Int32 → Option Int32
  | 0, _, _, _ => none
  | n + 1, v3, v4, v5 =>
    (if v3 ≤ v5 then some (-1) else (if 0 ≤ v5.toInt ∧ v5.toInt < 7 then (if (mj_nm v5.toNatClampNeg) = v4 then some v5 else b_J1_indexOfChar_4cfef_7 σ n v3 v4 (v5 + 1)) else none))
def f_J1_indexOfChar_4cfef (σ : mj_S) (p1 : Int32) (p2 : Int32) (p3 : Int32) : Option Int32 :=
    b_J1_indexOfChar_4cfef_7 σ mj_fu p3 p1.toInt8.toInt32 p2
def f_J1_indexOf_4cfef (σ : mj_S) (p1 : Int32) (p2 : Int32) (p3 : Int32) : Option Int32 :=
    (if (f_J1_canEncode_9a6ad σ p1) = 0 then some (-1) else (if (mj_max p2 0) < (mj_min p3 7) then ((f_J1_indexOfChar_4cfef σ p1 (mj_max p2 0) (mj_min p3 7)).bind fun r3 => some r3) else some (-1)))
-- DoorPost
def f_X9_tall (σ : mj_S) (p1 : Int32) (p2 : Int32) : Option Int32 :=
    (if (f_X2_has σ p1) = 0 then some (-2000000000) else (if p2 = 0 then ((f_X6_endOf σ p1).bind fun r3 => some r3) else (if p2 = 1 then ((f_X6_twiceAtTwo σ p1).bind fun r4 => some r4) else (if p2 = 2 then ((f_X6_byParents σ p1).bind fun r5 => some r5) else (if p2 = 3 then ((f_X6_twiceAtTwo σ p1).bind fun r6 => (if r6 = (-2) then some (-2000000000) else ((f_X6_endOf σ p1).bind fun r8 => some (r8 - r6)))) else (if p2 = 4 then ((f_X6_endOf σ p1).bind fun r9 => ((f_X6_byParents σ p1).bind fun r10 => some (r9 - r10))) else some (-2000000000)))))))
def b_X9_year_37 (σ : mj_S) (v1 : Int32) (v2 : Int32) (t1 : Int32) (t2 : Int32) : Option Int32 :=
    ((f_X6_yearOf σ t1 t2).bind fun r4 => (if r4 = (-2) then some (-2) else (if (mj_rem v2 2) = 0 then some r4 else ((f_X6_growthInYear σ v1 r4).bind fun r7 => some r7))))
def f_X9_year (σ : mj_S) (p1 : Int32) (p2 : Int32) : Option Int32 :=
    (if (f_X2_has σ p1) = 0 then some (-1) else (if (f_X9_within σ p2 0 3) = 0 then some (-1) else (if (2 : Int32) ≤ p2 then b_X9_year_37 σ p1 p2 p1 0 else b_X9_year_37 σ p1 p2 p1 1)))
-- DoorPost$Acts
def f_X0_isKind (σ : mj_S) (p0 : Int32) : Int32 :=
    mj_zb (f_X9_within σ p0 0 7)
def b_X0_isUnder_4 (σ : mj_S) : Nat → Int32 → Int32 → Int32 → Option Int32
  | 0, _, _, _ => none
  | n + 1, v1, v2, v3 =>
    (if (8 : Int32) ≤ v3 then some 0 else (if (f_X0_isKind σ v2) = 0 then some 0 else (if v2 = v1 then some 1 else (if 0 ≤ v2.toInt ∧ v2.toInt < 8 then b_X0_isUnder_4 σ n v1 (mj_above v2.toNatClampNeg) (v3 + 1) else none))))
def f_X0_isUnder (σ : mj_S) (p0 : Int32) (p1 : Int32) : Option Int32 :=
    b_X0_isUnder_4 σ mj_fu p1 p0 0
def b_X0_ownerOf_37 (σ : mj_S) (v2 : Int32) : Option Int32 :=
    (if (f_X0_isKind σ v2) = 0 then some (-1) else some v2)
def b_X0_ownerOf_4 (σ : mj_S) : Nat → Int32 → Int32 → Int32 → Option Int32
  | 0, _, _, _ => none
  | n + 1, v0, v2, v3 =>
    (if (8 : Int32) ≤ v3 then b_X0_ownerOf_37 σ v2 else (if (f_X0_isKind σ v2) = 0 then b_X0_ownerOf_37 σ v2 else ((f_X0_ownBody σ v0 v2).bind fun r4 => (if r4 = 0 then (if 0 ≤ v2.toInt ∧ v2.toInt < 8 then b_X0_ownerOf_4 σ n v0 (mj_above v2.toNatClampNeg) (v3 + 1) else none) else b_X0_ownerOf_37 σ v2))))
def f_X0_ownerOf (σ : mj_S) (p0 : Int32) (p1 : Int32) : Option Int32 :=
    b_X0_ownerOf_4 σ mj_fu p0 p1 0
def F_X0_run (rec : Nat → Int32 → Int32 → Int32 → Int32 → mj_S → Option (Int32 × mj_S)) (σ : mj_S) (p1 : Int32) (p2 : Int32) (p3 : Int32) (p4 : Int32) : Option (Int32 × mj_S) :=
    ((f_X0_ownerOf σ p1 p2).bind fun r1 => (if r1 < 0 then some (0, σ) else (if p4 ≤ 40 then ((f_X0_ownBody σ p1 r1).bind fun r4 => ((f_X0_note σ r4).bind fun r5 => (if 0 ≤ r1.toInt ∧ r1.toInt < 8 then ((rec 1 r4 (mj_above r1.toNatClampNeg) p3 (p4 + 1) r5).bind fun r7 => some (r7.1, r7.2)) else none))) else some (0, σ))))
def F_X0_perform (rec : Nat → Int32 → Int32 → Int32 → Int32 → mj_S → Option (Int32 × mj_S)) (σ : mj_S) (p1 : Int32) (p2 : Int32) (p3 : Int32) (p4 : Int32) : Option (Int32 × mj_S) :=
    (if p1 = 1 then some (p3 + (σ.1 50 4), σ) else (if p1 = 2 then ((rec 0 1 (σ.1 50 5) p3 p4 σ).bind fun r2 => ((rec 0 2 (r2.2.1 50 5) 1 p4 r2.2).bind fun r3 => some (r2.1 - r3.1, r3.2))) else (if p1 = 10 then ((rec 0 0 (σ.1 50 5) p3 p4 σ).bind fun r4 => some (r4.1 * 2, r4.2)) else (if p1 = 11 then some (p3 ^^^ (σ.1 50 4), σ) else (if p1 = 20 then ((rec 0 0 p2 p3 p4 σ).bind fun r5 => some (r5.1 + 3, r5.2)) else (if p1 = 30 then ((rec 0 1 p2 p3 p4 σ).bind fun r6 => some (-r6.1, r6.2)) else (if p1 = 40 then ((rec 0 2 p2 p3 p4 σ).bind fun r7 => some (r7.1 * 3, r7.2)) else (if p1 = 41 then ((rec 0 1 p2 (p3 + 1) p4 σ).bind fun r8 => some (r8.1, r8.2)) else (if p1 = 50 then ((rec 0 2 p2 p3 p4 σ).bind fun r9 => ((rec 0 0 (r9.2.1 50 5) 2 p4 r9.2).bind fun r10 => some (r9.1 - r10.1, r10.2))) else (if p1 = 60 then ((rec 0 3 p2 p3 p4 σ).bind fun r11 => some (r11.1 ^^^ 5, r11.2)) else (if p1 = 70 then ((rec 0 0 p2 p3 p4 σ).bind fun r12 => some (r12.1 * 2, r12.2)) else (if p1 = 80 then ((rec 0 1 p2 p3 p4 σ).bind fun r13 => ((rec 0 2 (r13.2.1 50 5) 2 p4 r13.2).bind fun r14 => some (r13.1 + r14.1, r14.2))) else (if p1 = 81 then ((rec 0 3 p2 p3 p4 σ).bind fun r15 => some (r15.1 - 1, r15.2)) else some (0, σ))))))))))))))
def rc_X0_run : Nat → Nat → Int32 → Int32 → Int32 → Int32 → mj_S → Option (Int32 × mj_S)
  | 0, _, _, _, _, _, _ => none
  | k + 1, 0, x0, x1, x2, x3, σ => F_X0_run (rc_X0_run k) σ x0 x1 x2 x3
  | k + 1, 1, x0, x1, x2, x3, σ => F_X0_perform (rc_X0_run k) σ x0 x1 x2 x3
  | _ + 1, _, _, _, _, _, _ => none
def f_X0_run (σ : mj_S) (p1 : Int32) (p2 : Int32) (p3 : Int32) (p4 : Int32) : Option (Int32 × mj_S) := rc_X0_run mj_fd 0 p1 p2 p3 p4 σ
def f_X0_perform (σ : mj_S) (p1 : Int32) (p2 : Int32) (p3 : Int32) (p4 : Int32) : Option (Int32 × mj_S) := rc_X0_run mj_fd 1 p1 p2 p3 p4 σ
def f_X0_start (σ : mj_S) (p1 : Int32) (p2 : Int32) (p3 : Int32) : Option (Int32 × mj_S) :=
    (if (f_X0_has (mj_sI σ 50 3 0) p1) = 0 then some (0, (mj_sI σ 50 3 0)) else (if (f_X9_within (mj_sI σ 50 3 0) p2 0 3) = 0 then some (0, (mj_sI σ 50 3 0)) else ((f_X0_kindOf (mj_sI (mj_sI σ 50 3 0) 50 4 p1) p1).bind fun r3 => ((f_X0_run (mj_sI (mj_sI (mj_sI σ 50 3 0) 50 4 p1) 50 5 r3) p2 r3 p3 0).bind fun r4 => some (r4.1, r4.2)))))
-- DoorPost
def f_X9_body (σ : mj_S) (p1 : Int32) : Option (Int32 × mj_S) :=
    (if (f_X0_isKind σ p1) = 0 then some ((-1), σ) else (if (50 : Int32) ≤ (f_X0_size σ) then some ((-3), σ) else ((f_X0_add σ p1).bind fun r3 => some (r3.1, r3.2))))
def f_X9_act (σ : mj_S) (p1 : Int32) (p2 : Int32) (p3 : Int32) : Option (Int32 × mj_S) :=
    ((f_X0_start σ p1 p2 p3).bind fun r1 => some (r1.1, r1.2))
def f_X9_taken (σ : mj_S) (p1 : Int32) (p2 : Int32) : Option Int32 :=
    (if (f_X8_has σ p1) = 0 then some (-1) else (if (f_X0_isKind σ p2) = 0 then some (-1) else ((f_X8_holdsNothing σ p1).bind fun r3 => (if r3 = 0 then ((f_X8_holdsRow σ p1).bind fun r5 => (if r5 = 0 then ((f_X8_bodyOn σ p1).bind fun r7 => ((f_X0_kindOf σ r7).bind fun r8 => ((f_X0_isUnder σ r8 p2).bind fun r9 => (if r9 = 0 then some (-12) else some r8)))) else some (-12))) else some (-11)))))
-- DoorPost$Reader
def f_X7_giveTo (σ : mj_S) : Option mj_S :=
    ((f_X4_become σ 7 121 8 121 (σ.1 5 5)).bind fun r1 => some r1)
-- java/lang/String
def f_J0_indexOf_7cf53 (σ : mj_S) (p1 : Int32) (p2 : Int32) : Option Int32 :=
    ((f_J1_indexOf_4cfef σ p1 p2 (f_J0_length_8abf5 σ)).bind fun r1 => some r1)
def f_J0_indexOf_0f7a4 (σ : mj_S) (p1 : Int32) : Option Int32 :=
    ((f_J0_indexOf_7cf53 σ p1 0).bind fun r1 => some r1)
-- DoorPost$Reader
def b_X7_readJoined_23 (rec : Nat → Int32 → Int32 → mj_S → Option (Int32 × mj_S)) : Nat → Int32 → Int32 → Int32 → Int32 → Int32 → mj_S → Option (Int32 × mj_S)
  | 0, _, _, _, _, _, _ => none
  | n + 1, v1, v2, v3, v4, v5, σ =>
    (if v4 ≤ v5 then some (mj_zb v3, σ) else (if v3 = 0 then some (mj_zb v3, σ) else ((f_X7_seen σ).bind fun r5 => (if (f_X7_isOperator σ v1 r5) = 0 then some (mj_zb v3, σ) else ((f_X7_seen σ).bind fun r7 => ((rec 1 v1 v2 (mj_sI σ 5 4 ((σ.1 5 4) + 1))).bind fun r8 => ((f_X7_write r8.2 r7 0).bind fun r9 => b_X7_readJoined_23 rec n v1 v2 r8.1 v4 (v5 + 1) r9)))))))
def F_X7_readJoined (rec : Nat → Int32 → Int32 → mj_S → Option (Int32 × mj_S)) (σ : mj_S) (p1 : Int32) (p2 : Int32) : Option (Int32 × mj_S) :=
    ((rec 1 p1 p2 σ).bind fun r1 => (if p1 = 2 then b_X7_readJoined_23 rec mj_fu p1 p2 r1.1 1 0 r1.2 else b_X7_readJoined_23 rec mj_fu p1 p2 r1.1 120 0 r1.2))
def F_X7_readTighter (rec : Nat → Int32 → Int32 → mj_S → Option (Int32 × mj_S)) (σ : mj_S) (p1 : Int32) (p2 : Int32) : Option (Int32 × mj_S) :=
    (if (4 : Int32) ≤ p1 then ((rec 2 p2 0 σ).bind fun r2 => some (mj_zb r2.1, r2.2)) else ((rec 0 (p1 + 1) p2 σ).bind fun r3 => some (mj_zb r3.1, r3.2)))
def b_X7_readOperand_23 (rec : Nat → Int32 → Int32 → mj_S → Option (Int32 × mj_S)) (v1 : Int32) (v2 : Int32) (σ : mj_S) : Option (Int32 × mj_S) :=
    (if (6 : Int32) ≤ v1 then some (0, σ) else ((rec 3 v2 (v1 + 1) σ).bind fun r4 => (if r4.1 = 0 then some (0, r4.2) else some (1, r4.2))))
def b_X7_readOperand_74 (rec : Nat → Int32 → Int32 → mj_S → Option (Int32 × mj_S)) (t0 : Int32) (σ : mj_S) : Option (Int32 × mj_S) :=
    (if (0 : Int32) ≤ t0 then ((f_X7_write (mj_sI σ 5 4 ((σ.1 5 4) + 1)) 97 t0).bind fun r12 => some (1, r12)) else some (0, σ))
def F_X7_readOperand (rec : Nat → Int32 → Int32 → mj_S → Option (Int32 × mj_S)) (σ : mj_S) (p1 : Int32) : Option (Int32 × mj_S) :=
    ((f_X7_seen σ).bind fun r1 => (if r1 = 40 then b_X7_readOperand_23 rec p1 r1 σ else (if r1 = 33 then b_X7_readOperand_23 rec p1 r1 σ else (if r1 = 45 then b_X7_readOperand_23 rec p1 r1 σ else (if (f_X7_isDigit σ r1) = 0 then (if (0 : Int32) ≤ r1 then ((f_J0_indexOf_0f7a4 σ ((r1.toUInt32 % 65536).toInt32)).bind fun r10 => b_X7_readOperand_74 rec r10 σ) else b_X7_readOperand_74 rec (-1) σ) else ((f_X7_readNumber σ).bind fun r13 => some (1, r13)))))))
def b_X7_readOpened_59 (rec : Nat → Int32 → Int32 → mj_S → Option (Int32 × mj_S)) (v3 : Int32) (t1 : Int32) (σ : mj_S) : Option (Int32 × mj_S) :=
    ((f_X7_write σ t1 0).bind fun r4 => some (mj_zb v3, r4))
def F_X7_readOpened (rec : Nat → Int32 → Int32 → mj_S → Option (Int32 × mj_S)) (σ : mj_S) (p1 : Int32) (p2 : Int32) : Option (Int32 × mj_S) :=
    (if p1 = 40 then ((rec 0 0 p2 (mj_sI σ 5 4 ((σ.1 5 4) + 1))).bind fun r5 => (if r5.1 = 0 then some (0, r5.2) else ((f_X7_skip r5.2 41).bind fun r7 => (if r7.1 = 0 then some (0, r7.2) else some (1, r7.2))))) else ((rec 2 p2 0 (mj_sI σ 5 4 ((σ.1 5 4) + 1))).bind fun r2 => (if p1 = 45 then b_X7_readOpened_59 rec r2.1 110 r2.2 else b_X7_readOpened_59 rec r2.1 p1 r2.2)))
def rc_X7_readJoined : Nat → Nat → Int32 → Int32 → mj_S → Option (Int32 × mj_S)
  | 0, _, _, _, _ => none
  | k + 1, 0, x0, x1, σ => F_X7_readJoined (rc_X7_readJoined k) σ x0 x1
  | k + 1, 1, x0, x1, σ => F_X7_readTighter (rc_X7_readJoined k) σ x0 x1
  | k + 1, 2, x0, _, σ => F_X7_readOperand (rc_X7_readJoined k) σ x0
  | k + 1, 3, x0, x1, σ => F_X7_readOpened (rc_X7_readJoined k) σ x0 x1
  | _ + 1, _, _, _, _ => none
def f_X7_readJoined (σ : mj_S) (p1 : Int32) (p2 : Int32) : Option (Int32 × mj_S) := rc_X7_readJoined mj_fd 0 p1 p2 σ
def f_X7_readTighter (σ : mj_S) (p1 : Int32) (p2 : Int32) : Option (Int32 × mj_S) := rc_X7_readJoined mj_fd 1 p1 p2 σ
def f_X7_readOperand (σ : mj_S) (p1 : Int32) : Option (Int32 × mj_S) := rc_X7_readJoined mj_fd 2 p1 0 σ
def f_X7_readOpened (σ : mj_S) (p1 : Int32) (p2 : Int32) : Option (Int32 × mj_S) := rc_X7_readJoined mj_fd 3 p1 p2 σ
def b_X7_readLine_64 (σ : mj_S) : Option (Int32 × mj_S) :=
    ((f_X7_write σ 59 0).bind fun r5 => some (1, r5))
def f_X7_readLine (σ : mj_S) : Option (Int32 × mj_S) :=
    ((f_X7_readJoined σ 0 0).bind fun r1 => (if r1.1 = 0 then some (0, r1.2) else ((f_X7_skip r1.2 63).bind fun r3 => (if r3.1 = 0 then b_X7_readLine_64 r3.2 else ((f_X7_write r3.2 63 0).bind fun r6 => ((f_X7_readJoined r6 0 0).bind fun r7 => (if r7.1 = 0 then some (0, r7.2) else (if (121 : Int32) ≤ (r3.2.1 5 5) then b_X7_readLine_64 r7.2 else (if 0 ≤ (r3.2.1 5 5).toInt ∧ (r3.2.1 5 5).toInt < 121 then b_X7_readLine_64 (mj_sI r7.2 8 (r3.2.1 5 5).toNatClampNeg ((r7.2.1 5 5) + 1)) else none)))))))))
def b_X7_read_66 (v1 : Int32) (σ : mj_S) : Option (Int32 × mj_S) :=
    (if v1 = 0 then some (σ.1 5 4, σ) else some ((-1), σ))
def b_X7_read_17 : Nat → Int32 → Int32 → mj_S → Option (Int32 × mj_S)
  | 0, _, _, _ => none
  | n + 1, v1, v2, σ =>
    (if (120 : Int32) ≤ v2 then b_X7_read_66 v1 σ else (if v1 = 0 then b_X7_read_66 v1 σ else (if (σ.1 5 3) ≤ (σ.1 5 4) then b_X7_read_66 v1 σ else ((f_X7_skip σ 59).bind fun r6 => (if r6.1 = 0 then b_X7_read_17 n 0 (v2 + 1) r6.2 else ((f_X7_readLine r6.2).bind fun r8 => (if r8.1 = 0 then b_X7_read_17 n 0 (v2 + 1) r8.2 else b_X7_read_17 n 1 (v2 + 1) r8.2)))))))
def f_X7_read (σ : mj_S) : Option (Int32 × mj_S) :=
    ((f_X7_readLine (mj_sI (mj_sI σ 5 4 0) 5 5 0)).bind fun r1 => b_X7_read_17 mj_fu r1.1 0 r1.2)
-- DoorPost
def b_X9_law_37 (v1 : Int32) (σ : mj_S) : Option (Int32 × mj_S) :=
    (mj_let (f_X7_emptyTape σ) fun r3 => (if (0 : Int32) ≤ v1 then some ((-100) - v1, r3) else some (1, r3)))
def f_X9_law (σ : mj_S) : Option (Int32 × mj_S) :=
    ((f_X7_read σ).bind fun r1 => (if (0 : Int32) ≤ r1.1 then b_X9_law_37 r1.1 r1.2 else ((f_X7_giveTo r1.2).bind fun r5 => ((f_X2_forgetHeights r5).bind fun r6 => ((f_X2_refresh r6).bind fun r7 => b_X9_law_37 r1.1 r7)))))
