/-! the mathematics: 13.b -/
theorem i_rem {x y : Int32} (hx : 0 ≤ x.toInt) (hy : 0 < y.toInt) : (x - x / y * y).toInt = x.toInt % y.toInt := by
  have h1 := x.toInt_lt
  have h2 := y.toInt_lt
  have h3 : 0 ≤ x.toInt / y.toInt := Int.ediv_nonneg hx (by omega)
  have h4 : x.toInt / y.toInt ≤ x.toInt := Int.ediv_le_self _ hx
  have h5 : x.toInt / y.toInt * y.toInt ≤ x.toInt := Int.ediv_mul_le _ (by omega)
  have h6 : 0 ≤ x.toInt / y.toInt * y.toInt := Int.mul_nonneg h3 (by omega)
  have e1 : (x / y).toInt = x.toInt / y.toInt := by
    rw [Int32.toInt_div, Int.tdiv_eq_ediv_of_nonneg hx, Int.bmod_eq_of_le (by omega) (by omega)]
  have e2 : (x / y * y).toInt = x.toInt / y.toInt * y.toInt := by
    rw [Int32.toInt_mul, e1, Int.bmod_eq_of_le (by omega) (by omega)]
  have e3 := Int.mul_ediv_add_emod x.toInt y.toInt
  have e4 := Int.emod_nonneg x.toInt (show y.toInt ≠ 0 by omega)
  have e5 := Int.mul_comm (x.toInt / y.toInt) y.toInt
  rw [Int32.toInt_sub, e2, Int.bmod_eq_of_le (by omega) (by omega)]
  omega
theorem half_lt {b r : Int} (hr : 0 < r) (h : r < b) : 2 * (b % r) < b := by
  have h1 := Int.emod_lt_of_pos b hr
  have h2 := Int.emod_nonneg b (show r ≠ 0 by omega)
  have h3 := Int.mul_ediv_add_emod b r
  have h4 : 1 ≤ b / r := by
    rw [Int.le_ediv_iff_mul_le hr]; omega
  have h5 : r * 1 ≤ r * (b / r) := Int.mul_le_mul_of_nonneg_left h4 (by omega)
  omega
theorem gcdL_eq : ∀ (n : Nat) (a b : Int32), 0 ≤ a.toInt → 0 ≤ b.toInt → b.toInt < 2 ^ n → (gcdL (2 * n + 2) a b).toInt = Int.gcd a.toInt b.toInt := by
  intro n
  induction n with
  | zero =>
    intro a b ha hb hn
    have h0 : b.toInt = 0 := by
      have : (2 : Int) ^ 0 = 1 := rfl
      omega
    unfold gcdL
    rw [if_pos (z_iff.mpr h0), h0, Int.gcd_zero_right]
    omega
  | succ n ih =>
    intro a b ha hb hn
    unfold gcdL
    by_cases c : b = 0
    · rw [if_pos c, c, Int32.toInt_zero, Int.gcd_zero_right]
      omega
    · have c' : ¬ b.toInt = 0 := fun q => c (z_iff.mpr q)
      rw [if_neg c]
      have hr := i_rem ha (show 0 < b.toInt by omega)
      have r1 := Int.emod_lt_of_pos a.toInt (show 0 < b.toInt by omega)
      have r2 := Int.emod_nonneg a.toInt (show b.toInt ≠ 0 by omega)
      have hs := gcd_step ha hb
      generalize a - a / b * b = r at *
      rw [show 2 * (n + 1) + 1 = (2 * n + 2) + 1 by omega]
      unfold gcdL
      by_cases d : r = 0
      · rw [if_pos d]
        rw [d, Int32.toInt_zero] at hr
        rw [← hs, ← hr, Int.gcd_zero_right]
        omega
      · rw [if_neg d]
        have d' : ¬ r.toInt = 0 := fun q => d (z_iff.mpr q)
        have hq := i_rem hb (show 0 < r.toInt by omega)
        have q1 := half_lt (b := b.toInt) (show 0 < r.toInt by omega) (by omega)
        have q2 := Int.emod_nonneg b.toInt (show r.toInt ≠ 0 by omega)
        have hs2 := gcd_step hb (show 0 ≤ r.toInt by omega)
        rw [ih r _ (by omega) (by rw [hq]; exact q2) (by rw [hq]; rw [Int.pow_succ] at hn; omega), hq, hs2, hr, hs]
theorem gcd_pos {v w : Int} (h : ¬ w = 0) : 0 < (Int.gcd v w : Int) := by
  have := Int.gcd_pos_of_ne_zero_right v h
  omega
theorem gD_int {v w : Int32} (hv : bd (2 ^ 31 - 1) v.toInt) (hw : bd (2 ^ 31 - 1) w.toInt) (h : ¬ w.toInt = 0) : (gD v w).toInt = Int.gcd v.toInt w.toInt := by
  have e1 := absI_int hv
  have e2 := absI_int hw
  have e3 := gcdL_eq 31 (absI v) (absI w) (by omega) (by omega) (by omega)
  have e4 : Int.gcd (absI v).toInt (absI w).toInt = Int.gcd v.toInt w.toInt := by
    rw [e1, e2]
    rfl
  have e5 := gcd_pos (v := v.toInt) h
  rw [e4] at e3
  unfold gD maxI
  rw [show (64 : Nat) = 2 * 31 + 2 from rfl]
  have o1 : (1 : Int32).toInt = 1 := by decide
  by_cases c : (1 : Int32) < gcdL (2 * 31 + 2) (absI v) (absI w)
  · rw [if_pos c, e3]
  · have c' : ¬ (1 : Int32).toInt < (gcdL (2 * 31 + 2) (absI v) (absI w)).toInt := fun q => c (Int32.lt_iff_toInt_lt.mpr q)
    rw [if_neg c]
    omega
theorem tdiv_bd {v g : Int} : (v.tdiv g).natAbs ≤ v.natAbs := by
  rw [Int.natAbs_tdiv]
  exact Nat.div_le_self _ _
/-- what two numbers become when their greatest common divisor is taken out -/
theorem gD_div {v w : Int32} (hv : bd (2 ^ 31 - 1) v.toInt) (hw : bd (2 ^ 31 - 1) w.toInt) (h : ¬ w.toInt = 0) :
    (v / gD v w).toInt = v.toInt.tdiv (Int.gcd v.toInt w.toInt) ∧ (w / gD v w).toInt = w.toInt.tdiv (Int.gcd v.toInt w.toInt) := by
  have e := gD_int hv hw h
  have g0 := gcd_pos (v := v.toInt) h
  have b1 := tdiv_bd (v := v.toInt) (g := (Int.gcd v.toInt w.toInt : Int))
  have b2 := tdiv_bd (v := w.toInt) (g := (Int.gcd v.toInt w.toInt : Int))
  constructor
  · rw [Int32.toInt_div, e, Int.bmod_eq_of_le (by omega) (by omega)]
  · rw [Int32.toInt_div, e, Int.bmod_eq_of_le (by omega) (by omega)]
theorem gcd_out {v w : Int} (h : ¬ w = 0) : ∃ g v1 w1 : Int, 0 < g ∧ (Int.gcd v w : Int) = g ∧ v = g * v1 ∧ w = g * w1 ∧ v.tdiv (Int.gcd v w) = v1 ∧ w.tdiv (Int.gcd v w) = w1 ∧ Int.gcd v1 w1 = 1 := by
  have g0 := gcd_pos (v := v) h
  obtain ⟨v1, e1⟩ := Int.gcd_dvd_left v w
  obtain ⟨w1, e2⟩ := Int.gcd_dvd_right v w
  generalize hg : (Int.gcd v w : Int) = g at *
  refine ⟨g, v1, w1, g0, rfl, e1, e2, ?_, ?_, ?_⟩
  · rw [e1, Int.mul_tdiv_cancel_left _ (by omega)]
  · rw [e2, Int.mul_tdiv_cancel_left _ (by omega)]
  · have q : Int.gcd v w = g.natAbs * Int.gcd v1 w1 := by
      rw [e1, e2, Int.gcd_mul_left]
    have q3 : g.natAbs * Int.gcd v1 w1 = g.natAbs * 1 := by omega
    exact Nat.eq_of_mul_eq_mul_left (by omega) q3
/-- a part of a fraction in lowest terms doesn't care by what both were multiplied -/
theorem low_mul {g x y : Int} (hg : 0 < g) : (g * x).tdiv (Int.gcd (g * x) (g * y)) = x.tdiv (Int.gcd x y) ∧ (g * y).tdiv (Int.gcd (g * x) (g * y)) = y.tdiv (Int.gcd x y) := by
  have e : (Int.gcd (g * x) (g * y) : Int) = g * Int.gcd x y := by
    rw [Int.gcd_mul_left, Int.natCast_mul, show ((g.natAbs : Nat) : Int) = g by omega]
  rw [e]
  exact ⟨Int.mul_tdiv_mul_of_pos _ _ hg, Int.mul_tdiv_mul_of_pos _ _ hg⟩
theorem cont_keep {ab bb pt dr lv lw lv' lw' : Int} (hlw : 0 < lw) (h : ab * lw + bb * lv = pt * lw + dr * lv) (e : lv' * lw = lv * lw') : ab * lw' + bb * lv' = pt * lw' + dr * lv' := by
  have q : ∀ x y : Int, (x * lw' + y * lv') * lw = (x * lw + y * lv) * lw' := by
    intro x y
    rw [Int.add_mul, Int.add_mul, Int.mul_assoc y lv' lw, e, ← Int.mul_assoc]
    congr 1
    ac_rfl
  exact Int.eq_of_mul_eq_mul_right (show lw ≠ 0 by omega) (by rw [q, q, h])
theorem mir_pos {c pt d v w x y g v1 w1 : Int} (hg : 0 < g) (hv : v = g * v1) (hw : w = g * w1) (e1 : v = eN d x y) (e2 : w = d.natAbs) (hd : ¬ d = 0) (hc : if 0 < d then x = c - pt else y = c - pt) : pt * w1 + d * v1 = c * w1 := by
  have k : pt * w + d * v = c * w := by
    unfold eN at e1
    by_cases p : 0 < d
    · rw [if_pos p] at e1 hc
      rw [e1, hc, e2, show (d.natAbs : Int) = d by omega, Int.mul_sub, Int.mul_comm d c, Int.mul_comm d pt]
      omega
    · rw [if_neg p] at e1 hc
      rw [e1, hc, e2, show (d.natAbs : Int) = -d by omega, Int.mul_neg, Int.mul_neg, Int.mul_neg, Int.mul_sub, Int.mul_comm d c, Int.mul_comm d pt]
      omega
  apply Int.eq_of_mul_eq_mul_left (show g ≠ 0 by omega)
  rw [Int.mul_add, Int.mul_left_comm, ← hw, Int.mul_left_comm, ← hv, Int.mul_left_comm, ← hw]
  exact k
/-- the hits kept alike -/
def hR (nh : Nat) (ho hx ha hl hs hbx hx' : Nat → Int32) (ra rw rp : Nat → Int64) : Prop := ∀ j, j < nh → ho j = hbx j ∧ hx j = hx' j ∧ ∃ g : Int, 0 < g ∧ (ra j).toInt = g * (ha j).toInt ∧ (rw j).toInt = g * (hl j).toInt ∧ Int.gcd (ha j).toInt (hl j).toInt = 1 ∧ (1 ≤ (rw j).toInt ∧ (rw j).toInt ≤ 100) ∧ bd 62000 (ra j).toInt ∧ ∀ a, a < 3 → (rp (3 * j + a)).toInt = g * (hs (j * 3 + a)).toInt ∧ bd 13000000 (rp (3 * j + a)).toInt
/-- what the calls may ask stands alike -/
def ER (n : Nat) (st : FSt) (m : MSt) : Prop := (∀ a, a < 3 → fsDi st a = moDi m a) ∧ fsLi st = moLi m ∧ hR n st.2.2.2.1 st.2.2.2.2.1 st.2.2.2.2.2.1 st.2.2.2.2.2.2.1 st.2.2.2.2.2.2.2.1 m.2.2.2.2.1 m.2.2.2.2.2.1 m.2.2.2.2.2.2.1 m.2.2.2.2.2.2.2.1 m.2.2.2.2.2.2.2.2.1
/-- all that the next hit hangs on stands alike -/
def SR (i : Nat) (st : FSt) (m : MSt) : Prop := LR (1000 + 2000 * i) st.1 st.2.1 st.2.2.1 st.2.2.2.2.2.2.2.2.1.2.2.1 st.2.2.2.2.2.2.2.2.1.2.2.2 m.1 m.2.1 m.2.2.1 m.2.2.2.1 m.2.2.2.2.2.2.2.2.2.1 m.2.2.2.2.2.2.2.2.2.2.1 ∧ st.2.2.2.2.2.2.2.2.1.1 = m.2.2.2.2.2.2.2.2.2.2.2.1 ∧ ER i st m
theorem SR_K {i : Nat} {st : FSt} {m : MSt} (h : SR i st m) : goK m := ⟨h.1.2.1, fun q => (h.1.2.2.2.2.2.2.2 q).1⟩
theorem upd_e (f : Nat → Int32) (k : Nat) (x : Int32) : upd f k x k = x := if_pos rfl
theorem upd_o (f : Nat → Int32) {j k : Nat} (x : Int32) (h : ¬ j = k) : upd f k x j = f j := if_neg h
theorem updL_e (f : Nat → Int64) (k : Nat) (x : Int64) : vp_updL f k x k = x := if_pos rfl
theorem updL_o (f : Nat → Int64) {j k : Nat} (x : Int64) (h : ¬ j = k) : vp_updL f k x j = f j := if_neg h
theorem lt3 {P : Nat → Prop} (h0 : P 0) (h1 : P 1) (h2 : P 2) : ∀ a, a < 3 → P a := fun a ha => match a, ha with
  | 0, _ => h0
  | 1, _ => h1
  | 2, _ => h2
theorem hs3_at (hs : Nat → Int32) (i : Nat) (f : Nat → Int32) : ∀ a, a < 3 → upd (upd (upd hs (i * 3) (f 0)) (i * 3 + 1) (f 1)) (i * 3 + 2) (f 2) (i * 3 + a) = f a := by
  refine lt3 ?_ ?_ ?_
  · rw [upd_o _ _ (by omega), upd_o _ _ (by omega), Nat.add_zero, upd_e]
  · rw [upd_o _ _ (by omega), upd_e]
  · rw [upd_e]
theorem hs3_of (hs : Nat → Int32) (i : Nat) (x y z : Int32) {j : Nat} (h : j < i) : ∀ a, a < 3 → upd (upd (upd hs (i * 3) x) (i * 3 + 1) y) (i * 3 + 2) z (j * 3 + a) = hs (j * 3 + a) := fun a ha => by
  rw [upd_o _ _ (by omega), upd_o _ _ (by omega), upd_o _ _ (by omega)]
theorem hp3_at (pt dr : Nat → Int32) (v w : Int64) (hp : Nat → Int64) (i : Nat) : ∀ a, a < 3 → hp3 pt dr v w hp i (3 * i + a) = (pt a).toInt64 * w + (dr a).toInt64 * v := by
  unfold hp3
  refine lt3 ?_ ?_ ?_
  · rw [updL_o _ _ (by omega), updL_o _ _ (by omega), updL_e]
  · rw [updL_o _ _ (by omega), updL_e]
  · rw [updL_e]
theorem hp3_of (pt dr : Nat → Int32) (v w : Int64) (hp : Nat → Int64) {i j : Nat} (h : j < i) : ∀ a, a < 3 → hp3 pt dr v w hp i (3 * j + a) = hp (3 * j + a) := fun a ha => by
  unfold hp3
  rw [updL_o _ _ (by omega), updL_o _ _ (by omega), updL_o _ _ (by omega)]
/-- a hit is kept alike -/
theorem hR_step {i : Nat} {ho hx ha hl hs hbx hx' og di pt dr : Nat → Int32} {ra rw rp : Nat → Int64} {v w b a : Int32} {v' w' : Int64} (h : hR i ho hx ha hl hs hbx hx' ra rw rp)
    (hv : v.toInt = v'.toInt) (hw : w.toInt = w'.toInt) (bv : bd 62000 v.toInt) (bw : 1 ≤ w.toInt ∧ w.toInt ≤ 100)
    (hl1 : ∀ a, a < 3 → og a = pt a ∧ di a = dr a ∧ bd 61000 (pt a).toInt ∧ bd 100 (dr a).toInt) :
    hR (i + 1) (upd ho i b) (upd hx i a) (upd ha i (v / gD v w)) (upd hl i (w / gD v w)) (upd (upd (upd hs (i * 3) (og 0 * (w / gD v w) + di 0 * (v / gD v w))) (i * 3 + 1) (og 1 * (w / gD v w) + di 1 * (v / gD v w))) (i * 3 + 2) (og 2 * (w / gD v w) + di 2 * (v / gD v w)))
      (upd hbx i b) (upd hx' i a) (vp_updL ra i v') (vp_updL rw i w') (hp3 pt dr v' w' rp i) := by
  intro j hj
  by_cases c : j = i
  · rw [c]
    obtain ⟨d1, d2⟩ := gD_div (v := v) (w := w) (by omega) (by omega) (by omega)
    obtain ⟨g, v1, w1, g0, -, q1, q2, q3, q4, q5⟩ := gcd_out (v := v.toInt) (w := w.toInt) (by omega)
    rw [q3] at d1
    rw [q4] at d2
    rw [upd_e, upd_e, upd_e, upd_e, upd_e, upd_e, updL_e, updL_e, d1, d2]
    have p1 : v1.natAbs ≤ v.toInt.natAbs := by rw [q1, Int.natAbs_mul]; exact Nat.le_mul_of_pos_left _ (by omega)
    have p2 : w1.natAbs ≤ w.toInt.natAbs := by rw [q2, Int.natAbs_mul]; exact Nat.le_mul_of_pos_left _ (by omega)
    refine ⟨rfl, rfl, g, g0, by omega, by omega, q5, by omega, by omega, fun k hk => ?_⟩
    obtain ⟨l1, l2, l3, l4⟩ := hl1 k hk
    rw [hs3_at hs i (fun k => og k * (w / gD v w) + di k * (v / gD v w)) k hk, hp3_at pt dr v' w' rp i k hk]
    rw [l1, l2]
    have m1 : (pt k * (w / gD v w)).toInt = (pt k).toInt * w1 := by rw [t_mul (a := 61000) (b := 100) l3 (by omega) (by omega), d2]
    have m2 : (dr k * (v / gD v w)).toInt = (dr k).toInt * v1 := by rw [t_mul (a := 100) (b := 62000) l4 (by omega) (by omega), d1]
    have m1b := mul_bd (x := (pt k).toInt) (y := w1) (a := 61000) (b := 100) l3.1 l3.2 (by omega) (by omega)
    have m2b := mul_bd (x := (dr k).toInt) (y := v1) (a := 100) (b := 62000) l4.1 l4.2 (by omega) (by omega)
    have m3 : (pt k * (w / gD v w) + dr k * (v / gD v w)).toInt = (pt k).toInt * w1 + (dr k).toInt * v1 := by rw [t_add (by rw [m1, m2]; omega), m1, m2]
    have n1 : ((pt k).toInt64 * w').toInt = (pt k).toInt * w'.toInt := by rw [t_mulL (a := 61000) (b := 100) (by rw [Int32.toInt_toInt64]; exact l3) (by omega) (by omega), Int32.toInt_toInt64]
    have n2 : ((dr k).toInt64 * v').toInt = (dr k).toInt * v'.toInt := by rw [t_mulL (a := 100) (b := 62000) (by rw [Int32.toInt_toInt64]; exact l4) (by omega) (by omega), Int32.toInt_toInt64]
    have n1b := mul_bd (x := (pt k).toInt) (y := w'.toInt) (a := 61000) (b := 100) l3.1 l3.2 (by omega) (by omega)
    have n2b := mul_bd (x := (dr k).toInt) (y := v'.toInt) (a := 100) (b := 62000) l4.1 l4.2 (by omega) (by omega)
    have n3 : ((pt k).toInt64 * w' + (dr k).toInt64 * v').toInt = (pt k).toInt * w'.toInt + (dr k).toInt * v'.toInt := by rw [t_addL (by rw [n1, n2]; omega), n1, n2]
    rw [m3, n3]
    refine ⟨?_, by omega⟩
    rw [← hv, ← hw, q1, q2, Int.mul_add]
    congr 1 <;> ac_rfl
  · have hj' : j < i := by omega
    obtain ⟨y1, y2, g, y3, y4, y5, y6, y7, y8, y9⟩ := h j hj'
    rw [upd_o _ _ c, upd_o _ _ c, upd_o _ _ c, upd_o _ _ c, upd_o _ _ c, upd_o _ _ c, updL_o _ _ c, updL_o _ _ c]
    refine ⟨y1, y2, g, y3, y4, y5, y6, y7, y8, fun k hk => ?_⟩
    rw [hs3_of hs i _ _ _ hj' k hk, hp3_of pt dr v' w' rp hj' k hk]
    exact y9 k hk
theorem kpA_at {di ar : Nat → Int32} {o : Int32} : ∀ a, a < 3 → kpA di ar o a = if 0 < o then di a else ar a := by
  intro a ha
  unfold kpA
  by_cases c : 0 < o
  · rw [if_pos c, if_pos c]
    unfold va_cpy
    rw [if_pos ⟨by omega, by omega⟩]
    congr 1
    omega
  · rw [if_neg c, if_neg c]
theorem rmA_at {v w la lb : Int64} {f g : Nat → Int32} : ∀ a, a < 3 → rmA v w la lb f g a = if v * lb ≤ la * w then g a else f a := by
  intro a ha
  unfold rmA
  by_cases c : v * lb ≤ la * w
  · rw [if_pos c, if_pos c]
  · rw [if_neg c, if_neg c]
    match a, ha with
    | 0, _ => rw [upd_o _ _ (by decide), upd_o _ _ (by decide), upd_e]
    | 1, _ => rw [upd_o _ _ (by decide), upd_e]
    | 2, _ => rw [upd_e]
theorem c_nI {j : Nat} (h : j < 2 ^ 31) : (nI j).toNatClampNeg = j := nI_clamp h
/-- after a hit that doesn't end it, the rays stand alike again -/
theorem LR_step {B : Int} {og di ar pt dr ab bb cs lo hi og' di' pt' dr' : Nat → Int32} {lv lw v w : Int32} {la lb v' w' : Int64} {nb j k : Nat} {mir : Bool}
    (hB : BR lo hi cs nb) (hL : LR B og di ar lv lw pt dr ab bb la lb) (hb : 1000 ≤ B) (hb2 : B ≤ 61000) (hj : j < nb) (hk : k < 3)
    (e1 : v.toInt = v'.toInt) (e2 : w.toInt = w'.toInt) (bv : bd 62000 v.toInt) (bw : 1 ≤ w.toInt ∧ w.toInt ≤ 100) (hd : ¬ dr k = 0)
    (ev : v.toInt = eN (dr k).toInt (cs (6 * j + k) - pt k).toInt (cs (6 * j + 3 + k) - pt k).toInt) (ew : w.toInt = (dr k).toInt.natAbs) (hord : lv.toInt * w.toInt ≤ v.toInt * lw.toInt)
    (h1 : og' = if mir = true then upd og k (2 * mirF lo hi di j k - og k) else og) (h2 : di' = if mir = true then upd di k (-(di k)) else di)
    (h3 : pt' = if mir = true then upd pt k (2 * mirM cs dr j k - pt k) else pt) (h4 : dr' = if mir = true then upd dr k (-(dr k)) else dr) :
    LR (B + 2000) og' di' (kpA di ar (cmpI (v * lw) (lv * w))) (v / gD v w) (w / gD v w) pt' dr' (rmA v' w' la lb pt ab) (rmA v' w' la lb dr bb) v' w' := by
  obtain ⟨L1, L2, ⟨g, L3, L4, L5⟩, L6, L7, L8, L9, L10⟩ := hL
  obtain ⟨d1, d2⟩ := gD_div (v := v) (w := w) (by omega) (by omega) (by omega)
  obtain ⟨G, v1, w1, g0, -, q1, q2, q3, q4, q5⟩ := gcd_out (v := v.toInt) (w := w.toInt) (by omega)
  rw [q3] at d1
  rw [q4] at d2
  have p1 : v1.natAbs ≤ v.toInt.natAbs := by rw [q1, Int.natAbs_mul]; exact Nat.le_mul_of_pos_left _ (by omega)
  have p2 : w1.natAbs ≤ w.toInt.natAbs := by rw [q2, Int.natAbs_mul]; exact Nat.le_mul_of_pos_left _ (by omega)
  have p3 : 0 < w1 := by
    have : 0 < G * w1 := by omega
    exact Int.pos_of_mul_pos_right this (by omega)
  have hd0 : ¬ (dr k).toInt = 0 := fun q => hd (z_iff.mpr q)
  obtain ⟨B1, B2, B3, B4⟩ := hB j hj k hk
  obtain ⟨K1, K2, K3, K4⟩ := L1 k hk
  -- the mirror's place
  have hm : mirF lo hi di j k = mirM cs dr j k := by unfold mirF mirM; rw [K2, B1, B2]
  have hmb : bd 1000 (mirM cs dr j k).toInt := by unfold mirM; split <;> assumption
  have hmp : (pt k).toInt * w1 + (dr k).toInt * v1 = (mirM cs dr j k).toInt * w1 := by
    refine mir_pos g0 q1 q2 ev ew hd0 ?_
    have s1 : (cs (6 * j + k) - pt k).toInt = (cs (6 * j + k)).toInt - (pt k).toInt := t_sub (by omega)
    have s2 : (cs (6 * j + 3 + k) - pt k).toInt = (cs (6 * j + 3 + k)).toInt - (pt k).toInt := t_sub (by omega)
    unfold mirM
    by_cases c : 0 < (dr k).toInt
    · rw [if_pos c, if_pos (p_iff.mpr c), s1]
    · rw [if_neg c, if_neg (fun q => c (p_iff.mp q)), s2]
  have h2m : (2 * mirM cs dr j k).toInt = 2 * (mirM cs dr j k).toInt := by
    rw [t_mul (a := 2) (b := 1000) (by decide) hmb (by omega)]; rfl
  have hpk : (2 * mirM cs dr j k - pt k).toInt = 2 * (mirM cs dr j k).toInt - (pt k).toInt := by
    rw [t_sub (by rw [h2m]; omega), h2m]
  have hdk : (-(dr k)).toInt = -(dr k).toInt := t_neg (by omega)
  -- the new line on each axis
  have hN : ∀ a, a < 3 → og' a = pt' a ∧ di' a = dr' a ∧ bd (B + 2000) (pt' a).toInt ∧ bd 100 (dr' a).toInt ∧ (pt' a).toInt * w1 + (dr' a).toInt * v1 = (pt a).toInt * w1 + (dr a).toInt * v1 := by
    intro a ha
    obtain ⟨A1, A2, A3, A4⟩ := L1 a ha
    rw [h1, h2, h3, h4]
    cases mir with
    | false => exact ⟨A1, A2, by rw [if_neg (by decide)]; omega, by rw [if_neg (by decide)]; exact A4, by rw [if_neg (by decide), if_neg (by decide)]⟩
    | true =>
      rw [if_pos rfl, if_pos rfl, if_pos rfl, if_pos rfl]
      by_cases c : a = k
      · rw [c, upd_e, upd_e, upd_e, upd_e, hm, K1, K2, hpk, hdk]
        refine ⟨rfl, rfl, by omega, by omega, ?_⟩
        rw [hmp, Int.sub_mul, Int.neg_mul, Int.mul_assoc]
        omega
      · rw [upd_o _ _ c, upd_o _ _ c, upd_o _ _ c, upd_o _ _ c]
        exact ⟨A1, A2, by omega, A4, rfl⟩
  have hnz : nz dr' := by
    rw [h4]
    cases mir with
    | false => exact L2
    | true =>
      rw [if_pos rfl]
      refine ⟨k, hk, ?_⟩
      rw [upd_e, z_iff, hdk]
      omega
  refine ⟨fun a ha => ⟨(hN a ha).1, (hN a ha).2.1, (hN a ha).2.2.1, (hN a ha).2.2.2.1⟩, hnz, ⟨G, g0, by rw [d1]; omega, by rw [d2]; omega⟩, by omega, by omega, by rw [d1]; omega, by rw [d2]; omega, fun hv0 => ?_⟩
  have m1 : (v * lw).toInt = v.toInt * lw.toInt := t_mul (a := 62000) (b := 100) bv (by omega) (by omega)
  have m2 : (lv * w).toInt = lv.toInt * w.toInt := t_mul (a := 62000) (b := 100) L8 (by omega) (by omega)
  have m3 : (v' * lb).toInt = v'.toInt * lb.toInt := t_mulL (a := 62000) (b := 100) (by omega) (by omega) (by omega)
  have m4 : (la * w').toInt = la.toInt * w'.toInt := t_mulL (a := 62000) (b := 100) (by omega) (by omega) (by omega)
  have hc : (v' * lb ≤ la * w') ↔ v.toInt * lw.toInt ≤ lv.toInt * w.toInt := by
    rw [Int64.le_iff_toInt_le, m3, m4, ← e1, ← e2, L4, L5, Int.mul_left_comm, Int.mul_assoc, g_le L3]
  have hq : (0 < cmpI (v * lw) (lv * w)) ↔ ¬ (v' * lb ≤ la * w') := by
    rw [cmp_p, m1, m2, hc]
    omega
  by_cases c : v' * lb ≤ la * w'
  · -- the same time as the hit before
    have ct := hc.mp c
    have ct2 : v.toInt * lw.toInt = lv.toInt * w.toInt := by omega
    have la0 : ¬ la = 0 := by
      intro q
      apply hv0
      rw [zL_iff, ← e1]
      have lv0 : lv.toInt = 0 := by
        rw [q, Int64.toInt_zero] at L4
        rcases Int.mul_eq_zero.mp L4.symm with z | z
        · omega
        · exact z
      rw [lv0, Int.zero_mul] at ct2
      rcases Int.mul_eq_zero.mp ct2 with z | z
      · exact z
      · omega
    obtain ⟨z1, z2⟩ := L10 la0
    have hcr : v1 * lw.toInt = lv.toInt * w1 := by
      apply Int.eq_of_mul_eq_mul_left (show G ≠ 0 by omega)
      rw [← Int.mul_assoc, ← q1, Int.mul_left_comm, ← q2]
      exact ct2
    refine ⟨?_, fun a ha => ?_⟩
    · obtain ⟨k2, n1, n2⟩ := z1
      exact ⟨k2, n1, by rw [rmA_at k2 n1, if_pos c]; exact n2⟩
    · obtain ⟨y1, y2, y3, y4⟩ := z2 a ha
      rw [rmA_at a ha, rmA_at a ha, if_pos c, if_pos c, kpA_at a ha, if_neg (fun q => hq.mp q c), d1, d2, (hN a ha).2.2.2.2]
      exact ⟨y1, by omega, y3, cont_keep (by omega) y4 hcr⟩
  · refine ⟨?_, fun a ha => ?_⟩
    · obtain ⟨k2, n1, n2⟩ := L2
      exact ⟨k2, n1, by rw [rmA_at k2 n1, if_neg c]; exact n2⟩
    · obtain ⟨A1, A2, A3, A4⟩ := L1 a ha
      rw [rmA_at a ha, rmA_at a ha, if_neg c, if_neg c, kpA_at a ha, if_pos (hq.mpr c), d1, d2, (hN a ha).2.2.2.2]
      exact ⟨A2, by omega, A4, rfl⟩
/-- the boxes' kinds, shares and switches stand alike -/
def KR (ki sh of ki' sh' of' : Nat → Int32) (nb : Nat) : Prop := ∀ i, i < nb → ki i = ki' i ∧ sh i = sh' i ∧ of i = of' i
theorem fo_go_step {lo hi ki sh of cs ki' sh' of' : Nat → Int32} {nb i : Nat} {st : FSt} {m : MSt} (hB : BR lo hi cs nb) (hK : KR ki sh of ki' sh' of' nb) (hn : nb < 2 ^ 31) (hi' : i < 30) (h : SR i st m) :
    (foS lo hi ki sh of nb i st).1 = (goS cs ki' sh' of' nb i m).1 ∧ (foS lo hi ki sh of nb i st).2.1 = (goS cs ki' sh' of' nb i m).2.1 ∧
    ER (goS cs ki' sh' of' nb i m).2.1 (foS lo hi ki sh of nb i st).2.2 (goS cs ki' sh' of' nb i m).2.2 ∧
    ((goS cs ki' sh' of' nb i m).1 = none → (goS cs ki' sh' of' nb i m).2.1 = i + 1 ∧ SR (i + 1) (foS lo hi ki sh of nb i st).2.2 (goS cs ki' sh' of' nb i m).2.2) := by
  obtain ⟨og, di, ar, ho, hx9, ha, hl9, hs, ⟨lbx, lax, lv, lw⟩, ⟨nb9, na, nv, nw⟩, li⟩ := st
  obtain ⟨pt, dr, ab, bb, hbx, hx', ra, rw', rp, la, lb, lx, li'⟩ := m
  obtain ⟨hL, hlx, hE1, hE2, hE3⟩ := h
  dsimp only [fsDi, moDi, fsLi, moLi] at hL hlx hE1 hE2 hE3
  subst hlx
  subst hE2
  have hnx := nx_all (lx := lbx) hB hL (by omega) hn (fun i hi => (hK i hi).2.2) nb 0 (-1) na nv nw (-1) 0 0 1 (by omega) (Or.inl ⟨rfl, rfl⟩)
  unfold foS goS
  dsimp only
  generalize fnN lo hi og di ar of lbx lv lw nb 0 (-1) na nv nw = F at *
  generalize nxN cs pt dr ab bb of' lbx la lb nb 0 (-1) 0 0 1 = M at *
  obtain ⟨b, a, v, w⟩ := F
  obtain ⟨b', a', v', w'⟩ := M
  dsimp only at hnx ⊢
  rcases hnx with ⟨rfl, rfl⟩ | ⟨j, k, hj, hk, rfl, rfl, rfl, rfl, e1, e2, bv, bw, hd, ev, ew, hord⟩
  · rw [if_pos rfl, if_pos rfl]
    exact ⟨rfl, rfl, ⟨hE1, rfl, hE3⟩, fun q => by cases q⟩
  · have kj := nI_nm1 (k := j) (by omega)
    rw [if_neg kj, if_neg kj, nI_clamp (n := j) (by omega), nI_clamp (n := k) (by omega)]
    obtain ⟨K1, K2, K3⟩ := hK j hj
    rw [K1, K2]
    have hH := hR_step (b := nI j) (a := nI k) hE3 e1 e2 bv bw (og := og) (di := di) (pt := pt) (dr := dr) (fun a ha => by
      have := hL.1 a ha
      exact ⟨this.1, this.2.1, by omega, this.2.2.2⟩)
    by_cases c0 : ki' j = 0
    · rw [if_pos c0, if_pos c0]
      exact ⟨rfl, rfl, ⟨hE1, rfl, hH⟩, fun q => by cases q⟩
    · rw [if_neg c0, if_neg c0]
      have hLS := LR_step (og' := if ki' j = 1 then upd og k (2 * mirF lo hi di j k - og k) else og) (di' := if ki' j = 1 then upd di k (-(di k)) else di) (pt' := if ki' j = 1 then upd pt k (2 * mirM cs dr j k - pt k) else pt) (dr' := if ki' j = 1 then upd dr k (-(dr k)) else dr) (mir := decide (ki' j = 1)) hB hL (by omega) (by omega) hj hk e1 e2 bv bw hd ev ew hord
        (by simp only [decide_eq_true_eq]) (by simp only [decide_eq_true_eq]) (by simp only [decide_eq_true_eq]) (by simp only [decide_eq_true_eq])
      rw [show (1000 + 2000 * (i : Int) + 2000) = 1000 + 2000 * ((i + 1 : Nat) : Int) by omega] at hLS
      have hER : ER (i + 1) ((if ki' j = 1 then upd og k (2 * mirF lo hi di j k - og k) else og, if ki' j = 1 then upd di k (-(di k)) else di, kpA di ar (cmpI (v * lw) (lv * w)), upd ho i (nI j), upd hx9 i (nI k), upd ha i (v / gD v w), upd hl9 i (w / gD v w), upd (upd (upd hs (i * 3) (og 0 * (w / gD v w) + di 0 * (v / gD v w))) (i * 3 + 1) (og 1 * (w / gD v w) + di 1 * (v / gD v w))) (i * 3 + 2) (og 2 * (w / gD v w) + di 2 * (v / gD v w)), (nI j, nI k, v / gD v w, w / gD v w), (nI j, nI k, v, w), li * sh' j / 1000) : FSt)
        (if ki' j = 1 then upd pt k (2 * mirM cs dr j k - pt k) else pt, if ki' j = 1 then upd dr k (-(dr k)) else dr, rmA v' w' la lb pt ab, rmA v' w' la lb dr bb, upd hbx i (nI j), upd hx' i (nI k), vp_updL ra i v', vp_updL rw' i w', hp3 pt dr v' w' rp i, v', w', nI j, li * sh' j / 1000) :=
        ⟨fun a ha => (hLS.1 a ha).2.1, rfl, hH⟩
      exact ⟨rfl, rfl, hER, fun _ => ⟨rfl, hLS, rfl, hER⟩⟩
theorem fo_go_all {lo hi ki sh of cs ki' sh' of' : Nat → Int32} {nb : Nat} (hB : BR lo hi cs nb) (hK : KR ki sh of ki' sh' of' nb) (hn : nb < 2 ^ 31) :
    ∀ (n i : Nat) (st : FSt) (m : MSt), i + n = 30 → SR i st m →
      (foN lo hi ki sh of nb n i st).1 = (goN cs ki' sh' of' nb n i m).1 ∧ (foN lo hi ki sh of nb n i st).2.1 = (goN cs ki' sh' of' nb n i m).2.1 ∧
      ER (goN cs ki' sh' of' nb n i m).2.1 (foN lo hi ki sh of nb n i st).2.2 (goN cs ki' sh' of' nb n i m).2.2 ∧ goAll cs ki' sh' of' nb n i m := by
  intro n
  induction n with
  | zero => intro i st m _ h; exact ⟨rfl, rfl, h.2.2, trivial⟩
  | succ n ih =>
    intro i st m e h
    obtain ⟨s1, s2, s3, s4⟩ := fo_go_step hB hK hn (by omega) h
    unfold foN goN goAll
    generalize foS lo hi ki sh of nb i st = F at *
    generalize goS cs ki' sh' of' nb i m = M at *
    obtain ⟨f1, f2, f3⟩ := F
    obtain ⟨m1, m2, m3⟩ := M
    dsimp only at s1 s2 s3 s4
    subst s1
    subst s2
    cases f1 with
    | some r => exact ⟨rfl, rfl, s3, SR_K h, fun st' q => by cases q⟩
    | none =>
      obtain ⟨s5, s6⟩ := s4 rfl
      subst s5
      obtain ⟨t1, t2, t3, t4⟩ := ih (i + 1) f3 m3 (by omega) s6
      exact ⟨t1, t2, t3, SR_K h, fun st' q => by cases q; exact t4⟩
theorem inB_C {lo hi cs pt pt' : Nat → Int32} {nb i : Nat} (hB : BR lo hi cs nb) (hi' : i < nb) (hp : ∀ a, a < 3 → pt a = pt' a) (ki of ki' of' : Nat → Int32) (hk : ki i = ki' i) (ho : of i = of' i) :
    solidB lo hi ki of pt i = solidC cs ki' of' pt' i := by
  have q0 := hB i hi' 0 (by omega)
  have q1 := hB i hi' 1 (by omega)
  have q2 := hB i hi' 2 (by omega)
  unfold solidB solidC inB inC
  rw [hp 0 (by omega), hp 1 (by omega), hp 2 (by omega), hk, ho, q1.1, q1.2.1, q2.1, q2.2.1]
  rw [show lo (i * 3) = cs (6 * i + 0) from q0.1, show hi (i * 3) = cs (6 * i + 3 + 0) from q0.2.1]
  simp only [Bool.and_assoc]
theorem any_C {lo hi cs pt pt' ki of ki' of' : Nat → Int32} {nb : Nat} (hB : BR lo hi cs nb) (hp : ∀ a, a < 3 → pt a = pt' a) (hk : ∀ i, i < nb → ki i = ki' i) (ho : ∀ i, i < nb → of i = of' i) :
    ∀ (n i : Nat), i + n = nb → anyB lo hi ki of pt n i = anyC cs ki' of' pt' n i := by
  intro n
  induction n with
  | zero => intro i _; rfl
  | succ n ih =>
    intro i e
    unfold anyB anyC
    rw [ih (i + 1) (by omega), inB_C hB (by omega) hp ki of ki' of' (hk i (by omega)) (ho i (by omega))]
/-- a ray from a place that is right, in a direction that is right -/
theorem fo_go {lo hi ki sh of cs ki' sh' of' : Nat → Int32} {nb : Nat} (hB : BR lo hi cs nb) (hK : KR ki sh of ki' sh' of' nb) (hn : nb < 2 ^ 31) (st : FSt) (m : MSt) {x y z dx dy dz : Int32}
    (hx : bd 1000 x.toInt) (hy : bd 1000 y.toInt) (hz : bd 1000 z.toInt) (hd : dirR dx dy dz) :
    (foW lo hi ki sh of nb (rayS st x y z dx dy dz)).1 = (goW cs ki' sh' of' nb (goB m x y z dx dy dz)).1 ∧ (foW lo hi ki sh of nb (rayS st x y z dx dy dz)).2.1 = (goW cs ki' sh' of' nb (goB m x y z dx dy dz)).2.1 ∧
    ER (goW cs ki' sh' of' nb (goB m x y z dx dy dz)).2.1 (foW lo hi ki sh of nb (rayS st x y z dx dy dz)).2.2 (goW cs ki' sh' of' nb (goB m x y z dx dy dz)).2.2 ∧ goAll cs ki' sh' of' nb 30 0 (goB m x y z dx dy dz) := by
  have b100 : ∀ d : Int32, inR (-100) d 100 → bd 100 d.toInt := by
    intro d q
    have q1 := Int32.le_iff_toInt_le.mp q.1
    have q2 := Int32.le_iff_toInt_le.mp q.2
    rw [show (-100 : Int32).toInt = -100 by decide] at q1
    rw [show (100 : Int32).toInt = 100 by decide] at q2
    exact ⟨q1, q2⟩
  obtain ⟨d1, d2, d3, d4⟩ := hd
  have hpt : ∀ a, a < 3 → (rayS st x y z dx dy dz).1 a = (goB m x y z dx dy dz).1 a := by
    unfold rayS goB
    dsimp only
    refine lt3 ?_ ?_ ?_
    · rw [upd_o _ _ (by decide), upd_o _ _ (by decide), upd_e, upd_o _ _ (by decide), upd_o _ _ (by decide), upd_e]
    · rw [upd_o _ _ (by decide), upd_e, upd_o _ _ (by decide), upd_e]
    · rw [upd_e, upd_e]
  have hSR : SR 0 (rayS st x y z dx dy dz) (goB m x y z dx dy dz) := by
    have hdr : ∀ a, a < 3 → (rayS st x y z dx dy dz).2.1 a = (goB m x y z dx dy dz).2.1 a := by
      unfold rayS goB
      dsimp only
      refine lt3 ?_ ?_ ?_
      · rw [upd_o _ _ (by decide), upd_o _ _ (by decide), upd_e, upd_o _ _ (by decide), upd_o _ _ (by decide), upd_e]
      · rw [upd_o _ _ (by decide), upd_e, upd_o _ _ (by decide), upd_e]
      · rw [upd_e, upd_e]
    refine ⟨⟨fun a ha => ⟨hpt a ha, hdr a ha, ?_, ?_⟩, ?_, ⟨1, by decide, rfl, rfl⟩, ?_, ?_, ?_, ?_, fun q => absurd rfl q⟩, rfl, hdr, rfl, fun j hj => absurd hj (by omega)⟩
    · unfold goB
      dsimp only
      revert a
      refine lt3 ?_ ?_ ?_
      · rw [upd_o _ _ (by decide), upd_o _ _ (by decide), upd_e]; exact hx
      · rw [upd_o _ _ (by decide), upd_e]; exact hy
      · rw [upd_e]; exact hz
    · unfold goB
      dsimp only
      revert a
      refine lt3 ?_ ?_ ?_
      · rw [upd_o _ _ (by decide), upd_o _ _ (by decide), upd_e]; exact b100 _ d1
      · rw [upd_o _ _ (by decide), upd_e]; exact b100 _ d2
      · rw [upd_e]; exact b100 _ d3
    · unfold goB
      dsimp only
      by_cases c1 : dx = 0
      · by_cases c2 : dy = 0
        · refine ⟨2, by decide, ?_⟩
          rw [upd_e]
          exact fun c3 => d4 ⟨c1, c2, c3⟩
        · refine ⟨1, by decide, ?_⟩
          rw [upd_o _ _ (by decide), upd_e]
          exact c2
      · refine ⟨0, by decide, ?_⟩
        rw [upd_o _ _ (by decide), upd_o _ _ (by decide), upd_e]
        exact c1
    · exact show bd 62000 (0 : Int64).toInt from ⟨by decide, by decide⟩
    · exact show 1 ≤ (1 : Int64).toInt ∧ (1 : Int64).toInt ≤ 100 from ⟨by decide, by decide⟩
    · exact show bd 62000 (0 : Int32).toInt from ⟨by decide, by decide⟩
    · exact show 1 ≤ (1 : Int32).toInt ∧ (1 : Int32).toInt ≤ 100 from ⟨by decide, by decide⟩
  obtain ⟨t1, t2, t3, t4⟩ := fo_go_all hB hK hn 30 0 _ _ rfl hSR
  unfold foW goW
  rw [any_C (ki' := ki') (of' := of') hB hpt (fun i hi => (hK i hi).1) (fun i hi => (hK i hi).2.2) nb 0 (by omega)]
  by_cases c : anyC cs ki' of' (goB m x y z dx dy dz).1 nb 0 = true
  · rw [if_pos c, if_pos c]
    exact ⟨rfl, rfl, hSR.2.2, t4⟩
  · rw [if_neg c, if_neg c]
    exact ⟨t1, t2, t3, t4⟩
