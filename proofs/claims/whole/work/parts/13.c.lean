/-! the mathematics: 13.c -/
theorem e_32 {x y : Int32} (h : x.toInt = y.toInt) : x = y := Int32.toInt_inj.mp h
theorem e_64 {x y : Int64} (h : x.toInt = y.toInt) : x = y := Int64.toInt_inj.mp h
/-- a long divided by the greatest common divisor -/
theorem dv_64 {x a b : Int64} (h : bd (2 ^ 62 - 1) a.toInt) (hb : 1 ≤ b.toInt ∧ b.toInt ≤ 100) : (x / cmL 100 (absL a) b).toInt = x.toInt.tdiv (Int.gcd a.toInt b.toInt) := by
  have e := cmA_eq (a := a) (b := b) (by omega) (by omega) (by omega) (by omega)
  have g0 := gcd_pos (v := a.toInt) (w := b.toInt) (by omega)
  have b1 := tdiv_bd (v := x.toInt) (g := (Int.gcd a.toInt b.toInt : Int))
  have x1 := x.toInt_lt
  have x2 := x.le_toInt
  rw [Int64.toInt_div, e]
  by_cases c : (x.toInt.tdiv (Int.gcd a.toInt b.toInt : Int)).natAbs = 2 ^ 63
  · have k : x.toInt = -2 ^ 63 := by omega
    have k2 : ¬ 0 < x.toInt.tdiv (Int.gcd a.toInt b.toInt : Int) := by
      intro q
      have := Int.tdiv_nonneg_of_nonpos_of_nonpos (a := 0) (b := 0) (by omega) (by omega)
      have h1 : 0 ≤ (-x.toInt).tdiv (Int.gcd a.toInt b.toInt : Int) := Int.tdiv_nonneg (by omega) (by omega)
      rw [Int.neg_tdiv] at h1
      omega
    rw [Int.bmod_eq_of_le (by omega) (by omega)]
  · rw [Int.bmod_eq_of_le (by omega) (by omega)]
theorem hR_ok {nh : Nat} {ho hx ha hl hs hbx hx' : Nat → Int32} {ra rw rp : Nat → Int64} (h : hR nh ho hx ha hl hs hbx hx' ra rw rp) : okH ra rw nh ∧ okP rp nh := by
  constructor
  · intro j hj
    obtain ⟨-, -, g, -, -, -, -, h1, h2, -⟩ := h j hj
    omega
  · intro j hj
    obtain ⟨-, -, g, -, -, -, -, -, -, h3⟩ := h (j / 3) (by omega)
    have := (h3 (j % 3) (by omega)).2
    rw [show 3 * (j / 3) + j % 3 = j by omega] at this
    omega
theorem hit_eq {nh : Nat} {ho hx ha hl hs hbx hx' : Nat → Int32} {ra rw rp : Nat → Int64} (h : hR nh ho hx ha hl hs hbx hx' ra rw rp) (hn : nh ≤ 30) {k wh : Int32} (hk : 0 ≤ k) :
    hitF k wh nh ho hx ha hl = hitM k wh nh hbx hx' ra rw := by
  unfold hitF hitM
  by_cases c : k < nI nh
  · obtain ⟨j, j1, rfl⟩ := nI_of (x := k) (by rw [Int32.lt_iff_toInt_lt, Int32.toInt_zero]; have := p_iff'.mp hk; omega)
    have hj : j < nh := (nI_ltI j1 (by omega)).mp c
    rw [if_pos (by simp [hk, c]), if_pos c, nI_clamp j1]
    obtain ⟨y1, y2, g, y3, y4, y5, y6, y7, y8, -⟩ := h j hj
    rw [y1, y2]
    have hl0 : ¬ (hl j).toInt = 0 := by
      intro q
      rw [q, Int.mul_zero] at y5
      omega
    obtain ⟨m1, m2⟩ := low_mul (x := (ha j).toInt) (y := (hl j).toInt) y3
    rw [← y4, ← y5, y6] at m1 m2
    have o1 : ∀ v : Int, v.tdiv ((1 : Nat) : Int) = v := fun v => Int.tdiv_one v
    rw [o1] at m1 m2
    by_cases c0 : wh = 0
    · rw [if_pos c0, if_pos c0]
    · rw [if_neg c0, if_neg c0]
      by_cases c1 : wh = 1
      · rw [if_pos c1, if_pos c1]
      · rw [if_neg c1, if_neg c1]
        by_cases c2 : wh = 2
        · rw [if_pos c2, if_pos c2]
          apply e_32
          have l1 := (ha j).toInt_lt
          have l2 := (ha j).le_toInt
          rw [Int64.toInt_toInt32, dv_64 (by omega) y7, m1, Int.bmod_eq_of_le (by omega) (by omega)]
        · rw [if_neg c2, if_neg c2]
          apply e_32
          have l1 := (hl j).toInt_lt
          have l2 := (hl j).le_toInt
          rw [Int64.toInt_toInt32, dv_64 (by omega) y7, m2, Int.bmod_eq_of_le (by omega) (by omega)]
  · rw [if_neg (by simp [c]), if_neg c]
theorem place_eq {nh : Nat} {ho hx ha hl hs hbx hx' : Nat → Int32} {ra rw rp : Nat → Int64} (h : hR nh ho hx ha hl hs hbx hx' ra rw rp) (hn : nh ≤ 30) {k ax pr : Int32} (hk : 0 ≤ k ∧ k < nI nh) (ha' : inR 0 ax 2) :
    placeF k ax pr hl hs = placeM k ax pr rw rp := by
  obtain ⟨j, j1, rfl⟩ := nI_of (x := k) (by rw [Int32.lt_iff_toInt_lt, Int32.toInt_zero]; have := p_iff'.mp hk.1; omega)
  have hj : j < nh := (nI_ltI j1 (by omega)).mp hk.2
  obtain ⟨a, a1, rfl⟩ := nI_of (x := ax) (by rw [Int32.lt_iff_toInt_lt, Int32.toInt_zero]; have := p_iff'.mp ha'.1; omega)
  have ha3 : a < 3 := by
    have := Int32.le_iff_toInt_le.mp ha'.2
    rw [nI_toInt a1, show (2 : Int32).toInt = 2 by decide] at this
    omega
  unfold placeF placeM
  rw [nI_clamp j1, nI_clamp a1]
  obtain ⟨y1, y2, g, y3, y4, y5, y6, y7, y8, y9⟩ := h j hj
  obtain ⟨z1, z2⟩ := y9 a ha3
  have hl0 : ¬ (hl j).toInt = 0 := by
    intro q
    rw [q, Int.mul_zero] at y5
    omega
  obtain ⟨m1, m2⟩ := low_mul (x := (hs (j * 3 + a)).toInt) (y := (hl j).toInt) y3
  rw [← y5, ← z1] at m1 m2
  have p1 : (hs (j * 3 + a)).toInt.natAbs ≤ (rp (3 * j + a)).toInt.natAbs := by rw [z1, Int.natAbs_mul]; exact Nat.le_mul_of_pos_left _ (by omega)
  have p2 : (hl j).toInt.natAbs ≤ (rw j).toInt.natAbs := by rw [y5, Int.natAbs_mul]; exact Nat.le_mul_of_pos_left _ (by omega)
  obtain ⟨d1, d2⟩ := gD_div (v := hs (j * 3 + a)) (w := hl j) (by omega) (by omega) hl0
  by_cases c : pr = 0
  · rw [if_pos c, if_pos c]
    apply e_64
    rw [Int32.toInt_toInt64, d1, dv_64 (by omega) y7, m1]
  · rw [if_neg c, if_neg c]
    apply e_64
    rw [Int32.toInt_toInt64, d2, dv_64 (by omega) y7, m2]
theorem oct_8 (di : Nat → Int32) : (octF di).toNatClampNeg < 8 := by
  unfold octF
  by_cases c0 : di 0 < 0 <;> by_cases c1 : di 1 < 0 <;> by_cases c2 : di 2 < 0 <;> simp only [c0, c1, c2, if_true, if_false] <;> decide
theorem oct_eq {f g : Nat → Int32} (h : ∀ a, a < 3 → f a = g a) : octF f = octF g := by
  unfold octF
  rw [h 0 (by omega), h 1 (by omega), h 2 (by omega)]
/-- the fan's directions are right -/
def FR (fd fd' : Nat → Int32) (nf : Nat) : Prop := (∀ j, j < 3 * nf → fd j = fd' j) ∧ ∀ i, i < nf → dirR (fd' (3 * i)) (fd' (3 * i + 1)) (fd' (3 * i + 2))
theorem ms_eq {lo hi ki sh of cs ki' sh' of' br sk fd fd' : Nat → Int32} {nb nf : Nat} (hB : BR lo hi cs nb) (hK : KR ki sh of ki' sh' of' nb) (hn : nb < 2 ^ 31) (hF : FR fd fd' nf) (hS : ∀ j, j < 8 → br j = sk j) {x y z : Int32}
    (hx : bd 1000 x.toInt) (hy : bd 1000 y.toInt) (hz : bd 1000 z.toInt) :
    ∀ (n i : Nat) (st : FSt) (m : MSt) (sum : Int64), i + n = nf → (msN lo hi ki sh of br fd nb x y z n i st sum).1 = (msM cs ki' sh' of' sk fd' nb x y z n i m sum).1 := by
  intro n
  induction n with
  | zero => intro i st m sum _; rfl
  | succ n ih =>
    intro i st m sum e
    unfold msN msM
    rw [show i * 3 = 3 * i by omega, hF.1 (3 * i) (by omega), hF.1 (3 * i + 1) (by omega), hF.1 (3 * i + 2) (by omega)]
    obtain ⟨t1, t2, t3, t4⟩ := fo_go hB hK hn st m hx hy hz (hF.2 i (by omega))
    have o1 := oct_eq t3.1
    rw [t1, t3.2.1, o1, hS _ (oct_8 _)]
    exact ih (i + 1) _ _ _ (by omega)
def st0 : FSt := (fun _ => 0, fun _ => 0, fun _ => 0, fun _ => 0, fun _ => 0, fun _ => 0, fun _ => 0, fun _ => 0, (0, 0, 0, 0), (0, 0, 0, 0), 0)
theorem goF_ok {lo hi ki sh of cs ki' sh' of' fd fd' : Nat → Int32} {nb nf : Nat} (hB : BR lo hi cs nb) (hK : KR ki sh of ki' sh' of' nb) (hn : nb < 2 ^ 31) (hF : FR fd fd' nf) {x y z : Int32}
    (hx : bd 1000 x.toInt) (hy : bd 1000 y.toInt) (hz : bd 1000 z.toInt) : goF cs ki' sh' of' fd' nb nf x y z := fun m i hi' => (fo_go hB hK hn st0 m hx hy hz (hF.2 i hi')).2.2.2
/-- the points of the field lie in the world -/
theorem fld {s x sp : Int32} {n c : Nat} (hs : 1 ≤ s.toInt ∧ s.toInt ≤ 1000) (h1 : inR (-s) x s) (h2 : inR (-s) (x + (nI n - 1) * sp) s) (hn : 1 ≤ n ∧ n ≤ 8) (hsp : inR 1 sp 100) (hc : c < n) : bd 1000 (x + nI c * sp).toInt := by
  have s1 := Int32.le_iff_toInt_le.mp hsp.1
  have s2 := Int32.le_iff_toInt_le.mp hsp.2
  rw [show (1 : Int32).toInt = 1 by decide] at s1
  rw [show (100 : Int32).toInt = 100 by decide] at s2
  have sn : (-s).toInt = -s.toInt := t_neg (by omega)
  have a1 := Int32.le_iff_toInt_le.mp h1.1
  have a2 := Int32.le_iff_toInt_le.mp h1.2
  have b1 := Int32.le_iff_toInt_le.mp h2.1
  have b2 := Int32.le_iff_toInt_le.mp h2.2
  rw [sn] at a1 b1
  have c1 : (nI c).toInt = c := nI_toInt (by omega)
  have n1 : (nI n - 1).toInt = (n : Int) - 1 := by
    rw [t_sub (by rw [nI_toInt (by omega), show (1 : Int32).toInt = 1 by decide]; omega), nI_toInt (by omega)]; rfl
  have p1 : (nI c * sp).toInt = c * sp.toInt := by rw [t_mul (a := 8) (b := 100) (by omega) (by omega) (by omega), c1]
  have p2 : ((nI n - 1) * sp).toInt = ((n : Int) - 1) * sp.toInt := by rw [t_mul (a := 8) (b := 100) (by omega) (by omega) (by omega), n1]
  have q1 := mul_bd (x := (c : Int)) (y := sp.toInt) (a := 8) (b := 100) (by omega) (by omega) (by omega) s2
  have q2 := mul_bd (x := (n : Int) - 1) (y := sp.toInt) (a := 8) (b := 100) (by omega) (by omega) (by omega) s2
  have q3 : (c : Int) * sp.toInt ≤ ((n : Int) - 1) * sp.toInt := Int.mul_le_mul_of_nonneg_right (by omega) (by omega)
  have q4 : 0 ≤ (c : Int) * sp.toInt := Int.mul_nonneg (by omega) (by omega)
  have e1 : (x + (nI n - 1) * sp).toInt = x.toInt + ((n : Int) - 1) * sp.toInt := by rw [t_add (by rw [p2]; omega), p2]
  have e2 : (x + nI c * sp).toInt = x.toInt + (c : Int) * sp.toInt := by rw [t_add (by rw [p1]; omega), p1]
  rw [e1] at b1 b2
  rw [e2]
  omega
theorem bsM_s {cs ki sh of sk fd : Nat → Int32} {nb nf : Nat} {x y z sp : Int32} {nc n k : Nat} {st : MSt} {mo : Int64} {fo : Nat} : bsM cs ki sh of sk fd nb nf x y z sp nc (n + 1) k st mo fo = if (msM cs ki sh of sk fd nb (x + nI (k % nc) * sp) (y + nI (k / nc) * sp) z nf 0 st 0).1 ≤ mo then bsM cs ki sh of sk fd nb nf x y z sp nc n (k + 1) (msM cs ki sh of sk fd nb (x + nI (k % nc) * sp) (y + nI (k / nc) * sp) z nf 0 st 0).2 mo fo else bsM cs ki sh of sk fd nb nf x y z sp nc n (k + 1) (msM cs ki sh of sk fd nb (x + nI (k % nc) * sp) (y + nI (k / nc) * sp) z nf 0 st 0).2 (msM cs ki sh of sk fd nb (x + nI (k % nc) * sp) (y + nI (k / nc) * sp) z nf 0 st 0).1 k := rfl
theorem bsC_eq {lo hi ki sh of cs ki' sh' of' br sk fd fd' : Nat → Int32} {nb nf : Nat} (hB : BR lo hi cs nb) (hK : KR ki sh of ki' sh' of' nb) (hn : nb < 2 ^ 31) (hF : FR fd fd' nf) (hS : ∀ j, j < 8 → br j = sk j) {x y z sp : Int32} {nc nr row : Nat} (hrow : row < nr)
    (hx : ∀ c, c < nc → bd 1000 (x + nI c * sp).toInt) (hy : ∀ c, c < nr → bd 1000 (y + nI c * sp).toInt) (hz : bd 1000 z.toInt) :
    ∀ (n col r : Nat) (st : FSt) (m : MSt) (bc bw : Int32) (gr mo : Int64) (fo : Nat), col + n = nc → bc = nI (fo % nc) → bw = nI (fo / nc) → gr = mo →
      ∃ m' mo' fo', bsM cs ki' sh' of' sk fd' nb nf x y z sp nc (n + r) (row * nc + col) m mo fo = bsM cs ki' sh' of' sk fd' nb nf x y z sp nc r (row * nc + nc) m' mo' fo' ∧
        (bsC lo hi ki sh of br fd nb nf x y z sp row n col st bc bw gr).2.1 = nI (fo' % nc) ∧ (bsC lo hi ki sh of br fd nb nf x y z sp row n col st bc bw gr).2.2.1 = nI (fo' / nc) ∧ (bsC lo hi ki sh of br fd nb nf x y z sp row n col st bc bw gr).2.2.2 = mo' := by
  intro n
  induction n with
  | zero =>
    intro col r st m bc bw gr mo fo e h1 h2 h3
    rw [show col = nc by omega, Nat.zero_add]
    exact ⟨m, mo, fo, rfl, h1, h2, h3⟩
  | succ n ih =>
    intro col r st m bc bw gr mo fo e h1 h2 h3
    have k1 : (row * nc + col) % nc = col := by rw [Nat.add_comm, Nat.add_mul_mod_self_right]; exact Nat.mod_eq_of_lt (by omega)
    have k2 : (row * nc + col) / nc = row := by rw [Nat.add_comm, Nat.add_mul_div_right _ _ (by omega), Nat.div_eq_of_lt (by omega)]; omega
    rw [show n + 1 + r = (n + r) + 1 by omega]
    rw [bsM_s (n := n + r)]
    unfold bsC
    rw [k1, k2, h3]
    have hm := ms_eq (br := br) (sk := sk) hB hK hn hF hS (hx col (by omega)) (hy row hrow) hz nf 0 st m 0 (by omega)
    rw [hm]
    by_cases c : (msM cs ki' sh' of' sk fd' nb (x + nI col * sp) (y + nI row * sp) z nf 0 m 0).1 ≤ mo
    · rw [if_pos c, if_pos c]
      exact ih (col + 1) r _ _ bc bw mo mo fo (by omega) h1 h2 rfl
    · rw [if_neg c, if_neg c]
      exact ih (col + 1) r _ _ (nI col) (nI row) _ _ (row * nc + col) (by omega) (by rw [k1]) (by rw [k2]) rfl
theorem bsR_eq {lo hi ki sh of cs ki' sh' of' br sk fd fd' : Nat → Int32} {nb nf : Nat} (hB : BR lo hi cs nb) (hK : KR ki sh of ki' sh' of' nb) (hn : nb < 2 ^ 31) (hF : FR fd fd' nf) (hS : ∀ j, j < 8 → br j = sk j) {x y z sp : Int32} {nc nr : Nat}
    (hx : ∀ c, c < nc → bd 1000 (x + nI c * sp).toInt) (hy : ∀ c, c < nr → bd 1000 (y + nI c * sp).toInt) (hz : bd 1000 z.toInt) :
    ∀ (n row : Nat) (st : FSt) (m : MSt) (bc bw : Int32) (gr mo : Int64) (fo : Nat), row + n = nr → bc = nI (fo % nc) → bw = nI (fo / nc) → gr = mo →
        (bsR lo hi ki sh of br fd nb nf x y z sp nc n row st bc bw gr).2.1 = nI ((bsM cs ki' sh' of' sk fd' nb nf x y z sp nc (nc * n) (row * nc) m mo fo).2 % nc) ∧ (bsR lo hi ki sh of br fd nb nf x y z sp nc n row st bc bw gr).2.2.1 = nI ((bsM cs ki' sh' of' sk fd' nb nf x y z sp nc (nc * n) (row * nc) m mo fo).2 / nc) := by
  intro n
  induction n with
  | zero => intro row st m bc bw gr mo fo e h1 h2 h3; exact ⟨h1, h2⟩
  | succ n ih =>
    intro row st m bc bw gr mo fo e h1 h2 h3
    obtain ⟨m', mo', fo', t1, t2, t3, t4⟩ := bsC_eq (nr := nr) (row := row) hB hK hn hF hS (by omega) hx hy hz nc 0 (nc * n) st m bc bw gr mo fo (by omega) h1 h2 h3
    rw [Nat.add_zero] at t1
    rw [show nc * (n + 1) = nc + nc * n by rw [Nat.mul_succ]; omega, t1, show row * nc + nc = (row + 1) * nc by rw [Nat.succ_mul]]
    unfold bsR
    exact ih (row + 1) _ m' _ _ _ mo' fo' (by omega) t2 t3 t4
theorem size_eq (n : Int32) : maxI 1 (minI 1000 n) = msF n := by
  unfold maxI minI msF
  have o1 : (1 : Int32).toInt = 1 := by decide
  have o2 : (1000 : Int32).toInt = 1000 := by decide
  have l1 : ∀ a b : Int32, a < b ↔ a.toInt < b.toInt := fun a b => Int32.lt_iff_toInt_lt
  by_cases c1 : n < 1000
  · rw [if_pos c1]
    have := (l1 _ _).mp c1
    by_cases c2 : (1 : Int32) < n
    · have := (l1 _ _).mp c2
      rw [if_pos c2, if_neg (fun q => by have := (l1 _ _).mp q; omega), if_neg (fun q => by have := (l1 _ _).mp q; omega)]
    · rw [if_neg c2]
      by_cases c3 : n < 1
      · rw [if_pos c3]
      · rw [if_neg c3, if_neg (fun q => by have := (l1 _ _).mp q; omega)]
        apply e_32
        have : ¬ (1 : Int32).toInt < n.toInt := fun q => c2 ((l1 _ _).mpr q)
        have : ¬ n.toInt < (1 : Int32).toInt := fun q => c3 ((l1 _ _).mpr q)
        omega
  · rw [if_neg c1, if_pos (by decide)]
    have h1 : ¬ n.toInt < (1000 : Int32).toInt := fun q => c1 ((l1 _ _).mpr q)
    rw [if_neg (fun q => by have := (l1 _ _).mp q; omega)]
    by_cases c3 : 1000 < n
    · rw [if_pos c3]
    · rw [if_neg c3]
      apply e_32
      have : ¬ (1000 : Int32).toInt < n.toInt := fun q => c3 ((l1 _ _).mpr q)
      omega
theorem msF_bd (n : Int32) : 1 ≤ (msF n).toInt ∧ (msF n).toInt ≤ 1000 := by
  unfold msF
  have o1 : (1 : Int32).toInt = 1 := by decide
  have o2 : (1000 : Int32).toInt = 1000 := by decide
  have l1 : ∀ a b : Int32, a < b ↔ a.toInt < b.toInt := fun a b => Int32.lt_iff_toInt_lt
  by_cases c1 : n < 1
  · rw [if_pos c1]; omega
  · rw [if_neg c1]
    have h1 : ¬ n.toInt < (1 : Int32).toInt := fun q => c1 ((l1 _ _).mpr q)
    by_cases c3 : 1000 < n
    · rw [if_pos c3]; omega
    · rw [if_neg c3]
      have : ¬ (1000 : Int32).toInt < n.toInt := fun q => c3 ((l1 _ _).mpr q)
      omega
theorem in_bd {s x : Int32} (hs : 1 ≤ s.toInt ∧ s.toInt ≤ 1000) (h : inR (-s) x s) : bd 1000 x.toInt := by
  have sn : (-s).toInt = -s.toInt := t_neg (by omega)
  have a1 := Int32.le_iff_toInt_le.mp h.1
  have a2 := Int32.le_iff_toInt_le.mp h.2
  rw [sn] at a1
  omega
theorem upd_01 {f : Nat → Int32} {k : Nat} {v : Int32} (h : ∀ j, f j = 0 ∨ f j = 1) (hv : v = 0 ∨ v = 1) : ∀ j, upd f k v j = 0 ∨ upd f k v j = 1 := by
  intro j
  by_cases c : j = k
  · rw [c, upd_e]; exact hv
  · rw [upd_o _ _ c]; exact h j
theorem up6 (cs : Nat → Int32) (n : Nat) (x0 x1 x2 x3 x4 x5 : Int32) : upd (upd (upd (upd (upd (upd cs (6 * n) x0) (6 * n + 1) x1) (6 * n + 2) x2) (6 * n + 3) x3) (6 * n + 4) x4) (6 * n + 5) x5 (6 * n + 0) = x0 ∧ upd (upd (upd (upd (upd (upd cs (6 * n) x0) (6 * n + 1) x1) (6 * n + 2) x2) (6 * n + 3) x3) (6 * n + 4) x4) (6 * n + 5) x5 (6 * n + 1) = x1 ∧ upd (upd (upd (upd (upd (upd cs (6 * n) x0) (6 * n + 1) x1) (6 * n + 2) x2) (6 * n + 3) x3) (6 * n + 4) x4) (6 * n + 5) x5 (6 * n + 2) = x2 ∧ upd (upd (upd (upd (upd (upd cs (6 * n) x0) (6 * n + 1) x1) (6 * n + 2) x2) (6 * n + 3) x3) (6 * n + 4) x4) (6 * n + 5) x5 (6 * n + 3 + 0) = x3 ∧ upd (upd (upd (upd (upd (upd cs (6 * n) x0) (6 * n + 1) x1) (6 * n + 2) x2) (6 * n + 3) x3) (6 * n + 4) x4) (6 * n + 5) x5 (6 * n + 3 + 1) = x4 ∧ upd (upd (upd (upd (upd (upd cs (6 * n) x0) (6 * n + 1) x1) (6 * n + 2) x2) (6 * n + 3) x3) (6 * n + 4) x4) (6 * n + 5) x5 (6 * n + 3 + 2) = x5 := by
  refine ⟨?_, ?_, ?_, ?_, ?_, ?_⟩
  · rw [upd_o _ _ (by omega), upd_o _ _ (by omega), upd_o _ _ (by omega), upd_o _ _ (by omega), upd_o _ _ (by omega)]
    exact upd_e cs (6 * n) x0
  · rw [upd_o _ _ (by omega), upd_o _ _ (by omega), upd_o _ _ (by omega), upd_o _ _ (by omega), upd_e]
  · rw [upd_o _ _ (by omega), upd_o _ _ (by omega), upd_o _ _ (by omega), upd_e]
  · rw [upd_o _ _ (by omega), upd_o _ _ (by omega)]
    exact upd_e _ (6 * n + 3) x3
  · rw [show 6 * n + 3 + 1 = 6 * n + 4 from rfl, upd_o _ _ (by omega), upd_e]
  · rw [show 6 * n + 3 + 2 = 6 * n + 5 from rfl, upd_e]
theorem up3 (lo : Nat → Int32) (n : Nat) (x y z : Int32) : upd (upd (upd lo (n * 3) x) (n * 3 + 1) y) (n * 3 + 2) z (n * 3 + 0) = x ∧ upd (upd (upd lo (n * 3) x) (n * 3 + 1) y) (n * 3 + 2) z (n * 3 + 1) = y ∧ upd (upd (upd lo (n * 3) x) (n * 3 + 1) y) (n * 3 + 2) z (n * 3 + 2) = z := by
  refine ⟨?_, ?_, ?_⟩
  · rw [upd_o _ _ (by omega), upd_o _ _ (by omega), Nat.add_zero, upd_e]
  · rw [upd_o _ _ (by omega), upd_e]
  · rw [upd_e]
theorem up6_o (cs : Nat → Int32) (n : Nat) (x0 x1 x2 x3 x4 x5 : Int32) {j : Nat} (h : j < 6 * n) : upd (upd (upd (upd (upd (upd cs (6 * n) x0) (6 * n + 1) x1) (6 * n + 2) x2) (6 * n + 3) x3) (6 * n + 4) x4) (6 * n + 5) x5 j = cs j := by
  rw [upd_o _ _ (by omega), upd_o _ _ (by omega), upd_o _ _ (by omega), upd_o _ _ (by omega), upd_o _ _ (by omega), upd_o _ _ (by omega)]
theorem BR.add {lo hi cs : Nat → Int32} {nb : Nat} {x0 y0 z0 x1 y1 z1 : Int32} (h : BR lo hi cs nb) (h0 : bd 1000 x0.toInt ∧ bd 1000 y0.toInt ∧ bd 1000 z0.toInt) (h1 : bd 1000 x1.toInt ∧ bd 1000 y1.toInt ∧ bd 1000 z1.toInt) :
    BR (upd (upd (upd lo (nb * 3) x0) (nb * 3 + 1) y0) (nb * 3 + 2) z0) (upd (upd (upd hi (nb * 3) x1) (nb * 3 + 1) y1) (nb * 3 + 2) z1) (upd (upd (upd (upd (upd (upd cs (6 * nb) x0) (6 * nb + 1) y0) (6 * nb + 2) z0) (6 * nb + 3) x1) (6 * nb + 4) y1) (6 * nb + 5) z1) (nb + 1) := by
  intro i hi' a ha
  by_cases c : i = nb
  · rw [c]
    obtain ⟨k0, k1, k2, k3, k4, k5⟩ := up6 cs nb x0 y0 z0 x1 y1 z1
    obtain ⟨l0, l1, l2⟩ := up3 lo nb x0 y0 z0
    obtain ⟨r0, r1, r2⟩ := up3 hi nb x1 y1 z1
    match a, ha with
    | 0, _ => rw [k0, k3, l0, r0]; exact ⟨rfl, rfl, h0.1, h1.1⟩
    | 1, _ => rw [k1, k4, l1, r1]; exact ⟨rfl, rfl, h0.2.1, h1.2.1⟩
    | 2, _ => rw [k2, k5, l2, r2]; exact ⟨rfl, rfl, h0.2.2, h1.2.2⟩
  · have hi2 : i < nb := by omega
    rw [hs3_of lo nb _ _ _ hi2 a ha, hs3_of hi nb _ _ _ hi2 a ha, up6_o cs nb _ _ _ _ _ _ (by omega), up6_o cs nb _ _ _ _ _ _ (by omega)]
    exact h i hi2 a ha
theorem pt_bd {s x y z : Int32} (hs : 1 ≤ s.toInt ∧ s.toInt ≤ 1000) (h : ptR s x y z) : bd 1000 x.toInt ∧ bd 1000 y.toInt ∧ bd 1000 z.toInt := ⟨in_bd hs h.1, in_bd hs h.2.1, in_bd hs h.2.2⟩
theorem cl_lt {x : Int32} {n : Nat} (h : 0 ≤ x ∧ x < nI n) (hn : n < 2 ^ 31) : x.toNatClampNeg < n ∧ x = nI x.toNatClampNeg := by
  obtain ⟨j, j1, rfl⟩ := nI_of (x := x) (by rw [Int32.lt_iff_toInt_lt, Int32.toInt_zero]; have := p_iff'.mp h.1; omega)
  rw [nI_clamp j1]
  exact ⟨(nI_ltI j1 hn).mp h.2, rfl⟩
/-- the reference's rows behind the last box are as they were made -/
def ZR (mki mof : Nat → Int32) (nb : Nat) : Prop := ∀ i, nb ≤ i → mki i = 0 ∧ mof i = 0
theorem ZR.box {mki mof : Nat → Int32} {nb : Nat} (h : ZR mki mof nb) : ZR mki mof (nb + 1) := fun i hi' => h i (Nat.le_of_succ_le hi')
theorem KR.box {ki sh of mki msh mof : Nat → Int32} {nb : Nat} (h : KR ki sh of mki msh mof nb) (hz : ZR mki mof nb) : KR (upd ki nb 0) (upd sh nb 1000) (upd of nb 0) mki (upd msh nb 1000) mof (nb + 1) := by
  intro i hi'
  by_cases c : i = nb
  · rw [c, upd_e, upd_e, upd_e, upd_e]
    have := hz nb (Nat.le_refl _)
    exact ⟨this.1.symm, rfl, this.2.symm⟩
  · rw [upd_o _ _ c, upd_o _ _ c, upd_o _ _ c, upd_o _ _ c]
    exact h i (by omega)
theorem KR.kind {ki sh of mki msh mof : Nat → Int32} {nb : Nat} (h : KR ki sh of mki msh mof nb) (x : Nat) (kd sr : Int32) : KR (upd ki x kd) (upd sh x sr) of (upd mki x kd) (upd msh x sr) mof nb := by
  intro i hi'
  obtain ⟨k1, k2, k3⟩ := h i hi'
  by_cases c : i = x
  · rw [c, upd_e, upd_e, upd_e, upd_e]
    rw [c] at k3
    exact ⟨rfl, rfl, k3⟩
  · rw [upd_o _ _ c, upd_o _ _ c, upd_o _ _ c, upd_o _ _ c]
    exact ⟨k1, k2, k3⟩
theorem KR.off {ki sh of mki msh mof : Nat → Int32} {nb : Nat} (h : KR ki sh of mki msh mof nb) (x : Nat) (v : Int32) : KR ki sh (upd of x v) mki msh (upd mof x v) nb := by
  intro i hi'
  obtain ⟨k1, k2, k3⟩ := h i hi'
  by_cases c : i = x
  · rw [c, upd_e, upd_e]
    rw [c] at k1 k2
    exact ⟨k1, k2, rfl⟩
  · rw [upd_o _ _ c, upd_o _ _ c]
    exact ⟨k1, k2, k3⟩
theorem ZR.kind {mki mof : Nat → Int32} {nb : Nat} (h : ZR mki mof nb) {x : Nat} (hx : x < nb) (kd : Int32) : ZR (upd mki x kd) mof nb := by
  intro i hi'
  rw [upd_o _ _ (by omega)]
  exact h i hi'
theorem ZR.off {mki mof : Nat → Int32} {nb : Nat} (h : ZR mki mof nb) {x : Nat} (hx : x < nb) (v : Int32) : ZR mki (upd mof x v) nb := by
  intro i hi'
  rw [upd_o _ _ (by omega)]
  exact h i hi'
theorem FR.add {fd fd' : Nat → Int32} {nf : Nat} {x y z : Int32} (h : FR fd fd' nf) (hd : dirR x y z) :
    FR (upd (upd (upd fd (nf * 3) x) (nf * 3 + 1) y) (nf * 3 + 2) z) (upd (upd (upd fd' (3 * nf) x) (3 * nf + 1) y) (3 * nf + 2) z) (nf + 1) := by
  have key : ∀ (f : Nat → Int32) (j : Nat), upd (upd (upd f (nf * 3) x) (nf * 3 + 1) y) (nf * 3 + 2) z j = upd (upd (upd f (3 * nf) x) (3 * nf + 1) y) (3 * nf + 2) z j := by
    intro f j
    rw [Nat.mul_comm nf 3]
  refine ⟨fun j hj => ?_, fun i hi' => ?_⟩
  · rw [key]
    by_cases c2 : j = 3 * nf + 2
    · rw [c2, upd_e, upd_e]
    · rw [upd_o _ _ c2, upd_o _ _ c2]
      by_cases c1 : j = 3 * nf + 1
      · rw [c1, upd_e, upd_e]
      · rw [upd_o _ _ c1, upd_o _ _ c1]
        by_cases c0 : j = 3 * nf
        · rw [c0, upd_e, upd_e]
        · rw [upd_o _ _ c0, upd_o _ _ c0]
          exact h.1 j (by omega)
  · by_cases c : i = nf
    · rw [c, show upd (upd (upd fd' (3 * nf) x) (3 * nf + 1) y) (3 * nf + 2) z (3 * nf) = x by rw [upd_o _ _ (by omega), upd_o _ _ (by omega), upd_e], show upd (upd (upd fd' (3 * nf) x) (3 * nf + 1) y) (3 * nf + 2) z (3 * nf + 1) = y by rw [upd_o _ _ (by omega), upd_e], upd_e]
      exact hd
    · rw [upd_o _ _ (by omega), upd_o _ _ (by omega), upd_o _ _ (by omega), upd_o _ _ (by omega), upd_o _ _ (by omega), upd_o _ _ (by omega), upd_o _ _ (by omega), upd_o _ _ (by omega), upd_o _ _ (by omega)]
      exact h.2 i (by omega)
theorem FR.none (f g : Nat → Int32) : FR f g 0 := ⟨fun j hj => absurd hj (by omega), fun i hi' => absurd hi' (by omega)⟩
theorem cpy_at {α : Type} {f g : Nat → α} {n j : Nat} (h : j < n) : va_cpy f g 0 0 n j = f j := by
  unfold va_cpy
  rw [if_pos ⟨by omega, by omega⟩]
  congr 1
  omega
theorem hR.cpy {n : Nat} {ho hx ha hl hs hbx hx' : Nat → Int32} {ra rw rp : Nat → Int64} (h : hR n ho hx ha hl hs hbx hx' ra rw rp) (ro rx : Nat → Int32) (r1 r2 r3 : Nat → Int64) :
    hR n ho hx ha hl hs (va_cpy hbx ro 0 0 n) (va_cpy hx' rx 0 0 n) (va_cpy ra r1 0 0 n) (va_cpy rw r2 0 0 n) (va_cpy rp r3 0 0 (3 * n)) := by
  intro j hj
  obtain ⟨y1, y2, g, y3, y4, y5, y6, y7, y8, y9⟩ := h j hj
  rw [cpy_at hj, cpy_at hj, cpy_at hj, cpy_at hj]
  refine ⟨y1, y2, g, y3, y4, y5, y6, y7, y8, fun a ha => ?_⟩
  rw [cpy_at (show 3 * j + a < 3 * n by omega)]
  exact y9 a ha
/-- a ray: what the class and the reference have behind it -/
theorem ray_two {lo hi ki sh of cs mki msh mof : Nat → Int32} {nb : Nat} {sz : Int32} (hs : 1 ≤ sz.toInt ∧ sz.toInt ≤ 1000) (hnb : nb ≤ 20) (hB : BR lo hi cs nb) (hK : KR ki sh of mki msh mof nb) {x y z dx dy dz : Int32} (hp : ptR sz x y z) (hd : dirR dx dy dz) {st st' : FSt} {mm m' : MSt} {n n' : Nat} {r r' : Int32}
    (e1 : r = (foW lo hi ki sh of nb (rayS st x y z dx dy dz)).1) (e2 : n = (foW lo hi ki sh of nb (rayS st x y z dx dy dz)).2.1) (e3 : st' = (foW lo hi ki sh of nb (rayS st x y z dx dy dz)).2.2)
    (f1 : r' = (goW cs mki msh mof nb (goB mm x y z dx dy dz)).1) (f2 : n' = (goW cs mki msh mof nb (goB mm x y z dx dy dz)).2.1) (f3 : m' = (goW cs mki msh mof nb (goB mm x y z dx dy dz)).2.2) :
    r = r' ∧ n = n' ∧ n' ≤ 30 ∧ ER n' st' m' := by
  have hb := pt_bd hs hp
  obtain ⟨t1, t2, t3, -⟩ := fo_go hB hK (by omega) st mm hb.1 hb.2.1 hb.2.2 hd
  refine ⟨by rw [e1, f1, t1], by rw [e2, f2, t2], by rw [f2]; exact goW_le _ _ _ _ _ _, ?_⟩
  rw [e3, f2, f3]
  exact t3
