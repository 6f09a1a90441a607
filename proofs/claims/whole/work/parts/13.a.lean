/-! the mathematics: 13.a -/
theorem mul_bd {x y a b : Int} (h1 : -a ≤ x) (h2 : x ≤ a) (h3 : -b ≤ y) (h4 : y ≤ b) : -(a * b) ≤ x * y ∧ x * y ≤ a * b := by
  have e1 : x.natAbs ≤ a.natAbs := by omega
  have e2 : y.natAbs ≤ b.natAbs := by omega
  have e3 := Nat.mul_le_mul e1 e2
  rw [← Int.natAbs_mul, ← Int.natAbs_mul] at e3
  have e4 : 0 ≤ a * b := Int.mul_nonneg (by omega) (by omega)
  omega
abbrev bd (n : Int) (x : Int) : Prop := -n ≤ x ∧ x ≤ n
theorem t_mul {x y : Int32} {a b : Int} (hx : bd a x.toInt) (hy : bd b y.toInt) (hab : a * b < 2 ^ 31) : (x * y).toInt = x.toInt * y.toInt := by
  have h := mul_bd hx.1 hx.2 hy.1 hy.2
  rw [Int32.toInt_mul, Int.bmod_eq_of_le (by omega) (by omega)]
theorem t_mulL {x y : Int64} {a b : Int} (hx : bd a x.toInt) (hy : bd b y.toInt) (hab : a * b < 2 ^ 63) : (x * y).toInt = x.toInt * y.toInt := by
  have h := mul_bd hx.1 hx.2 hy.1 hy.2
  rw [Int64.toInt_mul, Int.bmod_eq_of_le (by omega) (by omega)]
theorem t_add {x y : Int32} (h : bd (2 ^ 31 - 1) (x.toInt + y.toInt)) : (x + y).toInt = x.toInt + y.toInt := by
  rw [Int32.toInt_add, Int.bmod_eq_of_le (by omega) (by omega)]
theorem t_sub {x y : Int32} (h : bd (2 ^ 31 - 1) (x.toInt - y.toInt)) : (x - y).toInt = x.toInt - y.toInt := by
  rw [Int32.toInt_sub, Int.bmod_eq_of_le (by omega) (by omega)]
theorem t_neg {x : Int32} (h : bd (2 ^ 31 - 1) x.toInt) : (-x).toInt = -x.toInt := by
  rw [Int32.toInt_neg, Int.bmod_eq_of_le (by omega) (by omega)]
theorem t_negL {x : Int64} (h : bd (2 ^ 63 - 1) x.toInt) : (-x).toInt = -x.toInt := by
  rw [Int64.toInt_neg, Int.bmod_eq_of_le (by omega) (by omega)]
theorem t_subL {x y : Int64} (h : bd (2 ^ 63 - 1) (x.toInt - y.toInt)) : (x - y).toInt = x.toInt - y.toInt := by
  rw [Int64.toInt_sub, Int.bmod_eq_of_le (by omega) (by omega)]
theorem t_addL {x y : Int64} (h : bd (2 ^ 63 - 1) (x.toInt + y.toInt)) : (x + y).toInt = x.toInt + y.toInt := by
  rw [Int64.toInt_add, Int.bmod_eq_of_le (by omega) (by omega)]
theorem absI_int {d : Int32} (h : bd (2 ^ 31 - 1) d.toInt) : (absI d).toInt = d.toInt.natAbs := by
  unfold absI
  by_cases c : 0 ≤ d
  · rw [if_pos c]
    have := Int32.le_iff_toInt_le.mp c
    rw [Int32.toInt_zero] at this
    omega
  · rw [if_neg c, t_sub (by rw [Int32.toInt_zero]; omega), Int32.toInt_zero]
    have : ¬ 0 ≤ d.toInt := fun q => c (Int32.le_iff_toInt_le.mpr (by rw [Int32.toInt_zero]; exact q))
    omega
theorem z_iff {d : Int32} : d = 0 ↔ d.toInt = 0 := by
  rw [← Int32.toInt_inj, Int32.toInt_zero]
theorem zL_iff {d : Int64} : d = 0 ↔ d.toInt = 0 := by
  rw [← Int64.toInt_inj, Int64.toInt_zero]
theorem p_iff {d : Int32} : 0 < d ↔ 0 < d.toInt := by
  rw [Int32.lt_iff_toInt_lt, Int32.toInt_zero]
theorem p_iff' {d : Int32} : 0 ≤ d ↔ 0 ≤ d.toInt := by
  rw [Int32.le_iff_toInt_le, Int32.toInt_zero]
/-- when the ray enters an axis' span, times the speed -/
def eN (d x y : Int) : Int := if 0 < d then x else -y
def lV (d x y : Int) : Int := if 0 < d then y else -x
theorem crE_int {d x y : Int32} (hy : bd 62000 y.toInt) : (crE d x y).toInt = eN d.toInt x.toInt y.toInt := by
  unfold crE eN
  by_cases c : 0 < d
  · rw [if_pos c, if_pos (p_iff.mp c)]
  · rw [if_neg c, if_neg (fun q => c (p_iff.mpr q)), t_neg (by omega)]
theorem crL_int {d x y : Int32} (hx : bd 62000 x.toInt) : (crL d x y).toInt = lV d.toInt x.toInt y.toInt := by
  unfold crL lV
  by_cases c : 0 < d
  · rw [if_pos c, if_pos (p_iff.mp c)]
  · rw [if_neg c, if_neg (fun q => c (p_iff.mpr q)), t_neg (by omega)]
theorem mtE_int {d x y : Int32} (hd : ¬ d = 0) (hy : bd 62000 y.toInt) : (mtE d x.toInt64 y.toInt64).toInt = eN d.toInt x.toInt y.toInt := by
  unfold mtE eN
  have h0 : ¬ d.toInt = 0 := fun q => hd (z_iff.mpr q)
  by_cases c : 0 ≤ d
  · have := p_iff'.mp c
    rw [if_pos c, if_pos (by omega), Int32.toInt_toInt64]
  · have : ¬ 0 ≤ d.toInt := fun q => c (p_iff'.mpr q)
    rw [if_neg c, if_neg (by omega), t_negL (by rw [Int32.toInt_toInt64]; omega), Int32.toInt_toInt64]
theorem mtL_int {d x y : Int32} (hd : ¬ d = 0) (hx : bd 62000 x.toInt) : (mtL d x.toInt64 y.toInt64).toInt = lV d.toInt x.toInt y.toInt := by
  unfold mtL lV
  have h0 : ¬ d.toInt = 0 := fun q => hd (z_iff.mpr q)
  by_cases c : 0 ≤ d
  · have := p_iff'.mp c
    rw [if_pos c, if_pos (by omega), Int32.toInt_toInt64]
  · have : ¬ 0 ≤ d.toInt := fun q => c (p_iff'.mpr q)
    rw [if_neg c, if_neg (by omega), t_negL (by rw [Int32.toInt_toInt64]; omega), Int32.toInt_toInt64]
theorem mtB_int {d : Int32} (h : bd 100 d.toInt) : (mtB d).toInt = d.toInt.natAbs := by
  unfold mtB
  by_cases c : 0 ≤ d
  · have := p_iff'.mp c
    rw [if_pos c, Int32.toInt_toInt64]
    omega
  · have : ¬ 0 ≤ d.toInt := fun q => c (p_iff'.mpr q)
    rw [if_neg c, Int32.toInt_toInt64, t_neg (by omega)]
    omega
theorem nI_nm1 {k : Nat} (h : k < 2 ^ 31) : ¬ nI k = -1 := fun e => nI_pos h (by rw [e]; decide)
theorem e_lt {x y : Int32} {x' y' : Int64} (hx : x.toInt = x'.toInt) (hy : y.toInt = y'.toInt) : (x < y ↔ x' < y') := by
  rw [Int32.lt_iff_toInt_lt, Int64.lt_iff_toInt_lt, hx, hy]
theorem e_le {x y : Int32} {x' y' : Int64} (hx : x.toInt = x'.toInt) (hy : y.toInt = y'.toInt) : (x ≤ y ↔ x' ≤ y') := by
  rw [Int32.le_iff_toInt_le, Int64.le_iff_toInt_le, hx, hy]
theorem e_mul {x y : Int32} {x' y' : Int64} (hx : x.toInt = x'.toInt) (hy : y.toInt = y'.toInt) {a b : Int} (bx : bd a x.toInt) (bY : bd b y.toInt) (hab : a * b < 2 ^ 31) : (x * y).toInt = (x' * y').toInt := by
  rw [t_mul bx bY hab, t_mulL (a := a) (b := b) (by rw [← hx]; exact bx) (by rw [← hy]; exact bY) (by omega), hx, hy]
/-- the two ways of going through the axes stand alike -/
def mJ (al X Y : Nat → Int32) (a : Nat) (ax ab be la lb ix : Int32) (ia ib oa ob : Int64) : Prop :=
  (ax = -1 ∧ ix = -1 ∧ lb = 0 ∧ ob = 0 ∧ ∀ k, k < a → al k = 0) ∨
  (∃ k, k < 3 ∧ ax = nI k ∧ ix = nI k ∧ (ab.toInt = ia.toInt ∧ be.toInt = ib.toInt ∧ la.toInt = oa.toInt ∧ lb.toInt = ob.toInt) ∧
    (bd 62000 ab.toInt ∧ bd 62000 la.toInt ∧ 1 ≤ be.toInt ∧ be.toInt ≤ 100 ∧ 1 ≤ lb.toInt ∧ lb.toInt ≤ 100) ∧ ¬ al k = 0 ∧ ab.toInt = eN (al k).toInt (X k).toInt (Y k).toInt ∧ be.toInt = (al k).toInt.natAbs)
theorem eN_bd {d x y : Int} (hx : bd 62000 x) (hy : bd 62000 y) : bd 62000 (eN d x y) := by
  unfold eN; split <;> omega
theorem lV_bd {d x y : Int} (hx : bd 62000 x) (hy : bd 62000 y) : bd 62000 (lV d x y) := by
  unfold lV; split <;> omega
theorem mJ_step {al X Y : Nat → Int32} {a : Nat} {ax ab be la lb ix : Int32} {ia ib oa ob : Int64} (h : mJ al X Y a ax ab be la lb ix ia ib oa ob) (ha : a < 3) (hd : ¬ al a = 0)
    (hX : bd 62000 (X a).toInt) (hY : bd 62000 (Y a).toInt) (hA : bd 100 (al a).toInt) :
    mJ al X Y (a + 1) (cr1 a (crE (al a) (X a) (Y a)) (absI (al a)) ax ab be).1 (cr1 a (crE (al a) (X a) (Y a)) (absI (al a)) ax ab be).2.1 (cr1 a (crE (al a) (X a) (Y a)) (absI (al a)) ax ab be).2.2 (cr2 (crL (al a) (X a) (Y a)) (absI (al a)) la lb).1 (cr2 (crL (al a) (X a) (Y a)) (absI (al a)) la lb).2
      (mt1 a (mtE (al a) (X a).toInt64 (Y a).toInt64) (mtB (al a)) ix ia ib).1 (mt1 a (mtE (al a) (X a).toInt64 (Y a).toInt64) (mtB (al a)) ix ia ib).2.1 (mt1 a (mtE (al a) (X a).toInt64 (Y a).toInt64) (mtB (al a)) ix ia ib).2.2 (mt2 (mtL (al a) (X a).toInt64 (Y a).toInt64) (mtB (al a)) oa ob).1 (mt2 (mtL (al a) (X a).toInt64 (Y a).toInt64) (mtB (al a)) oa ob).2 := by
  have e1 := crE_int (d := al a) (x := X a) hY
  have e2 := crL_int (d := al a) (y := Y a) hX
  have e3 := mtE_int (x := X a) hd hY
  have e4 := mtL_int (y := Y a) hd hX
  have e5 := mtB_int hA
  have e6 : (absI (al a)).toInt = (al a).toInt.natAbs := absI_int (by omega)
  have b1 := eN_bd (d := (al a).toInt) hX hY
  have b2 := lV_bd (d := (al a).toInt) hX hY
  have h0 : ¬ (al a).toInt = 0 := fun q => hd (z_iff.mpr q)
  have n1 : (crE (al a) (X a) (Y a)).toInt = (mtE (al a) (X a).toInt64 (Y a).toInt64).toInt := by rw [e1, e3]
  have n2 : (crL (al a) (X a) (Y a)).toInt = (mtL (al a) (X a).toInt64 (Y a).toInt64).toInt := by rw [e2, e4]
  have n3 : (absI (al a)).toInt = (mtB (al a)).toInt := by rw [e5, e6]
  generalize crE (al a) (X a) (Y a) = en at *
  generalize crL (al a) (X a) (Y a) = le at *
  generalize mtE (al a) (X a).toInt64 (Y a).toInt64 = en' at *
  generalize mtL (al a) (X a).toInt64 (Y a).toInt64 = le' at *
  generalize mtB (al a) = sp' at *
  generalize absI (al a) = sp at *
  rcases h with ⟨rfl, rfl, rfl, rfl, hz⟩ | ⟨k, hk, rfl, rfl, ⟨g1, g2, g3, g4⟩, ⟨g5, g6, g7, g8, g9, g10⟩, g11, g12, g13⟩
  · refine Or.inr ⟨a, ha, ?_⟩
    unfold cr1 cr2 mt1 mt2
    rw [if_pos (Or.inl rfl), if_pos (Or.inl rfl), if_pos (Or.inl rfl), if_pos (Or.inl rfl)]
    refine ⟨rfl, rfl, ⟨n1, n3, n2, n3⟩, ⟨?_, ?_, ?_, ?_, ?_, ?_⟩, hd, ?_, ?_⟩ <;> (dsimp only; omega)
  · have m1 : (en * be ≤ ab * sp) ↔ (en' * ib ≤ ia * sp') := e_le (e_mul n1 g2 (a := 62000) (b := 100) (by omega) (by omega) (by omega)) (e_mul g1 n3 (a := 62000) (b := 100) (by omega) (by omega) (by omega))
    have m2 : (la * sp ≤ le * lb) ↔ (oa * sp' ≤ le' * ob) := e_le (e_mul g3 n3 (a := 62000) (b := 100) (by omega) (by omega) (by omega)) (e_mul n2 g4 (a := 62000) (b := 100) (by omega) (by omega) (by omega))
    have k1 := nI_nm1 (k := k) (by omega)
    have k2 : ¬ lb = 0 := fun q => by rw [q, Int32.toInt_zero] at g9; omega
    have k3 : ¬ ob = 0 := fun q => by rw [q, Int64.toInt_zero] at g4; omega
    unfold cr1 cr2 mt1 mt2
    by_cases c1 : en * be ≤ ab * sp <;> by_cases c2 : la * sp ≤ le * lb
    · rw [if_neg (fun q => q.elim k1 (fun w => w c1)), if_neg (fun q => q.elim k2 (fun w => w c2)), if_neg (fun q => q.elim k1 (fun w => w (m1.mp c1))), if_neg (fun q => q.elim k3 (fun w => w (m2.mp c2)))]
      exact Or.inr ⟨k, hk, rfl, rfl, ⟨g1, g2, g3, g4⟩, ⟨g5, g6, g7, g8, g9, g10⟩, g11, g12, g13⟩
    · rw [if_neg (fun q => q.elim k1 (fun w => w c1)), if_pos (Or.inr c2), if_neg (fun q => q.elim k1 (fun w => w (m1.mp c1))), if_pos (Or.inr (fun q => c2 (m2.mpr q)))]
      exact Or.inr ⟨k, hk, rfl, rfl, ⟨g1, g2, n2, n3⟩, ⟨g5, by dsimp only; omega, g7, g8, by dsimp only; omega, by dsimp only; omega⟩, g11, g12, g13⟩
    · rw [if_pos (Or.inr c1), if_neg (fun q => q.elim k2 (fun w => w c2)), if_pos (Or.inr (fun q => c1 (m1.mpr q))), if_neg (fun q => q.elim k3 (fun w => w (m2.mp c2)))]
      exact Or.inr ⟨a, ha, rfl, rfl, ⟨n1, n3, g3, g4⟩, ⟨by dsimp only; omega, g6, by dsimp only; omega, by dsimp only; omega, g9, g10⟩, hd, by dsimp only; omega, by dsimp only; omega⟩
    · rw [if_pos (Or.inr c1), if_pos (Or.inr c2), if_pos (Or.inr (fun q => c1 (m1.mpr q))), if_pos (Or.inr (fun q => c2 (m2.mpr q)))]
      exact Or.inr ⟨a, ha, rfl, rfl, ⟨n1, n3, n2, n3⟩, ⟨by dsimp only; omega, by dsimp only; omega, by dsimp only; omega, by dsimp only; omega, by dsimp only; omega, by dsimp only; omega⟩, hd, by dsimp only; omega, by dsimp only; omega⟩
/-- both at once over the axes that are left -/
theorem mJ_all {lo hi og di cs fr al X Y : Nat → Int32} {i : Nat}
    (hl : ∀ a, a < 3 → lo (i * 3 + a) - og a = X a ∧ hi (i * 3 + a) - og a = Y a ∧ cs (6 * i + a) - fr a = X a ∧ cs (6 * i + 3 + a) - fr a = Y a ∧ di a = al a)
    (hb : ∀ a, a < 3 → bd 62000 (X a).toInt ∧ bd 62000 (Y a).toInt ∧ bd 100 (al a).toInt) :
    ∀ (n a : Nat) (ax ab be la lb ix : Int32) (ia ib oa ob : Int64), a + n = 3 → mJ al X Y a ax ab be la lb ix ia ib oa ob →
      (crN lo hi og di i n a ax ab be la lb = none ∧ mtN cs fr al i n a ix ia ib oa ob = none) ∨
      (∃ ax' ab' be' la' lb' ix' ia' ib' oa' ob', crN lo hi og di i n a ax ab be la lb = some (ax', ab', be', la', lb') ∧ mtN cs fr al i n a ix ia ib oa ob = some (ix', ia', ib', oa', ob') ∧ mJ al X Y 3 ax' ab' be' la' lb' ix' ia' ib' oa' ob') := by
  intro n
  induction n with
  | zero =>
    intro a ax ab be la lb ix ia ib oa ob ha hJ
    rw [show a = 3 by omega] at hJ
    exact Or.inr ⟨_, _, _, _, _, _, _, _, _, _, rfl, rfl, hJ⟩
  | succ n ih =>
    intro a ax ab be la lb ix ia ib oa ob ha hJ
    obtain ⟨l1, l2, l3, l4, l5⟩ := hl a (by omega)
    obtain ⟨b1, b2, b3⟩ := hb a (by omega)
    have e6 : (absI (al a)).toInt = (al a).toInt.natAbs := absI_int (by omega)
    unfold crN mtN
    rw [show mLo cs fr i a = (X a).toInt64 by unfold mLo; rw [l3], show mHi cs fr i a = (Y a).toInt64 by unfold mHi; rw [l4], l1, l2, l5]
    by_cases hd : al a = 0
    · have h0 : absI (al a) = 0 := by rw [z_iff, e6, hd, Int32.toInt_zero]; rfl
      rw [if_pos h0, if_pos hd]
      have q : (0 ≤ X a ∨ Y a ≤ 0) ↔ (0 ≤ (X a).toInt64 ∨ (Y a).toInt64 ≤ 0) := by
        rw [Int32.le_iff_toInt_le, Int32.le_iff_toInt_le, Int64.le_iff_toInt_le, Int64.le_iff_toInt_le, Int32.toInt_toInt64, Int32.toInt_toInt64, Int32.toInt_zero, Int64.toInt_zero]
      by_cases c : (0 ≤ X a ∨ Y a ≤ 0)
      · rw [if_pos c, if_pos (q.mp c)]
        exact Or.inl ⟨rfl, rfl⟩
      · rw [if_neg c, if_neg (fun w => c (q.mpr w))]
        refine ih (a + 1) _ _ _ _ _ _ _ _ _ _ (by omega) ?_
        rcases hJ with ⟨q1, q2, q3, q4, q5⟩ | hJ
        · refine Or.inl ⟨q1, q2, q3, q4, fun k hk => ?_⟩
          rcases Nat.lt_succ_iff_lt_or_eq.mp hk with h | rfl
          · exact q5 k h
          · exact hd
        · exact Or.inr hJ
    · have h0 : ¬ absI (al a) = 0 := fun q => hd (by rw [z_iff] at q ⊢; omega)
      rw [if_neg h0, if_neg hd]
      exact ih (a + 1) _ _ _ _ _ _ _ _ _ _ (by omega) (mJ_step hJ (by omega) hd b1 b2 b3)
/-- crosses and meets answer alike -/
theorem cr_mt {lo hi og di cs fr al : Nat → Int32} {i : Nat}
    (hl : ∀ a, a < 3 → lo (i * 3 + a) = cs (6 * i + a) ∧ hi (i * 3 + a) = cs (6 * i + 3 + a) ∧ og a = fr a ∧ di a = al a)
    (hb : ∀ a, a < 3 → bd 62000 (cs (6 * i + a) - fr a).toInt ∧ bd 62000 (cs (6 * i + 3 + a) - fr a).toInt ∧ bd 100 (al a).toInt) (hz : nz al) :
    (crO lo hi og di i = none ∧ mtO cs fr al i = none) ∨
    (∃ k ab be ia ib oa ob, crO lo hi og di i = some (nI k, ab, be) ∧ mtO cs fr al i = some (nI k, ia, ib, oa, ob) ∧ k < 3 ∧ ab.toInt = ia.toInt ∧ be.toInt = ib.toInt ∧
      bd 62000 ab.toInt ∧ 1 ≤ be.toInt ∧ be.toInt ≤ 100 ∧ ¬ al k = 0 ∧ ab.toInt = eN (al k).toInt (cs (6 * i + k) - fr k).toInt (cs (6 * i + 3 + k) - fr k).toInt ∧ be.toInt = (al k).toInt.natAbs) := by
  have hJ : mJ al (fun a => cs (6 * i + a) - fr a) (fun a => cs (6 * i + 3 + a) - fr a) 0 (-1) 0 1 0 0 (-1) 0 0 0 0 := Or.inl ⟨rfl, rfl, rfl, rfl, fun k hk => absurd hk (by omega)⟩
  unfold crO mtO
  rcases mJ_all (lo := lo) (hi := hi) (og := og) (di := di) (cs := cs) (fr := fr) (i := i) (fun a ha => by obtain ⟨q1, q2, q3, q4⟩ := hl a ha; exact ⟨by rw [q1, q3], by rw [q2, q3], rfl, rfl, q4⟩) hb 3 0 _ _ _ _ _ _ _ _ _ _ rfl hJ with ⟨h1, h2⟩ | ⟨ax', ab', be', la', lb', ix', ia', ib', oa', ob', h1, h2, h3⟩
  · rw [h1, h2]
    exact Or.inl ⟨rfl, rfl⟩
  · rw [h1, h2]
    rcases h3 with ⟨-, -, -, -, h⟩ | ⟨k, hk, rfl, rfl, ⟨g1, g2, g3, g4⟩, ⟨g5, g6, g7, g8, g9, g10⟩, g11, g12, g13⟩
    · obtain ⟨k, hk, hn⟩ := hz
      exact absurd (h k hk) hn
    · have m1 : (la' * be' ≤ ab' * lb') ↔ (oa' * ib' ≤ ia' * ob') := e_le (e_mul g3 g2 (a := 62000) (b := 100) (by omega) (by omega) (by omega)) (e_mul g1 g4 (a := 62000) (b := 100) (by omega) (by omega) (by omega))
      unfold crFin mtFin
      dsimp only
      by_cases c : la' * be' ≤ ab' * lb'
      · rw [if_pos (Or.inr c), if_pos (m1.mp c)]
        exact Or.inl ⟨rfl, rfl⟩
      · rw [if_neg (fun q => q.elim (nI_nm1 (by omega)) c), if_neg (fun q => c (m1.mpr q))]
        exact Or.inr ⟨k, ab', be', ia', ib', oa', ob', rfl, rfl, hk, g1, g2, g5, g7, g8, g11, g12, g13⟩
theorem c_lt {f b ia ib la lb : Int} (hi : 0 < ib) (hb : 0 < b) (hl : 0 < lb) (h : f * ib ≤ ia * b) (h2 : ia * lb < la * ib) : f * lb < la * b := by
  have e1 : f * lb * ib ≤ ia * lb * b := by
    have := Int.mul_le_mul_of_nonneg_right h (show 0 ≤ lb by omega)
    rw [show f * lb * ib = f * ib * lb by ac_rfl, show ia * lb * b = ia * b * lb by ac_rfl]
    exact this
  have e2 : ia * lb * b < la * b * ib := by
    have := Int.mul_lt_mul_of_pos_right h2 hb
    rw [show la * b * ib = la * ib * b by ac_rfl]
    exact this
  exact Int.lt_of_mul_lt_mul_right (show f * lb * ib < la * b * ib by omega) (by omega)
theorem c_le {g b oa ob la lb : Int} (hi : 0 < ob) (hb : 0 < b) (hl : 0 < lb) (h : oa * b ≤ g * ob) (h2 : la * ob ≤ oa * lb) : la * b ≤ g * lb := by
  have e1 : la * b * ob ≤ oa * lb * b := by
    have := Int.mul_le_mul_of_nonneg_right h2 (show 0 ≤ b by omega)
    rw [show la * b * ob = la * ob * b by ac_rfl]
    exact this
  have e2 : oa * lb * b ≤ g * lb * ob := by
    have := Int.mul_le_mul_of_nonneg_right h (show 0 ≤ lb by omega)
    rw [show oa * lb * b = oa * b * lb by ac_rfl, show g * lb * ob = g * ob * lb by ac_rfl]
    exact this
  exact Int.le_of_mul_le_mul_right (show la * b * ob ≤ g * lb * ob by omega) hi
/-- the time la / lb lies within an axis' span -/
def aOK (la lb d x y : Int) : Prop := if d = 0 then x < 0 ∧ 0 < y else eN d x y * lb < la * d.natAbs ∧ la * d.natAbs ≤ lV d x y * lb
def mW (la lb : Int) : Option (Int32 × Int64 × Int64 × Int64 × Int64) → Prop
  | none => False
  | some z => z.2.1.toInt * lb < la * z.2.2.1.toInt ∧ la * z.2.2.2.2.toInt ≤ z.2.2.2.1.toInt * lb
theorem mt_W {cs fr al X Y : Nat → Int32} {i : Nat} {la lb : Int} (hlb : 0 < lb)
    (hl : ∀ a, a < 3 → cs (6 * i + a) - fr a = X a ∧ cs (6 * i + 3 + a) - fr a = Y a)
    (hb : ∀ a, a < 3 → bd 62000 (X a).toInt ∧ bd 62000 (Y a).toInt ∧ bd 100 (al a).toInt) :
    ∀ (n a : Nat) (ix : Int32) (ia ib oa ob : Int64), a + n = 3 →
      ((ix = -1 ∧ ob = 0 ∧ ∃ k, a ≤ k ∧ k < 3 ∧ ¬ al k = 0) ∨ (¬ ix = -1 ∧ bd 62000 ia.toInt ∧ bd 62000 oa.toInt ∧ (1 ≤ ib.toInt ∧ ib.toInt ≤ 100) ∧ (1 ≤ ob.toInt ∧ ob.toInt ≤ 100))) →
      (mW la lb (mtN cs fr al i n a ix ia ib oa ob) ↔ ((¬ ix = -1 → ia.toInt * lb < la * ib.toInt ∧ la * ob.toInt ≤ oa.toInt * lb) ∧ ∀ k, a ≤ k → k < 3 → aOK la lb (al k).toInt (X k).toInt (Y k).toInt)) := by
  intro n
  induction n with
  | zero =>
    intro a ix ia ib oa ob ha h
    rcases h with ⟨-, -, k, h1, h2, -⟩ | ⟨h1, h2⟩
    · omega
    · unfold mtN mW
      constructor
      · intro q
        exact ⟨fun _ => q, fun k h3 h4 => by omega⟩
      · intro q
        exact q.1 h1
  | succ n ih =>
    intro a ix ia ib oa ob ha h
    obtain ⟨l3, l4⟩ := hl a (by omega)
    obtain ⟨b1, b2, b3⟩ := hb a (by omega)
    have sp : ∀ P : Nat → Prop, (∀ k, a ≤ k → k < 3 → P k) ↔ (P a ∧ ∀ k, a + 1 ≤ k → k < 3 → P k) := by
      intro P
      constructor
      · intro q
        exact ⟨q a (Nat.le_refl a) (by omega), fun k h1 h2 => q k (by omega) h2⟩
      · intro q k h1 h2
        by_cases c : k = a
        · rw [c]; exact q.1
        · exact q.2 k (by omega) h2
    rw [sp]
    unfold mtN
    rw [show mLo cs fr i a = (X a).toInt64 by unfold mLo; rw [l3], show mHi cs fr i a = (Y a).toInt64 by unfold mHi; rw [l4]]
    by_cases hd : al a = 0
    · rw [if_pos hd]
      have q : (0 ≤ (X a).toInt64 ∨ (Y a).toInt64 ≤ 0) ↔ ¬ aOK la lb (al a).toInt (X a).toInt (Y a).toInt := by
        unfold aOK
        rw [hd, Int32.toInt_zero, if_pos rfl, Int64.le_iff_toInt_le, Int64.le_iff_toInt_le, Int32.toInt_toInt64, Int32.toInt_toInt64, Int64.toInt_zero]
        omega
      by_cases c : (0 ≤ (X a).toInt64 ∨ (Y a).toInt64 ≤ 0)
      · rw [if_pos c]
        constructor
        · intro w; exact w.elim
        · intro w; exact absurd w.2.1 (q.mp c)
      · rw [if_neg c, ih (a + 1) ix ia ib oa ob (by omega) (by
          rcases h with ⟨h1, h2, k, h3, h4, h5⟩ | h
          · refine Or.inl ⟨h1, h2, k, ?_, h4, h5⟩
            by_cases e : k = a
            · rw [e] at h5; exact absurd hd h5
            · omega
          · exact Or.inr h)]
        have q2 := Classical.not_not.mp (fun w => c (q.mpr w))
        constructor
        · intro w; exact ⟨w.1, q2, w.2⟩
        · intro w; exact ⟨w.1, w.2.2⟩
    · rw [if_neg hd]
      have e3 := mtE_int (x := X a) hd b2
      have e4 := mtL_int (y := Y a) hd b1
      have e5 := mtB_int b3
      have b4 := eN_bd (d := (al a).toInt) b1 b2
      have b5 := lV_bd (d := (al a).toInt) b1 b2
      have h0 : ¬ (al a).toInt = 0 := fun q => hd (z_iff.mpr q)
      have eA : aOK la lb (al a).toInt (X a).toInt (Y a).toInt ↔ ((mtE (al a) (X a).toInt64 (Y a).toInt64).toInt * lb < la * (mtB (al a)).toInt ∧ la * (mtB (al a)).toInt ≤ (mtL (al a) (X a).toInt64 (Y a).toInt64).toInt * lb) := by
        unfold aOK
        rw [if_neg h0, e3, e4, e5]
      rw [eA]
      rw [← e3] at b4
      rw [← e4] at b5
      have b6 : 1 ≤ (mtB (al a)).toInt ∧ (mtB (al a)).toInt ≤ 100 := by omega
      generalize mtE (al a) (X a).toInt64 (Y a).toInt64 = f at *
      generalize mtL (al a) (X a).toInt64 (Y a).toInt64 = g at *
      generalize mtB (al a) = b at *
      have ka := nI_nm1 (k := a) (by omega)
      rcases h with ⟨h1, h2, -⟩ | ⟨h1, h2, h3, ⟨h4, h5⟩, h6, h7⟩
      · unfold mt1 mt2
        rw [if_pos (Or.inl h1), if_pos (Or.inl h2), ih (a + 1) _ _ _ _ _ (by omega) (Or.inr ⟨ka, b4, b5, b6, b6⟩)]
        constructor
        · intro w; exact ⟨fun z => absurd h1 z, w.1 ka, w.2⟩
        · intro w; exact ⟨fun _ => w.2.1, w.2.2⟩
      · have m1 : (f * ib ≤ ia * b) ↔ f.toInt * ib.toInt ≤ ia.toInt * b.toInt := by
          rw [Int64.le_iff_toInt_le, t_mulL (a := 62000) (b := 100) (by omega) (by omega) (by omega), t_mulL (a := 62000) (b := 100) (by omega) (by omega) (by omega)]
        have m2 : (oa * b ≤ g * ob) ↔ oa.toInt * b.toInt ≤ g.toInt * ob.toInt := by
          rw [Int64.le_iff_toInt_le, t_mulL (a := 62000) (b := 100) (by omega) (by omega) (by omega), t_mulL (a := 62000) (b := 100) (by omega) (by omega) (by omega)]
        have k3 : ¬ ob = 0 := fun q => by rw [q, Int64.toInt_zero] at h6; omega
        have t1 : ∀ (r : Int32 × Int64 × Int64), r = mt1 a f b ix ia ib → ¬ r.1 = -1 ∧ bd 62000 r.2.1.toInt ∧ (1 ≤ r.2.2.toInt ∧ r.2.2.toInt ≤ 100) ∧ ((r.2.1.toInt * lb < la * r.2.2.toInt) ↔ (ia.toInt * lb < la * ib.toInt ∧ f.toInt * lb < la * b.toInt)) := by
          intro r hr
          unfold mt1 at hr
          by_cases c : f * ib ≤ ia * b
          · rw [if_neg (fun q => q.elim h1 (fun w => w c))] at hr
            rw [hr]
            exact ⟨h1, h2, ⟨h4, h5⟩, fun w => ⟨w, c_lt (by omega) (by omega) hlb (m1.mp c) w⟩, fun w => w.1⟩
          · rw [if_pos (Or.inr c)] at hr
            rw [hr]
            have c' := Int.not_le.mp (fun w => c (m1.mpr w))
            exact ⟨ka, b4, b6, fun w => ⟨c_lt (by omega) (by omega) hlb (Int.le_of_lt c') w, w⟩, fun w => w.2⟩
        have t2 : ∀ (r : Int64 × Int64), r = mt2 g b oa ob → bd 62000 r.1.toInt ∧ (1 ≤ r.2.toInt ∧ r.2.toInt ≤ 100) ∧ ((la * r.2.toInt ≤ r.1.toInt * lb) ↔ (la * ob.toInt ≤ oa.toInt * lb ∧ la * b.toInt ≤ g.toInt * lb)) := by
          intro r hr
          unfold mt2 at hr
          by_cases c : oa * b ≤ g * ob
          · rw [if_neg (fun q => q.elim k3 (fun w => w c))] at hr
            rw [hr]
            exact ⟨h3, ⟨h6, h7⟩, fun w => ⟨w, c_le (by omega) (by omega) hlb (m2.mp c) w⟩, fun w => w.1⟩
          · rw [if_pos (Or.inr c)] at hr
            rw [hr]
            have c' := Int.not_le.mp (fun w => c (m2.mpr w))
            exact ⟨b5, b6, fun w => ⟨c_le (by omega) (by omega) hlb (Int.le_of_lt c') w, w⟩, fun w => w.2⟩
        obtain ⟨u1, u2, u3, u4⟩ := t1 _ rfl
        obtain ⟨u5, u6, u7⟩ := t2 _ rfl
        generalize mt1 a f b ix ia ib = r at *
        generalize mt2 g b oa ob = r2 at *
        rw [ih (a + 1) _ _ _ _ _ (by omega) (Or.inr ⟨u1, u2, u5, u3, u6⟩), u4, u7]
        constructor
        · intro w
          obtain ⟨⟨w1, w2⟩, w3, w4⟩ := w.1 u1
          exact ⟨fun _ => ⟨w1, w3⟩, ⟨w2, w4⟩, w.2⟩
        · intro w
          obtain ⟨w1, w2⟩ := w.1 h1
          exact ⟨fun _ => ⟨⟨w1, w.2.1.1⟩, w2, w.2.1.2⟩, w.2.2⟩
theorem g_lt {g A B : Int} (hg : 0 < g) : (g * A < g * B) ↔ A < B :=
  ⟨fun h => Int.lt_of_mul_lt_mul_left h (by omega), fun h => Int.mul_lt_mul_of_pos_left h hg⟩
theorem g_le {g A B : Int} (hg : 0 < g) : (g * A ≤ g * B) ↔ A ≤ B :=
  ⟨fun h => Int.le_of_mul_le_mul_left h hg, fun h => Int.mul_le_mul_of_nonneg_left h (by omega)⟩
theorem aOK_spot {lo ab hi d lv lw g : Int} (hg : 0 < g) (hw : 0 < lw) :
    aOK (g * lv) (g * lw) d (lo - ab) (hi - ab) ↔
      ((lo * lw < ab * lw + d * lv ∨ (ab * lw + d * lv = lo * lw ∧ d < 0)) ∧ (ab * lw + d * lv < hi * lw ∨ (ab * lw + d * lv = hi * lw ∧ 0 < d))) := by
  unfold aOK eN lV
  by_cases h0 : d = 0
  · rw [if_pos h0, h0]
    have e1 : (lo * lw < ab * lw) ↔ lo < ab := ⟨fun h => Int.lt_of_mul_lt_mul_right h (by omega), fun h => Int.mul_lt_mul_of_pos_right h hw⟩
    have e2 : (ab * lw < hi * lw) ↔ ab < hi := ⟨fun h => Int.lt_of_mul_lt_mul_right h (by omega), fun h => Int.mul_lt_mul_of_pos_right h hw⟩
    rw [Int.zero_mul, Int.add_zero, e1, e2]
    omega
  · rw [if_neg h0]
    by_cases h1 : 0 < d
    · rw [if_pos h1, if_pos h1, show (d.natAbs : Int) = d by omega, show (lo - ab) * (g * lw) = g * (lo * lw - ab * lw) by rw [Int.sub_mul, Int.mul_sub]; ac_rfl, show g * lv * d = g * (d * lv) by ac_rfl, show (hi - ab) * (g * lw) = g * (hi * lw - ab * lw) by rw [Int.sub_mul, Int.mul_sub]; ac_rfl, g_lt hg, g_le hg]
      omega
    · rw [if_neg h1, if_neg h1, show (d.natAbs : Int) = -d by omega, show -(lo - ab) * (g * lw) = g * (ab * lw - lo * lw) by rw [Int.neg_sub, Int.sub_mul, Int.mul_sub]; ac_rfl, show g * lv * -d = g * -(d * lv) by rw [Int.mul_neg, Int.mul_neg]; ac_rfl, show -(hi - ab) * (g * lw) = g * (ab * lw - hi * lw) by rw [Int.neg_sub, Int.sub_mul, Int.mul_sub]; ac_rfl, g_lt hg, g_le hg]
      omega
theorem mtO_bd {cs fr al : Nat → Int32} {i : Nat}
    (hb : ∀ a, a < 3 → bd 62000 (cs (6 * i + a) - fr a).toInt ∧ bd 62000 (cs (6 * i + 3 + a) - fr a).toInt ∧ bd 100 (al a).toInt) (hz : nz al)
    {z : Int32 × Int64 × Int64 × Int64 × Int64} (h : mtN cs fr al i 3 0 (-1) 0 0 0 0 = some z) :
    bd 62000 z.2.1.toInt ∧ bd 62000 z.2.2.2.1.toInt ∧ (1 ≤ z.2.2.1.toInt ∧ z.2.2.1.toInt ≤ 100) ∧ (1 ≤ z.2.2.2.2.toInt ∧ z.2.2.2.2.toInt ≤ 100) := by
  have hJ : mJ al (fun a => cs (6 * i + a) - fr a) (fun a => cs (6 * i + 3 + a) - fr a) 0 (-1) 0 1 0 0 (-1) 0 0 0 0 := Or.inl ⟨rfl, rfl, rfl, rfl, fun k hk => absurd hk (by omega)⟩
  rcases mJ_all (lo := fun j => cs (6 * i + (j - i * 3))) (hi := fun j => cs (6 * i + 3 + (j - i * 3))) (og := fr) (di := al) (cs := cs) (fr := fr) (i := i) (fun a ha => by
      rw [show i * 3 + a - i * 3 = a by omega]
      exact ⟨rfl, rfl, rfl, rfl, rfl⟩) hb 3 0 _ _ _ _ _ _ _ _ _ _ rfl hJ with ⟨h1, h2⟩ | ⟨ax', ab', be', la', lb', ix', ia', ib', oa', ob', h1, h2, h3⟩
  · rw [h2] at h; cases h
  · rw [h2] at h
    cases h
    rcases h3 with ⟨-, -, -, -, h⟩ | ⟨k, hk, rfl, rfl, ⟨g1, g2, g3, g4⟩, ⟨g5, g6, g7, g8, g9, g10⟩, g11, g12, g13⟩
    · obtain ⟨k, hk, hn⟩ := hz
      exact absurd (h k hk) hn
    · dsimp only
      omega
theorem wi_iff {cs ab bb : Nat → Int32} {la lb : Int64} {i : Nat} (hla : bd 62000 la.toInt) (hlb : 1 ≤ lb.toInt ∧ lb.toInt ≤ 100) (h0 : ¬ la = 0) (hz : nz bb)
    (hb : ∀ a, a < 3 → bd 62000 (cs (6 * i + a) - ab a).toInt ∧ bd 62000 (cs (6 * i + 3 + a) - ab a).toInt ∧ bd 100 (bb a).toInt) :
    wiB cs ab bb la lb i = true ↔ ∀ k, k < 3 → aOK la.toInt lb.toInt (bb k).toInt (cs (6 * i + k) - ab k).toInt (cs (6 * i + 3 + k) - ab k).toInt := by
  have hW := mt_W (la := la.toInt) (lb := lb.toInt) (X := fun a => cs (6 * i + a) - ab a) (Y := fun a => cs (6 * i + 3 + a) - ab a) (by omega) (fun a _ => ⟨rfl, rfl⟩) hb 3 0 (-1) 0 0 0 0 rfl (Or.inl ⟨rfl, rfl, by obtain ⟨k, h1, h2⟩ := hz; exact ⟨k, Nat.zero_le _, h1, h2⟩⟩)
  have hR : (∀ k, k < 3 → aOK la.toInt lb.toInt (bb k).toInt (cs (6 * i + k) - ab k).toInt (cs (6 * i + 3 + k) - ab k).toInt) ↔ mW la.toInt lb.toInt (mtN cs ab bb i 3 0 (-1) 0 0 0 0) := by
    rw [hW]
    exact ⟨fun h => ⟨fun q => absurd rfl q, fun k _ h2 => h k h2⟩, fun h k h2 => h.2 k (Nat.zero_le k) h2⟩
  rw [hR]
  unfold wiB mtO
  rw [show decide (la = 0) = false by simp [h0]]
  cases hm : mtN cs ab bb i 3 0 (-1) 0 0 0 0 with
  | none => simp [mtFin, mW]
  | some z =>
    obtain ⟨b1, b2, b3, b4⟩ := mtO_bd hb hz hm
    obtain ⟨ix, ia, ib, oa, ob⟩ := z
    dsimp only at b1 b2 b3 b4
    have p1 : (oa * ib).toInt = oa.toInt * ib.toInt := t_mulL (a := 62000) (b := 100) (by omega) (by omega) (by omega)
    have p2 : (ia * ob).toInt = ia.toInt * ob.toInt := t_mulL (a := 62000) (b := 100) (by omega) (by omega) (by omega)
    have p3 : (la * ib).toInt = la.toInt * ib.toInt := t_mulL (a := 62000) (b := 100) (by omega) (by omega) (by omega)
    have p4 : (ia * lb).toInt = ia.toInt * lb.toInt := t_mulL (a := 62000) (b := 100) (by omega) (by omega) (by omega)
    have p5 : (oa * lb).toInt = oa.toInt * lb.toInt := t_mulL (a := 62000) (b := 100) (by omega) (by omega) (by omega)
    have p6 : (la * ob).toInt = la.toInt * ob.toInt := t_mulL (a := 62000) (b := 100) (by omega) (by omega) (by omega)
    unfold mtFin mW
    dsimp only
    by_cases c : oa * ib ≤ ia * ob
    · rw [if_pos c]
      rw [Int64.le_iff_toInt_le, p1, p2] at c
      dsimp only
      constructor
      · intro w; simp at w
      · rintro ⟨w1, w2⟩
        -- enter < T ≤ leave, so enter < leave
        exfalso
        have q1 : ia.toInt * lb.toInt * ob.toInt < la.toInt * ib.toInt * ob.toInt := Int.mul_lt_mul_of_pos_right w1 (by omega)
        have q2 : la.toInt * ob.toInt * ib.toInt ≤ oa.toInt * lb.toInt * ib.toInt := Int.mul_le_mul_of_nonneg_right w2 (by omega)
        have q3 : oa.toInt * ib.toInt * lb.toInt ≤ ia.toInt * ob.toInt * lb.toInt := Int.mul_le_mul_of_nonneg_right c (by omega)
        rw [show ia.toInt * lb.toInt * ob.toInt = ia.toInt * ob.toInt * lb.toInt by ac_rfl, show la.toInt * ib.toInt * ob.toInt = la.toInt * ob.toInt * ib.toInt by ac_rfl] at q1
        rw [show oa.toInt * lb.toInt * ib.toInt = oa.toInt * ib.toInt * lb.toInt by ac_rfl] at q2
        omega
    · rw [if_neg c]
      dsimp only
      simp only [Bool.not_false, Bool.true_and, Bool.and_eq_true, Bool.not_eq_true', decide_eq_false_iff_not, Int64.le_iff_toInt_le, Int64.lt_iff_toInt_lt, p3, p4, p5, p6]
      omega
theorem came_wi {lo hi og di ar cs ab bb : Nat → Int32} {lv lw : Int32} {la lb : Int64} {g : Int} {i : Nat} (hg : 0 < g) (e1 : la.toInt = g * lv.toInt) (e2 : lb.toInt = g * lw.toInt)
    (hla : bd 62000 la.toInt) (hlb : 1 ≤ lb.toInt ∧ lb.toInt ≤ 100) (hlv : bd 62000 lv.toInt) (hlw : 1 ≤ lw.toInt ∧ lw.toInt ≤ 100)
    (hbx : ∀ a, a < 3 → lo (i * 3 + a) = cs (6 * i + a) ∧ hi (i * 3 + a) = cs (6 * i + 3 + a) ∧ bd 1000 (cs (6 * i + a)).toInt ∧ bd 1000 (cs (6 * i + 3 + a)).toInt)
    (ho : ∀ a, a < 3 → bd 61000 (og a).toInt ∧ bd 100 (di a).toInt)
    (h : ¬ la = 0 → nz bb ∧ ∀ a, a < 3 → ar a = bb a ∧ bd 61000 (ab a).toInt ∧ bd 100 (bb a).toInt ∧ (ab a).toInt * lw.toInt + (bb a).toInt * lv.toInt = (og a).toInt * lw.toInt + (di a).toInt * lv.toInt) :
    cameB lo hi og di ar lv lw i = wiB cs ab bb la lb i := by
  by_cases h0 : la = 0
  · have h1 : lv = 0 := by
      rw [z_iff]
      rw [h0, Int64.toInt_zero] at e1
      rcases Int.mul_eq_zero.mp e1.symm with q | q
      · omega
      · exact q
    unfold cameB wiB
    rw [h0, h1]
    simp
  · obtain ⟨hz, hk⟩ := h h0
    have h1 : ¬ lv = 0 := fun q => h0 (by rw [zL_iff, e1, q, Int32.toInt_zero, Int.mul_zero])
    have sb : ∀ a, a < 3 → (cs (6 * i + a) - ab a).toInt = (cs (6 * i + a)).toInt - (ab a).toInt ∧ (cs (6 * i + 3 + a) - ab a).toInt = (cs (6 * i + 3 + a)).toInt - (ab a).toInt := by
      intro a ha
      have := hbx a ha
      have := hk a ha
      exact ⟨t_sub (by omega), t_sub (by omega)⟩
    rw [Bool.eq_iff_iff, wi_iff hla hlb h0 hz (fun a ha => by have := hbx a ha; have := hk a ha; have := sb a ha; omega)]
    have hc : ∀ k, k < 3 → (cameK lo hi og di ar lv lw k (i * 3 + k) = true ↔ aOK la.toInt lb.toInt (bb k).toInt (cs (6 * i + k) - ab k).toInt (cs (6 * i + 3 + k) - ab k).toInt) := by
      intro k hk3
      obtain ⟨k1, k2, k3, k4⟩ := hbx k hk3
      obtain ⟨j1, j2, j3, j4⟩ := hk k hk3
      obtain ⟨s1, s2⟩ := sb k hk3
      obtain ⟨o1, o2⟩ := ho k hk3
      rw [s1, s2, e1, e2, aOK_spot hg (by omega), j4]
      have m1 : (og k * lw).toInt = (og k).toInt * lw.toInt := t_mul (a := 61000) (b := 100) o1 (by omega) (by omega)
      have m2 : (di k * lv).toInt = (di k).toInt * lv.toInt := t_mul (a := 100) (b := 62000) o2 hlv (by omega)
      have m1b := mul_bd (a := 61000) (b := 100) o1.1 o1.2 (show -100 ≤ lw.toInt by omega) hlw.2
      have m2b := mul_bd (a := 100) (b := 62000) o2.1 o2.2 hlv.1 hlv.2
      have m3 : (og k * lw + di k * lv).toInt = (og k).toInt * lw.toInt + (di k).toInt * lv.toInt := by rw [t_add (by rw [m1, m2]; omega), m1, m2]
      have m4 : (cs (6 * i + k) * lw).toInt = (cs (6 * i + k)).toInt * lw.toInt := t_mul (a := 1000) (b := 100) k3 (by omega) (by omega)
      have m5 : (cs (6 * i + 3 + k) * lw).toInt = (cs (6 * i + 3 + k)).toInt * lw.toInt := t_mul (a := 1000) (b := 100) k4 (by omega) (by omega)
      unfold cameK geB leB
      rw [k1, k2, j1]
      simp only [Bool.and_eq_true, Bool.or_eq_true, decide_eq_true_eq, Int32.lt_iff_toInt_lt, ← Int32.toInt_inj, m3, m4, m5, Int32.toInt_zero]
    unfold cameB
    rw [show decide (lv = 0) = false by simp [h1]]
    simp only [Bool.not_false, Bool.true_and, Bool.and_eq_true]
    rw [show i * 3 = i * 3 + 0 from rfl, hc 0 (by omega), Nat.add_zero, hc 1 (by omega), hc 2 (by omega)]
    constructor
    · rintro ⟨q0, q1, q2⟩ k hk3
      match k, hk3 with
      | 0, _ => exact q0
      | 1, _ => exact q1
      | 2, _ => exact q2
    · intro q
      exact ⟨q 0 (by omega), q 1 (by omega), q 2 (by omega)⟩
theorem cmp_c (x y : Int32) : (cmpI x y = -1 ∧ x.toInt < y.toInt) ∨ (cmpI x y = 0 ∧ x.toInt = y.toInt) ∨ (cmpI x y = 1 ∧ y.toInt < x.toInt) := by
  unfold cmpI
  by_cases c : x < y
  · rw [if_pos c]
    exact Or.inl ⟨rfl, Int32.lt_iff_toInt_lt.mp c⟩
  · rw [if_neg c]
    have c' : ¬ x.toInt < y.toInt := fun q => c (Int32.lt_iff_toInt_lt.mpr q)
    by_cases e : x = y
    · rw [if_pos e]
      exact Or.inr (Or.inl ⟨rfl, by rw [e]⟩)
    · rw [if_neg e]
      have e' : ¬ x.toInt = y.toInt := fun q => e (Int32.toInt_inj.mp q)
      exact Or.inr (Or.inr ⟨rfl, by omega⟩)
theorem cmp_0 {x y : Int32} : cmpI x y = 0 ↔ x.toInt = y.toInt := by
  rcases cmp_c x y with ⟨h, q⟩ | ⟨h, q⟩ | ⟨h, q⟩ <;> rw [h]
  · exact ⟨fun w => absurd w (by decide), fun w => by omega⟩
  · exact ⟨fun _ => q, fun _ => rfl⟩
  · exact ⟨fun w => absurd w (by decide), fun w => by omega⟩
theorem cmp_p {x y : Int32} : 0 < cmpI x y ↔ y.toInt < x.toInt := by
  rcases cmp_c x y with ⟨h, q⟩ | ⟨h, q⟩ | ⟨h, q⟩ <;> rw [h]
  · exact ⟨fun w => absurd w (by decide), fun w => by omega⟩
  · exact ⟨fun w => absurd w (by decide), fun w => by omega⟩
  · exact ⟨fun _ => q, fun _ => by decide⟩
theorem cmp_n {x y : Int32} : cmpI x y < 0 ↔ x.toInt < y.toInt := by
  rcases cmp_c x y with ⟨h, q⟩ | ⟨h, q⟩ | ⟨h, q⟩ <;> rw [h]
  · exact ⟨fun _ => q, fun _ => by decide⟩
  · exact ⟨fun w => absurd w (by decide), fun w => by omega⟩
  · exact ⟨fun w => absurd w (by decide), fun w => by omega⟩
/-- the boxes stand alike -/
def BR (lo hi cs : Nat → Int32) (nb : Nat) : Prop := ∀ i, i < nb → ∀ a, a < 3 → lo (i * 3 + a) = cs (6 * i + a) ∧ hi (i * 3 + a) = cs (6 * i + 3 + a) ∧ bd 1000 (cs (6 * i + a)).toInt ∧ bd 1000 (cs (6 * i + 3 + a)).toInt
/-- the two rays stand alike -/
def LR (B : Int) (og di ar : Nat → Int32) (lv lw : Int32) (pt dr ab bb : Nat → Int32) (la lb : Int64) : Prop :=
  (∀ a, a < 3 → og a = pt a ∧ di a = dr a ∧ bd B (pt a).toInt ∧ bd 100 (dr a).toInt) ∧ nz dr ∧
  (∃ g : Int, 0 < g ∧ la.toInt = g * lv.toInt ∧ lb.toInt = g * lw.toInt) ∧ bd 62000 la.toInt ∧ (1 ≤ lb.toInt ∧ lb.toInt ≤ 100) ∧ bd 62000 lv.toInt ∧ (1 ≤ lw.toInt ∧ lw.toInt ≤ 100) ∧
  (¬ la = 0 → nz bb ∧ ∀ a, a < 3 → ar a = bb a ∧ bd B (ab a).toInt ∧ bd 100 (bb a).toInt ∧ (ab a).toInt * lw.toInt + (bb a).toInt * lv.toInt = (pt a).toInt * lw.toInt + (dr a).toInt * lv.toInt)
/-- the next hit, found alike -/
def nR (cs pt dr : Nat → Int32) (lv lw : Int32) (m : Nat) (b a v w b' x' : Int32) (v' w' : Int64) : Prop :=
  (b = -1 ∧ b' = -1) ∨ (∃ j k, j < m ∧ k < 3 ∧ b = nI j ∧ b' = nI j ∧ a = nI k ∧ x' = nI k ∧ v.toInt = v'.toInt ∧ w.toInt = w'.toInt ∧ bd 62000 v.toInt ∧ (1 ≤ w.toInt ∧ w.toInt ≤ 100) ∧ ¬ dr k = 0 ∧
    v.toInt = eN (dr k).toInt (cs (6 * j + k) - pt k).toInt (cs (6 * j + 3 + k) - pt k).toInt ∧ w.toInt = (dr k).toInt.natAbs ∧ lv.toInt * w.toInt ≤ v.toInt * lw.toInt)
theorem nx_step {lo hi og di ar of cs pt dr ab bb of' : Nat → Int32} {lx lv lw : Int32} {la lb : Int64} {B : Int} {nb m i : Nat} {b a v w b' x' : Int32} {v' w' : Int64}
    (hB : BR lo hi cs nb) (hL : LR B og di ar lv lw pt dr ab bb la lb) (hb : B ≤ 61000) (hi' : i < nb) (him : i < m) (hm : m < 2 ^ 31) (ho : of i = of' i) (h : nR cs pt dr lv lw m b a v w b' x' v' w') :
    nR cs pt dr lv lw m (fn1 lo hi og di ar of lx lv lw i b a v w).1 (fn1 lo hi og di ar of lx lv lw i b a v w).2.1 (fn1 lo hi og di ar of lx lv lw i b a v w).2.2.1 (fn1 lo hi og di ar of lx lv lw i b a v w).2.2.2
      (nx1 cs pt dr ab bb of' lx la lb i b' x' v' w').1 (nx1 cs pt dr ab bb of' lx la lb i b' x' v' w').2.1 (nx1 cs pt dr ab bb of' lx la lb i b' x' v' w').2.2.1 (nx1 cs pt dr ab bb of' lx la lb i b' x' v' w').2.2.2 := by
  obtain ⟨L1, L2, ⟨g, L3, L4, L5⟩, L6, L7, L8, L9, L10⟩ := hL
  unfold fn1 nx1 ctO
  rw [ho]
  by_cases c0 : of' i = 0
  · rw [if_pos c0, if_pos c0]
    rcases cr_mt (lo := lo) (hi := hi) (og := og) (di := di) (cs := cs) (fr := pt) (al := dr) (i := i) (fun a ha => by
        have q1 := hB i hi' a ha
        have q2 := L1 a ha
        exact ⟨q1.1, q1.2.1, q2.1, q2.2.1⟩) (fun a ha => by
        have q1 := hB i hi' a ha
        have q2 := L1 a ha
        have e1 : (cs (6 * i + a) - pt a).toInt = (cs (6 * i + a)).toInt - (pt a).toInt := t_sub (by omega)
        have e2 : (cs (6 * i + 3 + a) - pt a).toInt = (cs (6 * i + 3 + a)).toInt - (pt a).toInt := t_sub (by omega)
        rw [e1, e2]
        omega) L2 with ⟨h1, h2⟩ | ⟨k, tv, tw, ia, ib, oa, ob, h1, h2, hk, g1, g2, g3, g4, g5, g6, g7, g8⟩
    · rw [h1, h2]
      exact h
    · rw [h1, h2]
      dsimp only
      have m1 : (tv * lw).toInt = tv.toInt * lw.toInt := t_mul (a := 62000) (b := 100) g3 (by omega) (by omega)
      have m2 : (lv * tw).toInt = lv.toInt * tw.toInt := t_mul (a := 62000) (b := 100) L8 (by omega) (by omega)
      have m3 : (ia * lb).toInt = ia.toInt * lb.toInt := t_mulL (a := 62000) (b := 100) (by omega) (by omega) (by omega)
      have m4 : (la * ib).toInt = la.toInt * ib.toInt := t_mulL (a := 62000) (b := 100) (by omega) (by omega) (by omega)
      have m1b := mul_bd (a := 62000) (b := 100) g3.1 g3.2 (show -100 ≤ lw.toInt by omega) L9.2
      have m3b := mul_bd (x := ia.toInt) (y := lb.toInt) (a := 62000) (b := 100) (by omega) (by omega) (by omega) L7.2
      have m4b := mul_bd (x := la.toInt) (y := ib.toInt) (a := 62000) (b := 100) (by omega) (by omega) (by omega) (by omega)
      have m5 : (ia * lb - la * ib).toInt = g * (tv.toInt * lw.toInt - lv.toInt * tw.toInt) := by
        rw [t_subL (by rw [m3, m4]; omega), m3, m4, ← g1, ← g2, L4, L5, Int.mul_sub, Int.mul_left_comm, Int.mul_assoc]
      have hcw : cameB lo hi og di ar lv lw i = wiB cs ab bb la lb i := came_wi L3 L4 L5 L6 L7 L8 L9 (hB i hi') (fun a ha => by
        have q := L1 a ha
        rw [q.1, q.2.1]
        omega) (fun q0 => by
        obtain ⟨z1, z2⟩ := L10 q0
        refine ⟨z1, fun a ha => ?_⟩
        have q := L1 a ha
        obtain ⟨y1, y2, y3, y4⟩ := z2 a ha
        rw [q.1, q.2.1]
        exact ⟨y1, by omega, y3, y4⟩)
      have hO : ∀ (X : Int), (g * X = 0 ↔ X = 0) ∧ (g * X ≤ 0 ↔ X ≤ 0) := by
        intro X
        constructor
        · rw [Int.mul_eq_zero]; omega
        · have := g_le (A := X) (B := 0) L3
          rw [Int.mul_zero] at this
          exact this
      -- what counts
      have hC : ∀ (r : Option (Int32 × Int64 × Int64 × Int64 × Int64)), r = (if ia * lb - la * ib = 0 then (if nI i ≤ lx then none else if wiB cs ab bb la lb i = true then none else some (nI k, ia, ib, oa, ob)) else if ia * lb - la * ib ≤ 0 then none else some (nI k, ia, ib, oa, ob)) →
          (countsB lo hi og di ar lx lv lw tv tw i = true ∧ r = some (nI k, ia, ib, oa, ob) ∧ lv.toInt * tw.toInt ≤ tv.toInt * lw.toInt) ∨ (countsB lo hi og di ar lx lv lw tv tw i = false ∧ r = none) := by
        intro r hr
        unfold countsB
        have z1 : (ia * lb - la * ib = 0) ↔ tv.toInt * lw.toInt - lv.toInt * tw.toInt = 0 := by rw [zL_iff, m5, (hO _).1]
        have z2 : (ia * lb - la * ib ≤ 0) ↔ tv.toInt * lw.toInt - lv.toInt * tw.toInt ≤ 0 := by rw [Int64.le_iff_toInt_le, Int64.toInt_zero, m5, (hO _).2]
        by_cases c : cmpI (tv * lw) (lv * tw) = 0
        · rw [if_pos c]
          rw [cmp_0, m1, m2] at c
          rw [if_pos (z1.mpr (by omega))] at hr
          rw [hcw]
          by_cases c1 : nI i ≤ lx
          · rw [if_pos c1] at hr
            refine Or.inr ⟨?_, hr⟩
            have : ¬ lx < nI i := fun q => by rw [Int32.le_iff_toInt_le] at c1; rw [Int32.lt_iff_toInt_lt] at q; omega
            simp [this]
          · rw [if_neg c1] at hr
            have c2 : lx < nI i := by rw [Int32.le_iff_toInt_le] at c1; rw [Int32.lt_iff_toInt_lt]; omega
            cases hw : wiB cs ab bb la lb i with
            | true => rw [hw, if_pos rfl] at hr; exact Or.inr ⟨by simp, hr⟩
            | false => rw [hw, if_neg (by decide)] at hr; exact Or.inl ⟨by simp [c2], hr, by omega⟩
        · rw [if_neg c]
          have c' : ¬ tv.toInt * lw.toInt = lv.toInt * tw.toInt := fun q => c (by rw [cmp_0, m1, m2]; exact q)
          rw [if_neg (fun q => by have := z1.mp q; omega)] at hr
          by_cases c1 : 0 < cmpI (tv * lw) (lv * tw)
          · have c2 := c1
            rw [cmp_p, m1, m2] at c2
            rw [if_neg (fun q => by have := z2.mp q; omega)] at hr
            exact Or.inl ⟨by simp [c1], hr, by omega⟩
          · have c2 : ¬ lv.toInt * tw.toInt < tv.toInt * lw.toInt := fun q => c1 (by rw [cmp_p, m1, m2]; exact q)
            rw [if_pos (z2.mpr (by omega))] at hr
            exact Or.inr ⟨by simp [c1], hr⟩
      generalize hr : (if ia * lb - la * ib = 0 then (if nI i ≤ lx then none else if wiB cs ab bb la lb i = true then none else some (nI k, ia, ib, oa, ob)) else if ia * lb - la * ib ≤ 0 then none else some (nI k, ia, ib, oa, ob)) = r
      rcases hC r hr.symm with ⟨u1, u2, u3⟩ | ⟨u1, u2⟩
      · rw [u1, u2]
        dsimp only
        have hnew : nR cs pt dr lv lw m (nI i) (nI k) tv tw (nI i) (nI k) ia ib := Or.inr ⟨i, k, him, hk, rfl, rfl, rfl, rfl, g1, g2, g3, ⟨g4, g5⟩, g6, g7, g8, u3⟩
        rcases h with ⟨rfl, rfl⟩ | ⟨j, k2, hj, hk2, rfl, rfl, rfl, rfl, y1, y2, y3, y4, y5, y6, y7, y8⟩
        · rw [if_pos ⟨rfl, Or.inl rfl⟩, if_pos (Or.inl rfl)]
          exact hnew
        · have n1 : (tv * w).toInt = tv.toInt * w.toInt := t_mul (a := 62000) (b := 100) g3 (by omega) (by omega)
          have n2 : (v * tw).toInt = v.toInt * tw.toInt := t_mul (a := 62000) (b := 100) y3 (by omega) (by omega)
          have n3 : (ia * w').toInt = ia.toInt * w'.toInt := t_mulL (a := 62000) (b := 100) (by omega) (by omega) (by omega)
          have n4 : (v' * ib).toInt = v'.toInt * ib.toInt := t_mulL (a := 62000) (b := 100) (by omega) (by omega) (by omega)
          have kj := nI_nm1 (k := j) (by omega)
          by_cases c : tv.toInt * w.toInt < v.toInt * tw.toInt
          · rw [if_pos ⟨rfl, Or.inr (by rw [cmp_n, n1, n2]; exact c)⟩, if_pos (Or.inr (by rw [Int64.le_iff_toInt_le, n3, n4, ← g1, ← g2, ← y1, ← y2]; omega))]
            exact hnew
          · rw [if_neg (fun q => q.2.elim kj (fun z => c (by rw [cmp_n, n1, n2] at z; exact z))), if_neg (fun q => q.elim kj (fun z => z (by rw [Int64.le_iff_toInt_le, n3, n4, ← g1, ← g2, ← y1, ← y2]; omega)))]
            exact Or.inr ⟨j, k2, hj, hk2, rfl, rfl, rfl, rfl, y1, y2, y3, y4, y5, y6, y7, y8⟩
      · rw [u1, u2]
        dsimp only
        rw [if_neg (fun q => Bool.noConfusion q.1)]
        exact h
  · rw [if_neg c0, if_neg c0]
    exact h
theorem nx_all {lo hi og di ar of cs pt dr ab bb of' : Nat → Int32} {lx lv lw : Int32} {la lb : Int64} {B : Int} {nb : Nat}
    (hB : BR lo hi cs nb) (hL : LR B og di ar lv lw pt dr ab bb la lb) (hb : B ≤ 61000) (hn : nb < 2 ^ 31) (ho : ∀ i, i < nb → of i = of' i) :
    ∀ (n i : Nat) (b a v w b' x' : Int32) (v' w' : Int64), i + n = nb → nR cs pt dr lv lw nb b a v w b' x' v' w' →
    nR cs pt dr lv lw nb (fnN lo hi og di ar of lx lv lw n i b a v w).1 (fnN lo hi og di ar of lx lv lw n i b a v w).2.1 (fnN lo hi og di ar of lx lv lw n i b a v w).2.2.1 (fnN lo hi og di ar of lx lv lw n i b a v w).2.2.2
      (nxN cs pt dr ab bb of' lx la lb n i b' x' v' w').1 (nxN cs pt dr ab bb of' lx la lb n i b' x' v' w').2.1 (nxN cs pt dr ab bb of' lx la lb n i b' x' v' w').2.2.1 (nxN cs pt dr ab bb of' lx la lb n i b' x' v' w').2.2.2 := by
  intro n
  induction n with
  | zero => intro i b a v w b' x' v' w' _ h; exact h
  | succ n ih =>
    intro i b a v w b' x' v' w' e h
    unfold fnN nxN
    exact ih (i + 1) _ _ _ _ _ _ _ _ (by omega) (nx_step hB hL hb (by omega) (by omega) hn (ho i (by omega)) h)
