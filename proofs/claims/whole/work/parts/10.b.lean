/-! a line and a box, as the reference reckons it -/
def mtB (d : Int32) : Int64 := if 0 ≤ d then d.toInt64 else (-d).toInt64
def mtE (d : Int32) (low high : Int64) : Int64 := if 0 ≤ d then low else -high
def mtL (d : Int32) (low high : Int64) : Int64 := if 0 ≤ d then high else -low
def mt1 (a : Nat) (f b : Int64) (ix : Int32) (ia ib : Int64) : Int32 × Int64 × Int64 := if ix = -1 ∨ ¬ f * ib ≤ ia * b then (nI a, f, b) else (ix, ia, ib)
def mt2 (g b oa ob : Int64) : Int64 × Int64 := if ob = 0 ∨ ¬ oa * b ≤ g * ob then (g, b) else (oa, ob)
def mLo (cs fr : Nat → Int32) (i a : Nat) : Int64 := (cs (6 * i + a) - fr a).toInt64
def mHi (cs fr : Nat → Int32) (i a : Nat) : Int64 := (cs (6 * i + 3 + a) - fr a).toInt64
def mtN (cs fr al : Nat → Int32) (i : Nat) : Nat → Nat → Int32 → Int64 → Int64 → Int64 → Int64 → Option (Int32 × Int64 × Int64 × Int64 × Int64)
  | 0, _, ix, ia, ib, oa, ob => some (ix, ia, ib, oa, ob)
  | n + 1, a, ix, ia, ib, oa, ob =>
    if al a = 0 then (if 0 ≤ mLo cs fr i a ∨ mHi cs fr i a ≤ 0 then none else mtN cs fr al i n (a + 1) ix ia ib oa ob)
    else mtN cs fr al i n (a + 1) (mt1 a (mtE (al a) (mLo cs fr i a) (mHi cs fr i a)) (mtB (al a)) ix ia ib).1 (mt1 a (mtE (al a) (mLo cs fr i a) (mHi cs fr i a)) (mtB (al a)) ix ia ib).2.1 (mt1 a (mtE (al a) (mLo cs fr i a) (mHi cs fr i a)) (mtB (al a)) ix ia ib).2.2 (mt2 (mtL (al a) (mLo cs fr i a) (mHi cs fr i a)) (mtB (al a)) oa ob).1 (mt2 (mtL (al a) (mLo cs fr i a) (mHi cs fr i a)) (mtB (al a)) oa ob).2
def mtFin : Option (Int32 × Int64 × Int64 × Int64 × Int64) → Option (Int32 × Int64 × Int64 × Int64 × Int64)
  | none => none
  | some (ix, ia, ib, oa, ob) => if oa * ib ≤ ia * ob then none else some (ix, ia, ib, oa, ob)
def mtO (cs fr al : Nat → Int32) (i : Nat) : Option (Int32 × Int64 × Int64 × Int64 × Int64) := mtFin (mtN cs fr al i 3 0 (-1) 0 0 0 0)
/-- a direction that isn't 0 on all axes -/
def nz (al : Nat → Int32) : Prop := ∃ k, k < 3 ∧ ¬ al k = 0
theorem mtN_st (cs fr al : Nat → Int32) (i : Nat) (ia ib oa : Int64) : ∀ (n a : Nat), a + n = 3 → (∃ k, a ≤ k ∧ k < 3 ∧ ¬ al k = 0) → mtN cs fr al i n a (-1) ia ib oa 0 = mtN cs fr al i n a (-1) 0 0 0 0 := by
  intro n
  induction n with
  | zero => rintro a h ⟨k, h1, h2, _⟩; omega
  | succ n ih =>
    rintro a h ⟨k, h1, h2, h3⟩
    rw [mtN, mtN]
    split
    · rename_i h0
      split
      · rfl
      · refine ih (a + 1) (by omega) ⟨k, ?_, h2, h3⟩
        rcases Nat.lt_or_ge a k with h5 | h5
        · exact h5
        · exact absurd (by rw [show k = a by omega]; exact h0) h3
    · simp only [mt1, mt2, true_or, if_true]
theorem mtO_st {cs fr al : Nat → Int32} {i : Nat} (h : nz al) (ia ib oa : Int64) : mtFin (mtN cs fr al i 3 0 (-1) ia ib oa 0) = mtO cs fr al i := by
  obtain ⟨k, h1, h2⟩ := h
  rw [mtO, mtN_st cs fr al i ia ib oa 3 0 rfl ⟨k, Nat.zero_le _, h1, h2⟩]
theorem mtN_ax (cs fr al : Nat → Int32) (i : Nat) : ∀ (n a : Nat) (ix : Int32) (ia ib oa ob : Int64), a + n = 3 → ((∃ k, k < 3 ∧ ix = nI k) ∨ (ix = -1 ∧ ∃ k, a ≤ k ∧ k < 3 ∧ ¬ al k = 0)) → ∀ z, mtN cs fr al i n a ix ia ib oa ob = some z → (∃ k, k < 3 ∧ z.1 = nI k) := by
  intro n
  induction n with
  | zero =>
    intro a ix ia ib oa ob hn h z hz
    simp only [mtN, Option.some.injEq] at hz
    rw [← hz]
    rcases h with h | ⟨_, k, h1, h2, _⟩
    · exact h
    · omega
  | succ n ih =>
    intro a ix ia ib oa ob hn h z hz
    rw [mtN] at hz
    split at hz
    · rename_i h0
      split at hz
      · cases hz
      · refine ih (a + 1) _ _ _ _ _ (by omega) ?_ z hz
        rcases h with h | ⟨h9, k, h1, h2, h3⟩
        · exact Or.inl h
        · refine Or.inr ⟨h9, k, ?_, h2, h3⟩
          rcases Nat.lt_or_ge a k with h5 | h5
          · exact h5
          · exact absurd (by rw [show k = a by omega]; exact h0) h3
    · refine ih (a + 1) _ _ _ _ _ (by omega) ?_ z hz
      unfold mt1
      split
      · exact Or.inl ⟨a, by omega, rfl⟩
      · rename_i h1
        rcases h with h | ⟨h9, _⟩
        · exact Or.inl h
        · exact absurd (Or.inl h9) h1
theorem mtO_ax {cs fr al : Nat → Int32} {i : Nat} (h : nz al) {z : Int32 × Int64 × Int64 × Int64 × Int64} (hz : mtO cs fr al i = some z) : ∃ k, k < 3 ∧ z.1 = nI k := by
  obtain ⟨k, h1, h2⟩ := h
  unfold mtO at hz
  cases hc : mtN cs fr al i 3 0 (-1) 0 0 0 0 with
  | none => rw [hc] at hz; cases hz
  | some q =>
    obtain ⟨ix, ia, ib, oa, ob⟩ := q
    have h3 := mtN_ax cs fr al i 3 0 (-1) 0 0 0 0 rfl (Or.inr ⟨rfl, k, Nat.zero_le _, h1, h2⟩) _ hc
    rw [hc] at hz
    simp only [mtFin] at hz
    split at hz
    · cases hz
    · cases hz
      exact h3
def wiB (cs ab bb : Nat → Int32) (la lb : Int64) (i : Nat) : Bool := !decide (la = 0) && (match mtO cs ab bb i with
  | none => false
  | some z => !decide (la * z.2.2.1 ≤ z.2.1 * lb) && !decide (z.2.2.2.1 * lb < la * z.2.2.2.2))
def ctO (cs pt dr ab bb of : Nat → Int32) (lx : Int32) (la lb : Int64) (i : Nat) : Option (Int32 × Int64 × Int64 × Int64 × Int64) :=
  if of i = 0 then (match mtO cs pt dr i with
    | none => none
    | some z => if z.2.1 * lb - la * z.2.2.1 = 0 then (if nI i ≤ lx then none else if wiB cs ab bb la lb i = true then none else some z) else if z.2.1 * lb - la * z.2.2.1 ≤ 0 then none else some z)
  else none
def nx1 (cs pt dr ab bb of : Nat → Int32) (lx : Int32) (la lb : Int64) (i : Nat) (b x : Int32) (v w : Int64) : Int32 × Int32 × Int64 × Int64 := match ctO cs pt dr ab bb of lx la lb i with
  | none => (b, x, v, w)
  | some z => if b = -1 ∨ ¬ v * z.2.2.1 ≤ z.2.1 * w then (nI i, z.1, z.2.1, z.2.2.1) else (b, x, v, w)
def nxN (cs pt dr ab bb of : Nat → Int32) (lx : Int32) (la lb : Int64) : Nat → Nat → Int32 → Int32 → Int64 → Int64 → Int32 × Int32 × Int64 × Int64
  | 0, _, b, x, v, w => (b, x, v, w)
  | n + 1, i, b, x, v, w => nxN cs pt dr ab bb of lx la lb n (i + 1) (nx1 cs pt dr ab bb of lx la lb i b x v w).1 (nx1 cs pt dr ab bb of lx la lb i b x v w).2.1 (nx1 cs pt dr ab bb of lx la lb i b x v w).2.2.1 (nx1 cs pt dr ab bb of lx la lb i b x v w).2.2.2
theorem ctO_some {cs pt dr ab bb of : Nat → Int32} {lx : Int32} {la lb : Int64} {i : Nat} {z : Int32 × Int64 × Int64 × Int64 × Int64} (h : ctO cs pt dr ab bb of lx la lb i = some z) : mtO cs pt dr i = some z := by
  unfold ctO at h
  split at h
  · split at h
    · cases h
    · rename_i z' hz
      rw [hz]
      split at h
      · split at h
        · cases h
        · split at h
          · cases h
          · exact h
      · split at h
        · cases h
        · exact h
  · cases h
theorem nxN_ok (cs pt dr ab bb of : Nat → Int32) (lx : Int32) (la lb : Int64) (hd : nz dr) (m : Nat) : ∀ (n i : Nat) (b x : Int32) (v w : Int64), i + n = m → NP m b x → NP m (nxN cs pt dr ab bb of lx la lb n i b x v w).1 (nxN cs pt dr ab bb of lx la lb n i b x v w).2.1 := by
  intro n
  induction n with
  | zero => intro i b x v w _ h; exact h
  | succ n ih =>
    intro i b x v w hn h
    rw [nxN]
    refine ih (i + 1) _ _ _ _ (by omega) ?_
    unfold nx1
    split
    · exact h
    · rename_i z hz
      split
      · obtain ⟨k, hk, e⟩ := mtO_ax hd (ctO_some hz)
        exact Or.inr ⟨i, k, by omega, hk, rfl, e⟩
      · exact h

set_option maxHeartbeats 4000000 in
set_option maxRecDepth 100000 in
/-- meets -/
theorem qX4_meets (l : Launch) (D : va_G) (cI cZ cJ : ClassId) (m0 m1 m2 m3 m4 m5 m6 m7 m8 m9 m10 m11 m12 m13 m14 m15 m16 m17 m18 m19 m20 m21 : Nat) (th msz cn li nht lx ix hry rh rl fc : Int32) (la lb ia ib oa ob : Int64) (f1 f2 : Nat) (cs fr al : Nat → Int32) (i : Nat) (hi2 : i < 20) (hal : nz al) (sz : Nat) : Met l yX4_meets (Cond.code yX4_meets cX4_meets 15 (some .boolean) :: gw) ({ frames := 0, cells := 0, slots := 0, locals := 0 }) (wq D [.ref m0, .int (nI i), .ref f1, .ref f2] sz [(m0, .inr (4, [.int th, .int msz, .int cn, .ref m1, .ref m2, .ref m3, .ref m4, .ref m5, .ref m6, .ref m7, .ref m8, .int li, .int nht, .long la, .long lb, .int lx, .long ia, .long ib, .int ix, .long oa, .long ob, .ref m9, .ref m10, .ref m11, .ref m12, .ref m13, .int hry, .int rh, .int rl, .ref m14, .ref m15, .ref m16, .ref m17, .ref m18, .ref m19, .ref m20, .int fc, .ref m21])), (m1, .inl (cI, 120, .inl cs)), (f1, .inl (cI, 3, .inl fr)), (f2, .inl (cI, 3, .inl al))] [(cI, .int), (cZ, .boolean), (cJ, .long)]) (va_Qi (S := Int32 × Int64 × Int64 × Int64 × Int64) (fun r u => r = bI ((mtO cs fr al i)).isSome ∧ ∀ z, (mtO cs fr al i) = some z → u = z) (fun u => bq D [(cI, .int), (cZ, .boolean), (cJ, .long)] (va_A [(m0, .inr (4, [.int th, .int msz, .int cn, .ref m1, .ref m2, .ref m3, .ref m4, .ref m5, .ref m6, .ref m7, .ref m8, .int li, .int nht, .long la, .long lb, .int lx, .long ia, .long ib, .int ix, .long oa, .long ob, .ref m9, .ref m10, .ref m11, .ref m12, .ref m13, .int hry, .int rh, .int rl, .ref m14, .ref m15, .ref m16, .ref m17, .ref m18, .ref m19, .ref m20, .int fc, .ref m21])), (m1, .inl (cI, 120, .inl cs)), (f1, .inl (cI, 3, .inl fr)), (f2, .inl (cI, 3, .inl al))] sz) ([(m0, .inr (4, [.int th, .int msz, .int cn, .ref m1, .ref m2, .ref m3, .ref m4, .ref m5, .ref m6, .ref m7, .ref m8, .int li, .int nht, .long la, .long lb, .int lx, .long u.2.1, .long u.2.2.1, .int u.1, .long u.2.2.2.1, .long u.2.2.2.2, .ref m9, .ref m10, .ref m11, .ref m12, .ref m13, .int hry, .int rh, .int rl, .ref m14, .ref m15, .ref m16, .ref m17, .ref m18, .ref m19, .ref m20, .int fc, .ref m21])), (m1, .inl (cI, 120, .inl cs)), (f1, .inl (cI, 3, .inl fr)), (f2, .inl (cI, 3, .inl al))])) (va_A [(m0, .inr (4, [.int th, .int msz, .int cn, .ref m1, .ref m2, .ref m3, .ref m4, .ref m5, .ref m6, .ref m7, .ref m8, .int li, .int nht, .long la, .long lb, .int lx, .long ia, .long ib, .int ix, .long oa, .long ob, .ref m9, .ref m10, .ref m11, .ref m12, .ref m13, .int hry, .int rh, .int rl, .ref m14, .ref m15, .ref m16, .ref m17, .ref m18, .ref m19, .ref m20, .int fc, .ref m21])), (m1, .inl (cI, 120, .inl cs)), (f1, .inl (cI, 3, .inl fr)), (f2, .inl (cI, 3, .inl al))] sz)) 0 0 (va_A [(m0, .inr (4, [.int th, .int msz, .int cn, .ref m1, .ref m2, .ref m3, .ref m4, .ref m5, .ref m6, .ref m7, .ref m8, .int li, .int nht, .long la, .long lb, .int lx, .long ia, .long ib, .int ix, .long oa, .long ob, .ref m9, .ref m10, .ref m11, .ref m12, .ref m13, .int hry, .int rh, .int rl, .ref m14, .ref m15, .ref m16, .ref m17, .ref m18, .ref m19, .ref m20, .int fc, .ref m21])), (m1, .inl (cI, 120, .inl cs)), (f1, .inl (cI, 3, .inl fr)), (f2, .inl (cI, 3, .inl al))] sz) := by
  refine Met.ofW (cc := cX4_meets) (maxL := 15) (ret := (some .boolean)) (by decide) rfl ?_
  intro p e s m args below meth c s₁ B hml hv
  obtain ⟨rfl, hsz, hP, hK, hD0, hZ⟩ := hv
  have hx := B.exec
  have hb := B.bytes
  have hr := B.returns
  have hg : ∀ w ∈ gw, w.before _ s = true := fun w h => atoms_spec (ws := Cond.code yX4_meets cX4_meets 15 (some .boolean) :: gw) B.pre w (List.mem_cons_of_mem _ h)
  have hown : s.vm.findClass RX4 = some m.cls := findClass_of_methodNamed B.named
  have hlocks := B.notSynchronized
  subst hsz
  have hD := hD0.self (sz := s.heap.size)
  generalize hAe : va_A [(m0, .inr (4, [.int th, .int msz, .int cn, .ref m1, .ref m2, .ref m3, .ref m4, .ref m5, .ref m6, .ref m7, .ref m8, .int li, .int nht, .long la, .long lb, .int lx, .long ia, .long ib, .int ix, .long oa, .long ob, .ref m9, .ref m10, .ref m11, .ref m12, .ref m13, .int hry, .int rh, .int rl, .ref m14, .ref m15, .ref m16, .ref m17, .ref m18, .ref m19, .ref m20, .int fc, .ref m21])), (m1, .inl (cI, 120, .inl cs)), (f1, .inl (cI, 3, .inl fr)), (f2, .inl (cI, 3, .inl al))] s.heap.size = A at hD ⊢
  have hA : ∀ q : Nat, s.heap.size ≤ q → A q := fun q h => by rw [← hAe]; exact Or.inr h
  have hS : va_S A s.heap s.heap [] := va_S.rf
  have hP : va_P D vwCl [(m0, .inr (4, [.int th, .int msz, .int cn, .ref m1, .ref m2, .ref m3, .ref m4, .ref m5, .ref m6, .ref m7, .ref m8, .int li, .int nht, .long la, .long lb, .int lx, .long ia, .long ib, .int ix, .long oa, .long ob, .ref m9, .ref m10, .ref m11, .ref m12, .ref m13, .int hry, .int rh, .int rl, .ref m14, .ref m15, .ref m16, .ref m17, .ref m18, .ref m19, .ref m20, .int fc, .ref m21])), (m1, .inl (cI, 120, .inl cs)), (f1, .inl (cI, 3, .inl fr)), (f2, .inl (cI, 3, .inl al))] s.heap := hP
  have hl := lv_entry ([.ref m0, .int (nI i), .ref f1, .ref f2]) (n := 15) (Nat.le_of_ble_eq_true rfl)
  rw [lg_entry_eq]
  generalize (lg_sl ([.ref m0, .int (nI i), .ref f1, .ref f2]) ++ List.replicate (15 - (lg_sl ([.ref m0, .int (nI i), .ref f1, .ref f2])).length) Slot.unset).toArray = ls at hl ⊢
  have hl : lv_has ls 15 [(0, .ref m0), (1, .int (nI i)), (2, .ref f1), (3, .ref f2)] := hl
  refine lv_aload_n hx hb dX4_meets_0 rfl (lv_at hl 0 rfl) ?_
  refine lv_iconst (v := (-1)) hx hb dX4_meets_1 (by decide) ?_
  refine va_put (D := D) (ci := 4) (v := .int (-1)) (ty := .int) (C := RX4) (T := TX4) (N := 38) hx hb hg iX4 tyX4 tyX4_ok nmX4 hown hK hP hD hS 0 rfl rfl 18 (by decide) (hg _ kw511) (fun _ h9 => h9) rfl (by decide +kernel) rfl rfl (Nat.le_of_ble_eq_true rfl) dX4_meets_2 (fun H locs hP hD hS => ?_)
  have hP : va_P D vwCl [(m0, .inr (4, [.int th, .int msz, .int cn, .ref m1, .ref m2, .ref m3, .ref m4, .ref m5, .ref m6, .ref m7, .ref m8, .int li, .int nht, .long la, .long lb, .int lx, .long ia, .long ib, .int (-1), .long oa, .long ob, .ref m9, .ref m10, .ref m11, .ref m12, .ref m13, .int hry, .int rh, .int rl, .ref m14, .ref m15, .ref m16, .ref m17, .ref m18, .ref m19, .ref m20, .int fc, .ref m21])), (m1, .inl (cI, 120, .inl cs)), (f1, .inl (cI, 3, .inl fr)), (f2, .inl (cI, 3, .inl al))] H := hP
  have hD : va_D A [(m0, .inr (4, [.int th, .int msz, .int cn, .ref m1, .ref m2, .ref m3, .ref m4, .ref m5, .ref m6, .ref m7, .ref m8, .int li, .int nht, .long la, .long lb, .int lx, .long ia, .long ib, .int (-1), .long oa, .long ob, .ref m9, .ref m10, .ref m11, .ref m12, .ref m13, .int hry, .int rh, .int rl, .ref m14, .ref m15, .ref m16, .ref m17, .ref m18, .ref m19, .ref m20, .int fc, .ref m21])), (m1, .inl (cI, 120, .inl cs)), (f1, .inl (cI, 3, .inl fr)), (f2, .inl (cI, 3, .inl al))] := hD
  refine lv_aload_n hx hb dX4_meets_5 rfl (lv_at hl 0 rfl) ?_
  refine lv_lconst (v := 0) hx hb dX4_meets_6 (by decide) ?_
  refine va_put (D := D) (ci := 4) (v := .long 0) (ty := .long) (C := RX4) (T := TX4) (N := 38) hx hb hg iX4 tyX4 tyX4_ok nmX4 hown hK hP hD hS 0 rfl rfl 20 (by decide) (hg _ kw513) (fun _ h9 => h9) rfl (by decide +kernel) rfl rfl (Nat.le_of_ble_eq_true rfl) dX4_meets_7 (fun H locs hP hD hS => ?_)
  have hP : va_P D vwCl [(m0, .inr (4, [.int th, .int msz, .int cn, .ref m1, .ref m2, .ref m3, .ref m4, .ref m5, .ref m6, .ref m7, .ref m8, .int li, .int nht, .long la, .long lb, .int lx, .long ia, .long ib, .int (-1), .long oa, .long 0, .ref m9, .ref m10, .ref m11, .ref m12, .ref m13, .int hry, .int rh, .int rl, .ref m14, .ref m15, .ref m16, .ref m17, .ref m18, .ref m19, .ref m20, .int fc, .ref m21])), (m1, .inl (cI, 120, .inl cs)), (f1, .inl (cI, 3, .inl fr)), (f2, .inl (cI, 3, .inl al))] H := hP
  have hD : va_D A [(m0, .inr (4, [.int th, .int msz, .int cn, .ref m1, .ref m2, .ref m3, .ref m4, .ref m5, .ref m6, .ref m7, .ref m8, .int li, .int nht, .long la, .long lb, .int lx, .long ia, .long ib, .int (-1), .long oa, .long 0, .ref m9, .ref m10, .ref m11, .ref m12, .ref m13, .int hry, .int rh, .int rl, .ref m14, .ref m15, .ref m16, .ref m17, .ref m18, .ref m19, .ref m20, .int fc, .ref m21])), (m1, .inl (cI, 120, .inl cs)), (f1, .inl (cI, 3, .inl fr)), (f2, .inl (cI, 3, .inl al))] := hD
  refine lv_iconst (v := 0) hx hb dX4_meets_10 (by decide) ?_
  refine lv_istore (lv' := [(4, .int 0), (0, .ref m0), (1, .int (nI i)), (2, .ref f1), (3, .ref f2)]) hx hb dX4_meets_11 hl (by decide) rfl (fun ls hl => ?_)
  rw [← mtO_st (cs := cs) (fr := fr) (i := i) hal ia ib oa]
  have loop_1 : ∀ (n : Nat) (a : Nat) (ix : Int32) (ia ib oa ob : Int64), a + n = 3 → ∀ (H : Heap) (locs : List Loc) (ls : Array Slot), va_P D vwCl [(m0, .inr (4, [.int th, .int msz, .int cn, .ref m1, .ref m2, .ref m3, .ref m4, .ref m5, .ref m6, .ref m7, .ref m8, .int li, .int nht, .long la, .long lb, .int lx, .long ia, .long ib, .int ix, .long oa, .long ob, .ref m9, .ref m10, .ref m11, .ref m12, .ref m13, .int hry, .int rh, .int rl, .ref m14, .ref m15, .ref m16, .ref m17, .ref m18, .ref m19, .ref m20, .int fc, .ref m21])), (m1, .inl (cI, 120, .inl cs)), (f1, .inl (cI, 3, .inl fr)), (f2, .inl (cI, 3, .inl al))] H → va_D A [(m0, .inr (4, [.int th, .int msz, .int cn, .ref m1, .ref m2, .ref m3, .ref m4, .ref m5, .ref m6, .ref m7, .ref m8, .int li, .int nht, .long la, .long lb, .int lx, .long ia, .long ib, .int ix, .long oa, .long ob, .ref m9, .ref m10, .ref m11, .ref m12, .ref m13, .int hry, .int rh, .int rl, .ref m14, .ref m15, .ref m16, .ref m17, .ref m18, .ref m19, .ref m20, .int fc, .ref m21])), (m1, .inl (cI, 120, .inl cs)), (f1, .inl (cI, 3, .inl fr)), (f2, .inl (cI, 3, .inl al))] → va_S A s.heap H locs → lv_has ls 15 [(0, .ref m0), (1, .int (nI i)), (2, .ref f1), (3, .ref f2), (4, .int (nI a))] → W p l e (headSpec (Cond.code yX4_meets cX4_meets 15 (some .boolean) :: gw) ({ frames := 0, cells := 0, slots := 0, locals := 0 })).room s m ([.ref m0, .int (nI i), .ref f1, .ref f2] : List Value).toArray below meth c H locs 0 0 (MQ below (va_Qi (S := Int32 × Int64 × Int64 × Int64 × Int64) (fun r u => r = bI ((mtFin (mtN cs fr al i n a ix ia ib oa ob))).isSome ∧ ∀ z, (mtFin (mtN cs fr al i n a ix ia ib oa ob)) = some z → u = z) (fun u => bq D [(cI, .int), (cZ, .boolean), (cJ, .long)] A ([(m0, .inr (4, [.int th, .int msz, .int cn, .ref m1, .ref m2, .ref m3, .ref m4, .ref m5, .ref m6, .ref m7, .ref m8, .int li, .int nht, .long la, .long lb, .int lx, .long u.2.1, .long u.2.2.1, .int u.1, .long u.2.2.2.1, .long u.2.2.2.2, .ref m9, .ref m10, .ref m11, .ref m12, .ref m13, .int hry, .int rh, .int rl, .ref m14, .ref m15, .ref m16, .ref m17, .ref m18, .ref m19, .ref m20, .int fc, .ref m21])), (m1, .inl (cI, 120, .inl cs)), (f1, .inl (cI, 3, .inl fr)), (f2, .inl (cI, 3, .inl al))])) A) ([.ref m0, .int (nI i), .ref f1, .ref f2] : List Value).toArray s 0 0 A) (F0 m 13 ls []) := by
    intro n
    induction n with
    | zero =>
      intro a ix ia ib oa ob hlpn H locs ls hP hD hS hl
      refine lv_iload hx hb dX4_meets_13 (lv_at hl 4 rfl) ?_
      refine lv_iconst (v := 3) hx hb dX4_meets_15 (by decide) ?_
      refine lv_icmp_ge (tgt := 230) hx hb dX4_meets_16 (by decide) (fun _ => ?_) (fun c16 => absurd (nI_le (a := 3) (by omega) (by omega)) c16)
      refine lv_aload_n hx hb dX4_meets_230 rfl (lv_at hl 0 rfl) ?_
      refine va_get (D := D) (ci := 4) (v := .long ia) (C := RX4) (T := TX4) (N := 38) hx hb hg iX4 hown hK hP 0 rfl rfl 16 (by decide) (hg _ kw509) (fun _ h9 => h9) rfl dX4_meets_231 ?_
      refine lv_aload_n hx hb dX4_meets_234 rfl (lv_at hl 0 rfl) ?_
      refine va_get (D := D) (ci := 4) (v := .long ob) (C := RX4) (T := TX4) (N := 38) hx hb hg iX4 hown hK hP 0 rfl rfl 20 (by decide) (hg _ kw513) (fun _ h9 => h9) rfl dX4_meets_235 ?_
      refine lv_lmul hx hb dX4_meets_238 ?_
      refine lv_aload_n hx hb dX4_meets_239 rfl (lv_at hl 0 rfl) ?_
      refine va_get (D := D) (ci := 4) (v := .long oa) (C := RX4) (T := TX4) (N := 38) hx hb hg iX4 hown hK hP 0 rfl rfl 19 (by decide) (hg _ kw512) (fun _ h9 => h9) rfl dX4_meets_240 ?_
      refine lv_aload_n hx hb dX4_meets_243 rfl (lv_at hl 0 rfl) ?_
      refine va_get (D := D) (ci := 4) (v := .long ib) (C := RX4) (T := TX4) (N := 38) hx hb hg iX4 hown hK hP 0 rfl rfl 17 (by decide) (hg _ kw510) (fun _ h9 => h9) rfl dX4_meets_244 ?_
      refine lv_lmul hx hb dX4_meets_247 ?_
      refine W.lcmp hx hb dX4_meets_248 ?_
      refine lv_if_ge (tgt := 256) hx hb dX4_meets_249 (by decide) (fun c249 => ?_) (fun c249 => ?_)
      · replace c249 := (lg_cmp_ge _ _).mp c249
        have c249n := Int64.not_lt.mpr c249
        refine lv_iconst (v := 0) hx hb dX4_meets_256 (by decide) ?_
        exact W.zret (v := 0) hx hb hr (by decide) (fun t ht hW => ⟨⟨0, (ix, ia, ib, oa, ob), rfl, ⟨by simp [mtN, mtFin, bI, c249, c249n], by simp [mtN, mtFin, c249, c249n]⟩, bq_end hP hK hD ht hW⟩, hS.F ht⟩) hS.2.2 dX4_meets_257
      · replace c249 := (not_congr (lg_cmp_ge _ _)).mp c249
        have c249n := Int64.not_le.mp c249
        refine lv_iconst (v := 1) hx hb dX4_meets_252 (by decide) ?_
        refine lv_goto (tgt := 257) hx hb dX4_meets_253 (by decide) ?_
        exact W.zret (v := 1) hx hb hr (by decide) (fun t ht hW => ⟨⟨1, (ix, ia, ib, oa, ob), rfl, ⟨by simp [mtN, mtFin, bI, c249, c249n], by simp [mtN, mtFin, c249, c249n]⟩, bq_end hP hK hD ht hW⟩, hS.F ht⟩) hS.2.2 dX4_meets_257
    | succ n ih =>
      intro a ix ia ib oa ob hlpn H locs ls hP hD hS hl
      refine lv_iload hx hb dX4_meets_13 (lv_at hl 4 rfl) ?_
      refine lv_iconst (v := 3) hx hb dX4_meets_15 (by decide) ?_
      refine lv_icmp_ge (tgt := 230) hx hb dX4_meets_16 (by decide) (fun c16 => absurd c16 (nI_ge (b := 3) (by omega) (by omega))) (fun _ => ?_)
      refine lv_aload_n hx hb dX4_meets_19 rfl (lv_at hl 0 rfl) ?_
      refine va_get (D := D) (ci := 4) (v := .ref m1) (C := RX4) (T := TX4) (N := 38) hx hb hg iX4 hown hK hP 0 rfl rfl 3 (by decide) (hg _ kw496) (fun _ h9 => h9) rfl dX4_meets_20 ?_
      refine lv_bipush (v := 6) hx hb dX4_meets_23 (by decide) ?_
      refine lv_iload_n hx hb dX4_meets_25 rfl (lv_at hl 1 rfl) ?_
      refine lv_imul hx hb dX4_meets_26 ?_
      refine lv_iload hx hb dX4_meets_27 (lv_at hl 4 rfl) ?_
      refine lv_iadd hx hb dX4_meets_29 ?_
      refine va_iald hx hb hK hP 1 0 rfl rfl (vin6 (by omega) (by decide)) dX4_meets_30 ?_
      refine tp_i (y := cs (6 * i + a)) (congrArg cs (vcl6 (by omega))) ?_
      refine lv_aload_n hx hb dX4_meets_31 rfl (lv_at hl 2 rfl) ?_
      refine lv_iload hx hb dX4_meets_32 (lv_at hl 4 rfl) ?_
      refine va_iald hx hb hK hP 2 0 rfl rfl (vp_in_nI (by omega) (by decide)) dX4_meets_34 ?_
      refine tp_i (y := fr a) (congrArg fr (nI_clamp (by omega))) ?_
      refine lv_isub hx hb dX4_meets_35 ?_
      refine lv_i2l hx hb dX4_meets_36 rfl ?_
      refine tp_l (y := mLo cs fr i a) (rfl) ?_
      refine lv_lstore (lv' := [(5, .long (mLo cs fr i a)), (0, .ref m0), (1, .int (nI i)), (2, .ref f1), (3, .ref f2), (4, .int (nI a))]) hx hb dX4_meets_37 hl (by decide) rfl (fun ls hl => ?_)
      refine lv_aload_n hx hb dX4_meets_39 rfl (lv_at hl 1 rfl) ?_
      refine va_get (D := D) (ci := 4) (v := .ref m1) (C := RX4) (T := TX4) (N := 38) hx hb hg iX4 hown hK hP 0 rfl rfl 3 (by decide) (hg _ kw496) (fun _ h9 => h9) rfl dX4_meets_40 ?_
      refine lv_bipush (v := 6) hx hb dX4_meets_43 (by decide) ?_
      refine lv_iload_n hx hb dX4_meets_45 rfl (lv_at hl 2 rfl) ?_
      refine lv_imul hx hb dX4_meets_46 ?_
      refine lv_iconst (v := 3) hx hb dX4_meets_47 (by decide) ?_
      refine lv_iadd hx hb dX4_meets_48 ?_
      refine lv_iload hx hb dX4_meets_49 (lv_at hl 5 rfl) ?_
      refine lv_iadd hx hb dX4_meets_51 ?_
      refine va_iald hx hb hK hP 1 0 rfl rfl (vin63 (by omega) (by decide)) dX4_meets_52 ?_
      refine tp_i (y := cs (6 * i + 3 + a)) (congrArg cs (vcl63 (by omega))) ?_
      refine lv_aload_n hx hb dX4_meets_53 rfl (lv_at hl 3 rfl) ?_
      refine lv_iload hx hb dX4_meets_54 (lv_at hl 5 rfl) ?_
      refine va_iald hx hb hK hP 2 0 rfl rfl (vp_in_nI (by omega) (by decide)) dX4_meets_56 ?_
      refine tp_i (y := fr a) (congrArg fr (nI_clamp (by omega))) ?_
      refine lv_isub hx hb dX4_meets_57 ?_
      refine lv_i2l hx hb dX4_meets_58 rfl ?_
      refine tp_l (y := mHi cs fr i a) (rfl) ?_
      refine lv_lstore (lv' := [(7, .long (mHi cs fr i a)), (5, .long (mLo cs fr i a)), (0, .ref m0), (1, .int (nI i)), (2, .ref f1), (3, .ref f2), (4, .int (nI a))]) hx hb dX4_meets_59 hl (by decide) rfl (fun ls hl => ?_)
      refine lv_aload_n hx hb dX4_meets_61 rfl (lv_at hl 5 rfl) ?_
      refine lv_iload hx hb dX4_meets_62 (lv_at hl 6 rfl) ?_
      refine va_iald hx hb hK hP 3 0 rfl rfl (vp_in_nI (by omega) (by decide)) dX4_meets_64 ?_
      refine tp_i (y := al a) (congrArg al (nI_clamp (by omega))) ?_
      refine lv_if_ne (tgt := 84) hx hb dX4_meets_65 (by decide) (fun c65 => ?_) (fun c65 => ?_)
      · have J_2 : W p l e (headSpec (Cond.code yX4_meets cX4_meets 15 (some .boolean) :: gw) ({ frames := 0, cells := 0, slots := 0, locals := 0 })).room s m ([.ref m0, .int (nI i), .ref f1, .ref f2] : List Value).toArray below meth c H locs 0 0 (MQ below (va_Qi (S := Int32 × Int64 × Int64 × Int64 × Int64) (fun r u => r = bI ((mtFin (mtN cs fr al i (n + 1) a ix ia ib oa ob))).isSome ∧ ∀ z, (mtFin (mtN cs fr al i (n + 1) a ix ia ib oa ob)) = some z → u = z) (fun u => bq D [(cI, .int), (cZ, .boolean), (cJ, .long)] A ([(m0, .inr (4, [.int th, .int msz, .int cn, .ref m1, .ref m2, .ref m3, .ref m4, .ref m5, .ref m6, .ref m7, .ref m8, .int li, .int nht, .long la, .long lb, .int lx, .long u.2.1, .long u.2.2.1, .int u.1, .long u.2.2.2.1, .long u.2.2.2.2, .ref m9, .ref m10, .ref m11, .ref m12, .ref m13, .int hry, .int rh, .int rl, .ref m14, .ref m15, .ref m16, .ref m17, .ref m18, .ref m19, .ref m20, .int fc, .ref m21])), (m1, .inl (cI, 120, .inl cs)), (f1, .inl (cI, 3, .inl fr)), (f2, .inl (cI, 3, .inl al))])) A) ([.ref m0, .int (nI i), .ref f1, .ref f2] : List Value).toArray s 0 0 A) (F0 m 105 ls [.long (mtB (al a))]) := by
          refine lv_lstore (lv' := [(9, .long (mtB (al a))), (7, .long (mHi cs fr i a)), (5, .long (mLo cs fr i a)), (0, .ref m0), (1, .int (nI i)), (2, .ref f1), (3, .ref f2), (4, .int (nI a))]) hx hb dX4_meets_105 hl (by decide) rfl (fun ls hl => ?_)
          have J_3 : W p l e (headSpec (Cond.code yX4_meets cX4_meets 15 (some .boolean) :: gw) ({ frames := 0, cells := 0, slots := 0, locals := 0 })).room s m ([.ref m0, .int (nI i), .ref f1, .ref f2] : List Value).toArray below meth c H locs 0 0 (MQ below (va_Qi (S := Int32 × Int64 × Int64 × Int64 × Int64) (fun r u => r = bI ((mtFin (mtN cs fr al i (n + 1) a ix ia ib oa ob))).isSome ∧ ∀ z, (mtFin (mtN cs fr al i (n + 1) a ix ia ib oa ob)) = some z → u = z) (fun u => bq D [(cI, .int), (cZ, .boolean), (cJ, .long)] A ([(m0, .inr (4, [.int th, .int msz, .int cn, .ref m1, .ref m2, .ref m3, .ref m4, .ref m5, .ref m6, .ref m7, .ref m8, .int li, .int nht, .long la, .long lb, .int lx, .long u.2.1, .long u.2.2.1, .int u.1, .long u.2.2.2.1, .long u.2.2.2.2, .ref m9, .ref m10, .ref m11, .ref m12, .ref m13, .int hry, .int rh, .int rl, .ref m14, .ref m15, .ref m16, .ref m17, .ref m18, .ref m19, .ref m20, .int fc, .ref m21])), (m1, .inl (cI, 120, .inl cs)), (f1, .inl (cI, 3, .inl fr)), (f2, .inl (cI, 3, .inl al))])) A) ([.ref m0, .int (nI i), .ref f1, .ref f2] : List Value).toArray s 0 0 A) (F0 m 122 ls [.long (mtE (al a) (mLo cs fr i a) (mHi cs fr i a))]) := by
            refine lv_lstore (lv' := [(11, .long (mtE (al a) (mLo cs fr i a) (mHi cs fr i a))), (9, .long (mtB (al a))), (7, .long (mHi cs fr i a)), (5, .long (mLo cs fr i a)), (0, .ref m0), (1, .int (nI i)), (2, .ref f1), (3, .ref f2), (4, .int (nI a))]) hx hb dX4_meets_122 hl (by decide) rfl (fun ls hl => ?_)
            have J_4 : W p l e (headSpec (Cond.code yX4_meets cX4_meets 15 (some .boolean) :: gw) ({ frames := 0, cells := 0, slots := 0, locals := 0 })).room s m ([.ref m0, .int (nI i), .ref f1, .ref f2] : List Value).toArray below meth c H locs 0 0 (MQ below (va_Qi (S := Int32 × Int64 × Int64 × Int64 × Int64) (fun r u => r = bI ((mtFin (mtN cs fr al i (n + 1) a ix ia ib oa ob))).isSome ∧ ∀ z, (mtFin (mtN cs fr al i (n + 1) a ix ia ib oa ob)) = some z → u = z) (fun u => bq D [(cI, .int), (cZ, .boolean), (cJ, .long)] A ([(m0, .inr (4, [.int th, .int msz, .int cn, .ref m1, .ref m2, .ref m3, .ref m4, .ref m5, .ref m6, .ref m7, .ref m8, .int li, .int nht, .long la, .long lb, .int lx, .long u.2.1, .long u.2.2.1, .int u.1, .long u.2.2.2.1, .long u.2.2.2.2, .ref m9, .ref m10, .ref m11, .ref m12, .ref m13, .int hry, .int rh, .int rl, .ref m14, .ref m15, .ref m16, .ref m17, .ref m18, .ref m19, .ref m20, .int fc, .ref m21])), (m1, .inl (cI, 120, .inl cs)), (f1, .inl (cI, 3, .inl fr)), (f2, .inl (cI, 3, .inl al))])) A) ([.ref m0, .int (nI i), .ref f1, .ref f2] : List Value).toArray s 0 0 A) (F0 m 139 ls [.long (mtL (al a) (mLo cs fr i a) (mHi cs fr i a))]) := by
              refine lv_lstore (lv' := [(13, .long (mtL (al a) (mLo cs fr i a) (mHi cs fr i a))), (11, .long (mtE (al a) (mLo cs fr i a) (mHi cs fr i a))), (9, .long (mtB (al a))), (7, .long (mHi cs fr i a)), (5, .long (mLo cs fr i a)), (0, .ref m0), (1, .int (nI i)), (2, .ref f1), (3, .ref f2), (4, .int (nI a))]) hx hb dX4_meets_139 hl (by decide) rfl (fun ls hl => ?_)
              have K_5 : ∀ (ix1 : Int32) (ia1 ib1 : Int64), ((ix1, ia1, ib1) = mt1 a (mtE (al a) (mLo cs fr i a) (mHi cs fr i a)) (mtB (al a)) ix ia ib) → ∀ (H : Heap) (locs : List Loc) (ls : Array Slot), va_P D vwCl [(m0, .inr (4, [.int th, .int msz, .int cn, .ref m1, .ref m2, .ref m3, .ref m4, .ref m5, .ref m6, .ref m7, .ref m8, .int li, .int nht, .long la, .long lb, .int lx, .long ia1, .long ib1, .int ix1, .long oa, .long ob, .ref m9, .ref m10, .ref m11, .ref m12, .ref m13, .int hry, .int rh, .int rl, .ref m14, .ref m15, .ref m16, .ref m17, .ref m18, .ref m19, .ref m20, .int fc, .ref m21])), (m1, .inl (cI, 120, .inl cs)), (f1, .inl (cI, 3, .inl fr)), (f2, .inl (cI, 3, .inl al))] H → va_D A [(m0, .inr (4, [.int th, .int msz, .int cn, .ref m1, .ref m2, .ref m3, .ref m4, .ref m5, .ref m6, .ref m7, .ref m8, .int li, .int nht, .long la, .long lb, .int lx, .long ia1, .long ib1, .int ix1, .long oa, .long ob, .ref m9, .ref m10, .ref m11, .ref m12, .ref m13, .int hry, .int rh, .int rl, .ref m14, .ref m15, .ref m16, .ref m17, .ref m18, .ref m19, .ref m20, .int fc, .ref m21])), (m1, .inl (cI, 120, .inl cs)), (f1, .inl (cI, 3, .inl fr)), (f2, .inl (cI, 3, .inl al))] → va_S A s.heap H locs → lv_has ls 15 [(13, .long (mtL (al a) (mLo cs fr i a) (mHi cs fr i a))), (11, .long (mtE (al a) (mLo cs fr i a) (mHi cs fr i a))), (9, .long (mtB (al a))), (7, .long (mHi cs fr i a)), (5, .long (mLo cs fr i a)), (0, .ref m0), (1, .int (nI i)), (2, .ref f1), (3, .ref f2), (4, .int (nI a))] → W p l e (headSpec (Cond.code yX4_meets cX4_meets 15 (some .boolean) :: gw) ({ frames := 0, cells := 0, slots := 0, locals := 0 })).room s m ([.ref m0, .int (nI i), .ref f1, .ref f2] : List Value).toArray below meth c H locs 0 0 (MQ below (va_Qi (S := Int32 × Int64 × Int64 × Int64 × Int64) (fun r u => r = bI ((mtFin (mtN cs fr al i (n + 1) a ix ia ib oa ob))).isSome ∧ ∀ z, (mtFin (mtN cs fr al i (n + 1) a ix ia ib oa ob)) = some z → u = z) (fun u => bq D [(cI, .int), (cZ, .boolean), (cJ, .long)] A ([(m0, .inr (4, [.int th, .int msz, .int cn, .ref m1, .ref m2, .ref m3, .ref m4, .ref m5, .ref m6, .ref m7, .ref m8, .int li, .int nht, .long la, .long lb, .int lx, .long u.2.1, .long u.2.2.1, .int u.1, .long u.2.2.2.1, .long u.2.2.2.2, .ref m9, .ref m10, .ref m11, .ref m12, .ref m13, .int hry, .int rh, .int rl, .ref m14, .ref m15, .ref m16, .ref m17, .ref m18, .ref m19, .ref m20, .int fc, .ref m21])), (m1, .inl (cI, 120, .inl cs)), (f1, .inl (cI, 3, .inl fr)), (f2, .inl (cI, 3, .inl al))])) A) ([.ref m0, .int (nI i), .ref f1, .ref f2] : List Value).toArray s 0 0 A) (F0 m 185 ls []) := by
                intro ix1 ia1 ib1 hq H locs ls hP hD hS hl
                refine lv_aload_n hx hb dX4_meets_185 rfl (lv_at hl 5 rfl) ?_
                refine va_get (D := D) (ci := 4) (v := .long ob) (C := RX4) (T := TX4) (N := 38) hx hb hg iX4 hown hK hP 0 rfl rfl 20 (by decide) (hg _ kw513) (fun _ h9 => h9) rfl dX4_meets_186 ?_
                refine lv_lconst (v := 0) hx hb dX4_meets_189 (by decide) ?_
                refine W.lcmp hx hb dX4_meets_190 ?_
                refine lv_if_eq (tgt := 212) hx hb dX4_meets_191 (by decide) (fun c191 => ?_) (fun c191 => ?_)
                · replace c191 := (lg_cmp_eq _ _).mp c191
                  refine lv_aload_n hx hb dX4_meets_212 rfl (lv_at hl 5 rfl) ?_
                  refine lv_lload hx hb dX4_meets_213 (lv_at hl 0 rfl) ?_
                  refine va_put (D := D) (ci := 4) (v := .long (mtL (al a) (mLo cs fr i a) (mHi cs fr i a))) (ty := .long) (C := RX4) (T := TX4) (N := 38) hx hb hg iX4 tyX4 tyX4_ok nmX4 hown hK hP hD hS 0 rfl rfl 19 (by decide) (hg _ kw512) (fun _ h9 => h9) rfl (by decide +kernel) rfl rfl (Nat.le_of_ble_eq_true rfl) dX4_meets_215 (fun H locs hP hD hS => ?_)
                  have hP : va_P D vwCl [(m0, .inr (4, [.int th, .int msz, .int cn, .ref m1, .ref m2, .ref m3, .ref m4, .ref m5, .ref m6, .ref m7, .ref m8, .int li, .int nht, .long la, .long lb, .int lx, .long ia1, .long ib1, .int ix1, .long (mtL (al a) (mLo cs fr i a) (mHi cs fr i a)), .long ob, .ref m9, .ref m10, .ref m11, .ref m12, .ref m13, .int hry, .int rh, .int rl, .ref m14, .ref m15, .ref m16, .ref m17, .ref m18, .ref m19, .ref m20, .int fc, .ref m21])), (m1, .inl (cI, 120, .inl cs)), (f1, .inl (cI, 3, .inl fr)), (f2, .inl (cI, 3, .inl al))] H := hP
                  have hD : va_D A [(m0, .inr (4, [.int th, .int msz, .int cn, .ref m1, .ref m2, .ref m3, .ref m4, .ref m5, .ref m6, .ref m7, .ref m8, .int li, .int nht, .long la, .long lb, .int lx, .long ia1, .long ib1, .int ix1, .long (mtL (al a) (mLo cs fr i a) (mHi cs fr i a)), .long ob, .ref m9, .ref m10, .ref m11, .ref m12, .ref m13, .int hry, .int rh, .int rl, .ref m14, .ref m15, .ref m16, .ref m17, .ref m18, .ref m19, .ref m20, .int fc, .ref m21])), (m1, .inl (cI, 120, .inl cs)), (f1, .inl (cI, 3, .inl fr)), (f2, .inl (cI, 3, .inl al))] := hD
                  refine lv_aload_n hx hb dX4_meets_218 rfl (lv_at hl 5 rfl) ?_
                  refine lv_lload hx hb dX4_meets_219 (lv_at hl 2 rfl) ?_
                  refine va_put (D := D) (ci := 4) (v := .long (mtB (al a))) (ty := .long) (C := RX4) (T := TX4) (N := 38) hx hb hg iX4 tyX4 tyX4_ok nmX4 hown hK hP hD hS 0 rfl rfl 20 (by decide) (hg _ kw513) (fun _ h9 => h9) rfl (by decide +kernel) rfl rfl (Nat.le_of_ble_eq_true rfl) dX4_meets_221 (fun H locs hP hD hS => ?_)
                  have hP : va_P D vwCl [(m0, .inr (4, [.int th, .int msz, .int cn, .ref m1, .ref m2, .ref m3, .ref m4, .ref m5, .ref m6, .ref m7, .ref m8, .int li, .int nht, .long la, .long lb, .int lx, .long ia1, .long ib1, .int ix1, .long (mtL (al a) (mLo cs fr i a) (mHi cs fr i a)), .long (mtB (al a)), .ref m9, .ref m10, .ref m11, .ref m12, .ref m13, .int hry, .int rh, .int rl, .ref m14, .ref m15, .ref m16, .ref m17, .ref m18, .ref m19, .ref m20, .int fc, .ref m21])), (m1, .inl (cI, 120, .inl cs)), (f1, .inl (cI, 3, .inl fr)), (f2, .inl (cI, 3, .inl al))] H := hP
                  have hD : va_D A [(m0, .inr (4, [.int th, .int msz, .int cn, .ref m1, .ref m2, .ref m3, .ref m4, .ref m5, .ref m6, .ref m7, .ref m8, .int li, .int nht, .long la, .long lb, .int lx, .long ia1, .long ib1, .int ix1, .long (mtL (al a) (mLo cs fr i a) (mHi cs fr i a)), .long (mtB (al a)), .ref m9, .ref m10, .ref m11, .ref m12, .ref m13, .int hry, .int rh, .int rl, .ref m14, .ref m15, .ref m16, .ref m17, .ref m18, .ref m19, .ref m20, .int fc, .ref m21])), (m1, .inl (cI, 120, .inl cs)), (f1, .inl (cI, 3, .inl fr)), (f2, .inl (cI, 3, .inl al))] := hD
                  refine lv_iinc (v := nI (a + 1)) (lv' := [(4, .int (nI (a + 1))), (13, .long (mtL (al a) (mLo cs fr i a) (mHi cs fr i a))), (11, .long (mtE (al a) (mLo cs fr i a) (mHi cs fr i a))), (9, .long (mtB (al a))), (7, .long (mHi cs fr i a)), (5, .long (mLo cs fr i a)), (0, .ref m0), (1, .int (nI i)), (2, .ref f1), (3, .ref f2)]) hx hb dX4_meets_224 hl (k := 9) rfl (nI_1 _) (by decide) rfl (fun ls hl => ?_)
                  refine lv_goto (tgt := 13) hx hb dX4_meets_227 (by decide) ?_
                  rw [show mtN cs fr al i (n + 1) a ix ia ib oa ob = mtN cs fr al i n (a + 1) ix1 ia1 ib1 (mtL (al a) (mLo cs fr i a) (mHi cs fr i a)) (mtB (al a)) from by simp [mtN, mt2, ← hq, c65, c191]]
                  exact ih (a + 1) ix1 ia1 ib1 (mtL (al a) (mLo cs fr i a) (mHi cs fr i a)) (mtB (al a)) (by omega) H locs ls hP hD hS (lv_sub hl [6, 7, 8, 9, 0] rfl)
                · replace c191 := (not_congr (lg_cmp_eq _ _)).mp c191
                  refine lv_lload hx hb dX4_meets_194 (lv_at hl 0 rfl) ?_
                  refine lv_aload_n hx hb dX4_meets_196 rfl (lv_at hl 5 rfl) ?_
                  refine va_get (D := D) (ci := 4) (v := .long ob) (C := RX4) (T := TX4) (N := 38) hx hb hg iX4 hown hK hP 0 rfl rfl 20 (by decide) (hg _ kw513) (fun _ h9 => h9) rfl dX4_meets_197 ?_
                  refine lv_lmul hx hb dX4_meets_200 ?_
                  refine lv_aload_n hx hb dX4_meets_201 rfl (lv_at hl 5 rfl) ?_
                  refine va_get (D := D) (ci := 4) (v := .long oa) (C := RX4) (T := TX4) (N := 38) hx hb hg iX4 hown hK hP 0 rfl rfl 19 (by decide) (hg _ kw512) (fun _ h9 => h9) rfl dX4_meets_202 ?_
                  refine lv_lload hx hb dX4_meets_205 (lv_at hl 2 rfl) ?_
                  refine lv_lmul hx hb dX4_meets_207 ?_
                  refine W.lcmp hx hb dX4_meets_208 ?_
                  refine lv_if_ge (tgt := 224) hx hb dX4_meets_209 (by decide) (fun c209 => ?_) (fun c209 => ?_)
                  · replace c209 := (lg_cmp_ge _ _).mp c209
                    have c209n := Int64.not_lt.mpr c209
                    refine lv_iinc (v := nI (a + 1)) (lv' := [(4, .int (nI (a + 1))), (13, .long (mtL (al a) (mLo cs fr i a) (mHi cs fr i a))), (11, .long (mtE (al a) (mLo cs fr i a) (mHi cs fr i a))), (9, .long (mtB (al a))), (7, .long (mHi cs fr i a)), (5, .long (mLo cs fr i a)), (0, .ref m0), (1, .int (nI i)), (2, .ref f1), (3, .ref f2)]) hx hb dX4_meets_224 hl (k := 9) rfl (nI_1 _) (by decide) rfl (fun ls hl => ?_)
                    refine lv_goto (tgt := 13) hx hb dX4_meets_227 (by decide) ?_
                    rw [show mtN cs fr al i (n + 1) a ix ia ib oa ob = mtN cs fr al i n (a + 1) ix1 ia1 ib1 oa ob from by simp [mtN, mt2, ← hq, c65, c191, c209, c209n]]
                    exact ih (a + 1) ix1 ia1 ib1 oa ob (by omega) H locs ls hP hD hS (lv_sub hl [6, 7, 8, 9, 0] rfl)
                  · replace c209 := (not_congr (lg_cmp_ge _ _)).mp c209
                    have c209n := Int64.not_le.mp c209
                    refine lv_aload_n hx hb dX4_meets_212 rfl (lv_at hl 5 rfl) ?_
                    refine lv_lload hx hb dX4_meets_213 (lv_at hl 0 rfl) ?_
                    refine va_put (D := D) (ci := 4) (v := .long (mtL (al a) (mLo cs fr i a) (mHi cs fr i a))) (ty := .long) (C := RX4) (T := TX4) (N := 38) hx hb hg iX4 tyX4 tyX4_ok nmX4 hown hK hP hD hS 0 rfl rfl 19 (by decide) (hg _ kw512) (fun _ h9 => h9) rfl (by decide +kernel) rfl rfl (Nat.le_of_ble_eq_true rfl) dX4_meets_215 (fun H locs hP hD hS => ?_)
                    have hP : va_P D vwCl [(m0, .inr (4, [.int th, .int msz, .int cn, .ref m1, .ref m2, .ref m3, .ref m4, .ref m5, .ref m6, .ref m7, .ref m8, .int li, .int nht, .long la, .long lb, .int lx, .long ia1, .long ib1, .int ix1, .long (mtL (al a) (mLo cs fr i a) (mHi cs fr i a)), .long ob, .ref m9, .ref m10, .ref m11, .ref m12, .ref m13, .int hry, .int rh, .int rl, .ref m14, .ref m15, .ref m16, .ref m17, .ref m18, .ref m19, .ref m20, .int fc, .ref m21])), (m1, .inl (cI, 120, .inl cs)), (f1, .inl (cI, 3, .inl fr)), (f2, .inl (cI, 3, .inl al))] H := hP
                    have hD : va_D A [(m0, .inr (4, [.int th, .int msz, .int cn, .ref m1, .ref m2, .ref m3, .ref m4, .ref m5, .ref m6, .ref m7, .ref m8, .int li, .int nht, .long la, .long lb, .int lx, .long ia1, .long ib1, .int ix1, .long (mtL (al a) (mLo cs fr i a) (mHi cs fr i a)), .long ob, .ref m9, .ref m10, .ref m11, .ref m12, .ref m13, .int hry, .int rh, .int rl, .ref m14, .ref m15, .ref m16, .ref m17, .ref m18, .ref m19, .ref m20, .int fc, .ref m21])), (m1, .inl (cI, 120, .inl cs)), (f1, .inl (cI, 3, .inl fr)), (f2, .inl (cI, 3, .inl al))] := hD
                    refine lv_aload_n hx hb dX4_meets_218 rfl (lv_at hl 5 rfl) ?_
                    refine lv_lload hx hb dX4_meets_219 (lv_at hl 2 rfl) ?_
                    refine va_put (D := D) (ci := 4) (v := .long (mtB (al a))) (ty := .long) (C := RX4) (T := TX4) (N := 38) hx hb hg iX4 tyX4 tyX4_ok nmX4 hown hK hP hD hS 0 rfl rfl 20 (by decide) (hg _ kw513) (fun _ h9 => h9) rfl (by decide +kernel) rfl rfl (Nat.le_of_ble_eq_true rfl) dX4_meets_221 (fun H locs hP hD hS => ?_)
                    have hP : va_P D vwCl [(m0, .inr (4, [.int th, .int msz, .int cn, .ref m1, .ref m2, .ref m3, .ref m4, .ref m5, .ref m6, .ref m7, .ref m8, .int li, .int nht, .long la, .long lb, .int lx, .long ia1, .long ib1, .int ix1, .long (mtL (al a) (mLo cs fr i a) (mHi cs fr i a)), .long (mtB (al a)), .ref m9, .ref m10, .ref m11, .ref m12, .ref m13, .int hry, .int rh, .int rl, .ref m14, .ref m15, .ref m16, .ref m17, .ref m18, .ref m19, .ref m20, .int fc, .ref m21])), (m1, .inl (cI, 120, .inl cs)), (f1, .inl (cI, 3, .inl fr)), (f2, .inl (cI, 3, .inl al))] H := hP
                    have hD : va_D A [(m0, .inr (4, [.int th, .int msz, .int cn, .ref m1, .ref m2, .ref m3, .ref m4, .ref m5, .ref m6, .ref m7, .ref m8, .int li, .int nht, .long la, .long lb, .int lx, .long ia1, .long ib1, .int ix1, .long (mtL (al a) (mLo cs fr i a) (mHi cs fr i a)), .long (mtB (al a)), .ref m9, .ref m10, .ref m11, .ref m12, .ref m13, .int hry, .int rh, .int rl, .ref m14, .ref m15, .ref m16, .ref m17, .ref m18, .ref m19, .ref m20, .int fc, .ref m21])), (m1, .inl (cI, 120, .inl cs)), (f1, .inl (cI, 3, .inl fr)), (f2, .inl (cI, 3, .inl al))] := hD
                    refine lv_iinc (v := nI (a + 1)) (lv' := [(4, .int (nI (a + 1))), (13, .long (mtL (al a) (mLo cs fr i a) (mHi cs fr i a))), (11, .long (mtE (al a) (mLo cs fr i a) (mHi cs fr i a))), (9, .long (mtB (al a))), (7, .long (mHi cs fr i a)), (5, .long (mLo cs fr i a)), (0, .ref m0), (1, .int (nI i)), (2, .ref f1), (3, .ref f2)]) hx hb dX4_meets_224 hl (k := 9) rfl (nI_1 _) (by decide) rfl (fun ls hl => ?_)
                    refine lv_goto (tgt := 13) hx hb dX4_meets_227 (by decide) ?_
                    rw [show mtN cs fr al i (n + 1) a ix ia ib oa ob = mtN cs fr al i n (a + 1) ix1 ia1 ib1 (mtL (al a) (mLo cs fr i a) (mHi cs fr i a)) (mtB (al a)) from by simp [mtN, mt2, ← hq, c65, c191, c209, c209n]]
                    exact ih (a + 1) ix1 ia1 ib1 (mtL (al a) (mLo cs fr i a) (mHi cs fr i a)) (mtB (al a)) (by omega) H locs ls hP hD hS (lv_sub hl [6, 7, 8, 9, 0] rfl)
              refine lv_aload_n hx hb dX4_meets_141 rfl (lv_at hl 5 rfl) ?_
              refine va_get (D := D) (ci := 4) (v := .int ix) (C := RX4) (T := TX4) (N := 38) hx hb hg iX4 hown hK hP 0 rfl rfl 18 (by decide) (hg _ kw511) (fun _ h9 => h9) rfl dX4_meets_142 ?_
              refine lv_iconst (v := (-1)) hx hb dX4_meets_145 (by decide) ?_
              refine lv_icmp_eq (tgt := 167) hx hb dX4_meets_146 (by decide) (fun c146 => ?_) (fun c146 => ?_)
              · refine lv_aload_n hx hb dX4_meets_167 rfl (lv_at hl 5 rfl) ?_
                refine lv_iload hx hb dX4_meets_168 (lv_at hl 9 rfl) ?_
                refine va_put (D := D) (ci := 4) (v := .int (nI a)) (ty := .int) (C := RX4) (T := TX4) (N := 38) hx hb hg iX4 tyX4 tyX4_ok nmX4 hown hK hP hD hS 0 rfl rfl 18 (by decide) (hg _ kw511) (fun _ h9 => h9) rfl (by decide +kernel) rfl rfl (Nat.le_of_ble_eq_true rfl) dX4_meets_170 (fun H locs hP hD hS => ?_)
                have hP : va_P D vwCl [(m0, .inr (4, [.int th, .int msz, .int cn, .ref m1, .ref m2, .ref m3, .ref m4, .ref m5, .ref m6, .ref m7, .ref m8, .int li, .int nht, .long la, .long lb, .int lx, .long ia, .long ib, .int (nI a), .long oa, .long ob, .ref m9, .ref m10, .ref m11, .ref m12, .ref m13, .int hry, .int rh, .int rl, .ref m14, .ref m15, .ref m16, .ref m17, .ref m18, .ref m19, .ref m20, .int fc, .ref m21])), (m1, .inl (cI, 120, .inl cs)), (f1, .inl (cI, 3, .inl fr)), (f2, .inl (cI, 3, .inl al))] H := hP
                have hD : va_D A [(m0, .inr (4, [.int th, .int msz, .int cn, .ref m1, .ref m2, .ref m3, .ref m4, .ref m5, .ref m6, .ref m7, .ref m8, .int li, .int nht, .long la, .long lb, .int lx, .long ia, .long ib, .int (nI a), .long oa, .long ob, .ref m9, .ref m10, .ref m11, .ref m12, .ref m13, .int hry, .int rh, .int rl, .ref m14, .ref m15, .ref m16, .ref m17, .ref m18, .ref m19, .ref m20, .int fc, .ref m21])), (m1, .inl (cI, 120, .inl cs)), (f1, .inl (cI, 3, .inl fr)), (f2, .inl (cI, 3, .inl al))] := hD
                refine lv_aload_n hx hb dX4_meets_173 rfl (lv_at hl 5 rfl) ?_
                refine lv_lload hx hb dX4_meets_174 (lv_at hl 1 rfl) ?_
                refine va_put (D := D) (ci := 4) (v := .long (mtE (al a) (mLo cs fr i a) (mHi cs fr i a))) (ty := .long) (C := RX4) (T := TX4) (N := 38) hx hb hg iX4 tyX4 tyX4_ok nmX4 hown hK hP hD hS 0 rfl rfl 16 (by decide) (hg _ kw509) (fun _ h9 => h9) rfl (by decide +kernel) rfl rfl (Nat.le_of_ble_eq_true rfl) dX4_meets_176 (fun H locs hP hD hS => ?_)
                have hP : va_P D vwCl [(m0, .inr (4, [.int th, .int msz, .int cn, .ref m1, .ref m2, .ref m3, .ref m4, .ref m5, .ref m6, .ref m7, .ref m8, .int li, .int nht, .long la, .long lb, .int lx, .long (mtE (al a) (mLo cs fr i a) (mHi cs fr i a)), .long ib, .int (nI a), .long oa, .long ob, .ref m9, .ref m10, .ref m11, .ref m12, .ref m13, .int hry, .int rh, .int rl, .ref m14, .ref m15, .ref m16, .ref m17, .ref m18, .ref m19, .ref m20, .int fc, .ref m21])), (m1, .inl (cI, 120, .inl cs)), (f1, .inl (cI, 3, .inl fr)), (f2, .inl (cI, 3, .inl al))] H := hP
                have hD : va_D A [(m0, .inr (4, [.int th, .int msz, .int cn, .ref m1, .ref m2, .ref m3, .ref m4, .ref m5, .ref m6, .ref m7, .ref m8, .int li, .int nht, .long la, .long lb, .int lx, .long (mtE (al a) (mLo cs fr i a) (mHi cs fr i a)), .long ib, .int (nI a), .long oa, .long ob, .ref m9, .ref m10, .ref m11, .ref m12, .ref m13, .int hry, .int rh, .int rl, .ref m14, .ref m15, .ref m16, .ref m17, .ref m18, .ref m19, .ref m20, .int fc, .ref m21])), (m1, .inl (cI, 120, .inl cs)), (f1, .inl (cI, 3, .inl fr)), (f2, .inl (cI, 3, .inl al))] := hD
                refine lv_aload_n hx hb dX4_meets_179 rfl (lv_at hl 5 rfl) ?_
                refine lv_lload hx hb dX4_meets_180 (lv_at hl 2 rfl) ?_
                refine va_put (D := D) (ci := 4) (v := .long (mtB (al a))) (ty := .long) (C := RX4) (T := TX4) (N := 38) hx hb hg iX4 tyX4 tyX4_ok nmX4 hown hK hP hD hS 0 rfl rfl 17 (by decide) (hg _ kw510) (fun _ h9 => h9) rfl (by decide +kernel) rfl rfl (Nat.le_of_ble_eq_true rfl) dX4_meets_182 (fun H locs hP hD hS => ?_)
                have hP : va_P D vwCl [(m0, .inr (4, [.int th, .int msz, .int cn, .ref m1, .ref m2, .ref m3, .ref m4, .ref m5, .ref m6, .ref m7, .ref m8, .int li, .int nht, .long la, .long lb, .int lx, .long (mtE (al a) (mLo cs fr i a) (mHi cs fr i a)), .long (mtB (al a)), .int (nI a), .long oa, .long ob, .ref m9, .ref m10, .ref m11, .ref m12, .ref m13, .int hry, .int rh, .int rl, .ref m14, .ref m15, .ref m16, .ref m17, .ref m18, .ref m19, .ref m20, .int fc, .ref m21])), (m1, .inl (cI, 120, .inl cs)), (f1, .inl (cI, 3, .inl fr)), (f2, .inl (cI, 3, .inl al))] H := hP
                have hD : va_D A [(m0, .inr (4, [.int th, .int msz, .int cn, .ref m1, .ref m2, .ref m3, .ref m4, .ref m5, .ref m6, .ref m7, .ref m8, .int li, .int nht, .long la, .long lb, .int lx, .long (mtE (al a) (mLo cs fr i a) (mHi cs fr i a)), .long (mtB (al a)), .int (nI a), .long oa, .long ob, .ref m9, .ref m10, .ref m11, .ref m12, .ref m13, .int hry, .int rh, .int rl, .ref m14, .ref m15, .ref m16, .ref m17, .ref m18, .ref m19, .ref m20, .int fc, .ref m21])), (m1, .inl (cI, 120, .inl cs)), (f1, .inl (cI, 3, .inl fr)), (f2, .inl (cI, 3, .inl al))] := hD
                exact K_5 (nI a) (mtE (al a) (mLo cs fr i a) (mHi cs fr i a)) (mtB (al a)) (by simp [mt1, c65, c146]) H locs ls hP hD hS (lv_sub hl [0, 1, 2, 3, 4, 5, 6, 7, 8, 9] rfl)
              · refine lv_lload hx hb dX4_meets_149 (lv_at hl 1 rfl) ?_
                refine lv_aload_n hx hb dX4_meets_151 rfl (lv_at hl 5 rfl) ?_
                refine va_get (D := D) (ci := 4) (v := .long ib) (C := RX4) (T := TX4) (N := 38) hx hb hg iX4 hown hK hP 0 rfl rfl 17 (by decide) (hg _ kw510) (fun _ h9 => h9) rfl dX4_meets_152 ?_
                refine lv_lmul hx hb dX4_meets_155 ?_
                refine lv_aload_n hx hb dX4_meets_156 rfl (lv_at hl 5 rfl) ?_
                refine va_get (D := D) (ci := 4) (v := .long ia) (C := RX4) (T := TX4) (N := 38) hx hb hg iX4 hown hK hP 0 rfl rfl 16 (by decide) (hg _ kw509) (fun _ h9 => h9) rfl dX4_meets_157 ?_
                refine lv_lload hx hb dX4_meets_160 (lv_at hl 2 rfl) ?_
                refine lv_lmul hx hb dX4_meets_162 ?_
                refine W.lcmp hx hb dX4_meets_163 ?_
                refine lv_if_le (tgt := 185) hx hb dX4_meets_164 (by decide) (fun c164 => ?_) (fun c164 => ?_)
                · replace c164 := (lg_cmp_le _ _).mp c164
                  have c164n := Int64.not_lt.mpr c164
                  exact K_5 ix ia ib (by simp [mt1, c65, c146, c164, c164n]) H locs ls hP hD hS (lv_sub hl [0, 1, 2, 3, 4, 5, 6, 7, 8, 9] rfl)
                · replace c164 := (not_congr (lg_cmp_le _ _)).mp c164
                  have c164n := Int64.not_le.mp c164
                  refine lv_aload_n hx hb dX4_meets_167 rfl (lv_at hl 5 rfl) ?_
                  refine lv_iload hx hb dX4_meets_168 (lv_at hl 9 rfl) ?_
                  refine va_put (D := D) (ci := 4) (v := .int (nI a)) (ty := .int) (C := RX4) (T := TX4) (N := 38) hx hb hg iX4 tyX4 tyX4_ok nmX4 hown hK hP hD hS 0 rfl rfl 18 (by decide) (hg _ kw511) (fun _ h9 => h9) rfl (by decide +kernel) rfl rfl (Nat.le_of_ble_eq_true rfl) dX4_meets_170 (fun H locs hP hD hS => ?_)
                  have hP : va_P D vwCl [(m0, .inr (4, [.int th, .int msz, .int cn, .ref m1, .ref m2, .ref m3, .ref m4, .ref m5, .ref m6, .ref m7, .ref m8, .int li, .int nht, .long la, .long lb, .int lx, .long ia, .long ib, .int (nI a), .long oa, .long ob, .ref m9, .ref m10, .ref m11, .ref m12, .ref m13, .int hry, .int rh, .int rl, .ref m14, .ref m15, .ref m16, .ref m17, .ref m18, .ref m19, .ref m20, .int fc, .ref m21])), (m1, .inl (cI, 120, .inl cs)), (f1, .inl (cI, 3, .inl fr)), (f2, .inl (cI, 3, .inl al))] H := hP
                  have hD : va_D A [(m0, .inr (4, [.int th, .int msz, .int cn, .ref m1, .ref m2, .ref m3, .ref m4, .ref m5, .ref m6, .ref m7, .ref m8, .int li, .int nht, .long la, .long lb, .int lx, .long ia, .long ib, .int (nI a), .long oa, .long ob, .ref m9, .ref m10, .ref m11, .ref m12, .ref m13, .int hry, .int rh, .int rl, .ref m14, .ref m15, .ref m16, .ref m17, .ref m18, .ref m19, .ref m20, .int fc, .ref m21])), (m1, .inl (cI, 120, .inl cs)), (f1, .inl (cI, 3, .inl fr)), (f2, .inl (cI, 3, .inl al))] := hD
                  refine lv_aload_n hx hb dX4_meets_173 rfl (lv_at hl 5 rfl) ?_
                  refine lv_lload hx hb dX4_meets_174 (lv_at hl 1 rfl) ?_
                  refine va_put (D := D) (ci := 4) (v := .long (mtE (al a) (mLo cs fr i a) (mHi cs fr i a))) (ty := .long) (C := RX4) (T := TX4) (N := 38) hx hb hg iX4 tyX4 tyX4_ok nmX4 hown hK hP hD hS 0 rfl rfl 16 (by decide) (hg _ kw509) (fun _ h9 => h9) rfl (by decide +kernel) rfl rfl (Nat.le_of_ble_eq_true rfl) dX4_meets_176 (fun H locs hP hD hS => ?_)
                  have hP : va_P D vwCl [(m0, .inr (4, [.int th, .int msz, .int cn, .ref m1, .ref m2, .ref m3, .ref m4, .ref m5, .ref m6, .ref m7, .ref m8, .int li, .int nht, .long la, .long lb, .int lx, .long (mtE (al a) (mLo cs fr i a) (mHi cs fr i a)), .long ib, .int (nI a), .long oa, .long ob, .ref m9, .ref m10, .ref m11, .ref m12, .ref m13, .int hry, .int rh, .int rl, .ref m14, .ref m15, .ref m16, .ref m17, .ref m18, .ref m19, .ref m20, .int fc, .ref m21])), (m1, .inl (cI, 120, .inl cs)), (f1, .inl (cI, 3, .inl fr)), (f2, .inl (cI, 3, .inl al))] H := hP
                  have hD : va_D A [(m0, .inr (4, [.int th, .int msz, .int cn, .ref m1, .ref m2, .ref m3, .ref m4, .ref m5, .ref m6, .ref m7, .ref m8, .int li, .int nht, .long la, .long lb, .int lx, .long (mtE (al a) (mLo cs fr i a) (mHi cs fr i a)), .long ib, .int (nI a), .long oa, .long ob, .ref m9, .ref m10, .ref m11, .ref m12, .ref m13, .int hry, .int rh, .int rl, .ref m14, .ref m15, .ref m16, .ref m17, .ref m18, .ref m19, .ref m20, .int fc, .ref m21])), (m1, .inl (cI, 120, .inl cs)), (f1, .inl (cI, 3, .inl fr)), (f2, .inl (cI, 3, .inl al))] := hD
                  refine lv_aload_n hx hb dX4_meets_179 rfl (lv_at hl 5 rfl) ?_
                  refine lv_lload hx hb dX4_meets_180 (lv_at hl 2 rfl) ?_
                  refine va_put (D := D) (ci := 4) (v := .long (mtB (al a))) (ty := .long) (C := RX4) (T := TX4) (N := 38) hx hb hg iX4 tyX4 tyX4_ok nmX4 hown hK hP hD hS 0 rfl rfl 17 (by decide) (hg _ kw510) (fun _ h9 => h9) rfl (by decide +kernel) rfl rfl (Nat.le_of_ble_eq_true rfl) dX4_meets_182 (fun H locs hP hD hS => ?_)
                  have hP : va_P D vwCl [(m0, .inr (4, [.int th, .int msz, .int cn, .ref m1, .ref m2, .ref m3, .ref m4, .ref m5, .ref m6, .ref m7, .ref m8, .int li, .int nht, .long la, .long lb, .int lx, .long (mtE (al a) (mLo cs fr i a) (mHi cs fr i a)), .long (mtB (al a)), .int (nI a), .long oa, .long ob, .ref m9, .ref m10, .ref m11, .ref m12, .ref m13, .int hry, .int rh, .int rl, .ref m14, .ref m15, .ref m16, .ref m17, .ref m18, .ref m19, .ref m20, .int fc, .ref m21])), (m1, .inl (cI, 120, .inl cs)), (f1, .inl (cI, 3, .inl fr)), (f2, .inl (cI, 3, .inl al))] H := hP
                  have hD : va_D A [(m0, .inr (4, [.int th, .int msz, .int cn, .ref m1, .ref m2, .ref m3, .ref m4, .ref m5, .ref m6, .ref m7, .ref m8, .int li, .int nht, .long la, .long lb, .int lx, .long (mtE (al a) (mLo cs fr i a) (mHi cs fr i a)), .long (mtB (al a)), .int (nI a), .long oa, .long ob, .ref m9, .ref m10, .ref m11, .ref m12, .ref m13, .int hry, .int rh, .int rl, .ref m14, .ref m15, .ref m16, .ref m17, .ref m18, .ref m19, .ref m20, .int fc, .ref m21])), (m1, .inl (cI, 120, .inl cs)), (f1, .inl (cI, 3, .inl fr)), (f2, .inl (cI, 3, .inl al))] := hD
                  exact K_5 (nI a) (mtE (al a) (mLo cs fr i a) (mHi cs fr i a)) (mtB (al a)) (by simp [mt1, c65, c146, c164, c164n]) H locs ls hP hD hS (lv_sub hl [0, 1, 2, 3, 4, 5, 6, 7, 8, 9] rfl)
            refine lv_aload_n hx hb dX4_meets_124 rfl (lv_at hl 7 rfl) ?_
            refine lv_iload hx hb dX4_meets_125 (lv_at hl 8 rfl) ?_
            refine va_iald hx hb hK hP 3 0 rfl rfl (vp_in_nI (by omega) (by decide)) dX4_meets_127 ?_
            refine tp_i (y := al a) (congrArg al (nI_clamp (by omega))) ?_
            refine lv_if_ge (tgt := 137) hx hb dX4_meets_128 (by decide) (fun c128 => ?_) (fun c128 => ?_)
            · have c128n := Int32.not_lt.mpr c128
              refine lv_lload hx hb dX4_meets_137 (lv_at hl 2 rfl) ?_
              refine tp_l (y := mtL (al a) (mLo cs fr i a) (mHi cs fr i a)) (by simp [mtL, c65, c128, c128n]) ?_
              exact J_4
            · have c128n := Int32.not_le.mp c128
              refine lv_lload hx hb dX4_meets_131 (lv_at hl 3 rfl) ?_
              refine lv_lneg hx hb dX4_meets_133 ?_
              refine lv_goto (tgt := 139) hx hb dX4_meets_134 (by decide) ?_
              refine tp_l (y := mtL (al a) (mLo cs fr i a) (mHi cs fr i a)) (by simp [mtL, c65, c128, c128n]) ?_
              exact J_4
          refine lv_aload_n hx hb dX4_meets_107 rfl (lv_at hl 6 rfl) ?_
          refine lv_iload hx hb dX4_meets_108 (lv_at hl 7 rfl) ?_
          refine va_iald hx hb hK hP 3 0 rfl rfl (vp_in_nI (by omega) (by decide)) dX4_meets_110 ?_
          refine tp_i (y := al a) (congrArg al (nI_clamp (by omega))) ?_
          refine lv_if_ge (tgt := 120) hx hb dX4_meets_111 (by decide) (fun c111 => ?_) (fun c111 => ?_)
          · have c111n := Int32.not_lt.mpr c111
            refine lv_lload hx hb dX4_meets_120 (lv_at hl 2 rfl) ?_
            refine tp_l (y := mtE (al a) (mLo cs fr i a) (mHi cs fr i a)) (by simp [mtE, c65, c111, c111n]) ?_
            exact J_3
          · have c111n := Int32.not_le.mp c111
            refine lv_lload hx hb dX4_meets_114 (lv_at hl 1 rfl) ?_
            refine lv_lneg hx hb dX4_meets_116 ?_
            refine lv_goto (tgt := 122) hx hb dX4_meets_117 (by decide) ?_
            refine tp_l (y := mtE (al a) (mLo cs fr i a) (mHi cs fr i a)) (by simp [mtE, c65, c111, c111n]) ?_
            exact J_3
        refine lv_aload_n hx hb dX4_meets_84 rfl (lv_at hl 5 rfl) ?_
        refine lv_iload hx hb dX4_meets_85 (lv_at hl 6 rfl) ?_
        refine va_iald hx hb hK hP 3 0 rfl rfl (vp_in_nI (by omega) (by decide)) dX4_meets_87 ?_
        refine tp_i (y := al a) (congrArg al (nI_clamp (by omega))) ?_
        refine lv_if_ge (tgt := 100) hx hb dX4_meets_88 (by decide) (fun c88 => ?_) (fun c88 => ?_)
        · have c88n := Int32.not_lt.mpr c88
          refine lv_aload_n hx hb dX4_meets_100 rfl (lv_at hl 5 rfl) ?_
          refine lv_iload hx hb dX4_meets_101 (lv_at hl 6 rfl) ?_
          refine va_iald hx hb hK hP 3 0 rfl rfl (vp_in_nI (by omega) (by decide)) dX4_meets_103 ?_
          refine tp_i (y := al a) (congrArg al (nI_clamp (by omega))) ?_
          refine lv_i2l hx hb dX4_meets_104 rfl ?_
          refine tp_l (y := mtB (al a)) (by simp [mtB, c65, c88, c88n]) ?_
          exact J_2
        · have c88n := Int32.not_le.mp c88
          refine lv_aload_n hx hb dX4_meets_91 rfl (lv_at hl 5 rfl) ?_
          refine lv_iload hx hb dX4_meets_92 (lv_at hl 6 rfl) ?_
          refine va_iald hx hb hK hP 3 0 rfl rfl (vp_in_nI (by omega) (by decide)) dX4_meets_94 ?_
          refine tp_i (y := al a) (congrArg al (nI_clamp (by omega))) ?_
          refine lv_ineg hx hb dX4_meets_95 ?_
          refine lv_i2l hx hb dX4_meets_96 rfl ?_
          refine lv_goto (tgt := 105) hx hb dX4_meets_97 (by decide) ?_
          refine tp_l (y := mtB (al a)) (by simp [mtB, c65, c88, c88n]) ?_
          exact J_2
      · refine lv_lload hx hb dX4_meets_68 (lv_at hl 1 rfl) ?_
        refine lv_lconst (v := 0) hx hb dX4_meets_70 (by decide) ?_
        refine W.lcmp hx hb dX4_meets_71 ?_
        refine lv_if_ge (tgt := 82) hx hb dX4_meets_72 (by decide) (fun c72 => ?_) (fun c72 => ?_)
        · replace c72 := (lg_cmp_ge _ _).mp c72
          have c72n := Int64.not_lt.mpr c72
          refine lv_iconst (v := 0) hx hb dX4_meets_82 (by decide) ?_
          exact W.zret (v := 0) hx hb hr (by decide) (fun t ht hW => ⟨⟨0, (ix, ia, ib, oa, ob), rfl, ⟨by simp [mtN, mtFin, bI, c65, c72, c72n], by simp [mtN, mtFin, c65, c72, c72n]⟩, bq_end hP hK hD ht hW⟩, hS.F ht⟩) hS.2.2 dX4_meets_83
        · replace c72 := (not_congr (lg_cmp_ge _ _)).mp c72
          have c72n := Int64.not_le.mp c72
          refine lv_lload hx hb dX4_meets_75 (lv_at hl 0 rfl) ?_
          refine lv_lconst (v := 0) hx hb dX4_meets_77 (by decide) ?_
          refine W.lcmp hx hb dX4_meets_78 ?_
          refine lv_if_gt (tgt := 224) hx hb dX4_meets_79 (by decide) (fun c79 => ?_) (fun c79 => ?_)
          · replace c79 := (lg_cmp_gt _ _).mp c79
            have c79n := Int64.not_le.mpr c79
            refine lv_iinc (v := nI (a + 1)) (lv' := [(4, .int (nI (a + 1))), (7, .long (mHi cs fr i a)), (5, .long (mLo cs fr i a)), (0, .ref m0), (1, .int (nI i)), (2, .ref f1), (3, .ref f2)]) hx hb dX4_meets_224 hl (k := 6) rfl (nI_1 _) (by decide) rfl (fun ls hl => ?_)
            refine lv_goto (tgt := 13) hx hb dX4_meets_227 (by decide) ?_
            rw [show mtN cs fr al i (n + 1) a ix ia ib oa ob = mtN cs fr al i n (a + 1) ix ia ib oa ob from by simp [mtN, mt2, c65, c72, c72n, c79, c79n]]
            exact ih (a + 1) ix ia ib oa ob (by omega) H locs ls hP hD hS (lv_sub hl [3, 4, 5, 6, 0] rfl)
          · replace c79 := (not_congr (lg_cmp_gt _ _)).mp c79
            have c79n := Int64.not_lt.mp c79
            refine lv_iconst (v := 0) hx hb dX4_meets_82 (by decide) ?_
            exact W.zret (v := 0) hx hb hr (by decide) (fun t ht hW => ⟨⟨0, (ix, ia, ib, oa, ob), rfl, ⟨by simp [mtN, mtFin, bI, c65, c72, c72n, c79, c79n], by simp [mtN, mtFin, c65, c72, c72n, c79, c79n]⟩, bq_end hP hK hD ht hW⟩, hS.F ht⟩) hS.2.2 dX4_meets_83
  exact loop_1 3 0 (-1) ia ib oa 0 (by omega) H locs ls hP hD hS (lv_sub hl [1, 2, 3, 4, 0] rfl)

set_option maxHeartbeats 4000000 in
set_option maxRecDepth 100000 in
/-- wasIn -/
theorem qX4_wasIn (l : Launch) (D : va_G) (cI cZ cJ : ClassId) (m0 m1 m2 m3 m4 m5 m6 m7 m8 m9 m10 m11 m12 m13 m14 m15 m16 m17 m18 m19 m20 m21 : Nat) (th msz cn li nht lx ix hry rh rl fc : Int32) (la lb ia ib oa ob : Int64) (cs : Nat → Int32) (ab : Nat → Int32) (bb : Nat → Int32) (i : Nat) (hi2 : i < 20) (hbb : ¬ la = 0 → nz bb) (sz : Nat) : Met l yX4_wasIn (Cond.code yX4_wasIn cX4_wasIn 2 (some .boolean) :: gw) ({ frames := 1, cells := 0, slots := 0, locals := 34 }) (wq D [.ref m0, .int (nI i)] sz [(m0, .inr (4, [.int th, .int msz, .int cn, .ref m1, .ref m2, .ref m3, .ref m4, .ref m5, .ref m6, .ref m7, .ref m8, .int li, .int nht, .long la, .long lb, .int lx, .long ia, .long ib, .int ix, .long oa, .long ob, .ref m9, .ref m10, .ref m11, .ref m12, .ref m13, .int hry, .int rh, .int rl, .ref m14, .ref m15, .ref m16, .ref m17, .ref m18, .ref m19, .ref m20, .int fc, .ref m21])), (m1, .inl (cI, 120, .inl cs)), (m7, .inl (cI, 3, .inl ab)), (m8, .inl (cI, 3, .inl bb))] [(cI, .int), (cZ, .boolean), (cJ, .long)]) (va_Qi (S := Int32 × Int64 × Int64 × Int64 × Int64) (fun r _ => r = bI (wiB cs ab bb la lb i)) (fun u => bq D [(cI, .int), (cZ, .boolean), (cJ, .long)] (va_A [(m0, .inr (4, [.int th, .int msz, .int cn, .ref m1, .ref m2, .ref m3, .ref m4, .ref m5, .ref m6, .ref m7, .ref m8, .int li, .int nht, .long la, .long lb, .int lx, .long ia, .long ib, .int ix, .long oa, .long ob, .ref m9, .ref m10, .ref m11, .ref m12, .ref m13, .int hry, .int rh, .int rl, .ref m14, .ref m15, .ref m16, .ref m17, .ref m18, .ref m19, .ref m20, .int fc, .ref m21])), (m1, .inl (cI, 120, .inl cs)), (m7, .inl (cI, 3, .inl ab)), (m8, .inl (cI, 3, .inl bb))] sz) ([(m0, .inr (4, [.int th, .int msz, .int cn, .ref m1, .ref m2, .ref m3, .ref m4, .ref m5, .ref m6, .ref m7, .ref m8, .int li, .int nht, .long la, .long lb, .int lx, .long u.2.1, .long u.2.2.1, .int u.1, .long u.2.2.2.1, .long u.2.2.2.2, .ref m9, .ref m10, .ref m11, .ref m12, .ref m13, .int hry, .int rh, .int rl, .ref m14, .ref m15, .ref m16, .ref m17, .ref m18, .ref m19, .ref m20, .int fc, .ref m21])), (m1, .inl (cI, 120, .inl cs)), (m7, .inl (cI, 3, .inl ab)), (m8, .inl (cI, 3, .inl bb))])) (va_A [(m0, .inr (4, [.int th, .int msz, .int cn, .ref m1, .ref m2, .ref m3, .ref m4, .ref m5, .ref m6, .ref m7, .ref m8, .int li, .int nht, .long la, .long lb, .int lx, .long ia, .long ib, .int ix, .long oa, .long ob, .ref m9, .ref m10, .ref m11, .ref m12, .ref m13, .int hry, .int rh, .int rl, .ref m14, .ref m15, .ref m16, .ref m17, .ref m18, .ref m19, .ref m20, .int fc, .ref m21])), (m1, .inl (cI, 120, .inl cs)), (m7, .inl (cI, 3, .inl ab)), (m8, .inl (cI, 3, .inl bb))] sz)) 0 0 (va_A [(m0, .inr (4, [.int th, .int msz, .int cn, .ref m1, .ref m2, .ref m3, .ref m4, .ref m5, .ref m6, .ref m7, .ref m8, .int li, .int nht, .long la, .long lb, .int lx, .long ia, .long ib, .int ix, .long oa, .long ob, .ref m9, .ref m10, .ref m11, .ref m12, .ref m13, .int hry, .int rh, .int rl, .ref m14, .ref m15, .ref m16, .ref m17, .ref m18, .ref m19, .ref m20, .int fc, .ref m21])), (m1, .inl (cI, 120, .inl cs)), (m7, .inl (cI, 3, .inl ab)), (m8, .inl (cI, 3, .inl bb))] sz) := by
  refine Met.ofW (cc := cX4_wasIn) (maxL := 2) (ret := (some .boolean)) (by decide) rfl ?_
  intro p e s m args below meth c s₁ B hml hv
  obtain ⟨rfl, hsz, hP, hK, hD0, hZ⟩ := hv
  have hx := B.exec
  have hb := B.bytes
  have hr := B.returns
  have hg : ∀ w ∈ gw, w.before _ s = true := fun w h => atoms_spec (ws := Cond.code yX4_wasIn cX4_wasIn 2 (some .boolean) :: gw) B.pre w (List.mem_cons_of_mem _ h)
  have hown : s.vm.findClass RX4 = some m.cls := findClass_of_methodNamed B.named
  have hlocks := B.notSynchronized
  subst hsz
  have hD := hD0.self (sz := s.heap.size)
  generalize hAe : va_A [(m0, .inr (4, [.int th, .int msz, .int cn, .ref m1, .ref m2, .ref m3, .ref m4, .ref m5, .ref m6, .ref m7, .ref m8, .int li, .int nht, .long la, .long lb, .int lx, .long ia, .long ib, .int ix, .long oa, .long ob, .ref m9, .ref m10, .ref m11, .ref m12, .ref m13, .int hry, .int rh, .int rl, .ref m14, .ref m15, .ref m16, .ref m17, .ref m18, .ref m19, .ref m20, .int fc, .ref m21])), (m1, .inl (cI, 120, .inl cs)), (m7, .inl (cI, 3, .inl ab)), (m8, .inl (cI, 3, .inl bb))] s.heap.size = A at hD ⊢
  have hA : ∀ q : Nat, s.heap.size ≤ q → A q := fun q h => by rw [← hAe]; exact Or.inr h
  have hS : va_S A s.heap s.heap [] := va_S.rf
  have hP : va_P D vwCl [(m0, .inr (4, [.int th, .int msz, .int cn, .ref m1, .ref m2, .ref m3, .ref m4, .ref m5, .ref m6, .ref m7, .ref m8, .int li, .int nht, .long la, .long lb, .int lx, .long ia, .long ib, .int ix, .long oa, .long ob, .ref m9, .ref m10, .ref m11, .ref m12, .ref m13, .int hry, .int rh, .int rl, .ref m14, .ref m15, .ref m16, .ref m17, .ref m18, .ref m19, .ref m20, .int fc, .ref m21])), (m1, .inl (cI, 120, .inl cs)), (m7, .inl (cI, 3, .inl ab)), (m8, .inl (cI, 3, .inl bb))] s.heap := hP
  have hl := lv_entry ([.ref m0, .int (nI i)]) (n := 2) (Nat.le_of_ble_eq_true rfl)
  rw [lg_entry_eq]
  generalize (lg_sl ([.ref m0, .int (nI i)]) ++ List.replicate (2 - (lg_sl ([.ref m0, .int (nI i)])).length) Slot.unset).toArray = ls at hl ⊢
  have hl : lv_has ls 2 [(0, .ref m0), (1, .int (nI i))] := hl
  refine lv_aload_n hx hb dX4_wasIn_0 rfl (lv_at hl 0 rfl) ?_
  refine va_get (D := D) (ci := 4) (v := .long la) (C := RX4) (T := TX4) (N := 38) hx hb hg iX4 hown hK hP 0 rfl rfl 13 (by decide) (hg _ kw506) (fun _ h9 => h9) rfl dX4_wasIn_1 ?_
  refine lv_lconst (v := 0) hx hb dX4_wasIn_4 (by decide) ?_
  refine W.lcmp hx hb dX4_wasIn_5 ?_
  refine lv_if_ne (tgt := 11) hx hb dX4_wasIn_6 (by decide) (fun c6 => ?_) (fun c6 => ?_)
  · replace c6 := (not_congr (lg_cmp_eq _ _)).mp c6
    refine lv_aload_n hx hb dX4_wasIn_11 rfl (lv_at hl 0 rfl) ?_
    refine lv_iload_n hx hb dX4_wasIn_12 rfl (lv_at hl 1 rfl) ?_
    refine lv_aload_n hx hb dX4_wasIn_13 rfl (lv_at hl 0 rfl) ?_
    refine va_get (D := D) (ci := 4) (v := .ref m7) (C := RX4) (T := TX4) (N := 38) hx hb hg iX4 hown hK hP 0 rfl rfl 9 (by decide) (hg _ kw502) (fun _ h9 => h9) rfl dX4_wasIn_14 ?_
    refine lv_aload_n hx hb dX4_wasIn_17 rfl (lv_at hl 0 rfl) ?_
    refine va_get (D := D) (ci := 4) (v := .ref m8) (C := RX4) (T := TX4) (N := 38) hx hb hg iX4 hown hK hP 0 rfl rfl 10 (by decide) (hg _ kw503) (fun _ h9 => h9) rfl dX4_wasIn_18 ?_
    have hPc := hP.sub (ws' := [(m0, .inr (4, [.int th, .int msz, .int cn, .ref m1, .ref m2, .ref m3, .ref m4, .ref m5, .ref m6, .ref m7, .ref m8, .int li, .int nht, .long la, .long lb, .int lx, .long ia, .long ib, .int ix, .long oa, .long ob, .ref m9, .ref m10, .ref m11, .ref m12, .ref m13, .int hry, .int rh, .int rl, .ref m14, .ref m15, .ref m16, .ref m17, .ref m18, .ref m19, .ref m20, .int fc, .ref m21])), (m1, .inl (cI, 120, .inl cs)), (m7, .inl (cI, 3, .inl ab)), (m8, .inl (cI, 3, .inl bb))]) [0, 1, 2, 3] rfl
    have hDc := hD.sub (ws' := [(m0, .inr (4, [.int th, .int msz, .int cn, .ref m1, .ref m2, .ref m3, .ref m4, .ref m5, .ref m6, .ref m7, .ref m8, .int li, .int nht, .long la, .long lb, .int lx, .long ia, .long ib, .int ix, .long oa, .long ob, .ref m9, .ref m10, .ref m11, .ref m12, .ref m13, .int hry, .int rh, .int rl, .ref m14, .ref m15, .ref m16, .ref m17, .ref m18, .ref m19, .ref m20, .int fc, .ref m21])), (m1, .inl (cI, 120, .inl cs)), (m7, .inl (cI, 3, .inl ab)), (m8, .inl (cI, 3, .inl bb))]) [0, 1, 2, 3] (by decide) rfl
    have hFc := va_free (wc := [(m0, .inr (4, [.int th, .int msz, .int cn, .ref m1, .ref m2, .ref m3, .ref m4, .ref m5, .ref m6, .ref m7, .ref m8, .int li, .int nht, .long la, .long lb, .int lx, .long ia, .long ib, .int ix, .long oa, .long ob, .ref m9, .ref m10, .ref m11, .ref m12, .ref m13, .int hry, .int rh, .int rl, .ref m14, .ref m15, .ref m16, .ref m17, .ref m18, .ref m19, .ref m20, .int fc, .ref m21])), (m1, .inl (cI, 120, .inl cs)), (m7, .inl (cI, 3, .inl ab)), (m8, .inl (cI, 3, .inl bb))]) hD hS hA [0, 1, 2, 3] rfl
    refine va_calli (va_runV (As := [.int (nI i), .ref m7, .ref m8]) (rest := []) ⟨hx, hb, hml, hown, hg⟩ (qX4_meets l D cI cZ cJ m0 m1 m2 m3 m4 m5 m6 m7 m8 m9 m10 m11 m12 m13 m14 m15 m16 m17 m18 m19 m20 m21 th msz cn li nht lx ix hry rh rl fc la lb ia ib oa ob m7 m8 cs ab bb i (by omega) (hbb c6) s.heap.size) (cwV 3 hg (gw_V kw664 kw666 kw30 kw41 kw667) rfl rfl rfl (by decide +kernel) ⟨Nat.le_of_ble_eq_true rfl, Nat.le_of_ble_eq_true rfl⟩) (wq_preV hPc hK hDc hZ (va_recv hK hPc (ci := 4) (q0 := 0) rfl rfl)) rfl rfl hl.1 rfl (lv_room (Nat.le_of_ble_eq_true rfl)) dX4_wasIn_21 ⟨Nat.le_of_ble_eq_true rfl, Nat.le_of_ble_eq_true rfl⟩) hS (fun q _ h => hFc q h) hFc (fun r_12 u t H locs ht hvm hwm_11 hB hz1 hk1 hS => ?_)
    obtain ⟨x_6, x_7, x_8, x_9, x_10⟩ := u
    obtain ⟨hP1, hK1, hD1⟩ := hB
    rw [ht] at hP1
    try dsimp only at hwm_11 hP1 hD1
    obtain ⟨hP, hD⟩ := va_join (wr := []) (w1 := [(m0, .inr (4, [.int th, .int msz, .int cn, .ref m1, .ref m2, .ref m3, .ref m4, .ref m5, .ref m6, .ref m7, .ref m8, .int li, .int nht, .long la, .long lb, .int lx, .long x_7, .long x_8, .int x_6, .long x_9, .long x_10, .ref m9, .ref m10, .ref m11, .ref m12, .ref m13, .int hry, .int rh, .int rl, .ref m14, .ref m15, .ref m16, .ref m17, .ref m18, .ref m19, .ref m20, .int fc, .ref m21])), (m1, .inl (cI, 120, .inl cs)), (m7, .inl (cI, 3, .inl ab)), (m8, .inl (cI, 3, .inl bb))]) hP hD [0, 1, 2, 3] [] rfl rfl (by decide) (by decide) hk1 hFc hP1 hD1
    replace hP := hP.sub (ws' := [(m0, .inr (4, [.int th, .int msz, .int cn, .ref m1, .ref m2, .ref m3, .ref m4, .ref m5, .ref m6, .ref m7, .ref m8, .int li, .int nht, .long la, .long lb, .int lx, .long x_7, .long x_8, .int x_6, .long x_9, .long x_10, .ref m9, .ref m10, .ref m11, .ref m12, .ref m13, .int hry, .int rh, .int rl, .ref m14, .ref m15, .ref m16, .ref m17, .ref m18, .ref m19, .ref m20, .int fc, .ref m21])), (m1, .inl (cI, 120, .inl cs)), (m7, .inl (cI, 3, .inl ab)), (m8, .inl (cI, 3, .inl bb))]) [0, 1, 2, 3] rfl
    replace hD := hD.sub (ws' := [(m0, .inr (4, [.int th, .int msz, .int cn, .ref m1, .ref m2, .ref m3, .ref m4, .ref m5, .ref m6, .ref m7, .ref m8, .int li, .int nht, .long la, .long lb, .int lx, .long x_7, .long x_8, .int x_6, .long x_9, .long x_10, .ref m9, .ref m10, .ref m11, .ref m12, .ref m13, .int hry, .int rh, .int rl, .ref m14, .ref m15, .ref m16, .ref m17, .ref m18, .ref m19, .ref m20, .int fc, .ref m21])), (m1, .inl (cI, 120, .inl cs)), (m7, .inl (cI, 3, .inl ab)), (m8, .inl (cI, 3, .inl bb))]) [0, 1, 2, 3] (by decide) rfl
    refine tp_i (y := bI (mtO cs ab bb i).isSome) (hwm_11.1) ?_
    refine lv_if_eq (tgt := 75) hx hb dX4_wasIn_24 (by decide) (fun c24 => ?_) (fun c24 => ?_)
    · replace c24 := bI_f c24
      refine lv_iconst (v := 0) hx hb dX4_wasIn_75 (by decide) ?_
      exact W.zret (v := 0) hx hb hr (by decide) (fun t ht hW => ⟨⟨0, (x_6, x_7, x_8, x_9, x_10), rfl, by have hzn : mtO cs ab bb i = none := (by simpa using c24); simp [wiB, bI, hzn], bq_end hP hK hD ht hW⟩, hS.F ht⟩) hS.2.2 dX4_wasIn_76
    · replace c24 := bI_t c24
      have hz : mtO cs ab bb i = some (x_6, x_7, x_8, x_9, x_10) := by obtain ⟨z, hz⟩ := Option.isSome_iff_exists.mp c24; rw [hwm_11.2 z hz]; exact hz
      refine lv_aload_n hx hb dX4_wasIn_27 rfl (lv_at hl 0 rfl) ?_
      refine va_get (D := D) (ci := 4) (v := .long x_7) (C := RX4) (T := TX4) (N := 38) hx hb hg iX4 hown hK hP 0 rfl rfl 16 (by decide) (hg _ kw509) (fun _ h9 => h9) rfl dX4_wasIn_28 ?_
      refine lv_aload_n hx hb dX4_wasIn_31 rfl (lv_at hl 0 rfl) ?_
      refine va_get (D := D) (ci := 4) (v := .long lb) (C := RX4) (T := TX4) (N := 38) hx hb hg iX4 hown hK hP 0 rfl rfl 14 (by decide) (hg _ kw507) (fun _ h9 => h9) rfl dX4_wasIn_32 ?_
      refine lv_lmul hx hb dX4_wasIn_35 ?_
      refine lv_aload_n hx hb dX4_wasIn_36 rfl (lv_at hl 0 rfl) ?_
      refine va_get (D := D) (ci := 4) (v := .long la) (C := RX4) (T := TX4) (N := 38) hx hb hg iX4 hown hK hP 0 rfl rfl 13 (by decide) (hg _ kw506) (fun _ h9 => h9) rfl dX4_wasIn_37 ?_
      refine lv_aload_n hx hb dX4_wasIn_40 rfl (lv_at hl 0 rfl) ?_
      refine va_get (D := D) (ci := 4) (v := .long x_8) (C := RX4) (T := TX4) (N := 38) hx hb hg iX4 hown hK hP 0 rfl rfl 17 (by decide) (hg _ kw510) (fun _ h9 => h9) rfl dX4_wasIn_41 ?_
      refine lv_lmul hx hb dX4_wasIn_44 ?_
      refine W.lcmp hx hb dX4_wasIn_45 ?_
      refine lv_if_ge (tgt := 75) hx hb dX4_wasIn_46 (by decide) (fun c46 => ?_) (fun c46 => ?_)
      · replace c46 := (lg_cmp_ge _ _).mp c46
        have c46n := Int64.not_lt.mpr c46
        refine lv_iconst (v := 0) hx hb dX4_wasIn_75 (by decide) ?_
        exact W.zret (v := 0) hx hb hr (by decide) (fun t ht hW => ⟨⟨0, (x_6, x_7, x_8, x_9, x_10), rfl, by simp [wiB, bI, c6, c24, hz, c46, c46n], bq_end hP hK hD ht hW⟩, hS.F ht⟩) hS.2.2 dX4_wasIn_76
      · replace c46 := (not_congr (lg_cmp_ge _ _)).mp c46
        have c46n := Int64.not_le.mp c46
        refine lv_aload_n hx hb dX4_wasIn_49 rfl (lv_at hl 0 rfl) ?_
        refine va_get (D := D) (ci := 4) (v := .long x_9) (C := RX4) (T := TX4) (N := 38) hx hb hg iX4 hown hK hP 0 rfl rfl 19 (by decide) (hg _ kw512) (fun _ h9 => h9) rfl dX4_wasIn_50 ?_
        refine lv_aload_n hx hb dX4_wasIn_53 rfl (lv_at hl 0 rfl) ?_
        refine va_get (D := D) (ci := 4) (v := .long lb) (C := RX4) (T := TX4) (N := 38) hx hb hg iX4 hown hK hP 0 rfl rfl 14 (by decide) (hg _ kw507) (fun _ h9 => h9) rfl dX4_wasIn_54 ?_
        refine lv_lmul hx hb dX4_wasIn_57 ?_
        refine lv_aload_n hx hb dX4_wasIn_58 rfl (lv_at hl 0 rfl) ?_
        refine va_get (D := D) (ci := 4) (v := .long la) (C := RX4) (T := TX4) (N := 38) hx hb hg iX4 hown hK hP 0 rfl rfl 13 (by decide) (hg _ kw506) (fun _ h9 => h9) rfl dX4_wasIn_59 ?_
        refine lv_aload_n hx hb dX4_wasIn_62 rfl (lv_at hl 0 rfl) ?_
        refine va_get (D := D) (ci := 4) (v := .long x_10) (C := RX4) (T := TX4) (N := 38) hx hb hg iX4 hown hK hP 0 rfl rfl 20 (by decide) (hg _ kw513) (fun _ h9 => h9) rfl dX4_wasIn_63 ?_
        refine lv_lmul hx hb dX4_wasIn_66 ?_
        refine W.lcmp hx hb dX4_wasIn_67 ?_
        refine lv_if_lt (tgt := 75) hx hb dX4_wasIn_68 (by decide) (fun c68 => ?_) (fun c68 => ?_)
        · replace c68 := (lg_cmp_lt _ _).mp c68
          have c68n := Int64.not_le.mpr c68
          refine lv_iconst (v := 0) hx hb dX4_wasIn_75 (by decide) ?_
          exact W.zret (v := 0) hx hb hr (by decide) (fun t ht hW => ⟨⟨0, (x_6, x_7, x_8, x_9, x_10), rfl, by simp [wiB, bI, c6, c24, hz, c46, c46n, c68, c68n], bq_end hP hK hD ht hW⟩, hS.F ht⟩) hS.2.2 dX4_wasIn_76
        · replace c68 := (not_congr (lg_cmp_lt _ _)).mp c68
          have c68n := Int64.not_lt.mp c68
          refine lv_iconst (v := 1) hx hb dX4_wasIn_71 (by decide) ?_
          refine lv_goto (tgt := 76) hx hb dX4_wasIn_72 (by decide) ?_
          exact W.zret (v := 1) hx hb hr (by decide) (fun t ht hW => ⟨⟨1, (x_6, x_7, x_8, x_9, x_10), rfl, by simp [wiB, bI, c6, c24, hz, c46, c46n, c68, c68n], bq_end hP hK hD ht hW⟩, hS.F ht⟩) hS.2.2 dX4_wasIn_76
  · replace c6 := (lg_cmp_eq _ _).mp c6
    refine lv_iconst (v := 0) hx hb dX4_wasIn_9 (by decide) ?_
    exact W.zret (v := 0) hx hb hr (by decide) (fun t ht hW => ⟨⟨0, (ix, ia, ib, oa, ob), rfl, by simp [wiB, bI, c6], bq_end hP hK hD ht hW⟩, hS.F ht⟩) hS.2.2 dX4_wasIn_10

set_option maxHeartbeats 4000000 in
set_option maxRecDepth 100000 in
/-- counts -/
theorem qX4_counts (l : Launch) (D : va_G) (cI cZ cJ : ClassId) (m0 m1 m2 m3 m4 m5 m6 m7 m8 m9 m10 m11 m12 m13 m14 m15 m16 m17 m18 m19 m20 m21 : Nat) (th msz cn li nht lx ix hry rh rl fc : Int32) (la lb ia ib oa ob : Int64) (cs : Nat → Int32) (of : Nat → Int32) (pt : Nat → Int32) (dr : Nat → Int32) (ab : Nat → Int32) (bb : Nat → Int32) (i : Nat) (hi2 : i < 20) (hdr : nz dr) (hbb : ¬ la = 0 → nz bb) (sz : Nat) : Met l yX4_counts (Cond.code yX4_counts cX4_counts 4 (some .boolean) :: gw) ({ frames := 2, cells := 0, slots := 0, locals := 55 }) (wq D [.ref m0, .int (nI i)] sz [(m0, .inr (4, [.int th, .int msz, .int cn, .ref m1, .ref m2, .ref m3, .ref m4, .ref m5, .ref m6, .ref m7, .ref m8, .int li, .int nht, .long la, .long lb, .int lx, .long ia, .long ib, .int ix, .long oa, .long ob, .ref m9, .ref m10, .ref m11, .ref m12, .ref m13, .int hry, .int rh, .int rl, .ref m14, .ref m15, .ref m16, .ref m17, .ref m18, .ref m19, .ref m20, .int fc, .ref m21])), (m1, .inl (cI, 120, .inl cs)), (m4, .inl (cZ, 20, .inl of)), (m5, .inl (cI, 3, .inl pt)), (m6, .inl (cI, 3, .inl dr)), (m7, .inl (cI, 3, .inl ab)), (m8, .inl (cI, 3, .inl bb))] [(cI, .int), (cZ, .boolean), (cJ, .long)]) (va_Qi (S := Int32 × Int64 × Int64 × Int64 × Int64) (fun r u => r = bI ((ctO cs pt dr ab bb of lx la lb i)).isSome ∧ ∀ z, (ctO cs pt dr ab bb of lx la lb i) = some z → u = z) (fun u => bq D [(cI, .int), (cZ, .boolean), (cJ, .long)] (va_A [(m0, .inr (4, [.int th, .int msz, .int cn, .ref m1, .ref m2, .ref m3, .ref m4, .ref m5, .ref m6, .ref m7, .ref m8, .int li, .int nht, .long la, .long lb, .int lx, .long ia, .long ib, .int ix, .long oa, .long ob, .ref m9, .ref m10, .ref m11, .ref m12, .ref m13, .int hry, .int rh, .int rl, .ref m14, .ref m15, .ref m16, .ref m17, .ref m18, .ref m19, .ref m20, .int fc, .ref m21])), (m1, .inl (cI, 120, .inl cs)), (m4, .inl (cZ, 20, .inl of)), (m5, .inl (cI, 3, .inl pt)), (m6, .inl (cI, 3, .inl dr)), (m7, .inl (cI, 3, .inl ab)), (m8, .inl (cI, 3, .inl bb))] sz) ([(m0, .inr (4, [.int th, .int msz, .int cn, .ref m1, .ref m2, .ref m3, .ref m4, .ref m5, .ref m6, .ref m7, .ref m8, .int li, .int nht, .long la, .long lb, .int lx, .long u.2.1, .long u.2.2.1, .int u.1, .long u.2.2.2.1, .long u.2.2.2.2, .ref m9, .ref m10, .ref m11, .ref m12, .ref m13, .int hry, .int rh, .int rl, .ref m14, .ref m15, .ref m16, .ref m17, .ref m18, .ref m19, .ref m20, .int fc, .ref m21])), (m1, .inl (cI, 120, .inl cs)), (m4, .inl (cZ, 20, .inl of)), (m5, .inl (cI, 3, .inl pt)), (m6, .inl (cI, 3, .inl dr)), (m7, .inl (cI, 3, .inl ab)), (m8, .inl (cI, 3, .inl bb))])) (va_A [(m0, .inr (4, [.int th, .int msz, .int cn, .ref m1, .ref m2, .ref m3, .ref m4, .ref m5, .ref m6, .ref m7, .ref m8, .int li, .int nht, .long la, .long lb, .int lx, .long ia, .long ib, .int ix, .long oa, .long ob, .ref m9, .ref m10, .ref m11, .ref m12, .ref m13, .int hry, .int rh, .int rl, .ref m14, .ref m15, .ref m16, .ref m17, .ref m18, .ref m19, .ref m20, .int fc, .ref m21])), (m1, .inl (cI, 120, .inl cs)), (m4, .inl (cZ, 20, .inl of)), (m5, .inl (cI, 3, .inl pt)), (m6, .inl (cI, 3, .inl dr)), (m7, .inl (cI, 3, .inl ab)), (m8, .inl (cI, 3, .inl bb))] sz)) 0 0 (va_A [(m0, .inr (4, [.int th, .int msz, .int cn, .ref m1, .ref m2, .ref m3, .ref m4, .ref m5, .ref m6, .ref m7, .ref m8, .int li, .int nht, .long la, .long lb, .int lx, .long ia, .long ib, .int ix, .long oa, .long ob, .ref m9, .ref m10, .ref m11, .ref m12, .ref m13, .int hry, .int rh, .int rl, .ref m14, .ref m15, .ref m16, .ref m17, .ref m18, .ref m19, .ref m20, .int fc, .ref m21])), (m1, .inl (cI, 120, .inl cs)), (m4, .inl (cZ, 20, .inl of)), (m5, .inl (cI, 3, .inl pt)), (m6, .inl (cI, 3, .inl dr)), (m7, .inl (cI, 3, .inl ab)), (m8, .inl (cI, 3, .inl bb))] sz) := by
  refine Met.ofW (cc := cX4_counts) (maxL := 4) (ret := (some .boolean)) (by decide) rfl ?_
  intro p e s m args below meth c s₁ B hml hv
  obtain ⟨rfl, hsz, hP, hK, hD0, hZ⟩ := hv
  have hx := B.exec
  have hb := B.bytes
  have hr := B.returns
  have hg : ∀ w ∈ gw, w.before _ s = true := fun w h => atoms_spec (ws := Cond.code yX4_counts cX4_counts 4 (some .boolean) :: gw) B.pre w (List.mem_cons_of_mem _ h)
  have hown : s.vm.findClass RX4 = some m.cls := findClass_of_methodNamed B.named
  have hlocks := B.notSynchronized
  subst hsz
  have hD := hD0.self (sz := s.heap.size)
  generalize hAe : va_A [(m0, .inr (4, [.int th, .int msz, .int cn, .ref m1, .ref m2, .ref m3, .ref m4, .ref m5, .ref m6, .ref m7, .ref m8, .int li, .int nht, .long la, .long lb, .int lx, .long ia, .long ib, .int ix, .long oa, .long ob, .ref m9, .ref m10, .ref m11, .ref m12, .ref m13, .int hry, .int rh, .int rl, .ref m14, .ref m15, .ref m16, .ref m17, .ref m18, .ref m19, .ref m20, .int fc, .ref m21])), (m1, .inl (cI, 120, .inl cs)), (m4, .inl (cZ, 20, .inl of)), (m5, .inl (cI, 3, .inl pt)), (m6, .inl (cI, 3, .inl dr)), (m7, .inl (cI, 3, .inl ab)), (m8, .inl (cI, 3, .inl bb))] s.heap.size = A at hD ⊢
  have hA : ∀ q : Nat, s.heap.size ≤ q → A q := fun q h => by rw [← hAe]; exact Or.inr h
  have hS : va_S A s.heap s.heap [] := va_S.rf
  have hP : va_P D vwCl [(m0, .inr (4, [.int th, .int msz, .int cn, .ref m1, .ref m2, .ref m3, .ref m4, .ref m5, .ref m6, .ref m7, .ref m8, .int li, .int nht, .long la, .long lb, .int lx, .long ia, .long ib, .int ix, .long oa, .long ob, .ref m9, .ref m10, .ref m11, .ref m12, .ref m13, .int hry, .int rh, .int rl, .ref m14, .ref m15, .ref m16, .ref m17, .ref m18, .ref m19, .ref m20, .int fc, .ref m21])), (m1, .inl (cI, 120, .inl cs)), (m4, .inl (cZ, 20, .inl of)), (m5, .inl (cI, 3, .inl pt)), (m6, .inl (cI, 3, .inl dr)), (m7, .inl (cI, 3, .inl ab)), (m8, .inl (cI, 3, .inl bb))] s.heap := hP
  have hl := lv_entry ([.ref m0, .int (nI i)]) (n := 4) (Nat.le_of_ble_eq_true rfl)
  rw [lg_entry_eq]
  generalize (lg_sl ([.ref m0, .int (nI i)]) ++ List.replicate (4 - (lg_sl ([.ref m0, .int (nI i)])).length) Slot.unset).toArray = ls at hl ⊢
  have hl : lv_has ls 4 [(0, .ref m0), (1, .int (nI i))] := hl
  refine lv_aload_n hx hb dX4_counts_0 rfl (lv_at hl 0 rfl) ?_
  refine va_get (D := D) (ci := 4) (v := .ref m4) (C := RX4) (T := TX4) (N := 38) hx hb hg iX4 hown hK hP 0 rfl rfl 6 (by decide) (hg _ kw499) (fun _ h9 => h9) rfl dX4_counts_1 ?_
  refine lv_iload_n hx hb dX4_counts_4 rfl (lv_at hl 1 rfl) ?_
  refine va_zald hx hb hK hP 2 1 rfl rfl (vp_in_nI (by omega) (by decide)) dX4_counts_5 ?_
  refine tp_i (y := of i) (congrArg of (nI_clamp (by omega))) ?_
  refine lv_if_ne (tgt := 25) hx hb dX4_counts_6 (by decide) (fun c6 => ?_) (fun c6 => ?_)
  · refine lv_iconst (v := 0) hx hb dX4_counts_25 (by decide) ?_
    exact W.zret (v := 0) hx hb hr (by decide) (fun t ht hW => ⟨⟨0, (ix, ia, ib, oa, ob), rfl, ⟨by simp [ctO, bI, c6], by simp [ctO, c6]⟩, bq_end hP hK hD ht hW⟩, hS.F ht⟩) hS.2.2 dX4_counts_26
  · refine lv_aload_n hx hb dX4_counts_9 rfl (lv_at hl 0 rfl) ?_
    refine lv_iload_n hx hb dX4_counts_10 rfl (lv_at hl 1 rfl) ?_
    refine lv_aload_n hx hb dX4_counts_11 rfl (lv_at hl 0 rfl) ?_
    refine va_get (D := D) (ci := 4) (v := .ref m5) (C := RX4) (T := TX4) (N := 38) hx hb hg iX4 hown hK hP 0 rfl rfl 7 (by decide) (hg _ kw500) (fun _ h9 => h9) rfl dX4_counts_12 ?_
    refine lv_aload_n hx hb dX4_counts_15 rfl (lv_at hl 0 rfl) ?_
    refine va_get (D := D) (ci := 4) (v := .ref m6) (C := RX4) (T := TX4) (N := 38) hx hb hg iX4 hown hK hP 0 rfl rfl 8 (by decide) (hg _ kw501) (fun _ h9 => h9) rfl dX4_counts_16 ?_
    have hPc := hP.sub (ws' := [(m0, .inr (4, [.int th, .int msz, .int cn, .ref m1, .ref m2, .ref m3, .ref m4, .ref m5, .ref m6, .ref m7, .ref m8, .int li, .int nht, .long la, .long lb, .int lx, .long ia, .long ib, .int ix, .long oa, .long ob, .ref m9, .ref m10, .ref m11, .ref m12, .ref m13, .int hry, .int rh, .int rl, .ref m14, .ref m15, .ref m16, .ref m17, .ref m18, .ref m19, .ref m20, .int fc, .ref m21])), (m1, .inl (cI, 120, .inl cs)), (m5, .inl (cI, 3, .inl pt)), (m6, .inl (cI, 3, .inl dr))]) [0, 1, 3, 4] rfl
    have hDc := hD.sub (ws' := [(m0, .inr (4, [.int th, .int msz, .int cn, .ref m1, .ref m2, .ref m3, .ref m4, .ref m5, .ref m6, .ref m7, .ref m8, .int li, .int nht, .long la, .long lb, .int lx, .long ia, .long ib, .int ix, .long oa, .long ob, .ref m9, .ref m10, .ref m11, .ref m12, .ref m13, .int hry, .int rh, .int rl, .ref m14, .ref m15, .ref m16, .ref m17, .ref m18, .ref m19, .ref m20, .int fc, .ref m21])), (m1, .inl (cI, 120, .inl cs)), (m5, .inl (cI, 3, .inl pt)), (m6, .inl (cI, 3, .inl dr))]) [0, 1, 3, 4] (by decide) rfl
    have hFc := va_free (wc := [(m0, .inr (4, [.int th, .int msz, .int cn, .ref m1, .ref m2, .ref m3, .ref m4, .ref m5, .ref m6, .ref m7, .ref m8, .int li, .int nht, .long la, .long lb, .int lx, .long ia, .long ib, .int ix, .long oa, .long ob, .ref m9, .ref m10, .ref m11, .ref m12, .ref m13, .int hry, .int rh, .int rl, .ref m14, .ref m15, .ref m16, .ref m17, .ref m18, .ref m19, .ref m20, .int fc, .ref m21])), (m1, .inl (cI, 120, .inl cs)), (m5, .inl (cI, 3, .inl pt)), (m6, .inl (cI, 3, .inl dr))]) hD hS hA [0, 1, 3, 4] rfl
    refine va_calli (va_runV (As := [.int (nI i), .ref m5, .ref m6]) (rest := []) ⟨hx, hb, hml, hown, hg⟩ (qX4_meets l D cI cZ cJ m0 m1 m2 m3 m4 m5 m6 m7 m8 m9 m10 m11 m12 m13 m14 m15 m16 m17 m18 m19 m20 m21 th msz cn li nht lx ix hry rh rl fc la lb ia ib oa ob m5 m6 cs pt dr i (by omega) hdr s.heap.size) (cwV 3 hg (gw_V kw664 kw666 kw30 kw41 kw667) rfl rfl rfl (by decide +kernel) ⟨Nat.le_of_ble_eq_true rfl, Nat.le_of_ble_eq_true rfl⟩) (wq_preV hPc hK hDc hZ (va_recv hK hPc (ci := 4) (q0 := 0) rfl rfl)) rfl rfl hl.1 rfl (lv_room (Nat.le_of_ble_eq_true rfl)) dX4_counts_19 ⟨Nat.le_of_ble_eq_true rfl, Nat.le_of_ble_eq_true rfl⟩) hS (fun q _ h => hFc q h) hFc (fun r_19 u t H locs ht hvm hwm_18 hB hz1 hk1 hS => ?_)
    obtain ⟨x_13, x_14, x_15, x_16, x_17⟩ := u
    obtain ⟨hP1, hK1, hD1⟩ := hB
    rw [ht] at hP1
    try dsimp only at hwm_18 hP1 hD1
    obtain ⟨hP, hD⟩ := va_join (wr := [(m4, .inl (cZ, 20, .inl of)), (m7, .inl (cI, 3, .inl ab)), (m8, .inl (cI, 3, .inl bb))]) (w1 := [(m0, .inr (4, [.int th, .int msz, .int cn, .ref m1, .ref m2, .ref m3, .ref m4, .ref m5, .ref m6, .ref m7, .ref m8, .int li, .int nht, .long la, .long lb, .int lx, .long x_14, .long x_15, .int x_13, .long x_16, .long x_17, .ref m9, .ref m10, .ref m11, .ref m12, .ref m13, .int hry, .int rh, .int rl, .ref m14, .ref m15, .ref m16, .ref m17, .ref m18, .ref m19, .ref m20, .int fc, .ref m21])), (m1, .inl (cI, 120, .inl cs)), (m5, .inl (cI, 3, .inl pt)), (m6, .inl (cI, 3, .inl dr))]) hP hD [0, 1, 3, 4] [2, 5, 6] rfl rfl (by decide) (by decide) hk1 hFc hP1 hD1
    replace hP := hP.sub (ws' := [(m0, .inr (4, [.int th, .int msz, .int cn, .ref m1, .ref m2, .ref m3, .ref m4, .ref m5, .ref m6, .ref m7, .ref m8, .int li, .int nht, .long la, .long lb, .int lx, .long x_14, .long x_15, .int x_13, .long x_16, .long x_17, .ref m9, .ref m10, .ref m11, .ref m12, .ref m13, .int hry, .int rh, .int rl, .ref m14, .ref m15, .ref m16, .ref m17, .ref m18, .ref m19, .ref m20, .int fc, .ref m21])), (m1, .inl (cI, 120, .inl cs)), (m4, .inl (cZ, 20, .inl of)), (m5, .inl (cI, 3, .inl pt)), (m6, .inl (cI, 3, .inl dr)), (m7, .inl (cI, 3, .inl ab)), (m8, .inl (cI, 3, .inl bb))]) [3, 4, 0, 5, 6, 1, 2] rfl
    replace hD := hD.sub (ws' := [(m0, .inr (4, [.int th, .int msz, .int cn, .ref m1, .ref m2, .ref m3, .ref m4, .ref m5, .ref m6, .ref m7, .ref m8, .int li, .int nht, .long la, .long lb, .int lx, .long x_14, .long x_15, .int x_13, .long x_16, .long x_17, .ref m9, .ref m10, .ref m11, .ref m12, .ref m13, .int hry, .int rh, .int rl, .ref m14, .ref m15, .ref m16, .ref m17, .ref m18, .ref m19, .ref m20, .int fc, .ref m21])), (m1, .inl (cI, 120, .inl cs)), (m4, .inl (cZ, 20, .inl of)), (m5, .inl (cI, 3, .inl pt)), (m6, .inl (cI, 3, .inl dr)), (m7, .inl (cI, 3, .inl ab)), (m8, .inl (cI, 3, .inl bb))]) [3, 4, 0, 5, 6, 1, 2] (by decide) rfl
    refine tp_i (y := bI (mtO cs pt dr i).isSome) (hwm_18.1) ?_
    refine lv_if_ne (tgt := 27) hx hb dX4_counts_22 (by decide) (fun c22 => ?_) (fun c22 => ?_)
    · replace c22 := bI_t c22
      have hz : mtO cs pt dr i = some (x_13, x_14, x_15, x_16, x_17) := by obtain ⟨z, hz⟩ := Option.isSome_iff_exists.mp c22; rw [hwm_18.2 z hz]; exact hz
      refine lv_aload_n hx hb dX4_counts_27 rfl (lv_at hl 0 rfl) ?_
      refine va_get (D := D) (ci := 4) (v := .long x_14) (C := RX4) (T := TX4) (N := 38) hx hb hg iX4 hown hK hP 0 rfl rfl 16 (by decide) (hg _ kw509) (fun _ h9 => h9) rfl dX4_counts_28 ?_
      refine lv_aload_n hx hb dX4_counts_31 rfl (lv_at hl 0 rfl) ?_
      refine va_get (D := D) (ci := 4) (v := .long lb) (C := RX4) (T := TX4) (N := 38) hx hb hg iX4 hown hK hP 0 rfl rfl 14 (by decide) (hg _ kw507) (fun _ h9 => h9) rfl dX4_counts_32 ?_
      refine lv_lmul hx hb dX4_counts_35 ?_
      refine lv_aload_n hx hb dX4_counts_36 rfl (lv_at hl 0 rfl) ?_
      refine va_get (D := D) (ci := 4) (v := .long la) (C := RX4) (T := TX4) (N := 38) hx hb hg iX4 hown hK hP 0 rfl rfl 13 (by decide) (hg _ kw506) (fun _ h9 => h9) rfl dX4_counts_37 ?_
      refine lv_aload_n hx hb dX4_counts_40 rfl (lv_at hl 0 rfl) ?_
      refine va_get (D := D) (ci := 4) (v := .long x_15) (C := RX4) (T := TX4) (N := 38) hx hb hg iX4 hown hK hP 0 rfl rfl 17 (by decide) (hg _ kw510) (fun _ h9 => h9) rfl dX4_counts_41 ?_
      refine lv_lmul hx hb dX4_counts_44 ?_
      refine lv_lsub hx hb dX4_counts_45 ?_
      refine lv_lstore_n (lv' := [(2, .long ((x_14 * lb) - (la * x_15))), (0, .ref m0), (1, .int (nI i))]) hx hb dX4_counts_46 rfl hl (by decide) rfl (fun ls hl => ?_)
      refine lv_lload_n hx hb dX4_counts_47 rfl (lv_at hl 0 rfl) ?_
      refine lv_lconst (v := 0) hx hb dX4_counts_48 (by decide) ?_
      refine W.lcmp hx hb dX4_counts_49 ?_
      refine lv_if_eq (tgt := 65) hx hb dX4_counts_50 (by decide) (fun c50 => ?_) (fun c50 => ?_)
      · replace c50 := (lg_cmp_eq _ _).mp c50
        refine lv_aload_n hx hb dX4_counts_65 rfl (lv_at hl 1 rfl) ?_
        refine va_get (D := D) (ci := 4) (v := .int lx) (C := RX4) (T := TX4) (N := 38) hx hb hg iX4 hown hK hP 0 rfl rfl 15 (by decide) (hg _ kw508) (fun _ h9 => h9) rfl dX4_counts_66 ?_
        refine lv_iload_n hx hb dX4_counts_69 rfl (lv_at hl 2 rfl) ?_
        refine lv_icmp_ge (tgt := 81) hx hb dX4_counts_70 (by decide) (fun c70 => ?_) (fun c70 => ?_)
        · have c70n := Int32.not_lt.mpr c70
          refine lv_iconst (v := 0) hx hb dX4_counts_81 (by decide) ?_
          exact W.zret (v := 0) hx hb hr (by decide) (fun t ht hW => ⟨⟨0, (x_13, x_14, x_15, x_16, x_17), rfl, ⟨by simp [ctO, bI, c6, c22, hz, c50, c70, c70n], by simp [ctO, c6, c22, hz, c50, c70, c70n]⟩, bq_end hP hK hD ht hW⟩, hS.F ht⟩) hS.2.2 dX4_counts_82
        · have c70n := Int32.not_le.mp c70
          refine lv_aload_n hx hb dX4_counts_73 rfl (lv_at hl 1 rfl) ?_
          refine lv_iload_n hx hb dX4_counts_74 rfl (lv_at hl 2 rfl) ?_
          have hPc := hP.sub (ws' := [(m0, .inr (4, [.int th, .int msz, .int cn, .ref m1, .ref m2, .ref m3, .ref m4, .ref m5, .ref m6, .ref m7, .ref m8, .int li, .int nht, .long la, .long lb, .int lx, .long x_14, .long x_15, .int x_13, .long x_16, .long x_17, .ref m9, .ref m10, .ref m11, .ref m12, .ref m13, .int hry, .int rh, .int rl, .ref m14, .ref m15, .ref m16, .ref m17, .ref m18, .ref m19, .ref m20, .int fc, .ref m21])), (m1, .inl (cI, 120, .inl cs)), (m7, .inl (cI, 3, .inl ab)), (m8, .inl (cI, 3, .inl bb))]) [0, 1, 5, 6] rfl
          have hDc := hD.sub (ws' := [(m0, .inr (4, [.int th, .int msz, .int cn, .ref m1, .ref m2, .ref m3, .ref m4, .ref m5, .ref m6, .ref m7, .ref m8, .int li, .int nht, .long la, .long lb, .int lx, .long x_14, .long x_15, .int x_13, .long x_16, .long x_17, .ref m9, .ref m10, .ref m11, .ref m12, .ref m13, .int hry, .int rh, .int rl, .ref m14, .ref m15, .ref m16, .ref m17, .ref m18, .ref m19, .ref m20, .int fc, .ref m21])), (m1, .inl (cI, 120, .inl cs)), (m7, .inl (cI, 3, .inl ab)), (m8, .inl (cI, 3, .inl bb))]) [0, 1, 5, 6] (by decide) rfl
          have hFc := va_free (wc := [(m0, .inr (4, [.int th, .int msz, .int cn, .ref m1, .ref m2, .ref m3, .ref m4, .ref m5, .ref m6, .ref m7, .ref m8, .int li, .int nht, .long la, .long lb, .int lx, .long x_14, .long x_15, .int x_13, .long x_16, .long x_17, .ref m9, .ref m10, .ref m11, .ref m12, .ref m13, .int hry, .int rh, .int rl, .ref m14, .ref m15, .ref m16, .ref m17, .ref m18, .ref m19, .ref m20, .int fc, .ref m21])), (m1, .inl (cI, 120, .inl cs)), (m7, .inl (cI, 3, .inl ab)), (m8, .inl (cI, 3, .inl bb))]) hD hS hA [0, 1, 5, 6] rfl
          refine va_calli (va_runV (As := [.int (nI i)]) (rest := []) ⟨hx, hb, hml, hown, hg⟩ (qX4_wasIn l D cI cZ cJ m0 m1 m2 m3 m4 m5 m6 m7 m8 m9 m10 m11 m12 m13 m14 m15 m16 m17 m18 m19 m20 m21 th msz cn li nht lx x_13 hry rh rl fc la lb x_14 x_15 x_16 x_17 cs ab bb i hi2 hbb H.size) (cwV 1 hg (gw_V kw668 kw670 kw31 kw41 kw671) rfl rfl rfl (by decide +kernel) ⟨Nat.le_of_ble_eq_true rfl, Nat.le_of_ble_eq_true rfl⟩) (wq_preV hPc hK hDc hZ (va_recv hK hPc (ci := 4) (q0 := 0) rfl rfl)) rfl rfl hl.1 rfl (lv_room (Nat.le_of_ble_eq_true rfl)) dX4_counts_75 ⟨Nat.le_of_ble_eq_true rfl, Nat.le_of_ble_eq_true rfl⟩) hS (fun q _ h => hFc q h) hFc (fun r_26 u t H locs ht hvm hww_25 hB hz1 hk1 hS => ?_)
          obtain ⟨x_20, x_21, x_22, x_23, x_24⟩ := u
          obtain ⟨hP1, hK1, hD1⟩ := hB
          rw [ht] at hP1
          try dsimp only at hww_25 hP1 hD1
          obtain ⟨hP, hD⟩ := va_join (wr := [(m4, .inl (cZ, 20, .inl of)), (m5, .inl (cI, 3, .inl pt)), (m6, .inl (cI, 3, .inl dr))]) (w1 := [(m0, .inr (4, [.int th, .int msz, .int cn, .ref m1, .ref m2, .ref m3, .ref m4, .ref m5, .ref m6, .ref m7, .ref m8, .int li, .int nht, .long la, .long lb, .int lx, .long x_21, .long x_22, .int x_20, .long x_23, .long x_24, .ref m9, .ref m10, .ref m11, .ref m12, .ref m13, .int hry, .int rh, .int rl, .ref m14, .ref m15, .ref m16, .ref m17, .ref m18, .ref m19, .ref m20, .int fc, .ref m21])), (m1, .inl (cI, 120, .inl cs)), (m7, .inl (cI, 3, .inl ab)), (m8, .inl (cI, 3, .inl bb))]) hP hD [0, 1, 5, 6] [2, 3, 4] rfl rfl (by decide) (by decide) hk1 hFc hP1 hD1
          replace hP := hP.sub (ws' := [(m0, .inr (4, [.int th, .int msz, .int cn, .ref m1, .ref m2, .ref m3, .ref m4, .ref m5, .ref m6, .ref m7, .ref m8, .int li, .int nht, .long la, .long lb, .int lx, .long x_21, .long x_22, .int x_20, .long x_23, .long x_24, .ref m9, .ref m10, .ref m11, .ref m12, .ref m13, .int hry, .int rh, .int rl, .ref m14, .ref m15, .ref m16, .ref m17, .ref m18, .ref m19, .ref m20, .int fc, .ref m21])), (m1, .inl (cI, 120, .inl cs)), (m4, .inl (cZ, 20, .inl of)), (m5, .inl (cI, 3, .inl pt)), (m6, .inl (cI, 3, .inl dr)), (m7, .inl (cI, 3, .inl ab)), (m8, .inl (cI, 3, .inl bb))]) [3, 4, 0, 1, 2, 5, 6] rfl
          replace hD := hD.sub (ws' := [(m0, .inr (4, [.int th, .int msz, .int cn, .ref m1, .ref m2, .ref m3, .ref m4, .ref m5, .ref m6, .ref m7, .ref m8, .int li, .int nht, .long la, .long lb, .int lx, .long x_21, .long x_22, .int x_20, .long x_23, .long x_24, .ref m9, .ref m10, .ref m11, .ref m12, .ref m13, .int hry, .int rh, .int rl, .ref m14, .ref m15, .ref m16, .ref m17, .ref m18, .ref m19, .ref m20, .int fc, .ref m21])), (m1, .inl (cI, 120, .inl cs)), (m4, .inl (cZ, 20, .inl of)), (m5, .inl (cI, 3, .inl pt)), (m6, .inl (cI, 3, .inl dr)), (m7, .inl (cI, 3, .inl ab)), (m8, .inl (cI, 3, .inl bb))]) [3, 4, 0, 1, 2, 5, 6] (by decide) rfl
          refine tp_i (y := bI (wiB cs ab bb la lb i)) (hww_25) ?_
          refine lv_if_eq (tgt := 83) hx hb dX4_counts_78 (by decide) (fun c78 => ?_) (fun c78 => ?_)
          · replace c78 := bI_f c78
            refine lv_aload_n hx hb dX4_counts_83 rfl (lv_at hl 1 rfl) ?_
            refine lv_iload_n hx hb dX4_counts_84 rfl (lv_at hl 2 rfl) ?_
            refine lv_aload_n hx hb dX4_counts_85 rfl (lv_at hl 1 rfl) ?_
            refine va_get (D := D) (ci := 4) (v := .ref m5) (C := RX4) (T := TX4) (N := 38) hx hb hg iX4 hown hK hP 0 rfl rfl 7 (by decide) (hg _ kw500) (fun _ h9 => h9) rfl dX4_counts_86 ?_
            refine lv_aload_n hx hb dX4_counts_89 rfl (lv_at hl 1 rfl) ?_
            refine va_get (D := D) (ci := 4) (v := .ref m6) (C := RX4) (T := TX4) (N := 38) hx hb hg iX4 hown hK hP 0 rfl rfl 8 (by decide) (hg _ kw501) (fun _ h9 => h9) rfl dX4_counts_90 ?_
            have hPc := hP.sub (ws' := [(m0, .inr (4, [.int th, .int msz, .int cn, .ref m1, .ref m2, .ref m3, .ref m4, .ref m5, .ref m6, .ref m7, .ref m8, .int li, .int nht, .long la, .long lb, .int lx, .long x_21, .long x_22, .int x_20, .long x_23, .long x_24, .ref m9, .ref m10, .ref m11, .ref m12, .ref m13, .int hry, .int rh, .int rl, .ref m14, .ref m15, .ref m16, .ref m17, .ref m18, .ref m19, .ref m20, .int fc, .ref m21])), (m1, .inl (cI, 120, .inl cs)), (m5, .inl (cI, 3, .inl pt)), (m6, .inl (cI, 3, .inl dr))]) [0, 1, 3, 4] rfl
            have hDc := hD.sub (ws' := [(m0, .inr (4, [.int th, .int msz, .int cn, .ref m1, .ref m2, .ref m3, .ref m4, .ref m5, .ref m6, .ref m7, .ref m8, .int li, .int nht, .long la, .long lb, .int lx, .long x_21, .long x_22, .int x_20, .long x_23, .long x_24, .ref m9, .ref m10, .ref m11, .ref m12, .ref m13, .int hry, .int rh, .int rl, .ref m14, .ref m15, .ref m16, .ref m17, .ref m18, .ref m19, .ref m20, .int fc, .ref m21])), (m1, .inl (cI, 120, .inl cs)), (m5, .inl (cI, 3, .inl pt)), (m6, .inl (cI, 3, .inl dr))]) [0, 1, 3, 4] (by decide) rfl
            have hFc := va_free (wc := [(m0, .inr (4, [.int th, .int msz, .int cn, .ref m1, .ref m2, .ref m3, .ref m4, .ref m5, .ref m6, .ref m7, .ref m8, .int li, .int nht, .long la, .long lb, .int lx, .long x_21, .long x_22, .int x_20, .long x_23, .long x_24, .ref m9, .ref m10, .ref m11, .ref m12, .ref m13, .int hry, .int rh, .int rl, .ref m14, .ref m15, .ref m16, .ref m17, .ref m18, .ref m19, .ref m20, .int fc, .ref m21])), (m1, .inl (cI, 120, .inl cs)), (m5, .inl (cI, 3, .inl pt)), (m6, .inl (cI, 3, .inl dr))]) hD hS hA [0, 1, 3, 4] rfl
            refine va_calli (va_runV (As := [.int (nI i), .ref m5, .ref m6]) (rest := []) ⟨hx, hb, hml, hown, hg⟩ (qX4_meets l D cI cZ cJ m0 m1 m2 m3 m4 m5 m6 m7 m8 m9 m10 m11 m12 m13 m14 m15 m16 m17 m18 m19 m20 m21 th msz cn li nht lx x_20 hry rh rl fc la lb x_21 x_22 x_23 x_24 m5 m6 cs pt dr i (by omega) hdr H.size) (cwV 3 hg (gw_V kw664 kw666 kw30 kw41 kw667) rfl rfl rfl (by decide +kernel) ⟨Nat.le_of_ble_eq_true rfl, Nat.le_of_ble_eq_true rfl⟩) (wq_preV hPc hK hDc hZ (va_recv hK hPc (ci := 4) (q0 := 0) rfl rfl)) rfl rfl hl.1 rfl (lv_room (Nat.le_of_ble_eq_true rfl)) dX4_counts_93 ⟨Nat.le_of_ble_eq_true rfl, Nat.le_of_ble_eq_true rfl⟩) hS (fun q _ h => hFc q h) hFc (fun r_33 u t H locs ht hvm hwm_32 hB hz1 hk1 hS => ?_)
            obtain ⟨x_27, x_28, x_29, x_30, x_31⟩ := u
            obtain ⟨hP1, hK1, hD1⟩ := hB
            rw [ht] at hP1
            try dsimp only at hwm_32 hP1 hD1
            obtain ⟨hP, hD⟩ := va_join (wr := [(m4, .inl (cZ, 20, .inl of)), (m7, .inl (cI, 3, .inl ab)), (m8, .inl (cI, 3, .inl bb))]) (w1 := [(m0, .inr (4, [.int th, .int msz, .int cn, .ref m1, .ref m2, .ref m3, .ref m4, .ref m5, .ref m6, .ref m7, .ref m8, .int li, .int nht, .long la, .long lb, .int lx, .long x_28, .long x_29, .int x_27, .long x_30, .long x_31, .ref m9, .ref m10, .ref m11, .ref m12, .ref m13, .int hry, .int rh, .int rl, .ref m14, .ref m15, .ref m16, .ref m17, .ref m18, .ref m19, .ref m20, .int fc, .ref m21])), (m1, .inl (cI, 120, .inl cs)), (m5, .inl (cI, 3, .inl pt)), (m6, .inl (cI, 3, .inl dr))]) hP hD [0, 1, 3, 4] [2, 5, 6] rfl rfl (by decide) (by decide) hk1 hFc hP1 hD1
            replace hP := hP.sub (ws' := [(m0, .inr (4, [.int th, .int msz, .int cn, .ref m1, .ref m2, .ref m3, .ref m4, .ref m5, .ref m6, .ref m7, .ref m8, .int li, .int nht, .long la, .long lb, .int lx, .long x_28, .long x_29, .int x_27, .long x_30, .long x_31, .ref m9, .ref m10, .ref m11, .ref m12, .ref m13, .int hry, .int rh, .int rl, .ref m14, .ref m15, .ref m16, .ref m17, .ref m18, .ref m19, .ref m20, .int fc, .ref m21])), (m1, .inl (cI, 120, .inl cs)), (m4, .inl (cZ, 20, .inl of)), (m5, .inl (cI, 3, .inl pt)), (m6, .inl (cI, 3, .inl dr)), (m7, .inl (cI, 3, .inl ab)), (m8, .inl (cI, 3, .inl bb))]) [3, 4, 0, 5, 6, 1, 2] rfl
            replace hD := hD.sub (ws' := [(m0, .inr (4, [.int th, .int msz, .int cn, .ref m1, .ref m2, .ref m3, .ref m4, .ref m5, .ref m6, .ref m7, .ref m8, .int li, .int nht, .long la, .long lb, .int lx, .long x_28, .long x_29, .int x_27, .long x_30, .long x_31, .ref m9, .ref m10, .ref m11, .ref m12, .ref m13, .int hry, .int rh, .int rl, .ref m14, .ref m15, .ref m16, .ref m17, .ref m18, .ref m19, .ref m20, .int fc, .ref m21])), (m1, .inl (cI, 120, .inl cs)), (m4, .inl (cZ, 20, .inl of)), (m5, .inl (cI, 3, .inl pt)), (m6, .inl (cI, 3, .inl dr)), (m7, .inl (cI, 3, .inl ab)), (m8, .inl (cI, 3, .inl bb))]) [3, 4, 0, 5, 6, 1, 2] (by decide) rfl
            refine tp_i (y := bI (mtO cs pt dr i).isSome) (hwm_32.1) ?_
            exact W.zret (v := bI (mtO cs pt dr i).isSome) hx hb hr (nar_01 (bI_01 _)) (fun t ht hW => ⟨⟨bI (mtO cs pt dr i).isSome, (x_27, x_28, x_29, x_30, x_31), rfl, ⟨by simp [ctO, bI, c6, c22, hz, c50, c70, c70n, c78], fun z hz9 => hwm_32.2 z (by rw [hz]; have q9 : (ctO cs pt dr ab bb of lx la lb i) = some (x_13, x_14, x_15, x_16, x_17) := (by simp [ctO, c6, c22, hz, c50, c70, c70n, c78]); rw [q9] at hz9; exact hz9)⟩, bq_end hP hK hD ht hW⟩, hS.F ht⟩) hS.2.2 dX4_counts_96
          · replace c78 := bI_t c78
            refine lv_iconst (v := 0) hx hb dX4_counts_81 (by decide) ?_
            exact W.zret (v := 0) hx hb hr (by decide) (fun t ht hW => ⟨⟨0, (x_20, x_21, x_22, x_23, x_24), rfl, ⟨by simp [ctO, bI, c6, c22, hz, c50, c70, c70n, c78], by simp [ctO, c6, c22, hz, c50, c70, c70n, c78]⟩, bq_end hP hK hD ht hW⟩, hS.F ht⟩) hS.2.2 dX4_counts_82
      · replace c50 := (not_congr (lg_cmp_eq _ _)).mp c50
        refine lv_lload_n hx hb dX4_counts_53 rfl (lv_at hl 0 rfl) ?_
        refine lv_lconst (v := 0) hx hb dX4_counts_54 (by decide) ?_
        refine W.lcmp hx hb dX4_counts_55 ?_
        refine lv_if_le (tgt := 63) hx hb dX4_counts_56 (by decide) (fun c56 => ?_) (fun c56 => ?_)
        · replace c56 := (lg_cmp_le _ _).mp c56
          have c56n := Int64.not_lt.mpr c56
          refine lv_iconst (v := 0) hx hb dX4_counts_63 (by decide) ?_
          exact W.zret (v := 0) hx hb hr (by decide) (fun t ht hW => ⟨⟨0, (x_13, x_14, x_15, x_16, x_17), rfl, ⟨by simp [ctO, bI, c6, c22, hz, c50, c56, c56n], by simp [ctO, c6, c22, hz, c50, c56, c56n]⟩, bq_end hP hK hD ht hW⟩, hS.F ht⟩) hS.2.2 dX4_counts_64
        · replace c56 := (not_congr (lg_cmp_le _ _)).mp c56
          have c56n := Int64.not_le.mp c56
          refine lv_iconst (v := 1) hx hb dX4_counts_59 (by decide) ?_
          refine lv_goto (tgt := 64) hx hb dX4_counts_60 (by decide) ?_
          exact W.zret (v := 1) hx hb hr (by decide) (fun t ht hW => ⟨⟨1, (x_13, x_14, x_15, x_16, x_17), rfl, ⟨by simp [ctO, bI, c6, c22, hz, c50, c56, c56n], by simp [ctO, c6, c22, hz, c50, c56, c56n]⟩, bq_end hP hK hD ht hW⟩, hS.F ht⟩) hS.2.2 dX4_counts_64
    · replace c22 := bI_f c22
      refine lv_iconst (v := 0) hx hb dX4_counts_25 (by decide) ?_
      exact W.zret (v := 0) hx hb hr (by decide) (fun t ht hW => ⟨⟨0, (x_13, x_14, x_15, x_16, x_17), rfl, ⟨by have hzn : mtO cs pt dr i = none := (by simpa using c22); simp [ctO, bI, c6, hzn], by have hzn : mtO cs pt dr i = none := (by simpa using c22); simp [ctO, c6, hzn]⟩, bq_end hP hK hD ht hW⟩, hS.F ht⟩) hS.2.2 dX4_counts_26

set_option maxHeartbeats 4000000 in
set_option maxRecDepth 100000 in
/-- next -/
theorem qX4_next (l : Launch) (D : va_G) (cI cZ cJ : ClassId) (m0 m1 m2 m3 m4 m5 m6 m7 m8 m9 m10 m11 m12 m13 m14 m15 m16 m17 m18 m19 m20 m21 : Nat) (th msz li nht lx ix hry rh rl fc : Int32) (la lb ia ib oa ob : Int64) (cs : Nat → Int32) (of : Nat → Int32) (pt : Nat → Int32) (dr : Nat → Int32) (ab : Nat → Int32) (bb : Nat → Int32) (nb : Nat) (hnb : nb ≤ 20) (hdr : nz dr) (hbb : ¬ la = 0 → nz bb) (sz : Nat) : Met l yX4_next (Cond.code yX4_next cX4_next 8 (some .int) :: gw) ({ frames := 3, cells := 0, slots := 0, locals := 78 }) (wq D [.ref m0] sz [(m0, .inr (4, [.int th, .int msz, .int (nI nb), .ref m1, .ref m2, .ref m3, .ref m4, .ref m5, .ref m6, .ref m7, .ref m8, .int li, .int nht, .long la, .long lb, .int lx, .long ia, .long ib, .int ix, .long oa, .long ob, .ref m9, .ref m10, .ref m11, .ref m12, .ref m13, .int hry, .int rh, .int rl, .ref m14, .ref m15, .ref m16, .ref m17, .ref m18, .ref m19, .ref m20, .int fc, .ref m21])), (m1, .inl (cI, 120, .inl cs)), (m4, .inl (cZ, 20, .inl of)), (m5, .inl (cI, 3, .inl pt)), (m6, .inl (cI, 3, .inl dr)), (m7, .inl (cI, 3, .inl ab)), (m8, .inl (cI, 3, .inl bb))] [(cI, .int), (cZ, .boolean), (cJ, .long)]) (va_Qi (S := Int32 × Int64 × Int64 × Int64 × Int64) (fun r u => r = (nxN cs pt dr ab bb of lx la lb nb 0 (-1) 0 0 1).1 ∧ (u.1, u.2.1, u.2.2.1) = (nxN cs pt dr ab bb of lx la lb nb 0 (-1) 0 0 1).2) (fun u => bq D [(cI, .int), (cZ, .boolean), (cJ, .long)] (va_A [(m0, .inr (4, [.int th, .int msz, .int (nI nb), .ref m1, .ref m2, .ref m3, .ref m4, .ref m5, .ref m6, .ref m7, .ref m8, .int li, .int nht, .long la, .long lb, .int lx, .long ia, .long ib, .int ix, .long oa, .long ob, .ref m9, .ref m10, .ref m11, .ref m12, .ref m13, .int hry, .int rh, .int rl, .ref m14, .ref m15, .ref m16, .ref m17, .ref m18, .ref m19, .ref m20, .int fc, .ref m21])), (m1, .inl (cI, 120, .inl cs)), (m4, .inl (cZ, 20, .inl of)), (m5, .inl (cI, 3, .inl pt)), (m6, .inl (cI, 3, .inl dr)), (m7, .inl (cI, 3, .inl ab)), (m8, .inl (cI, 3, .inl bb))] sz) ([(m0, .inr (4, [.int th, .int msz, .int (nI nb), .ref m1, .ref m2, .ref m3, .ref m4, .ref m5, .ref m6, .ref m7, .ref m8, .int li, .int nht, .long la, .long lb, .int lx, .long u.2.1, .long u.2.2.1, .int u.1, .long u.2.2.2.1, .long u.2.2.2.2, .ref m9, .ref m10, .ref m11, .ref m12, .ref m13, .int hry, .int rh, .int rl, .ref m14, .ref m15, .ref m16, .ref m17, .ref m18, .ref m19, .ref m20, .int fc, .ref m21])), (m1, .inl (cI, 120, .inl cs)), (m4, .inl (cZ, 20, .inl of)), (m5, .inl (cI, 3, .inl pt)), (m6, .inl (cI, 3, .inl dr)), (m7, .inl (cI, 3, .inl ab)), (m8, .inl (cI, 3, .inl bb))])) (va_A [(m0, .inr (4, [.int th, .int msz, .int (nI nb), .ref m1, .ref m2, .ref m3, .ref m4, .ref m5, .ref m6, .ref m7, .ref m8, .int li, .int nht, .long la, .long lb, .int lx, .long ia, .long ib, .int ix, .long oa, .long ob, .ref m9, .ref m10, .ref m11, .ref m12, .ref m13, .int hry, .int rh, .int rl, .ref m14, .ref m15, .ref m16, .ref m17, .ref m18, .ref m19, .ref m20, .int fc, .ref m21])), (m1, .inl (cI, 120, .inl cs)), (m4, .inl (cZ, 20, .inl of)), (m5, .inl (cI, 3, .inl pt)), (m6, .inl (cI, 3, .inl dr)), (m7, .inl (cI, 3, .inl ab)), (m8, .inl (cI, 3, .inl bb))] sz)) 0 0 (va_A [(m0, .inr (4, [.int th, .int msz, .int (nI nb), .ref m1, .ref m2, .ref m3, .ref m4, .ref m5, .ref m6, .ref m7, .ref m8, .int li, .int nht, .long la, .long lb, .int lx, .long ia, .long ib, .int ix, .long oa, .long ob, .ref m9, .ref m10, .ref m11, .ref m12, .ref m13, .int hry, .int rh, .int rl, .ref m14, .ref m15, .ref m16, .ref m17, .ref m18, .ref m19, .ref m20, .int fc, .ref m21])), (m1, .inl (cI, 120, .inl cs)), (m4, .inl (cZ, 20, .inl of)), (m5, .inl (cI, 3, .inl pt)), (m6, .inl (cI, 3, .inl dr)), (m7, .inl (cI, 3, .inl ab)), (m8, .inl (cI, 3, .inl bb))] sz) := by
  refine Met.ofW (cc := cX4_next) (maxL := 8) (ret := (some .int)) (by decide) rfl ?_
  intro p e s m args below meth c s₁ B hml hv
  obtain ⟨rfl, hsz, hP, hK, hD0, hZ⟩ := hv
  have hx := B.exec
  have hb := B.bytes
  have hr := B.returns
  have hg : ∀ w ∈ gw, w.before _ s = true := fun w h => atoms_spec (ws := Cond.code yX4_next cX4_next 8 (some .int) :: gw) B.pre w (List.mem_cons_of_mem _ h)
  have hown : s.vm.findClass RX4 = some m.cls := findClass_of_methodNamed B.named
  have hlocks := B.notSynchronized
  subst hsz
  have hD := hD0.self (sz := s.heap.size)
  generalize hAe : va_A [(m0, .inr (4, [.int th, .int msz, .int (nI nb), .ref m1, .ref m2, .ref m3, .ref m4, .ref m5, .ref m6, .ref m7, .ref m8, .int li, .int nht, .long la, .long lb, .int lx, .long ia, .long ib, .int ix, .long oa, .long ob, .ref m9, .ref m10, .ref m11, .ref m12, .ref m13, .int hry, .int rh, .int rl, .ref m14, .ref m15, .ref m16, .ref m17, .ref m18, .ref m19, .ref m20, .int fc, .ref m21])), (m1, .inl (cI, 120, .inl cs)), (m4, .inl (cZ, 20, .inl of)), (m5, .inl (cI, 3, .inl pt)), (m6, .inl (cI, 3, .inl dr)), (m7, .inl (cI, 3, .inl ab)), (m8, .inl (cI, 3, .inl bb))] s.heap.size = A at hD ⊢
  have hA : ∀ q : Nat, s.heap.size ≤ q → A q := fun q h => by rw [← hAe]; exact Or.inr h
  have hS : va_S A s.heap s.heap [] := va_S.rf
  have hP : va_P D vwCl [(m0, .inr (4, [.int th, .int msz, .int (nI nb), .ref m1, .ref m2, .ref m3, .ref m4, .ref m5, .ref m6, .ref m7, .ref m8, .int li, .int nht, .long la, .long lb, .int lx, .long ia, .long ib, .int ix, .long oa, .long ob, .ref m9, .ref m10, .ref m11, .ref m12, .ref m13, .int hry, .int rh, .int rl, .ref m14, .ref m15, .ref m16, .ref m17, .ref m18, .ref m19, .ref m20, .int fc, .ref m21])), (m1, .inl (cI, 120, .inl cs)), (m4, .inl (cZ, 20, .inl of)), (m5, .inl (cI, 3, .inl pt)), (m6, .inl (cI, 3, .inl dr)), (m7, .inl (cI, 3, .inl ab)), (m8, .inl (cI, 3, .inl bb))] s.heap := hP
  have hl := lv_entry ([.ref m0]) (n := 8) (Nat.le_of_ble_eq_true rfl)
  rw [lg_entry_eq]
  generalize (lg_sl ([.ref m0]) ++ List.replicate (8 - (lg_sl ([.ref m0])).length) Slot.unset).toArray = ls at hl ⊢
  have hl : lv_has ls 8 [(0, .ref m0)] := hl
  refine lv_iconst (v := (-1)) hx hb dX4_next_0 (by decide) ?_
  refine lv_istore_n (lv' := [(1, .int (-1)), (0, .ref m0)]) hx hb dX4_next_1 rfl hl (by decide) rfl (fun ls hl => ?_)
  refine lv_lconst (v := 0) hx hb dX4_next_2 (by decide) ?_
  refine lv_lstore_n (lv' := [(2, .long 0), (1, .int (-1)), (0, .ref m0)]) hx hb dX4_next_3 rfl hl (by decide) rfl (fun ls hl => ?_)
  refine lv_lconst (v := 1) hx hb dX4_next_4 (by decide) ?_
  refine lv_lstore (lv' := [(4, .long 1), (2, .long 0), (1, .int (-1)), (0, .ref m0)]) hx hb dX4_next_5 hl (by decide) rfl (fun ls hl => ?_)
  refine lv_iconst (v := 0) hx hb dX4_next_7 (by decide) ?_
  refine lv_istore (lv' := [(6, .int 0), (4, .long 1), (2, .long 0), (1, .int (-1)), (0, .ref m0)]) hx hb dX4_next_8 hl (by decide) rfl (fun ls hl => ?_)
  refine lv_iconst (v := 0) hx hb dX4_next_10 (by decide) ?_
  refine lv_istore (lv' := [(7, .int 0), (6, .int 0), (4, .long 1), (2, .long 0), (1, .int (-1)), (0, .ref m0)]) hx hb dX4_next_11 hl (by decide) rfl (fun ls hl => ?_)
  have loop_34 : ∀ (n : Nat) (i : Nat) (b x : Int32) (v w : Int64) (ix : Int32) (ia ib oa ob : Int64), i + n = nb → ∀ (H : Heap) (locs : List Loc) (ls : Array Slot), va_P D vwCl [(m0, .inr (4, [.int th, .int msz, .int (nI nb), .ref m1, .ref m2, .ref m3, .ref m4, .ref m5, .ref m6, .ref m7, .ref m8, .int li, .int nht, .long la, .long lb, .int lx, .long ia, .long ib, .int ix, .long oa, .long ob, .ref m9, .ref m10, .ref m11, .ref m12, .ref m13, .int hry, .int rh, .int rl, .ref m14, .ref m15, .ref m16, .ref m17, .ref m18, .ref m19, .ref m20, .int fc, .ref m21])), (m1, .inl (cI, 120, .inl cs)), (m4, .inl (cZ, 20, .inl of)), (m5, .inl (cI, 3, .inl pt)), (m6, .inl (cI, 3, .inl dr)), (m7, .inl (cI, 3, .inl ab)), (m8, .inl (cI, 3, .inl bb))] H → va_D A [(m0, .inr (4, [.int th, .int msz, .int (nI nb), .ref m1, .ref m2, .ref m3, .ref m4, .ref m5, .ref m6, .ref m7, .ref m8, .int li, .int nht, .long la, .long lb, .int lx, .long ia, .long ib, .int ix, .long oa, .long ob, .ref m9, .ref m10, .ref m11, .ref m12, .ref m13, .int hry, .int rh, .int rl, .ref m14, .ref m15, .ref m16, .ref m17, .ref m18, .ref m19, .ref m20, .int fc, .ref m21])), (m1, .inl (cI, 120, .inl cs)), (m4, .inl (cZ, 20, .inl of)), (m5, .inl (cI, 3, .inl pt)), (m6, .inl (cI, 3, .inl dr)), (m7, .inl (cI, 3, .inl ab)), (m8, .inl (cI, 3, .inl bb))] → va_S A s.heap H locs → lv_has ls 8 [(0, .ref m0), (1, .int b), (2, .long v), (4, .long w), (6, .int x), (7, .int (nI i))] → W p l e (headSpec (Cond.code yX4_next cX4_next 8 (some .int) :: gw) ({ frames := 3, cells := 0, slots := 0, locals := 78 })).room s m ([.ref m0] : List Value).toArray below meth c H locs 0 0 (MQ below (va_Qi (S := Int32 × Int64 × Int64 × Int64 × Int64) (fun r u => r = (nxN cs pt dr ab bb of lx la lb n i b x v w).1 ∧ (u.1, u.2.1, u.2.2.1) = (nxN cs pt dr ab bb of lx la lb n i b x v w).2) (fun u => bq D [(cI, .int), (cZ, .boolean), (cJ, .long)] A ([(m0, .inr (4, [.int th, .int msz, .int (nI nb), .ref m1, .ref m2, .ref m3, .ref m4, .ref m5, .ref m6, .ref m7, .ref m8, .int li, .int nht, .long la, .long lb, .int lx, .long u.2.1, .long u.2.2.1, .int u.1, .long u.2.2.2.1, .long u.2.2.2.2, .ref m9, .ref m10, .ref m11, .ref m12, .ref m13, .int hry, .int rh, .int rl, .ref m14, .ref m15, .ref m16, .ref m17, .ref m18, .ref m19, .ref m20, .int fc, .ref m21])), (m1, .inl (cI, 120, .inl cs)), (m4, .inl (cZ, 20, .inl of)), (m5, .inl (cI, 3, .inl pt)), (m6, .inl (cI, 3, .inl dr)), (m7, .inl (cI, 3, .inl ab)), (m8, .inl (cI, 3, .inl bb))])) A) ([.ref m0] : List Value).toArray s 0 0 A) (F0 m 13 ls []) := by
    intro n
    induction n with
    | zero =>
      intro i b x v w ix ia ib oa ob hlpn H locs ls hP hD hS hl
      refine lv_iload hx hb dX4_next_13 (lv_at hl 5 rfl) ?_
      refine lv_aload_n hx hb dX4_next_15 rfl (lv_at hl 0 rfl) ?_
      refine va_get (D := D) (ci := 4) (v := .int (nI nb)) (C := RX4) (T := TX4) (N := 38) hx hb hg iX4 hown hK hP 0 rfl rfl 2 (by decide) (hg _ kw495) (fun _ h9 => h9) rfl dX4_next_16 ?_
      refine lv_icmp_ge (tgt := 79) hx hb dX4_next_19 (by decide) (fun _ => ?_) (fun c19 => absurd (nI_le (by omega) (by omega)) c19)
      refine lv_aload_n hx hb dX4_next_79 rfl (lv_at hl 0 rfl) ?_
      refine lv_lload_n hx hb dX4_next_80 rfl (lv_at hl 2 rfl) ?_
      refine va_put (D := D) (ci := 4) (v := .long v) (ty := .long) (C := RX4) (T := TX4) (N := 38) hx hb hg iX4 tyX4 tyX4_ok nmX4 hown hK hP hD hS 0 rfl rfl 16 (by decide) (hg _ kw509) (fun _ h9 => h9) rfl (by decide +kernel) rfl rfl (Nat.le_of_ble_eq_true rfl) dX4_next_81 (fun H locs hP hD hS => ?_)
      have hP : va_P D vwCl [(m0, .inr (4, [.int th, .int msz, .int (nI nb), .ref m1, .ref m2, .ref m3, .ref m4, .ref m5, .ref m6, .ref m7, .ref m8, .int li, .int nht, .long la, .long lb, .int lx, .long v, .long ib, .int ix, .long oa, .long ob, .ref m9, .ref m10, .ref m11, .ref m12, .ref m13, .int hry, .int rh, .int rl, .ref m14, .ref m15, .ref m16, .ref m17, .ref m18, .ref m19, .ref m20, .int fc, .ref m21])), (m1, .inl (cI, 120, .inl cs)), (m4, .inl (cZ, 20, .inl of)), (m5, .inl (cI, 3, .inl pt)), (m6, .inl (cI, 3, .inl dr)), (m7, .inl (cI, 3, .inl ab)), (m8, .inl (cI, 3, .inl bb))] H := hP
      have hD : va_D A [(m0, .inr (4, [.int th, .int msz, .int (nI nb), .ref m1, .ref m2, .ref m3, .ref m4, .ref m5, .ref m6, .ref m7, .ref m8, .int li, .int nht, .long la, .long lb, .int lx, .long v, .long ib, .int ix, .long oa, .long ob, .ref m9, .ref m10, .ref m11, .ref m12, .ref m13, .int hry, .int rh, .int rl, .ref m14, .ref m15, .ref m16, .ref m17, .ref m18, .ref m19, .ref m20, .int fc, .ref m21])), (m1, .inl (cI, 120, .inl cs)), (m4, .inl (cZ, 20, .inl of)), (m5, .inl (cI, 3, .inl pt)), (m6, .inl (cI, 3, .inl dr)), (m7, .inl (cI, 3, .inl ab)), (m8, .inl (cI, 3, .inl bb))] := hD
      refine lv_aload_n hx hb dX4_next_84 rfl (lv_at hl 0 rfl) ?_
      refine lv_lload hx hb dX4_next_85 (lv_at hl 3 rfl) ?_
      refine va_put (D := D) (ci := 4) (v := .long w) (ty := .long) (C := RX4) (T := TX4) (N := 38) hx hb hg iX4 tyX4 tyX4_ok nmX4 hown hK hP hD hS 0 rfl rfl 17 (by decide) (hg _ kw510) (fun _ h9 => h9) rfl (by decide +kernel) rfl rfl (Nat.le_of_ble_eq_true rfl) dX4_next_87 (fun H locs hP hD hS => ?_)
      have hP : va_P D vwCl [(m0, .inr (4, [.int th, .int msz, .int (nI nb), .ref m1, .ref m2, .ref m3, .ref m4, .ref m5, .ref m6, .ref m7, .ref m8, .int li, .int nht, .long la, .long lb, .int lx, .long v, .long w, .int ix, .long oa, .long ob, .ref m9, .ref m10, .ref m11, .ref m12, .ref m13, .int hry, .int rh, .int rl, .ref m14, .ref m15, .ref m16, .ref m17, .ref m18, .ref m19, .ref m20, .int fc, .ref m21])), (m1, .inl (cI, 120, .inl cs)), (m4, .inl (cZ, 20, .inl of)), (m5, .inl (cI, 3, .inl pt)), (m6, .inl (cI, 3, .inl dr)), (m7, .inl (cI, 3, .inl ab)), (m8, .inl (cI, 3, .inl bb))] H := hP
      have hD : va_D A [(m0, .inr (4, [.int th, .int msz, .int (nI nb), .ref m1, .ref m2, .ref m3, .ref m4, .ref m5, .ref m6, .ref m7, .ref m8, .int li, .int nht, .long la, .long lb, .int lx, .long v, .long w, .int ix, .long oa, .long ob, .ref m9, .ref m10, .ref m11, .ref m12, .ref m13, .int hry, .int rh, .int rl, .ref m14, .ref m15, .ref m16, .ref m17, .ref m18, .ref m19, .ref m20, .int fc, .ref m21])), (m1, .inl (cI, 120, .inl cs)), (m4, .inl (cZ, 20, .inl of)), (m5, .inl (cI, 3, .inl pt)), (m6, .inl (cI, 3, .inl dr)), (m7, .inl (cI, 3, .inl ab)), (m8, .inl (cI, 3, .inl bb))] := hD
      refine lv_aload_n hx hb dX4_next_90 rfl (lv_at hl 0 rfl) ?_
      refine lv_iload hx hb dX4_next_91 (lv_at hl 4 rfl) ?_
      refine va_put (D := D) (ci := 4) (v := .int x) (ty := .int) (C := RX4) (T := TX4) (N := 38) hx hb hg iX4 tyX4 tyX4_ok nmX4 hown hK hP hD hS 0 rfl rfl 18 (by decide) (hg _ kw511) (fun _ h9 => h9) rfl (by decide +kernel) rfl rfl (Nat.le_of_ble_eq_true rfl) dX4_next_93 (fun H locs hP hD hS => ?_)
      have hP : va_P D vwCl [(m0, .inr (4, [.int th, .int msz, .int (nI nb), .ref m1, .ref m2, .ref m3, .ref m4, .ref m5, .ref m6, .ref m7, .ref m8, .int li, .int nht, .long la, .long lb, .int lx, .long v, .long w, .int x, .long oa, .long ob, .ref m9, .ref m10, .ref m11, .ref m12, .ref m13, .int hry, .int rh, .int rl, .ref m14, .ref m15, .ref m16, .ref m17, .ref m18, .ref m19, .ref m20, .int fc, .ref m21])), (m1, .inl (cI, 120, .inl cs)), (m4, .inl (cZ, 20, .inl of)), (m5, .inl (cI, 3, .inl pt)), (m6, .inl (cI, 3, .inl dr)), (m7, .inl (cI, 3, .inl ab)), (m8, .inl (cI, 3, .inl bb))] H := hP
      have hD : va_D A [(m0, .inr (4, [.int th, .int msz, .int (nI nb), .ref m1, .ref m2, .ref m3, .ref m4, .ref m5, .ref m6, .ref m7, .ref m8, .int li, .int nht, .long la, .long lb, .int lx, .long v, .long w, .int x, .long oa, .long ob, .ref m9, .ref m10, .ref m11, .ref m12, .ref m13, .int hry, .int rh, .int rl, .ref m14, .ref m15, .ref m16, .ref m17, .ref m18, .ref m19, .ref m20, .int fc, .ref m21])), (m1, .inl (cI, 120, .inl cs)), (m4, .inl (cZ, 20, .inl of)), (m5, .inl (cI, 3, .inl pt)), (m6, .inl (cI, 3, .inl dr)), (m7, .inl (cI, 3, .inl ab)), (m8, .inl (cI, 3, .inl bb))] := hD
      refine lv_iload_n hx hb dX4_next_96 rfl (lv_at hl 1 rfl) ?_
      exact W.iret (v := b) hx hb hr (fun t ht hW => ⟨⟨b, (x, v, w, oa, ob), rfl, ⟨rfl, rfl⟩, bq_end hP hK hD ht hW⟩, hS.F ht⟩) hS.2.2 dX4_next_97
    | succ n ih =>
      intro i b x v w ix ia ib oa ob hlpn H locs ls hP hD hS hl
      refine lv_iload hx hb dX4_next_13 (lv_at hl 5 rfl) ?_
      refine lv_aload_n hx hb dX4_next_15 rfl (lv_at hl 0 rfl) ?_
      refine va_get (D := D) (ci := 4) (v := .int (nI nb)) (C := RX4) (T := TX4) (N := 38) hx hb hg iX4 hown hK hP 0 rfl rfl 2 (by decide) (hg _ kw495) (fun _ h9 => h9) rfl dX4_next_16 ?_
      refine lv_icmp_ge (tgt := 79) hx hb dX4_next_19 (by decide) (fun c19 => absurd c19 (nI_ge (by omega) (by omega))) (fun _ => ?_)
      refine lv_aload_n hx hb dX4_next_22 rfl (lv_at hl 0 rfl) ?_
      refine lv_iload hx hb dX4_next_23 (lv_at hl 5 rfl) ?_
      have hPc := hP.sub (ws' := [(m0, .inr (4, [.int th, .int msz, .int (nI nb), .ref m1, .ref m2, .ref m3, .ref m4, .ref m5, .ref m6, .ref m7, .ref m8, .int li, .int nht, .long la, .long lb, .int lx, .long ia, .long ib, .int ix, .long oa, .long ob, .ref m9, .ref m10, .ref m11, .ref m12, .ref m13, .int hry, .int rh, .int rl, .ref m14, .ref m15, .ref m16, .ref m17, .ref m18, .ref m19, .ref m20, .int fc, .ref m21])), (m1, .inl (cI, 120, .inl cs)), (m4, .inl (cZ, 20, .inl of)), (m5, .inl (cI, 3, .inl pt)), (m6, .inl (cI, 3, .inl dr)), (m7, .inl (cI, 3, .inl ab)), (m8, .inl (cI, 3, .inl bb))]) [0, 1, 2, 3, 4, 5, 6] rfl
      have hDc := hD.sub (ws' := [(m0, .inr (4, [.int th, .int msz, .int (nI nb), .ref m1, .ref m2, .ref m3, .ref m4, .ref m5, .ref m6, .ref m7, .ref m8, .int li, .int nht, .long la, .long lb, .int lx, .long ia, .long ib, .int ix, .long oa, .long ob, .ref m9, .ref m10, .ref m11, .ref m12, .ref m13, .int hry, .int rh, .int rl, .ref m14, .ref m15, .ref m16, .ref m17, .ref m18, .ref m19, .ref m20, .int fc, .ref m21])), (m1, .inl (cI, 120, .inl cs)), (m4, .inl (cZ, 20, .inl of)), (m5, .inl (cI, 3, .inl pt)), (m6, .inl (cI, 3, .inl dr)), (m7, .inl (cI, 3, .inl ab)), (m8, .inl (cI, 3, .inl bb))]) [0, 1, 2, 3, 4, 5, 6] (by decide) rfl
      have hFc := va_free (wc := [(m0, .inr (4, [.int th, .int msz, .int (nI nb), .ref m1, .ref m2, .ref m3, .ref m4, .ref m5, .ref m6, .ref m7, .ref m8, .int li, .int nht, .long la, .long lb, .int lx, .long ia, .long ib, .int ix, .long oa, .long ob, .ref m9, .ref m10, .ref m11, .ref m12, .ref m13, .int hry, .int rh, .int rl, .ref m14, .ref m15, .ref m16, .ref m17, .ref m18, .ref m19, .ref m20, .int fc, .ref m21])), (m1, .inl (cI, 120, .inl cs)), (m4, .inl (cZ, 20, .inl of)), (m5, .inl (cI, 3, .inl pt)), (m6, .inl (cI, 3, .inl dr)), (m7, .inl (cI, 3, .inl ab)), (m8, .inl (cI, 3, .inl bb))]) hD hS hA [0, 1, 2, 3, 4, 5, 6] rfl
      refine va_calli (va_runV (As := [.int (nI i)]) (rest := []) ⟨hx, hb, hml, hown, hg⟩ (qX4_counts l D cI cZ cJ m0 m1 m2 m3 m4 m5 m6 m7 m8 m9 m10 m11 m12 m13 m14 m15 m16 m17 m18 m19 m20 m21 th msz (nI nb) li nht lx ix hry rh rl fc la lb ia ib oa ob cs of pt dr ab bb i (by omega) hdr hbb H.size) (cwV 1 hg (gw_V kw660 kw662 kw29 kw41 kw663) rfl rfl rfl (by decide +kernel) ⟨Nat.le_of_ble_eq_true rfl, Nat.le_of_ble_eq_true rfl⟩) (wq_preV hPc hK hDc hZ (va_recv hK hPc (ci := 4) (q0 := 0) rfl rfl)) rfl rfl hl.1 rfl (lv_room (Nat.le_of_ble_eq_true rfl)) dX4_next_25 ⟨Nat.le_of_ble_eq_true rfl, Nat.le_of_ble_eq_true rfl⟩) hS (fun q _ h => hFc q h) hFc (fun r_41 u t H locs ht hvm hwc_40 hB hz1 hk1 hS => ?_)
      obtain ⟨x_35, x_36, x_37, x_38, x_39⟩ := u
      obtain ⟨hP1, hK1, hD1⟩ := hB
      rw [ht] at hP1
      try dsimp only at hwc_40 hP1 hD1
      obtain ⟨hP, hD⟩ := va_join (wr := []) (w1 := [(m0, .inr (4, [.int th, .int msz, .int (nI nb), .ref m1, .ref m2, .ref m3, .ref m4, .ref m5, .ref m6, .ref m7, .ref m8, .int li, .int nht, .long la, .long lb, .int lx, .long x_36, .long x_37, .int x_35, .long x_38, .long x_39, .ref m9, .ref m10, .ref m11, .ref m12, .ref m13, .int hry, .int rh, .int rl, .ref m14, .ref m15, .ref m16, .ref m17, .ref m18, .ref m19, .ref m20, .int fc, .ref m21])), (m1, .inl (cI, 120, .inl cs)), (m4, .inl (cZ, 20, .inl of)), (m5, .inl (cI, 3, .inl pt)), (m6, .inl (cI, 3, .inl dr)), (m7, .inl (cI, 3, .inl ab)), (m8, .inl (cI, 3, .inl bb))]) hP hD [0, 1, 2, 3, 4, 5, 6] [] rfl rfl (by decide) (by decide) hk1 hFc hP1 hD1
      replace hP := hP.sub (ws' := [(m0, .inr (4, [.int th, .int msz, .int (nI nb), .ref m1, .ref m2, .ref m3, .ref m4, .ref m5, .ref m6, .ref m7, .ref m8, .int li, .int nht, .long la, .long lb, .int lx, .long x_36, .long x_37, .int x_35, .long x_38, .long x_39, .ref m9, .ref m10, .ref m11, .ref m12, .ref m13, .int hry, .int rh, .int rl, .ref m14, .ref m15, .ref m16, .ref m17, .ref m18, .ref m19, .ref m20, .int fc, .ref m21])), (m1, .inl (cI, 120, .inl cs)), (m4, .inl (cZ, 20, .inl of)), (m5, .inl (cI, 3, .inl pt)), (m6, .inl (cI, 3, .inl dr)), (m7, .inl (cI, 3, .inl ab)), (m8, .inl (cI, 3, .inl bb))]) [0, 1, 2, 3, 4, 5, 6] rfl
      replace hD := hD.sub (ws' := [(m0, .inr (4, [.int th, .int msz, .int (nI nb), .ref m1, .ref m2, .ref m3, .ref m4, .ref m5, .ref m6, .ref m7, .ref m8, .int li, .int nht, .long la, .long lb, .int lx, .long x_36, .long x_37, .int x_35, .long x_38, .long x_39, .ref m9, .ref m10, .ref m11, .ref m12, .ref m13, .int hry, .int rh, .int rl, .ref m14, .ref m15, .ref m16, .ref m17, .ref m18, .ref m19, .ref m20, .int fc, .ref m21])), (m1, .inl (cI, 120, .inl cs)), (m4, .inl (cZ, 20, .inl of)), (m5, .inl (cI, 3, .inl pt)), (m6, .inl (cI, 3, .inl dr)), (m7, .inl (cI, 3, .inl ab)), (m8, .inl (cI, 3, .inl bb))]) [0, 1, 2, 3, 4, 5, 6] (by decide) rfl
      refine tp_i (y := bI (ctO cs pt dr ab bb of lx la lb i).isSome) (hwc_40.1) ?_
      refine lv_if_eq (tgt := 73) hx hb dX4_next_28 (by decide) (fun c28 => ?_) (fun c28 => ?_)
      · replace c28 := bI_f c28
        refine lv_iinc (v := nI (i + 1)) (lv' := [(7, .int (nI (i + 1))), (0, .ref m0), (1, .int b), (2, .long v), (4, .long w), (6, .int x)]) hx hb dX4_next_73 hl (k := 5) rfl (nI_1 _) (by decide) rfl (fun ls hl => ?_)
        refine lv_goto (tgt := 13) hx hb dX4_next_76 (by decide) ?_
        have hzn : (ctO cs pt dr ab bb of lx la lb i) = none := by simpa using c28
        rw [show (nxN cs pt dr ab bb of lx la lb (n + 1) i b x v w) = (nxN cs pt dr ab bb of lx la lb n (i + 1) b x v w) from by simp [nxN, nx1, hzn, c28]]
        exact ih (i + 1) b x v w x_35 x_36 x_37 x_38 x_39 (by omega) H locs ls hP hD hS (lv_sub hl [1, 2, 3, 4, 5, 0] rfl)
      · replace c28 := bI_t c28
        have hz : (ctO cs pt dr ab bb of lx la lb i) = some (x_35, x_36, x_37, x_38, x_39) := by obtain ⟨z, hz⟩ := Option.isSome_iff_exists.mp c28; rw [hwc_40.2 z hz]; exact hz
        refine lv_iload_n hx hb dX4_next_31 rfl (lv_at hl 1 rfl) ?_
        refine lv_iconst (v := (-1)) hx hb dX4_next_32 (by decide) ?_
        refine lv_icmp_eq (tgt := 53) hx hb dX4_next_33 (by decide) (fun c33 => ?_) (fun c33 => ?_)
        · refine lv_iload hx hb dX4_next_53 (lv_at hl 5 rfl) ?_
          refine lv_istore_n (lv' := [(1, .int (nI i)), (0, .ref m0), (2, .long v), (4, .long w), (6, .int x), (7, .int (nI i))]) hx hb dX4_next_55 rfl hl (by decide) rfl (fun ls hl => ?_)
          refine lv_aload_n hx hb dX4_next_56 rfl (lv_at hl 1 rfl) ?_
          refine va_get (D := D) (ci := 4) (v := .long x_36) (C := RX4) (T := TX4) (N := 38) hx hb hg iX4 hown hK hP 0 rfl rfl 16 (by decide) (hg _ kw509) (fun _ h9 => h9) rfl dX4_next_57 ?_
          refine lv_lstore_n (lv' := [(2, .long x_36), (1, .int (nI i)), (0, .ref m0), (4, .long w), (6, .int x), (7, .int (nI i))]) hx hb dX4_next_60 rfl hl (by decide) rfl (fun ls hl => ?_)
          refine lv_aload_n hx hb dX4_next_61 rfl (lv_at hl 2 rfl) ?_
          refine va_get (D := D) (ci := 4) (v := .long x_37) (C := RX4) (T := TX4) (N := 38) hx hb hg iX4 hown hK hP 0 rfl rfl 17 (by decide) (hg _ kw510) (fun _ h9 => h9) rfl dX4_next_62 ?_
          refine lv_lstore (lv' := [(4, .long x_37), (2, .long x_36), (1, .int (nI i)), (0, .ref m0), (6, .int x), (7, .int (nI i))]) hx hb dX4_next_65 hl (by decide) rfl (fun ls hl => ?_)
          refine lv_aload_n hx hb dX4_next_67 rfl (lv_at hl 3 rfl) ?_
          refine va_get (D := D) (ci := 4) (v := .int x_35) (C := RX4) (T := TX4) (N := 38) hx hb hg iX4 hown hK hP 0 rfl rfl 18 (by decide) (hg _ kw511) (fun _ h9 => h9) rfl dX4_next_68 ?_
          refine lv_istore (lv' := [(6, .int x_35), (4, .long x_37), (2, .long x_36), (1, .int (nI i)), (0, .ref m0), (7, .int (nI i))]) hx hb dX4_next_71 hl (by decide) rfl (fun ls hl => ?_)
          refine lv_iinc (v := nI (i + 1)) (lv' := [(7, .int (nI (i + 1))), (6, .int x_35), (4, .long x_37), (2, .long x_36), (1, .int (nI i)), (0, .ref m0)]) hx hb dX4_next_73 hl (k := 5) rfl (nI_1 _) (by decide) rfl (fun ls hl => ?_)
          refine lv_goto (tgt := 13) hx hb dX4_next_76 (by decide) ?_
          rw [show (nxN cs pt dr ab bb of lx la lb (n + 1) i b x v w) = (nxN cs pt dr ab bb of lx la lb n (i + 1) (nI i) x_35 x_36 x_37) from by simp [nxN, nx1, c28, hz, c33]]
          exact ih (i + 1) (nI i) x_35 x_36 x_37 x_35 x_36 x_37 x_38 x_39 (by omega) H locs ls hP hD hS (lv_sub hl [5, 4, 3, 2, 1, 0] rfl)
        · refine lv_aload_n hx hb dX4_next_36 rfl (lv_at hl 0 rfl) ?_
          refine va_get (D := D) (ci := 4) (v := .long x_36) (C := RX4) (T := TX4) (N := 38) hx hb hg iX4 hown hK hP 0 rfl rfl 16 (by decide) (hg _ kw509) (fun _ h9 => h9) rfl dX4_next_37 ?_
          refine lv_lload hx hb dX4_next_40 (lv_at hl 3 rfl) ?_
          refine lv_lmul hx hb dX4_next_42 ?_
          refine lv_lload_n hx hb dX4_next_43 rfl (lv_at hl 2 rfl) ?_
          refine lv_aload_n hx hb dX4_next_44 rfl (lv_at hl 0 rfl) ?_
          refine va_get (D := D) (ci := 4) (v := .long x_37) (C := RX4) (T := TX4) (N := 38) hx hb hg iX4 hown hK hP 0 rfl rfl 17 (by decide) (hg _ kw510) (fun _ h9 => h9) rfl dX4_next_45 ?_
          refine lv_lmul hx hb dX4_next_48 ?_
          refine W.lcmp hx hb dX4_next_49 ?_
          refine lv_if_ge (tgt := 73) hx hb dX4_next_50 (by decide) (fun c50 => ?_) (fun c50 => ?_)
          · replace c50 := (lg_cmp_ge _ _).mp c50
            have c50n := Int64.not_lt.mpr c50
            refine lv_iinc (v := nI (i + 1)) (lv' := [(7, .int (nI (i + 1))), (0, .ref m0), (1, .int b), (2, .long v), (4, .long w), (6, .int x)]) hx hb dX4_next_73 hl (k := 5) rfl (nI_1 _) (by decide) rfl (fun ls hl => ?_)
            refine lv_goto (tgt := 13) hx hb dX4_next_76 (by decide) ?_
            rw [show (nxN cs pt dr ab bb of lx la lb (n + 1) i b x v w) = (nxN cs pt dr ab bb of lx la lb n (i + 1) b x v w) from by simp [nxN, nx1, c28, hz, c33, c50, c50n]]
            exact ih (i + 1) b x v w x_35 x_36 x_37 x_38 x_39 (by omega) H locs ls hP hD hS (lv_sub hl [1, 2, 3, 4, 5, 0] rfl)
          · replace c50 := (not_congr (lg_cmp_ge _ _)).mp c50
            have c50n := Int64.not_le.mp c50
            refine lv_iload hx hb dX4_next_53 (lv_at hl 5 rfl) ?_
            refine lv_istore_n (lv' := [(1, .int (nI i)), (0, .ref m0), (2, .long v), (4, .long w), (6, .int x), (7, .int (nI i))]) hx hb dX4_next_55 rfl hl (by decide) rfl (fun ls hl => ?_)
            refine lv_aload_n hx hb dX4_next_56 rfl (lv_at hl 1 rfl) ?_
            refine va_get (D := D) (ci := 4) (v := .long x_36) (C := RX4) (T := TX4) (N := 38) hx hb hg iX4 hown hK hP 0 rfl rfl 16 (by decide) (hg _ kw509) (fun _ h9 => h9) rfl dX4_next_57 ?_
            refine lv_lstore_n (lv' := [(2, .long x_36), (1, .int (nI i)), (0, .ref m0), (4, .long w), (6, .int x), (7, .int (nI i))]) hx hb dX4_next_60 rfl hl (by decide) rfl (fun ls hl => ?_)
            refine lv_aload_n hx hb dX4_next_61 rfl (lv_at hl 2 rfl) ?_
            refine va_get (D := D) (ci := 4) (v := .long x_37) (C := RX4) (T := TX4) (N := 38) hx hb hg iX4 hown hK hP 0 rfl rfl 17 (by decide) (hg _ kw510) (fun _ h9 => h9) rfl dX4_next_62 ?_
            refine lv_lstore (lv' := [(4, .long x_37), (2, .long x_36), (1, .int (nI i)), (0, .ref m0), (6, .int x), (7, .int (nI i))]) hx hb dX4_next_65 hl (by decide) rfl (fun ls hl => ?_)
            refine lv_aload_n hx hb dX4_next_67 rfl (lv_at hl 3 rfl) ?_
            refine va_get (D := D) (ci := 4) (v := .int x_35) (C := RX4) (T := TX4) (N := 38) hx hb hg iX4 hown hK hP 0 rfl rfl 18 (by decide) (hg _ kw511) (fun _ h9 => h9) rfl dX4_next_68 ?_
            refine lv_istore (lv' := [(6, .int x_35), (4, .long x_37), (2, .long x_36), (1, .int (nI i)), (0, .ref m0), (7, .int (nI i))]) hx hb dX4_next_71 hl (by decide) rfl (fun ls hl => ?_)
            refine lv_iinc (v := nI (i + 1)) (lv' := [(7, .int (nI (i + 1))), (6, .int x_35), (4, .long x_37), (2, .long x_36), (1, .int (nI i)), (0, .ref m0)]) hx hb dX4_next_73 hl (k := 5) rfl (nI_1 _) (by decide) rfl (fun ls hl => ?_)
            refine lv_goto (tgt := 13) hx hb dX4_next_76 (by decide) ?_
            rw [show (nxN cs pt dr ab bb of lx la lb (n + 1) i b x v w) = (nxN cs pt dr ab bb of lx la lb n (i + 1) (nI i) x_35 x_36 x_37) from by simp [nxN, nx1, c28, hz, c33, c50, c50n]]
            exact ih (i + 1) (nI i) x_35 x_36 x_37 x_35 x_36 x_37 x_38 x_39 (by omega) H locs ls hP hD hS (lv_sub hl [5, 4, 3, 2, 1, 0] rfl)
  exact loop_34 nb 0 (-1) 0 0 1 ix ia ib oa ob (by omega) s.heap [] ls hP hD hS (lv_sub hl [5, 4, 3, 2, 1, 0] rfl)
