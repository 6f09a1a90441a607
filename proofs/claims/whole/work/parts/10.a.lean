/-! the reference: its questions -/
theorem bI_01 (b : Bool) : bI b = 0 ∨ bI b = 1 := by cases b <;> first | exact Or.inl rfl | exact Or.inr rfl
def inBl (lo x hi : Int32) : Bool := decide (lo ≤ x) && decide (x ≤ hi)
def ptB (sz x y z : Int32) : Bool := inBl (-sz) x sz && (inBl (-sz) y sz && inBl (-sz) z sz)
def dirB (x y z : Int32) : Bool := inBl (-100) x 100 && (inBl (-100) y 100 && (inBl (-100) z 100 && (!decide (x = 0) || (!decide (y = 0) || !decide (z = 0)))))
theorem inBl_iff {lo x hi : Int32} : inBl lo x hi = true ↔ inR lo x hi := by simp [inBl, inR]
theorem ptB_iff {sz x y z : Int32} : ptB sz x y z = true ↔ ptR sz x y z := by simp [ptB, ptR, inBl_iff]
theorem dirB_iff {x y z : Int32} : dirB x y z = true ↔ dirR x y z := by
  simp only [dirB, dirR, Bool.and_eq_true, inBl_iff]
  by_cases h1 : x = 0 <;> by_cases h2 : y = 0 <;> by_cases h3 : z = 0 <;> simp [h1, h2, h3]
theorem bx_iff {x : Int32} {n : Nat} (hn : n ≤ 20) : inBl 0 x (nI n - 1) = true ↔ (0 ≤ x ∧ x < nI n) := by
  rw [inBl_iff, inR]
  cases n with
  | zero =>
    rw [show nI 0 - 1 = (-1 : Int32) from by decide, show nI 0 = (0 : Int32) from rfl]
    constructor
    · rintro ⟨h1, h2⟩
      exact absurd (Int32.le_trans h1 h2) (by decide)
    · rintro ⟨h1, h2⟩
      exact absurd h1 (Int32.not_le.mpr h2)
  | succ n =>
    rw [nI_pred]
    constructor
    · rintro ⟨h1, h2⟩
      exact ⟨h1, Int32.lt_of_le_of_lt h2 ((nI_ltI (by omega) (by omega)).mpr (by omega))⟩
    · rintro ⟨h1, h2⟩
      obtain ⟨j, hj, rfl⟩ := ix_of ⟨h1, h2⟩ (by omega)
      exact ⟨h1, nI_le (by omega) (by omega)⟩
theorem n6 (i k : Nat) : 6 * nI i + nI k = nI (6 * i + k) := by rw [show (6 : Int32) = nI 6 from rfl, pk_mul, nI_add]
theorem n63 (i k : Nat) : 6 * nI i + 3 + nI k = nI (6 * i + 3 + k) := by rw [show (6 : Int32) = nI 6 from rfl, show (3 : Int32) = nI 3 from rfl, pk_mul, nI_add, nI_add]
theorem n3m (i k : Nat) : 3 * nI i + nI k = nI (3 * i + k) := by rw [show (3 : Int32) = nI 3 from rfl, pk_mul, nI_add]
theorem n60 (i : Nat) : 6 * nI i = nI (6 * i) := by rw [show (6 : Int32) = nI 6 from rfl, pk_mul]
theorem n30 (i : Nat) : 3 * nI i = nI (3 * i) := by rw [show (3 : Int32) = nI 3 from rfl, pk_mul]
theorem vin6 {i k N : Nat} (h : 6 * i + k < N) (hN : N < 2 ^ 31) : vp_in (6 * nI i + nI k) N := by rw [n6]; exact vp_in_nI h hN
theorem vcl6 {i k : Nat} (h : 6 * i + k < 2 ^ 31) : (6 * nI i + nI k).toNatClampNeg = 6 * i + k := by rw [n6]; exact nI_clamp h
theorem vin63 {i k N : Nat} (h : 6 * i + 3 + k < N) (hN : N < 2 ^ 31) : vp_in (6 * nI i + 3 + nI k) N := by rw [n63]; exact vp_in_nI h hN
theorem vcl63 {i k : Nat} (h : 6 * i + 3 + k < 2 ^ 31) : (6 * nI i + 3 + nI k).toNatClampNeg = 6 * i + 3 + k := by rw [n63]; exact nI_clamp h
theorem vin3m {i k N : Nat} (h : 3 * i + k < N) (hN : N < 2 ^ 31) : vp_in (3 * nI i + nI k) N := by rw [n3m]; exact vp_in_nI h hN
theorem vcl3m {i k : Nat} (h : 3 * i + k < 2 ^ 31) : (3 * nI i + nI k).toNatClampNeg = 3 * i + k := by rw [n3m]; exact nI_clamp h
theorem vin60 {i N : Nat} (h : 6 * i < N) (hN : N < 2 ^ 31) : vp_in (6 * nI i) N := by rw [n60]; exact vp_in_nI h hN
theorem vcl60 {i : Nat} (h : 6 * i < 2 ^ 31) : (6 * nI i).toNatClampNeg = 6 * i := by rw [n60]; exact nI_clamp h
theorem vin3m0 {i N : Nat} (h : 3 * i < N) (hN : N < 2 ^ 31) : vp_in (3 * nI i) N := by rw [n30]; exact vp_in_nI h hN
theorem vcl3m0 {i : Nat} (h : 3 * i < 2 ^ 31) : (3 * nI i).toNatClampNeg = 3 * i := by rw [n30]; exact nI_clamp h

set_option maxHeartbeats 4000000 in
set_option maxRecDepth 100000 in
/-- thrown -/
theorem qX4_thrown (l : Launch) (D : va_G) (cI cZ cJ : ClassId) (m0 m1 m2 m3 m4 m5 m6 m7 m8 m9 m10 m11 m12 m13 m14 m15 m16 m17 m18 m19 m20 m21 : Nat) (th msz cn li nht lx ix hry rh rl fc : Int32) (la lb ia ib oa ob : Int64) : Met l yX4_thrown (Cond.code yX4_thrown cX4_thrown 1 (some .int) :: gw) ({ frames := 0, cells := 0, slots := 0, locals := 0 }) (pq D [.ref m0] [(m0, .inr (4, [.int th, .int msz, .int cn, .ref m1, .ref m2, .ref m3, .ref m4, .ref m5, .ref m6, .ref m7, .ref m8, .int li, .int nht, .long la, .long lb, .int lx, .long ia, .long ib, .int ix, .long oa, .long ob, .ref m9, .ref m10, .ref m11, .ref m12, .ref m13, .int hry, .int rh, .int rl, .ref m14, .ref m15, .ref m16, .ref m17, .ref m18, .ref m19, .ref m20, .int fc, .ref m21]))] [(cI, .int), (cZ, .boolean), (cJ, .long)]) (QcRead (th)) 0 0 (fun _ => False) := by
  refine Met.ofW (cc := cX4_thrown) (maxL := 1) (ret := (some .int)) (by decide) rfl ?_
  intro p e s m args below meth c s₁ B hml hv
  obtain ⟨rfl, hP, hK, hZ⟩ := hv
  have hx := B.exec
  have hb := B.bytes
  have hr := B.returns
  have hg : ∀ w ∈ gw, w.before _ s = true := fun w h => atoms_spec (ws := Cond.code yX4_thrown cX4_thrown 1 (some .int) :: gw) B.pre w (List.mem_cons_of_mem _ h)
  have hown : s.vm.findClass RX4 = some m.cls := findClass_of_methodNamed B.named
  have hlocks := B.notSynchronized
  have hP : va_P D vwCl [(m0, .inr (4, [.int th, .int msz, .int cn, .ref m1, .ref m2, .ref m3, .ref m4, .ref m5, .ref m6, .ref m7, .ref m8, .int li, .int nht, .long la, .long lb, .int lx, .long ia, .long ib, .int ix, .long oa, .long ob, .ref m9, .ref m10, .ref m11, .ref m12, .ref m13, .int hry, .int rh, .int rl, .ref m14, .ref m15, .ref m16, .ref m17, .ref m18, .ref m19, .ref m20, .int fc, .ref m21]))] s.heap := hP
  have hl := lv_entry ([.ref m0]) (n := 1) (Nat.le_of_ble_eq_true rfl)
  rw [lg_entry_eq]
  generalize (lg_sl ([.ref m0]) ++ List.replicate (1 - (lg_sl ([.ref m0])).length) Slot.unset).toArray = ls at hl ⊢
  have hl : lv_has ls 1 [(0, .ref m0)] := hl
  refine lv_aload_n hx hb dX4_thrown_0 rfl (lv_at hl 0 rfl) ?_
  refine va_get (D := D) (ci := 4) (v := .int th) (C := RX4) (T := TX4) (N := 38) hx hb hg iX4 hown hK hP 0 rfl rfl 0 (by decide) (hg _ kw493) (fun _ h9 => h9) rfl dX4_thrown_1 ?_
  exact W.iret (v := th) hx hb hr (fun t ht hW => ⟨congrArg (fun z => Outcome.returned (some (Value.int z))) (rfl), ht⟩) (fun q hq => nomatch hq) dX4_thrown_4

set_option maxHeartbeats 4000000 in
set_option maxRecDepth 100000 in
/-- in -/
theorem qX4_in (l : Launch) (D : va_G) (cI cZ cJ : ClassId) (x lo hi : Int32) : Met l yX4_in (Cond.code yX4_in cX4_in 3 (some .boolean) :: gw) ({ frames := 0, cells := 0, slots := 0, locals := 0 }) (pq D [.int x, .int lo, .int hi] [] [(cI, .int), (cZ, .boolean), (cJ, .long)]) (QcRead (bI (inBl lo x hi))) 0 0 (fun _ => False) := by
  refine Met.ofW (cc := cX4_in) (maxL := 3) (ret := (some .boolean)) (by decide) rfl ?_
  intro p e s m args below meth c s₁ B hml hv
  obtain ⟨rfl, hP, hK, hZ⟩ := hv
  have hx := B.exec
  have hb := B.bytes
  have hr := B.returns
  have hg : ∀ w ∈ gw, w.before _ s = true := fun w h => atoms_spec (ws := Cond.code yX4_in cX4_in 3 (some .boolean) :: gw) B.pre w (List.mem_cons_of_mem _ h)
  have hown : s.vm.findClass RX4 = some m.cls := findClass_of_methodNamed B.named
  have hlocks := B.notSynchronized
  have hP : va_P D vwCl [] s.heap := hP
  have hl := lv_entry ([.int x, .int lo, .int hi]) (n := 3) (Nat.le_of_ble_eq_true rfl)
  rw [lg_entry_eq]
  generalize (lg_sl ([.int x, .int lo, .int hi]) ++ List.replicate (3 - (lg_sl ([.int x, .int lo, .int hi])).length) Slot.unset).toArray = ls at hl ⊢
  have hl : lv_has ls 3 [(0, .int x), (1, .int lo), (2, .int hi)] := hl
  refine lv_iload_n hx hb dX4_in_0 rfl (lv_at hl 0 rfl) ?_
  refine lv_iload_n hx hb dX4_in_1 rfl (lv_at hl 1 rfl) ?_
  refine lv_icmp_lt (tgt := 14) hx hb dX4_in_2 (by decide) (fun c2 => ?_) (fun c2 => ?_)
  · have c2n := Int32.not_le.mpr c2
    refine lv_iconst (v := 0) hx hb dX4_in_14 (by decide) ?_
    exact W.zret (v := 0) hx hb hr (by decide) (fun t ht hW => ⟨congrArg (fun z => Outcome.returned (some (Value.int z))) (by simp [bI, inBl, c2, c2n]), ht⟩) (fun q hq => nomatch hq) dX4_in_15
  · have c2n := Int32.not_lt.mp c2
    refine lv_iload_n hx hb dX4_in_5 rfl (lv_at hl 0 rfl) ?_
    refine lv_iload_n hx hb dX4_in_6 rfl (lv_at hl 2 rfl) ?_
    refine lv_icmp_gt (tgt := 14) hx hb dX4_in_7 (by decide) (fun c7 => ?_) (fun c7 => ?_)
    · have c7n := Int32.not_le.mpr c7
      refine lv_iconst (v := 0) hx hb dX4_in_14 (by decide) ?_
      exact W.zret (v := 0) hx hb hr (by decide) (fun t ht hW => ⟨congrArg (fun z => Outcome.returned (some (Value.int z))) (by simp [bI, inBl, c2, c2n, c7, c7n]), ht⟩) (fun q hq => nomatch hq) dX4_in_15
    · have c7n := Int32.not_lt.mp c7
      refine lv_iconst (v := 1) hx hb dX4_in_10 (by decide) ?_
      refine lv_goto (tgt := 15) hx hb dX4_in_11 (by decide) ?_
      exact W.zret (v := 1) hx hb hr (by decide) (fun t ht hW => ⟨congrArg (fun z => Outcome.returned (some (Value.int z))) (by simp [bI, inBl, c2, c2n, c7, c7n]), ht⟩) (fun q hq => nomatch hq) dX4_in_15

set_option maxHeartbeats 4000000 in
set_option maxRecDepth 100000 in
/-- isPlace -/
theorem qX4_isPlace (l : Launch) (D : va_G) (cI cZ cJ : ClassId) (m0 m1 m2 m3 m4 m5 m6 m7 m8 m9 m10 m11 m12 m13 m14 m15 m16 m17 m18 m19 m20 m21 : Nat) (th msz cn li nht lx ix hry rh rl fc : Int32) (la lb ia ib oa ob : Int64) (x : Int32) : Met l yX4_isPlace (Cond.code yX4_isPlace cX4_isPlace 2 (some .boolean) :: gw) ({ frames := 1, cells := 0, slots := 0, locals := 22 }) (pq D [.ref m0, .int x] [(m0, .inr (4, [.int th, .int msz, .int cn, .ref m1, .ref m2, .ref m3, .ref m4, .ref m5, .ref m6, .ref m7, .ref m8, .int li, .int nht, .long la, .long lb, .int lx, .long ia, .long ib, .int ix, .long oa, .long ob, .ref m9, .ref m10, .ref m11, .ref m12, .ref m13, .int hry, .int rh, .int rl, .ref m14, .ref m15, .ref m16, .ref m17, .ref m18, .ref m19, .ref m20, .int fc, .ref m21]))] [(cI, .int), (cZ, .boolean), (cJ, .long)]) (QcRead (bI (inBl (-msz) x msz))) 0 0 (fun _ => False) := by
  refine Met.ofW (cc := cX4_isPlace) (maxL := 2) (ret := (some .boolean)) (by decide) rfl ?_
  intro p e s m args below meth c s₁ B hml hv
  obtain ⟨rfl, hP, hK, hZ⟩ := hv
  have hx := B.exec
  have hb := B.bytes
  have hr := B.returns
  have hg : ∀ w ∈ gw, w.before _ s = true := fun w h => atoms_spec (ws := Cond.code yX4_isPlace cX4_isPlace 2 (some .boolean) :: gw) B.pre w (List.mem_cons_of_mem _ h)
  have hown : s.vm.findClass RX4 = some m.cls := findClass_of_methodNamed B.named
  have hlocks := B.notSynchronized
  have hP : va_P D vwCl [(m0, .inr (4, [.int th, .int msz, .int cn, .ref m1, .ref m2, .ref m3, .ref m4, .ref m5, .ref m6, .ref m7, .ref m8, .int li, .int nht, .long la, .long lb, .int lx, .long ia, .long ib, .int ix, .long oa, .long ob, .ref m9, .ref m10, .ref m11, .ref m12, .ref m13, .int hry, .int rh, .int rl, .ref m14, .ref m15, .ref m16, .ref m17, .ref m18, .ref m19, .ref m20, .int fc, .ref m21]))] s.heap := hP
  have hl := lv_entry ([.ref m0, .int x]) (n := 2) (Nat.le_of_ble_eq_true rfl)
  rw [lg_entry_eq]
  generalize (lg_sl ([.ref m0, .int x]) ++ List.replicate (2 - (lg_sl ([.ref m0, .int x])).length) Slot.unset).toArray = ls at hl ⊢
  have hl : lv_has ls 2 [(0, .ref m0), (1, .int x)] := hl
  refine lv_iload_n hx hb dX4_isPlace_0 rfl (lv_at hl 1 rfl) ?_
  refine lv_aload_n hx hb dX4_isPlace_1 rfl (lv_at hl 0 rfl) ?_
  refine va_get (D := D) (ci := 4) (v := .int msz) (C := RX4) (T := TX4) (N := 38) hx hb hg iX4 hown hK hP 0 rfl rfl 1 (by decide) (hg _ kw494) (fun _ h9 => h9) rfl dX4_isPlace_2 ?_
  refine lv_ineg hx hb dX4_isPlace_5 ?_
  refine lv_aload_n hx hb dX4_isPlace_6 rfl (lv_at hl 0 rfl) ?_
  refine va_get (D := D) (ci := 4) (v := .int msz) (C := RX4) (T := TX4) (N := 38) hx hb hg iX4 hown hK hP 0 rfl rfl 1 (by decide) (hg _ kw494) (fun _ h9 => h9) rfl dX4_isPlace_7 ?_
  have hPc := hP.sub (ws' := []) [] rfl
  refine rq_call (va_runS (As := [.int x, .int (-msz), .int msz]) (rest := []) ⟨hx, hb, hml, hown, hg⟩ (qX4_in l D cI cZ cJ x (-msz) msz) (va_cwS 3 hg (gw_S kw625 kw626 kw41 kw627) rfl rfl rfl (by decide +kernel) ⟨Nat.le_of_ble_eq_true rfl, Nat.le_of_ble_eq_true rfl⟩) (pq_pre hPc hK hZ) rfl rfl hl.1 rfl (lv_room (Nat.le_of_ble_eq_true rfl)) dX4_isPlace_10 ⟨Nat.le_of_ble_eq_true rfl, Nat.le_of_ble_eq_true rfl⟩) ?_
  exact W.zret (v := bI (inBl (-msz) x msz)) hx hb hr (nar_01 (bI_01 _)) (fun t ht hW => ⟨congrArg (fun z => Outcome.returned (some (Value.int z))) (rfl), ht⟩) (fun q hq => nomatch hq) dX4_isPlace_13

set_option maxHeartbeats 4000000 in
set_option maxRecDepth 100000 in
/-- arePlaces -/
theorem qX4_arePlaces (l : Launch) (D : va_G) (cI cZ cJ : ClassId) (m0 m1 m2 m3 m4 m5 m6 m7 m8 m9 m10 m11 m12 m13 m14 m15 m16 m17 m18 m19 m20 m21 : Nat) (th msz cn li nht lx ix hry rh rl fc : Int32) (la lb ia ib oa ob : Int64) (x y z : Int32) : Met l yX4_arePlaces (Cond.code yX4_arePlaces cX4_arePlaces 4 (some .boolean) :: gw) ({ frames := 2, cells := 0, slots := 0, locals := 43 }) (pq D [.ref m0, .int x, .int y, .int z] [(m0, .inr (4, [.int th, .int msz, .int cn, .ref m1, .ref m2, .ref m3, .ref m4, .ref m5, .ref m6, .ref m7, .ref m8, .int li, .int nht, .long la, .long lb, .int lx, .long ia, .long ib, .int ix, .long oa, .long ob, .ref m9, .ref m10, .ref m11, .ref m12, .ref m13, .int hry, .int rh, .int rl, .ref m14, .ref m15, .ref m16, .ref m17, .ref m18, .ref m19, .ref m20, .int fc, .ref m21]))] [(cI, .int), (cZ, .boolean), (cJ, .long)]) (QcRead (bI (ptB msz x y z))) 0 0 (fun _ => False) := by
  refine Met.ofW (cc := cX4_arePlaces) (maxL := 4) (ret := (some .boolean)) (by decide) rfl ?_
  intro p e s m args below meth c s₁ B hml hv
  obtain ⟨rfl, hP, hK, hZ⟩ := hv
  have hx := B.exec
  have hb := B.bytes
  have hr := B.returns
  have hg : ∀ w ∈ gw, w.before _ s = true := fun w h => atoms_spec (ws := Cond.code yX4_arePlaces cX4_arePlaces 4 (some .boolean) :: gw) B.pre w (List.mem_cons_of_mem _ h)
  have hown : s.vm.findClass RX4 = some m.cls := findClass_of_methodNamed B.named
  have hlocks := B.notSynchronized
  have hP : va_P D vwCl [(m0, .inr (4, [.int th, .int msz, .int cn, .ref m1, .ref m2, .ref m3, .ref m4, .ref m5, .ref m6, .ref m7, .ref m8, .int li, .int nht, .long la, .long lb, .int lx, .long ia, .long ib, .int ix, .long oa, .long ob, .ref m9, .ref m10, .ref m11, .ref m12, .ref m13, .int hry, .int rh, .int rl, .ref m14, .ref m15, .ref m16, .ref m17, .ref m18, .ref m19, .ref m20, .int fc, .ref m21]))] s.heap := hP
  have hl := lv_entry ([.ref m0, .int x, .int y, .int z]) (n := 4) (Nat.le_of_ble_eq_true rfl)
  rw [lg_entry_eq]
  generalize (lg_sl ([.ref m0, .int x, .int y, .int z]) ++ List.replicate (4 - (lg_sl ([.ref m0, .int x, .int y, .int z])).length) Slot.unset).toArray = ls at hl ⊢
  have hl : lv_has ls 4 [(0, .ref m0), (1, .int x), (2, .int y), (3, .int z)] := hl
  refine lv_aload_n hx hb dX4_arePlaces_0 rfl (lv_at hl 0 rfl) ?_
  refine lv_iload_n hx hb dX4_arePlaces_1 rfl (lv_at hl 1 rfl) ?_
  have hPc := hP.sub (ws' := [(m0, .inr (4, [.int th, .int msz, .int cn, .ref m1, .ref m2, .ref m3, .ref m4, .ref m5, .ref m6, .ref m7, .ref m8, .int li, .int nht, .long la, .long lb, .int lx, .long ia, .long ib, .int ix, .long oa, .long ob, .ref m9, .ref m10, .ref m11, .ref m12, .ref m13, .int hry, .int rh, .int rl, .ref m14, .ref m15, .ref m16, .ref m17, .ref m18, .ref m19, .ref m20, .int fc, .ref m21]))]) [0] rfl
  refine rq_call (va_runV (As := [.int x]) (rest := []) ⟨hx, hb, hml, hown, hg⟩ (qX4_isPlace l D cI cZ cJ m0 m1 m2 m3 m4 m5 m6 m7 m8 m9 m10 m11 m12 m13 m14 m15 m16 m17 m18 m19 m20 m21 th msz cn li nht lx ix hry rh rl fc la lb ia ib oa ob x) (cwV 1 hg (gw_V kw621 kw623 kw24 kw41 kw624) rfl rfl rfl (by decide +kernel) ⟨Nat.le_of_ble_eq_true rfl, Nat.le_of_ble_eq_true rfl⟩) (pq_preV hPc hK hZ (va_recv hK hPc (ci := 4) (q0 := 0) rfl rfl)) rfl rfl hl.1 rfl (lv_room (Nat.le_of_ble_eq_true rfl)) dX4_arePlaces_2 ⟨Nat.le_of_ble_eq_true rfl, Nat.le_of_ble_eq_true rfl⟩) ?_
  refine lv_if_eq (tgt := 28) hx hb dX4_arePlaces_5 (by decide) (fun c5 => ?_) (fun c5 => ?_)
  · replace c5 := bI_f c5
    refine lv_iconst (v := 0) hx hb dX4_arePlaces_28 (by decide) ?_
    exact W.zret (v := 0) hx hb hr (by decide) (fun t ht hW => ⟨congrArg (fun z => Outcome.returned (some (Value.int z))) (by simp [bI, ptB, c5]), ht⟩) (fun q hq => nomatch hq) dX4_arePlaces_29
  · replace c5 := bI_t c5
    refine lv_aload_n hx hb dX4_arePlaces_8 rfl (lv_at hl 0 rfl) ?_
    refine lv_iload_n hx hb dX4_arePlaces_9 rfl (lv_at hl 2 rfl) ?_
    have hPc := hP.sub (ws' := [(m0, .inr (4, [.int th, .int msz, .int cn, .ref m1, .ref m2, .ref m3, .ref m4, .ref m5, .ref m6, .ref m7, .ref m8, .int li, .int nht, .long la, .long lb, .int lx, .long ia, .long ib, .int ix, .long oa, .long ob, .ref m9, .ref m10, .ref m11, .ref m12, .ref m13, .int hry, .int rh, .int rl, .ref m14, .ref m15, .ref m16, .ref m17, .ref m18, .ref m19, .ref m20, .int fc, .ref m21]))]) [0] rfl
    refine rq_call (va_runV (As := [.int y]) (rest := []) ⟨hx, hb, hml, hown, hg⟩ (qX4_isPlace l D cI cZ cJ m0 m1 m2 m3 m4 m5 m6 m7 m8 m9 m10 m11 m12 m13 m14 m15 m16 m17 m18 m19 m20 m21 th msz cn li nht lx ix hry rh rl fc la lb ia ib oa ob y) (cwV 1 hg (gw_V kw621 kw623 kw24 kw41 kw624) rfl rfl rfl (by decide +kernel) ⟨Nat.le_of_ble_eq_true rfl, Nat.le_of_ble_eq_true rfl⟩) (pq_preV hPc hK hZ (va_recv hK hPc (ci := 4) (q0 := 0) rfl rfl)) rfl rfl hl.1 rfl (lv_room (Nat.le_of_ble_eq_true rfl)) dX4_arePlaces_10 ⟨Nat.le_of_ble_eq_true rfl, Nat.le_of_ble_eq_true rfl⟩) ?_
    refine lv_if_eq (tgt := 28) hx hb dX4_arePlaces_13 (by decide) (fun c13 => ?_) (fun c13 => ?_)
    · replace c13 := bI_f c13
      refine lv_iconst (v := 0) hx hb dX4_arePlaces_28 (by decide) ?_
      exact W.zret (v := 0) hx hb hr (by decide) (fun t ht hW => ⟨congrArg (fun z => Outcome.returned (some (Value.int z))) (by simp [bI, ptB, c5, c13]), ht⟩) (fun q hq => nomatch hq) dX4_arePlaces_29
    · replace c13 := bI_t c13
      refine lv_aload_n hx hb dX4_arePlaces_16 rfl (lv_at hl 0 rfl) ?_
      refine lv_iload_n hx hb dX4_arePlaces_17 rfl (lv_at hl 3 rfl) ?_
      have hPc := hP.sub (ws' := [(m0, .inr (4, [.int th, .int msz, .int cn, .ref m1, .ref m2, .ref m3, .ref m4, .ref m5, .ref m6, .ref m7, .ref m8, .int li, .int nht, .long la, .long lb, .int lx, .long ia, .long ib, .int ix, .long oa, .long ob, .ref m9, .ref m10, .ref m11, .ref m12, .ref m13, .int hry, .int rh, .int rl, .ref m14, .ref m15, .ref m16, .ref m17, .ref m18, .ref m19, .ref m20, .int fc, .ref m21]))]) [0] rfl
      refine rq_call (va_runV (As := [.int z]) (rest := []) ⟨hx, hb, hml, hown, hg⟩ (qX4_isPlace l D cI cZ cJ m0 m1 m2 m3 m4 m5 m6 m7 m8 m9 m10 m11 m12 m13 m14 m15 m16 m17 m18 m19 m20 m21 th msz cn li nht lx ix hry rh rl fc la lb ia ib oa ob z) (cwV 1 hg (gw_V kw621 kw623 kw24 kw41 kw624) rfl rfl rfl (by decide +kernel) ⟨Nat.le_of_ble_eq_true rfl, Nat.le_of_ble_eq_true rfl⟩) (pq_preV hPc hK hZ (va_recv hK hPc (ci := 4) (q0 := 0) rfl rfl)) rfl rfl hl.1 rfl (lv_room (Nat.le_of_ble_eq_true rfl)) dX4_arePlaces_18 ⟨Nat.le_of_ble_eq_true rfl, Nat.le_of_ble_eq_true rfl⟩) ?_
      refine lv_if_eq (tgt := 28) hx hb dX4_arePlaces_21 (by decide) (fun c21 => ?_) (fun c21 => ?_)
      · replace c21 := bI_f c21
        refine lv_iconst (v := 0) hx hb dX4_arePlaces_28 (by decide) ?_
        exact W.zret (v := 0) hx hb hr (by decide) (fun t ht hW => ⟨congrArg (fun z => Outcome.returned (some (Value.int z))) (by simp [bI, ptB, c5, c13, c21]), ht⟩) (fun q hq => nomatch hq) dX4_arePlaces_29
      · replace c21 := bI_t c21
        refine lv_iconst (v := 1) hx hb dX4_arePlaces_24 (by decide) ?_
        refine lv_goto (tgt := 29) hx hb dX4_arePlaces_25 (by decide) ?_
        exact W.zret (v := 1) hx hb hr (by decide) (fun t ht hW => ⟨congrArg (fun z => Outcome.returned (some (Value.int z))) (by simp [bI, ptB, c5, c13, c21]), ht⟩) (fun q hq => nomatch hq) dX4_arePlaces_29

set_option maxHeartbeats 4000000 in
set_option maxRecDepth 100000 in
/-- isDirection -/
theorem qX4_isDirection (l : Launch) (D : va_G) (cI cZ cJ : ClassId) (x y z : Int32) : Met l yX4_isDirection (Cond.code yX4_isDirection cX4_isDirection 3 (some .boolean) :: gw) ({ frames := 1, cells := 0, slots := 0, locals := 22 }) (pq D [.int x, .int y, .int z] [] [(cI, .int), (cZ, .boolean), (cJ, .long)]) (QcRead (bI (dirB x y z))) 0 0 (fun _ => False) := by
  refine Met.ofW (cc := cX4_isDirection) (maxL := 3) (ret := (some .boolean)) (by decide) rfl ?_
  intro p e s m args below meth c s₁ B hml hv
  obtain ⟨rfl, hP, hK, hZ⟩ := hv
  have hx := B.exec
  have hb := B.bytes
  have hr := B.returns
  have hg : ∀ w ∈ gw, w.before _ s = true := fun w h => atoms_spec (ws := Cond.code yX4_isDirection cX4_isDirection 3 (some .boolean) :: gw) B.pre w (List.mem_cons_of_mem _ h)
  have hown : s.vm.findClass RX4 = some m.cls := findClass_of_methodNamed B.named
  have hlocks := B.notSynchronized
  have hP : va_P D vwCl [] s.heap := hP
  have hl := lv_entry ([.int x, .int y, .int z]) (n := 3) (Nat.le_of_ble_eq_true rfl)
  rw [lg_entry_eq]
  generalize (lg_sl ([.int x, .int y, .int z]) ++ List.replicate (3 - (lg_sl ([.int x, .int y, .int z])).length) Slot.unset).toArray = ls at hl ⊢
  have hl : lv_has ls 3 [(0, .int x), (1, .int y), (2, .int z)] := hl
  refine lv_iload_n hx hb dX4_isDirection_0 rfl (lv_at hl 0 rfl) ?_
  refine lv_bipush (v := (-100)) hx hb dX4_isDirection_1 (by decide) ?_
  refine lv_bipush (v := 100) hx hb dX4_isDirection_3 (by decide) ?_
  have hPc := hP.sub (ws' := []) [] rfl
  refine rq_call (va_runS (As := [.int x, .int (-100), .int 100]) (rest := []) ⟨hx, hb, hml, hown, hg⟩ (qX4_in l D cI cZ cJ x (-100) 100) (va_cwS 3 hg (gw_S kw625 kw626 kw41 kw627) rfl rfl rfl (by decide +kernel) ⟨Nat.le_of_ble_eq_true rfl, Nat.le_of_ble_eq_true rfl⟩) (pq_pre hPc hK hZ) rfl rfl hl.1 rfl (lv_room (Nat.le_of_ble_eq_true rfl)) dX4_isDirection_5 ⟨Nat.le_of_ble_eq_true rfl, Nat.le_of_ble_eq_true rfl⟩) ?_
  refine lv_if_eq (tgt := 49) hx hb dX4_isDirection_8 (by decide) (fun c8 => ?_) (fun c8 => ?_)
  · replace c8 := bI_f c8
    refine lv_iconst (v := 0) hx hb dX4_isDirection_49 (by decide) ?_
    exact W.zret (v := 0) hx hb hr (by decide) (fun t ht hW => ⟨congrArg (fun z => Outcome.returned (some (Value.int z))) (by (try simp only [dirB, c8]); (try simp [bI, c8])), ht⟩) (fun q hq => nomatch hq) dX4_isDirection_50
  · replace c8 := bI_t c8
    refine lv_iload_n hx hb dX4_isDirection_11 rfl (lv_at hl 1 rfl) ?_
    refine lv_bipush (v := (-100)) hx hb dX4_isDirection_12 (by decide) ?_
    refine lv_bipush (v := 100) hx hb dX4_isDirection_14 (by decide) ?_
    have hPc := hP.sub (ws' := []) [] rfl
    refine rq_call (va_runS (As := [.int y, .int (-100), .int 100]) (rest := []) ⟨hx, hb, hml, hown, hg⟩ (qX4_in l D cI cZ cJ y (-100) 100) (va_cwS 3 hg (gw_S kw625 kw626 kw41 kw627) rfl rfl rfl (by decide +kernel) ⟨Nat.le_of_ble_eq_true rfl, Nat.le_of_ble_eq_true rfl⟩) (pq_pre hPc hK hZ) rfl rfl hl.1 rfl (lv_room (Nat.le_of_ble_eq_true rfl)) dX4_isDirection_16 ⟨Nat.le_of_ble_eq_true rfl, Nat.le_of_ble_eq_true rfl⟩) ?_
    refine lv_if_eq (tgt := 49) hx hb dX4_isDirection_19 (by decide) (fun c19 => ?_) (fun c19 => ?_)
    · replace c19 := bI_f c19
      refine lv_iconst (v := 0) hx hb dX4_isDirection_49 (by decide) ?_
      exact W.zret (v := 0) hx hb hr (by decide) (fun t ht hW => ⟨congrArg (fun z => Outcome.returned (some (Value.int z))) (by (try simp only [dirB, c8, c19]); (try simp [bI, c8, c19])), ht⟩) (fun q hq => nomatch hq) dX4_isDirection_50
    · replace c19 := bI_t c19
      refine lv_iload_n hx hb dX4_isDirection_22 rfl (lv_at hl 2 rfl) ?_
      refine lv_bipush (v := (-100)) hx hb dX4_isDirection_23 (by decide) ?_
      refine lv_bipush (v := 100) hx hb dX4_isDirection_25 (by decide) ?_
      have hPc := hP.sub (ws' := []) [] rfl
      refine rq_call (va_runS (As := [.int z, .int (-100), .int 100]) (rest := []) ⟨hx, hb, hml, hown, hg⟩ (qX4_in l D cI cZ cJ z (-100) 100) (va_cwS 3 hg (gw_S kw625 kw626 kw41 kw627) rfl rfl rfl (by decide +kernel) ⟨Nat.le_of_ble_eq_true rfl, Nat.le_of_ble_eq_true rfl⟩) (pq_pre hPc hK hZ) rfl rfl hl.1 rfl (lv_room (Nat.le_of_ble_eq_true rfl)) dX4_isDirection_27 ⟨Nat.le_of_ble_eq_true rfl, Nat.le_of_ble_eq_true rfl⟩) ?_
      refine lv_if_eq (tgt := 49) hx hb dX4_isDirection_30 (by decide) (fun c30 => ?_) (fun c30 => ?_)
      · replace c30 := bI_f c30
        refine lv_iconst (v := 0) hx hb dX4_isDirection_49 (by decide) ?_
        exact W.zret (v := 0) hx hb hr (by decide) (fun t ht hW => ⟨congrArg (fun z => Outcome.returned (some (Value.int z))) (by (try simp only [dirB, c8, c19, c30]); (try simp [bI, c8, c19, c30])), ht⟩) (fun q hq => nomatch hq) dX4_isDirection_50
      · replace c30 := bI_t c30
        refine lv_iload_n hx hb dX4_isDirection_33 rfl (lv_at hl 0 rfl) ?_
        refine lv_if_ne (tgt := 45) hx hb dX4_isDirection_34 (by decide) (fun c34 => ?_) (fun c34 => ?_)
        · refine lv_iconst (v := 1) hx hb dX4_isDirection_45 (by decide) ?_
          refine lv_goto (tgt := 50) hx hb dX4_isDirection_46 (by decide) ?_
          exact W.zret (v := 1) hx hb hr (by decide) (fun t ht hW => ⟨congrArg (fun z => Outcome.returned (some (Value.int z))) (by (try simp only [dirB, c8, c19, c30]); (try simp [bI, c8, c19, c30, c34])), ht⟩) (fun q hq => nomatch hq) dX4_isDirection_50
        · refine lv_iload_n hx hb dX4_isDirection_37 rfl (lv_at hl 1 rfl) ?_
          refine lv_if_ne (tgt := 45) hx hb dX4_isDirection_38 (by decide) (fun c38 => ?_) (fun c38 => ?_)
          · refine lv_iconst (v := 1) hx hb dX4_isDirection_45 (by decide) ?_
            refine lv_goto (tgt := 50) hx hb dX4_isDirection_46 (by decide) ?_
            exact W.zret (v := 1) hx hb hr (by decide) (fun t ht hW => ⟨congrArg (fun z => Outcome.returned (some (Value.int z))) (by (try simp only [dirB, c8, c19, c30]); (try simp [bI, c8, c19, c30, c34, c38])), ht⟩) (fun q hq => nomatch hq) dX4_isDirection_50
          · refine lv_iload_n hx hb dX4_isDirection_41 rfl (lv_at hl 2 rfl) ?_
            refine lv_if_eq (tgt := 49) hx hb dX4_isDirection_42 (by decide) (fun c42 => ?_) (fun c42 => ?_)
            · refine lv_iconst (v := 0) hx hb dX4_isDirection_49 (by decide) ?_
              exact W.zret (v := 0) hx hb hr (by decide) (fun t ht hW => ⟨congrArg (fun z => Outcome.returned (some (Value.int z))) (by (try simp only [dirB, c8, c19, c30]); (try simp [bI, c8, c19, c30, c34, c38, c42])), ht⟩) (fun q hq => nomatch hq) dX4_isDirection_50
            · refine lv_iconst (v := 1) hx hb dX4_isDirection_45 (by decide) ?_
              refine lv_goto (tgt := 50) hx hb dX4_isDirection_46 (by decide) ?_
              exact W.zret (v := 1) hx hb hr (by decide) (fun t ht hW => ⟨congrArg (fun z => Outcome.returned (some (Value.int z))) (by (try simp only [dirB, c8, c19, c30]); (try simp [bI, c8, c19, c30, c34, c38, c42])), ht⟩) (fun q hq => nomatch hq) dX4_isDirection_50

set_option maxHeartbeats 4000000 in
set_option maxRecDepth 100000 in
/-- isBox -/
theorem qX4_isBox (l : Launch) (D : va_G) (cI cZ cJ : ClassId) (m0 m1 m2 m3 m4 m5 m6 m7 m8 m9 m10 m11 m12 m13 m14 m15 m16 m17 m18 m19 m20 m21 : Nat) (th msz cn li nht lx ix hry rh rl fc : Int32) (la lb ia ib oa ob : Int64) (x : Int32) : Met l yX4_isBox (Cond.code yX4_isBox cX4_isBox 2 (some .boolean) :: gw) ({ frames := 1, cells := 0, slots := 0, locals := 22 }) (pq D [.ref m0, .int x] [(m0, .inr (4, [.int th, .int msz, .int cn, .ref m1, .ref m2, .ref m3, .ref m4, .ref m5, .ref m6, .ref m7, .ref m8, .int li, .int nht, .long la, .long lb, .int lx, .long ia, .long ib, .int ix, .long oa, .long ob, .ref m9, .ref m10, .ref m11, .ref m12, .ref m13, .int hry, .int rh, .int rl, .ref m14, .ref m15, .ref m16, .ref m17, .ref m18, .ref m19, .ref m20, .int fc, .ref m21]))] [(cI, .int), (cZ, .boolean), (cJ, .long)]) (QcRead (bI (inBl 0 x (cn - 1)))) 0 0 (fun _ => False) := by
  refine Met.ofW (cc := cX4_isBox) (maxL := 2) (ret := (some .boolean)) (by decide) rfl ?_
  intro p e s m args below meth c s₁ B hml hv
  obtain ⟨rfl, hP, hK, hZ⟩ := hv
  have hx := B.exec
  have hb := B.bytes
  have hr := B.returns
  have hg : ∀ w ∈ gw, w.before _ s = true := fun w h => atoms_spec (ws := Cond.code yX4_isBox cX4_isBox 2 (some .boolean) :: gw) B.pre w (List.mem_cons_of_mem _ h)
  have hown : s.vm.findClass RX4 = some m.cls := findClass_of_methodNamed B.named
  have hlocks := B.notSynchronized
  have hP : va_P D vwCl [(m0, .inr (4, [.int th, .int msz, .int cn, .ref m1, .ref m2, .ref m3, .ref m4, .ref m5, .ref m6, .ref m7, .ref m8, .int li, .int nht, .long la, .long lb, .int lx, .long ia, .long ib, .int ix, .long oa, .long ob, .ref m9, .ref m10, .ref m11, .ref m12, .ref m13, .int hry, .int rh, .int rl, .ref m14, .ref m15, .ref m16, .ref m17, .ref m18, .ref m19, .ref m20, .int fc, .ref m21]))] s.heap := hP
  have hl := lv_entry ([.ref m0, .int x]) (n := 2) (Nat.le_of_ble_eq_true rfl)
  rw [lg_entry_eq]
  generalize (lg_sl ([.ref m0, .int x]) ++ List.replicate (2 - (lg_sl ([.ref m0, .int x])).length) Slot.unset).toArray = ls at hl ⊢
  have hl : lv_has ls 2 [(0, .ref m0), (1, .int x)] := hl
  refine lv_iload_n hx hb dX4_isBox_0 rfl (lv_at hl 1 rfl) ?_
  refine lv_iconst (v := 0) hx hb dX4_isBox_1 (by decide) ?_
  refine lv_aload_n hx hb dX4_isBox_2 rfl (lv_at hl 0 rfl) ?_
  refine va_get (D := D) (ci := 4) (v := .int cn) (C := RX4) (T := TX4) (N := 38) hx hb hg iX4 hown hK hP 0 rfl rfl 2 (by decide) (hg _ kw495) (fun _ h9 => h9) rfl dX4_isBox_3 ?_
  refine lv_iconst (v := 1) hx hb dX4_isBox_6 (by decide) ?_
  refine lv_isub hx hb dX4_isBox_7 ?_
  have hPc := hP.sub (ws' := []) [] rfl
  refine rq_call (va_runS (As := [.int x, .int 0, .int (cn - 1)]) (rest := []) ⟨hx, hb, hml, hown, hg⟩ (qX4_in l D cI cZ cJ x 0 (cn - 1)) (va_cwS 3 hg (gw_S kw625 kw626 kw41 kw627) rfl rfl rfl (by decide +kernel) ⟨Nat.le_of_ble_eq_true rfl, Nat.le_of_ble_eq_true rfl⟩) (pq_pre hPc hK hZ) rfl rfl hl.1 rfl (lv_room (Nat.le_of_ble_eq_true rfl)) dX4_isBox_8 ⟨Nat.le_of_ble_eq_true rfl, Nat.le_of_ble_eq_true rfl⟩) ?_
  exact W.zret (v := bI (inBl 0 x (cn - 1))) hx hb hr (nar_01 (bI_01 _)) (fun t ht hW => ⟨congrArg (fun z => Outcome.returned (some (Value.int z))) (rfl), ht⟩) (fun q hq => nomatch hq) dX4_isBox_11

def inC (cs pt : Nat → Int32) (i a : Nat) : Bool := !decide (pt a ≤ cs (6 * i + a)) && !decide (cs (6 * i + 3 + a) ≤ pt a)
def solidC (cs ki of pt : Nat → Int32) (i : Nat) : Bool := (((decide (of i = 0) && decide (ki i = 0)) && inC cs pt i 0) && inC cs pt i 1) && inC cs pt i 2
def anyC (cs ki of pt : Nat → Int32) : Nat → Nat → Bool
  | 0, _ => false
  | n + 1, i => solidC cs ki of pt i || anyC cs ki of pt n (i + 1)

set_option maxHeartbeats 4000000 in
set_option maxRecDepth 100000 in
/-- isInSolid -/
theorem qX4_isInSolid (l : Launch) (D : va_G) (cI cZ cJ : ClassId) (m0 m1 m2 m3 m4 m5 m6 m7 m8 m9 m10 m11 m12 m13 m14 m15 m16 m17 m18 m19 m20 m21 : Nat) (th msz li nht lx ix hry rh rl fc : Int32) (la lb ia ib oa ob : Int64) (cs : Nat → Int32) (ki : Nat → Int32) (of : Nat → Int32) (pt : Nat → Int32) (nb : Nat) (hnb : nb ≤ 20) : Met l yX4_isInSolid (Cond.code yX4_isInSolid cX4_isInSolid 4 (some .boolean) :: gw) ({ frames := 0, cells := 0, slots := 0, locals := 0 }) (pq D [.ref m0] [(m0, .inr (4, [.int th, .int msz, .int (nI nb), .ref m1, .ref m2, .ref m3, .ref m4, .ref m5, .ref m6, .ref m7, .ref m8, .int li, .int nht, .long la, .long lb, .int lx, .long ia, .long ib, .int ix, .long oa, .long ob, .ref m9, .ref m10, .ref m11, .ref m12, .ref m13, .int hry, .int rh, .int rl, .ref m14, .ref m15, .ref m16, .ref m17, .ref m18, .ref m19, .ref m20, .int fc, .ref m21])), (m1, .inl (cI, 120, .inl cs)), (m2, .inl (cI, 20, .inl ki)), (m4, .inl (cZ, 20, .inl of)), (m5, .inl (cI, 3, .inl pt))] [(cI, .int), (cZ, .boolean), (cJ, .long)]) (QcRead (bI (anyC cs ki of pt nb 0))) 0 0 (fun _ => False) := by
  refine Met.ofW (cc := cX4_isInSolid) (maxL := 4) (ret := (some .boolean)) (by decide) rfl ?_
  intro p e s m args below meth c s₁ B hml hv
  obtain ⟨rfl, hP, hK, hZ⟩ := hv
  have hx := B.exec
  have hb := B.bytes
  have hr := B.returns
  have hg : ∀ w ∈ gw, w.before _ s = true := fun w h => atoms_spec (ws := Cond.code yX4_isInSolid cX4_isInSolid 4 (some .boolean) :: gw) B.pre w (List.mem_cons_of_mem _ h)
  have hown : s.vm.findClass RX4 = some m.cls := findClass_of_methodNamed B.named
  have hlocks := B.notSynchronized
  have hP : va_P D vwCl [(m0, .inr (4, [.int th, .int msz, .int (nI nb), .ref m1, .ref m2, .ref m3, .ref m4, .ref m5, .ref m6, .ref m7, .ref m8, .int li, .int nht, .long la, .long lb, .int lx, .long ia, .long ib, .int ix, .long oa, .long ob, .ref m9, .ref m10, .ref m11, .ref m12, .ref m13, .int hry, .int rh, .int rl, .ref m14, .ref m15, .ref m16, .ref m17, .ref m18, .ref m19, .ref m20, .int fc, .ref m21])), (m1, .inl (cI, 120, .inl cs)), (m2, .inl (cI, 20, .inl ki)), (m4, .inl (cZ, 20, .inl of)), (m5, .inl (cI, 3, .inl pt))] s.heap := hP
  have hl := lv_entry ([.ref m0]) (n := 4) (Nat.le_of_ble_eq_true rfl)
  rw [lg_entry_eq]
  generalize (lg_sl ([.ref m0]) ++ List.replicate (4 - (lg_sl ([.ref m0])).length) Slot.unset).toArray = ls at hl ⊢
  have hl : lv_has ls 4 [(0, .ref m0)] := hl
  refine lv_iconst (v := 0) hx hb dX4_isInSolid_0 (by decide) ?_
  refine lv_istore_n (lv' := [(1, .int 0), (0, .ref m0)]) hx hb dX4_isInSolid_1 rfl hl (by decide) rfl (fun ls hl => ?_)
  have loop_1 : ∀ (n : Nat) (i : Nat), i + n = nb → ∀ ls : Array Slot, lv_has ls 4 [(0, .ref m0), (1, .int (nI i))] → W p l e (headSpec (Cond.code yX4_isInSolid cX4_isInSolid 4 (some .boolean) :: gw) ({ frames := 0, cells := 0, slots := 0, locals := 0 })).room s m ([.ref m0] : List Value).toArray below meth c s.heap [] 0 0 (MQ below (QcRead (bI (anyC cs ki of pt n i))) ([.ref m0] : List Value).toArray s 0 0 (fun _ => False)) (F0 m 2 ls []) := by
    intro n
    induction n with
    | zero =>
      intro i hlp ls hl
      refine lv_iload_n hx hb dX4_isInSolid_2 rfl (lv_at hl 1 rfl) ?_
      refine lv_aload_n hx hb dX4_isInSolid_3 rfl (lv_at hl 0 rfl) ?_
      refine va_get (D := D) (ci := 4) (v := .int (nI nb)) (C := RX4) (T := TX4) (N := 38) hx hb hg iX4 hown hK hP 0 rfl rfl 2 (by decide) (hg _ kw495) (fun _ h9 => h9) rfl dX4_isInSolid_4 ?_
      refine lv_icmp_ge (tgt := 111) hx hb dX4_isInSolid_7 (by decide) (fun _ => ?_) (fun c7 => absurd (nI_le (by omega) (by omega)) c7)
      refine lv_iconst (v := 0) hx hb dX4_isInSolid_111 (by decide) ?_
      exact W.zret (v := 0) hx hb hr (by decide) (fun t ht hW => ⟨congrArg (fun z => Outcome.returned (some (Value.int z))) (rfl), ht⟩) (fun q hq => nomatch hq) dX4_isInSolid_112
    | succ n ih =>
      intro i hlp ls hl
      refine lv_iload_n hx hb dX4_isInSolid_2 rfl (lv_at hl 1 rfl) ?_
      refine lv_aload_n hx hb dX4_isInSolid_3 rfl (lv_at hl 0 rfl) ?_
      refine va_get (D := D) (ci := 4) (v := .int (nI nb)) (C := RX4) (T := TX4) (N := 38) hx hb hg iX4 hown hK hP 0 rfl rfl 2 (by decide) (hg _ kw495) (fun _ h9 => h9) rfl dX4_isInSolid_4 ?_
      refine lv_icmp_ge (tgt := 111) hx hb dX4_isInSolid_7 (by decide) (fun c7 => absurd c7 (nI_ge (by omega) (by omega))) (fun _ => ?_)
      have J_2 : W p l e (headSpec (Cond.code yX4_isInSolid cX4_isInSolid 4 (some .boolean) :: gw) ({ frames := 0, cells := 0, slots := 0, locals := 0 })).room s m ([.ref m0] : List Value).toArray below meth c s.heap [] 0 0 (MQ below (QcRead (bI (anyC cs ki of pt (n + 1) i))) ([.ref m0] : List Value).toArray s 0 0 (fun _ => False)) (F0 m 33 ls [.int (bI (decide (of i = 0) && decide (ki i = 0)))]) := by
        refine lv_istore_n (lv' := [(2, .int (bI (decide (of i = 0) && decide (ki i = 0)))), (0, .ref m0), (1, .int (nI i))]) hx hb dX4_isInSolid_33 rfl hl (by decide) rfl (fun ls hl => ?_)
        refine lv_iconst (v := 0) hx hb dX4_isInSolid_34 (by decide) ?_
        refine lv_istore_n (lv' := [(3, .int 0), (2, .int (bI (decide (of i = 0) && decide (ki i = 0)))), (0, .ref m0), (1, .int (nI i))]) hx hb dX4_isInSolid_35 rfl hl (by decide) rfl (fun ls hl => ?_)
        refine lv_iload_n hx hb dX4_isInSolid_36 rfl (lv_at hl 0 rfl) ?_
        refine lv_iconst (v := 3) hx hb dX4_isInSolid_37 (by decide) ?_
        refine lv_icmp_ge (tgt := 99) hx hb dX4_isInSolid_38 (by decide) (fun c38 => absurd c38 (by decide)) (fun _ => ?_)
        have J_3 : W p l e (headSpec (Cond.code yX4_isInSolid cX4_isInSolid 4 (some .boolean) :: gw) ({ frames := 0, cells := 0, slots := 0, locals := 0 })).room s m ([.ref m0] : List Value).toArray below meth c s.heap [] 0 0 (MQ below (QcRead (bI (anyC cs ki of pt (n + 1) i))) ([.ref m0] : List Value).toArray s 0 0 (fun _ => False)) (F0 m 92 ls [.int (bI ((decide (of i = 0) && decide (ki i = 0)) && inC cs pt i 0))]) := by
          refine lv_istore_n (lv' := [(2, .int (bI ((decide (of i = 0) && decide (ki i = 0)) && inC cs pt i 0))), (3, .int 0), (0, .ref m0), (1, .int (nI i))]) hx hb dX4_isInSolid_92 rfl hl (by decide) rfl (fun ls hl => ?_)
          refine lv_iinc (v := 1) (lv' := [(3, .int 1), (2, .int (bI ((decide (of i = 0) && decide (ki i = 0)) && inC cs pt i 0))), (0, .ref m0), (1, .int (nI i))]) hx hb dX4_isInSolid_93 hl (k := 1) rfl (by decide) (by decide) rfl (fun ls hl => ?_)
          refine lv_goto (tgt := 36) hx hb dX4_isInSolid_96 (by decide) ?_
          refine lv_iload_n hx hb dX4_isInSolid_36 rfl (lv_at hl 0 rfl) ?_
          refine lv_iconst (v := 3) hx hb dX4_isInSolid_37 (by decide) ?_
          refine lv_icmp_ge (tgt := 99) hx hb dX4_isInSolid_38 (by decide) (fun c38 => absurd c38 (by decide)) (fun _ => ?_)
          have J_4 : W p l e (headSpec (Cond.code yX4_isInSolid cX4_isInSolid 4 (some .boolean) :: gw) ({ frames := 0, cells := 0, slots := 0, locals := 0 })).room s m ([.ref m0] : List Value).toArray below meth c s.heap [] 0 0 (MQ below (QcRead (bI (anyC cs ki of pt (n + 1) i))) ([.ref m0] : List Value).toArray s 0 0 (fun _ => False)) (F0 m 92 ls [.int (bI (((decide (of i = 0) && decide (ki i = 0)) && inC cs pt i 0) && inC cs pt i 1))]) := by
            refine lv_istore_n (lv' := [(2, .int (bI (((decide (of i = 0) && decide (ki i = 0)) && inC cs pt i 0) && inC cs pt i 1))), (3, .int 1), (0, .ref m0), (1, .int (nI i))]) hx hb dX4_isInSolid_92 rfl hl (by decide) rfl (fun ls hl => ?_)
            refine lv_iinc (v := 2) (lv' := [(3, .int 2), (2, .int (bI (((decide (of i = 0) && decide (ki i = 0)) && inC cs pt i 0) && inC cs pt i 1))), (0, .ref m0), (1, .int (nI i))]) hx hb dX4_isInSolid_93 hl (k := 1) rfl (by decide) (by decide) rfl (fun ls hl => ?_)
            refine lv_goto (tgt := 36) hx hb dX4_isInSolid_96 (by decide) ?_
            refine lv_iload_n hx hb dX4_isInSolid_36 rfl (lv_at hl 0 rfl) ?_
            refine lv_iconst (v := 3) hx hb dX4_isInSolid_37 (by decide) ?_
            refine lv_icmp_ge (tgt := 99) hx hb dX4_isInSolid_38 (by decide) (fun c38 => absurd c38 (by decide)) (fun _ => ?_)
            have J_5 : W p l e (headSpec (Cond.code yX4_isInSolid cX4_isInSolid 4 (some .boolean) :: gw) ({ frames := 0, cells := 0, slots := 0, locals := 0 })).room s m ([.ref m0] : List Value).toArray below meth c s.heap [] 0 0 (MQ below (QcRead (bI (anyC cs ki of pt (n + 1) i))) ([.ref m0] : List Value).toArray s 0 0 (fun _ => False)) (F0 m 92 ls [.int (bI ((((decide (of i = 0) && decide (ki i = 0)) && inC cs pt i 0) && inC cs pt i 1) && inC cs pt i 2))]) := by
              refine lv_istore_n (lv' := [(2, .int (bI ((((decide (of i = 0) && decide (ki i = 0)) && inC cs pt i 0) && inC cs pt i 1) && inC cs pt i 2))), (3, .int 2), (0, .ref m0), (1, .int (nI i))]) hx hb dX4_isInSolid_92 rfl hl (by decide) rfl (fun ls hl => ?_)
              refine lv_iinc (v := 3) (lv' := [(3, .int 3), (2, .int (bI ((((decide (of i = 0) && decide (ki i = 0)) && inC cs pt i 0) && inC cs pt i 1) && inC cs pt i 2))), (0, .ref m0), (1, .int (nI i))]) hx hb dX4_isInSolid_93 hl (k := 1) rfl (by decide) (by decide) rfl (fun ls hl => ?_)
              refine lv_goto (tgt := 36) hx hb dX4_isInSolid_96 (by decide) ?_
              refine lv_iload_n hx hb dX4_isInSolid_36 rfl (lv_at hl 0 rfl) ?_
              refine lv_iconst (v := 3) hx hb dX4_isInSolid_37 (by decide) ?_
              refine lv_icmp_ge (tgt := 99) hx hb dX4_isInSolid_38 (by decide) (fun _ => ?_) (fun c38 => absurd (by decide) c38)
              refine lv_iload_n hx hb dX4_isInSolid_99 rfl (lv_at hl 1 rfl) ?_
              refine lv_if_eq (tgt := 105) hx hb dX4_isInSolid_100 (by decide) (fun c100 => ?_) (fun c100 => ?_)
              · replace c100 := bI_f c100
                refine lv_iinc (v := nI (i + 1)) (lv' := [(1, .int (nI (i + 1))), (3, .int 3), (2, .int (bI ((((decide (of i = 0) && decide (ki i = 0)) && inC cs pt i 0) && inC cs pt i 1) && inC cs pt i 2))), (0, .ref m0)]) hx hb dX4_isInSolid_105 hl (k := 3) rfl (nI_1 _) (by decide) rfl (fun ls hl => ?_)
                refine lv_goto (tgt := 2) hx hb dX4_isInSolid_108 (by decide) ?_
                rw [show anyC cs ki of pt (n + 1) i = anyC cs ki of pt n (i + 1) from by simp [anyC, solidC, c100]]
                exact ih (i + 1) (by omega) ls (lv_sub hl [3, 0] rfl)
              · replace c100 := bI_t c100
                refine lv_iconst (v := 1) hx hb dX4_isInSolid_103 (by decide) ?_
                exact W.zret (v := 1) hx hb hr (by decide) (fun t ht hW => ⟨congrArg (fun z => Outcome.returned (some (Value.int z))) (by simp [anyC, solidC, bI, c100]), ht⟩) (fun q hq => nomatch hq) dX4_isInSolid_104
            refine lv_iload_n hx hb dX4_isInSolid_41 rfl (lv_at hl 1 rfl) ?_
            refine lv_if_eq (tgt := 91) hx hb dX4_isInSolid_42 (by decide) (fun c42 => ?_) (fun c42 => ?_)
            · replace c42 := bI_f c42
              refine lv_iconst (v := 0) hx hb dX4_isInSolid_91 (by decide) ?_
              refine tp_i (y := bI ((((decide (of i = 0) && decide (ki i = 0)) && inC cs pt i 0) && inC cs pt i 1) && inC cs pt i 2)) (by rw [c42]; rfl) ?_
              exact J_5
            · replace c42 := bI_t c42
              refine lv_aload_n hx hb dX4_isInSolid_45 rfl (lv_at hl 2 rfl) ?_
              refine va_get (D := D) (ci := 4) (v := .ref m5) (C := RX4) (T := TX4) (N := 38) hx hb hg iX4 hown hK hP 0 rfl rfl 7 (by decide) (hg _ kw500) (fun _ h9 => h9) rfl dX4_isInSolid_46 ?_
              refine lv_iload_n hx hb dX4_isInSolid_49 rfl (lv_at hl 0 rfl) ?_
              refine va_iald hx hb hK hP 4 0 rfl rfl (vp_in_nI (n := 2) (by decide) (by decide)) dX4_isInSolid_50 ?_
              refine tp_i (y := pt 2) (congrArg pt (rfl)) ?_
              refine lv_aload_n hx hb dX4_isInSolid_51 rfl (lv_at hl 2 rfl) ?_
              refine va_get (D := D) (ci := 4) (v := .ref m1) (C := RX4) (T := TX4) (N := 38) hx hb hg iX4 hown hK hP 0 rfl rfl 3 (by decide) (hg _ kw496) (fun _ h9 => h9) rfl dX4_isInSolid_52 ?_
              refine lv_bipush (v := 6) hx hb dX4_isInSolid_55 (by decide) ?_
              refine lv_iload_n hx hb dX4_isInSolid_57 rfl (lv_at hl 3 rfl) ?_
              refine lv_imul hx hb dX4_isInSolid_58 ?_
              refine lv_iload_n hx hb dX4_isInSolid_59 rfl (lv_at hl 0 rfl) ?_
              refine lv_iadd hx hb dX4_isInSolid_60 ?_
              refine va_iald hx hb hK hP 1 0 rfl rfl (vin6 (k := 2) (by omega) (by decide)) dX4_isInSolid_61 ?_
              refine tp_i (y := cs (6 * i + 2)) (congrArg cs (vcl6 (k := 2) (by omega))) ?_
              refine lv_icmp_le (tgt := 91) hx hb dX4_isInSolid_62 (by decide) (fun c62 => ?_) (fun c62 => ?_)
              · have c62n := Int32.not_lt.mpr c62
                refine lv_iconst (v := 0) hx hb dX4_isInSolid_91 (by decide) ?_
                refine tp_i (y := bI ((((decide (of i = 0) && decide (ki i = 0)) && inC cs pt i 0) && inC cs pt i 1) && inC cs pt i 2)) (by rw [c42, inC]; simp only [c62, decide_true, decide_false]; rfl) ?_
                exact J_5
              · have c62n := Int32.not_le.mp c62
                refine lv_aload_n hx hb dX4_isInSolid_65 rfl (lv_at hl 2 rfl) ?_
                refine va_get (D := D) (ci := 4) (v := .ref m5) (C := RX4) (T := TX4) (N := 38) hx hb hg iX4 hown hK hP 0 rfl rfl 7 (by decide) (hg _ kw500) (fun _ h9 => h9) rfl dX4_isInSolid_66 ?_
                refine lv_iload_n hx hb dX4_isInSolid_69 rfl (lv_at hl 0 rfl) ?_
                refine va_iald hx hb hK hP 4 0 rfl rfl (vp_in_nI (n := 2) (by decide) (by decide)) dX4_isInSolid_70 ?_
                refine tp_i (y := pt 2) (congrArg pt (rfl)) ?_
                refine lv_aload_n hx hb dX4_isInSolid_71 rfl (lv_at hl 2 rfl) ?_
                refine va_get (D := D) (ci := 4) (v := .ref m1) (C := RX4) (T := TX4) (N := 38) hx hb hg iX4 hown hK hP 0 rfl rfl 3 (by decide) (hg _ kw496) (fun _ h9 => h9) rfl dX4_isInSolid_72 ?_
                refine lv_bipush (v := 6) hx hb dX4_isInSolid_75 (by decide) ?_
                refine lv_iload_n hx hb dX4_isInSolid_77 rfl (lv_at hl 3 rfl) ?_
                refine lv_imul hx hb dX4_isInSolid_78 ?_
                refine lv_iconst (v := 3) hx hb dX4_isInSolid_79 (by decide) ?_
                refine lv_iadd hx hb dX4_isInSolid_80 ?_
                refine lv_iload_n hx hb dX4_isInSolid_81 rfl (lv_at hl 0 rfl) ?_
                refine lv_iadd hx hb dX4_isInSolid_82 ?_
                refine va_iald hx hb hK hP 1 0 rfl rfl (vin63 (k := 2) (by omega) (by decide)) dX4_isInSolid_83 ?_
                refine tp_i (y := cs (6 * i + 3 + 2)) (congrArg cs (vcl63 (k := 2) (by omega))) ?_
                refine lv_icmp_ge (tgt := 91) hx hb dX4_isInSolid_84 (by decide) (fun c84 => ?_) (fun c84 => ?_)
                · have c84n := Int32.not_lt.mpr c84
                  refine lv_iconst (v := 0) hx hb dX4_isInSolid_91 (by decide) ?_
                  refine tp_i (y := bI ((((decide (of i = 0) && decide (ki i = 0)) && inC cs pt i 0) && inC cs pt i 1) && inC cs pt i 2)) (by rw [c42, inC]; simp only [c62, c84, decide_true, decide_false]; rfl) ?_
                  exact J_5
                · have c84n := Int32.not_le.mp c84
                  refine lv_iconst (v := 1) hx hb dX4_isInSolid_87 (by decide) ?_
                  refine lv_goto (tgt := 92) hx hb dX4_isInSolid_88 (by decide) ?_
                  refine tp_i (y := bI ((((decide (of i = 0) && decide (ki i = 0)) && inC cs pt i 0) && inC cs pt i 1) && inC cs pt i 2)) (by rw [c42, inC]; simp only [c62, c84, decide_true, decide_false]; rfl) ?_
                  exact J_5
          refine lv_iload_n hx hb dX4_isInSolid_41 rfl (lv_at hl 1 rfl) ?_
          refine lv_if_eq (tgt := 91) hx hb dX4_isInSolid_42 (by decide) (fun c42 => ?_) (fun c42 => ?_)
          · replace c42 := bI_f c42
            refine lv_iconst (v := 0) hx hb dX4_isInSolid_91 (by decide) ?_
            refine tp_i (y := bI (((decide (of i = 0) && decide (ki i = 0)) && inC cs pt i 0) && inC cs pt i 1)) (by rw [c42]; rfl) ?_
            exact J_4
          · replace c42 := bI_t c42
            refine lv_aload_n hx hb dX4_isInSolid_45 rfl (lv_at hl 2 rfl) ?_
            refine va_get (D := D) (ci := 4) (v := .ref m5) (C := RX4) (T := TX4) (N := 38) hx hb hg iX4 hown hK hP 0 rfl rfl 7 (by decide) (hg _ kw500) (fun _ h9 => h9) rfl dX4_isInSolid_46 ?_
            refine lv_iload_n hx hb dX4_isInSolid_49 rfl (lv_at hl 0 rfl) ?_
            refine va_iald hx hb hK hP 4 0 rfl rfl (vp_in_nI (n := 1) (by decide) (by decide)) dX4_isInSolid_50 ?_
            refine tp_i (y := pt 1) (congrArg pt (rfl)) ?_
            refine lv_aload_n hx hb dX4_isInSolid_51 rfl (lv_at hl 2 rfl) ?_
            refine va_get (D := D) (ci := 4) (v := .ref m1) (C := RX4) (T := TX4) (N := 38) hx hb hg iX4 hown hK hP 0 rfl rfl 3 (by decide) (hg _ kw496) (fun _ h9 => h9) rfl dX4_isInSolid_52 ?_
            refine lv_bipush (v := 6) hx hb dX4_isInSolid_55 (by decide) ?_
            refine lv_iload_n hx hb dX4_isInSolid_57 rfl (lv_at hl 3 rfl) ?_
            refine lv_imul hx hb dX4_isInSolid_58 ?_
            refine lv_iload_n hx hb dX4_isInSolid_59 rfl (lv_at hl 0 rfl) ?_
            refine lv_iadd hx hb dX4_isInSolid_60 ?_
            refine va_iald hx hb hK hP 1 0 rfl rfl (vin6 (k := 1) (by omega) (by decide)) dX4_isInSolid_61 ?_
            refine tp_i (y := cs (6 * i + 1)) (congrArg cs (vcl6 (k := 1) (by omega))) ?_
            refine lv_icmp_le (tgt := 91) hx hb dX4_isInSolid_62 (by decide) (fun c62 => ?_) (fun c62 => ?_)
            · have c62n := Int32.not_lt.mpr c62
              refine lv_iconst (v := 0) hx hb dX4_isInSolid_91 (by decide) ?_
              refine tp_i (y := bI (((decide (of i = 0) && decide (ki i = 0)) && inC cs pt i 0) && inC cs pt i 1)) (by rw [c42, inC]; simp only [c62, decide_true, decide_false]; rfl) ?_
              exact J_4
            · have c62n := Int32.not_le.mp c62
              refine lv_aload_n hx hb dX4_isInSolid_65 rfl (lv_at hl 2 rfl) ?_
              refine va_get (D := D) (ci := 4) (v := .ref m5) (C := RX4) (T := TX4) (N := 38) hx hb hg iX4 hown hK hP 0 rfl rfl 7 (by decide) (hg _ kw500) (fun _ h9 => h9) rfl dX4_isInSolid_66 ?_
              refine lv_iload_n hx hb dX4_isInSolid_69 rfl (lv_at hl 0 rfl) ?_
              refine va_iald hx hb hK hP 4 0 rfl rfl (vp_in_nI (n := 1) (by decide) (by decide)) dX4_isInSolid_70 ?_
              refine tp_i (y := pt 1) (congrArg pt (rfl)) ?_
              refine lv_aload_n hx hb dX4_isInSolid_71 rfl (lv_at hl 2 rfl) ?_
              refine va_get (D := D) (ci := 4) (v := .ref m1) (C := RX4) (T := TX4) (N := 38) hx hb hg iX4 hown hK hP 0 rfl rfl 3 (by decide) (hg _ kw496) (fun _ h9 => h9) rfl dX4_isInSolid_72 ?_
              refine lv_bipush (v := 6) hx hb dX4_isInSolid_75 (by decide) ?_
              refine lv_iload_n hx hb dX4_isInSolid_77 rfl (lv_at hl 3 rfl) ?_
              refine lv_imul hx hb dX4_isInSolid_78 ?_
              refine lv_iconst (v := 3) hx hb dX4_isInSolid_79 (by decide) ?_
              refine lv_iadd hx hb dX4_isInSolid_80 ?_
              refine lv_iload_n hx hb dX4_isInSolid_81 rfl (lv_at hl 0 rfl) ?_
              refine lv_iadd hx hb dX4_isInSolid_82 ?_
              refine va_iald hx hb hK hP 1 0 rfl rfl (vin63 (k := 1) (by omega) (by decide)) dX4_isInSolid_83 ?_
              refine tp_i (y := cs (6 * i + 3 + 1)) (congrArg cs (vcl63 (k := 1) (by omega))) ?_
              refine lv_icmp_ge (tgt := 91) hx hb dX4_isInSolid_84 (by decide) (fun c84 => ?_) (fun c84 => ?_)
              · have c84n := Int32.not_lt.mpr c84
                refine lv_iconst (v := 0) hx hb dX4_isInSolid_91 (by decide) ?_
                refine tp_i (y := bI (((decide (of i = 0) && decide (ki i = 0)) && inC cs pt i 0) && inC cs pt i 1)) (by rw [c42, inC]; simp only [c62, c84, decide_true, decide_false]; rfl) ?_
                exact J_4
              · have c84n := Int32.not_le.mp c84
                refine lv_iconst (v := 1) hx hb dX4_isInSolid_87 (by decide) ?_
                refine lv_goto (tgt := 92) hx hb dX4_isInSolid_88 (by decide) ?_
                refine tp_i (y := bI (((decide (of i = 0) && decide (ki i = 0)) && inC cs pt i 0) && inC cs pt i 1)) (by rw [c42, inC]; simp only [c62, c84, decide_true, decide_false]; rfl) ?_
                exact J_4
        refine lv_iload_n hx hb dX4_isInSolid_41 rfl (lv_at hl 1 rfl) ?_
        refine lv_if_eq (tgt := 91) hx hb dX4_isInSolid_42 (by decide) (fun c42 => ?_) (fun c42 => ?_)
        · replace c42 := bI_f c42
          refine lv_iconst (v := 0) hx hb dX4_isInSolid_91 (by decide) ?_
          refine tp_i (y := bI ((decide (of i = 0) && decide (ki i = 0)) && inC cs pt i 0)) (by rw [c42]; rfl) ?_
          exact J_3
        · replace c42 := bI_t c42
          refine lv_aload_n hx hb dX4_isInSolid_45 rfl (lv_at hl 2 rfl) ?_
          refine va_get (D := D) (ci := 4) (v := .ref m5) (C := RX4) (T := TX4) (N := 38) hx hb hg iX4 hown hK hP 0 rfl rfl 7 (by decide) (hg _ kw500) (fun _ h9 => h9) rfl dX4_isInSolid_46 ?_
          refine lv_iload_n hx hb dX4_isInSolid_49 rfl (lv_at hl 0 rfl) ?_
          refine va_iald hx hb hK hP 4 0 rfl rfl (vp_in_nI (n := 0) (by decide) (by decide)) dX4_isInSolid_50 ?_
          refine tp_i (y := pt 0) (congrArg pt (rfl)) ?_
          refine lv_aload_n hx hb dX4_isInSolid_51 rfl (lv_at hl 2 rfl) ?_
          refine va_get (D := D) (ci := 4) (v := .ref m1) (C := RX4) (T := TX4) (N := 38) hx hb hg iX4 hown hK hP 0 rfl rfl 3 (by decide) (hg _ kw496) (fun _ h9 => h9) rfl dX4_isInSolid_52 ?_
          refine lv_bipush (v := 6) hx hb dX4_isInSolid_55 (by decide) ?_
          refine lv_iload_n hx hb dX4_isInSolid_57 rfl (lv_at hl 3 rfl) ?_
          refine lv_imul hx hb dX4_isInSolid_58 ?_
          refine lv_iload_n hx hb dX4_isInSolid_59 rfl (lv_at hl 0 rfl) ?_
          refine lv_iadd hx hb dX4_isInSolid_60 ?_
          refine va_iald hx hb hK hP 1 0 rfl rfl (vin6 (k := 0) (by omega) (by decide)) dX4_isInSolid_61 ?_
          refine tp_i (y := cs (6 * i + 0)) (congrArg cs (vcl6 (k := 0) (by omega))) ?_
          refine lv_icmp_le (tgt := 91) hx hb dX4_isInSolid_62 (by decide) (fun c62 => ?_) (fun c62 => ?_)
          · have c62n := Int32.not_lt.mpr c62
            refine lv_iconst (v := 0) hx hb dX4_isInSolid_91 (by decide) ?_
            refine tp_i (y := bI ((decide (of i = 0) && decide (ki i = 0)) && inC cs pt i 0)) (by rw [c42, inC]; simp only [c62, decide_true, decide_false]; rfl) ?_
            exact J_3
          · have c62n := Int32.not_le.mp c62
            refine lv_aload_n hx hb dX4_isInSolid_65 rfl (lv_at hl 2 rfl) ?_
            refine va_get (D := D) (ci := 4) (v := .ref m5) (C := RX4) (T := TX4) (N := 38) hx hb hg iX4 hown hK hP 0 rfl rfl 7 (by decide) (hg _ kw500) (fun _ h9 => h9) rfl dX4_isInSolid_66 ?_
            refine lv_iload_n hx hb dX4_isInSolid_69 rfl (lv_at hl 0 rfl) ?_
            refine va_iald hx hb hK hP 4 0 rfl rfl (vp_in_nI (n := 0) (by decide) (by decide)) dX4_isInSolid_70 ?_
            refine tp_i (y := pt 0) (congrArg pt (rfl)) ?_
            refine lv_aload_n hx hb dX4_isInSolid_71 rfl (lv_at hl 2 rfl) ?_
            refine va_get (D := D) (ci := 4) (v := .ref m1) (C := RX4) (T := TX4) (N := 38) hx hb hg iX4 hown hK hP 0 rfl rfl 3 (by decide) (hg _ kw496) (fun _ h9 => h9) rfl dX4_isInSolid_72 ?_
            refine lv_bipush (v := 6) hx hb dX4_isInSolid_75 (by decide) ?_
            refine lv_iload_n hx hb dX4_isInSolid_77 rfl (lv_at hl 3 rfl) ?_
            refine lv_imul hx hb dX4_isInSolid_78 ?_
            refine lv_iconst (v := 3) hx hb dX4_isInSolid_79 (by decide) ?_
            refine lv_iadd hx hb dX4_isInSolid_80 ?_
            refine lv_iload_n hx hb dX4_isInSolid_81 rfl (lv_at hl 0 rfl) ?_
            refine lv_iadd hx hb dX4_isInSolid_82 ?_
            refine va_iald hx hb hK hP 1 0 rfl rfl (vin63 (k := 0) (by omega) (by decide)) dX4_isInSolid_83 ?_
            refine tp_i (y := cs (6 * i + 3 + 0)) (congrArg cs (vcl63 (k := 0) (by omega))) ?_
            refine lv_icmp_ge (tgt := 91) hx hb dX4_isInSolid_84 (by decide) (fun c84 => ?_) (fun c84 => ?_)
            · have c84n := Int32.not_lt.mpr c84
              refine lv_iconst (v := 0) hx hb dX4_isInSolid_91 (by decide) ?_
              refine tp_i (y := bI ((decide (of i = 0) && decide (ki i = 0)) && inC cs pt i 0)) (by rw [c42, inC]; simp only [c62, c84, decide_true, decide_false]; rfl) ?_
              exact J_3
            · have c84n := Int32.not_le.mp c84
              refine lv_iconst (v := 1) hx hb dX4_isInSolid_87 (by decide) ?_
              refine lv_goto (tgt := 92) hx hb dX4_isInSolid_88 (by decide) ?_
              refine tp_i (y := bI ((decide (of i = 0) && decide (ki i = 0)) && inC cs pt i 0)) (by rw [c42, inC]; simp only [c62, c84, decide_true, decide_false]; rfl) ?_
              exact J_3
      refine lv_aload_n hx hb dX4_isInSolid_10 rfl (lv_at hl 0 rfl) ?_
      refine va_get (D := D) (ci := 4) (v := .ref m4) (C := RX4) (T := TX4) (N := 38) hx hb hg iX4 hown hK hP 0 rfl rfl 6 (by decide) (hg _ kw499) (fun _ h9 => h9) rfl dX4_isInSolid_11 ?_
      refine lv_iload_n hx hb dX4_isInSolid_14 rfl (lv_at hl 1 rfl) ?_
      refine va_zald hx hb hK hP 3 1 rfl rfl (vp_in_nI (by omega) (by decide)) dX4_isInSolid_15 ?_
      refine tp_i (y := of i) (congrArg of (nI_clamp (by omega))) ?_
      refine lv_if_ne (tgt := 32) hx hb dX4_isInSolid_16 (by decide) (fun c16 => ?_) (fun c16 => ?_)
      · refine lv_iconst (v := 0) hx hb dX4_isInSolid_32 (by decide) ?_
        refine tp_i (y := bI (decide (of i = 0) && decide (ki i = 0))) (by simp [bI, c16]) ?_
        exact J_2
      · refine lv_aload_n hx hb dX4_isInSolid_19 rfl (lv_at hl 0 rfl) ?_
        refine va_get (D := D) (ci := 4) (v := .ref m2) (C := RX4) (T := TX4) (N := 38) hx hb hg iX4 hown hK hP 0 rfl rfl 4 (by decide) (hg _ kw497) (fun _ h9 => h9) rfl dX4_isInSolid_20 ?_
        refine lv_iload_n hx hb dX4_isInSolid_23 rfl (lv_at hl 1 rfl) ?_
        refine va_iald hx hb hK hP 2 0 rfl rfl (vp_in_nI (by omega) (by decide)) dX4_isInSolid_24 ?_
        refine tp_i (y := ki i) (congrArg ki (nI_clamp (by omega))) ?_
        refine lv_if_ne (tgt := 32) hx hb dX4_isInSolid_25 (by decide) (fun c25 => ?_) (fun c25 => ?_)
        · refine lv_iconst (v := 0) hx hb dX4_isInSolid_32 (by decide) ?_
          refine tp_i (y := bI (decide (of i = 0) && decide (ki i = 0))) (by simp [bI, c16, c25]) ?_
          exact J_2
        · refine lv_iconst (v := 1) hx hb dX4_isInSolid_28 (by decide) ?_
          refine lv_goto (tgt := 33) hx hb dX4_isInSolid_29 (by decide) ?_
          refine tp_i (y := bI (decide (of i = 0) && decide (ki i = 0))) (by simp [bI, c16, c25]) ?_
          exact J_2
  exact loop_1 nb 0 (by omega) ls (lv_sub hl [1, 0] rfl)
