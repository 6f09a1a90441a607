/-! Math, and what a path only asks -/
def absI (x : Int32) : Int32 := if 0 ≤ x then x else 0 - x
def maxI (x y : Int32) : Int32 := if x < y then y else x
def minI (x y : Int32) : Int32 := if y < x then y else x

/-- Euclid's steps -/
def gcdL : Nat → Int32 → Int32 → Int32
  | 0, a, _ => a
  | n + 1, a, b => if b = 0 then a else gcdL n b (a - a / b * b)

set_option maxHeartbeats 4000000 in
set_option maxRecDepth 100000 in
/-- LightRays.commonDivisor -/
theorem qX3_commonDivisor (l : Launch) (D : va_G) (cI cZ cJ : ClassId) (x y : Int32) : Met l yX3_commonDivisor (Cond.code yX3_commonDivisor cX3_commonDivisor 6 (some .int) :: gw) ({ frames := 1, cells := 0, slots := 0, locals := 20 }) (pq D [.int x, .int y] [] [(cI, .int), (cZ, .boolean), (cJ, .long)]) (QcRead (maxI 1 (gcdL 64 (absI x) (absI y)))) 0 0 (fun _ => False) := by
  refine Met.ofW (cc := cX3_commonDivisor) (maxL := 6) (ret := (some .int)) (by decide) rfl ?_
  intro p e s m args below meth c s₁ B hml hv
  obtain ⟨rfl, hP, hK, hZ⟩ := hv
  have hx := B.exec
  have hb := B.bytes
  have hr := B.returns
  have hg : ∀ w ∈ gw, w.before _ s = true := fun w h => atoms_spec (ws := Cond.code yX3_commonDivisor cX3_commonDivisor 6 (some .int) :: gw) B.pre w (List.mem_cons_of_mem _ h)
  have hown : s.vm.findClass RX3 = some m.cls := findClass_of_methodNamed B.named
  have hlocks := B.notSynchronized
  have hP : va_P D vwCl [] s.heap := hP
  have hl := lv_entry ([.int x, .int y]) (n := 6) (Nat.le_of_ble_eq_true rfl)
  rw [lg_entry_eq]
  generalize (lg_sl ([.int x, .int y]) ++ List.replicate (6 - (lg_sl ([.int x, .int y])).length) Slot.unset).toArray = ls at hl ⊢
  have hl : lv_has ls 6 [(0, .int x), (1, .int y)] := hl
  refine lv_iload_n hx hb dX3_commonDivisor_0 rfl (lv_at hl 0 rfl) ?_
  refine va_mabs hx hb (hml.trans hl.1.symm) hown (hg _ kw413) (hg _ kw377) (hg _ kw37) (hg _ kw378) (Nat.le_of_ble_eq_true rfl) (Nat.le_of_ble_eq_true rfl) (Nat.le_of_ble_eq_true rfl) (Nat.le_of_ble_eq_true rfl) dX3_commonDivisor_1 ?_
  refine lv_topi (fun y_1 ey_1 => ?_)
  replace ey_1 : y_1 = absI x := ey_1.trans (rfl)
  subst ey_1
  refine lv_istore_n (lv' := [(2, .int (absI x)), (0, .int x), (1, .int y)]) hx hb dX3_commonDivisor_4 rfl hl (by decide) rfl (fun ls hl => ?_)
  refine lv_iload_n hx hb dX3_commonDivisor_5 rfl (lv_at hl 2 rfl) ?_
  refine va_mabs hx hb (hml.trans hl.1.symm) hown (hg _ kw413) (hg _ kw377) (hg _ kw37) (hg _ kw378) (Nat.le_of_ble_eq_true rfl) (Nat.le_of_ble_eq_true rfl) (Nat.le_of_ble_eq_true rfl) (Nat.le_of_ble_eq_true rfl) dX3_commonDivisor_6 ?_
  refine lv_topi (fun y_2 ey_2 => ?_)
  replace ey_2 : y_2 = absI y := ey_2.trans (rfl)
  subst ey_2
  refine lv_istore_n (lv' := [(3, .int (absI y)), (2, .int (absI x)), (0, .int x), (1, .int y)]) hx hb dX3_commonDivisor_9 rfl hl (by decide) rfl (fun ls hl => ?_)
  refine lv_iconst (v := 0) hx hb dX3_commonDivisor_10 (by decide) ?_
  refine lv_istore (lv' := [(4, .int 0), (3, .int (absI y)), (2, .int (absI x)), (0, .int x), (1, .int y)]) hx hb dX3_commonDivisor_11 hl (by decide) rfl (fun ls hl => ?_)
  have loop_3 : ∀ (n : Nat) (i : Nat) (a b : Int32), i + n = 64 → ∀ ls : Array Slot, lv_has ls 6 [(2, .int a), (3, .int b), (4, .int (nI i))] → W p l e (headSpec (Cond.code yX3_commonDivisor cX3_commonDivisor 6 (some .int) :: gw) ({ frames := 1, cells := 0, slots := 0, locals := 20 })).room s m ([.int x, .int y] : List Value).toArray below meth c s.heap [] 0 0 (MQ below (QcRead (maxI 1 (gcdL n a b))) ([.int x, .int y] : List Value).toArray s 0 0 (fun _ => False)) (F0 m 13 ls []) := by
    intro n
    induction n with
    | zero =>
      intro i a b hlp ls hl
      refine lv_iload hx hb dX3_commonDivisor_13 (lv_at hl 2 rfl) ?_
      refine lv_bipush (v := 64) hx hb dX3_commonDivisor_15 (by decide) ?_
      refine lv_icmp_ge (tgt := 40) hx hb dX3_commonDivisor_17 (by decide) (fun _ => ?_) (fun c17 => absurd (nI_le (a := 64) (by omega) (by omega)) c17)
      refine lv_iconst (v := 1) hx hb dX3_commonDivisor_40 (by decide) ?_
      refine lv_iload_n hx hb dX3_commonDivisor_41 rfl (lv_at hl 0 rfl) ?_
      refine va_mmax hx hb (hml.trans hl.1.symm) hown (hg _ kw60) (hg _ kw61) (hg _ kw37) (hg _ kw62) (Nat.le_of_ble_eq_true rfl) (Nat.le_of_ble_eq_true rfl) (Nat.le_of_ble_eq_true rfl) (Nat.le_of_ble_eq_true rfl) dX3_commonDivisor_42 ?_
      refine lv_topi (fun y_4 ey_4 => ?_)
      replace ey_4 : y_4 = maxI 1 a := ey_4.trans (rfl)
      subst ey_4
      exact W.iret (v := maxI 1 a) hx hb hr (fun t ht hW => ⟨congrArg (fun z => Outcome.returned (some (Value.int z))) (rfl), ht⟩) (fun q hq => nomatch hq) dX3_commonDivisor_45
    | succ n ih =>
      intro i a b hlp ls hl
      refine lv_iload hx hb dX3_commonDivisor_13 (lv_at hl 2 rfl) ?_
      refine lv_bipush (v := 64) hx hb dX3_commonDivisor_15 (by decide) ?_
      refine lv_icmp_ge (tgt := 40) hx hb dX3_commonDivisor_17 (by decide) (fun c17 => absurd c17 (nI_ge (b := 64) (by omega) (by omega))) (fun _ => ?_)
      refine lv_iload_n hx hb dX3_commonDivisor_20 rfl (lv_at hl 1 rfl) ?_
      refine lv_if_eq (tgt := 40) hx hb dX3_commonDivisor_21 (by decide) (fun c21 => ?_) (fun c21 => ?_)
      · refine lv_iconst (v := 1) hx hb dX3_commonDivisor_40 (by decide) ?_
        refine lv_iload_n hx hb dX3_commonDivisor_41 rfl (lv_at hl 0 rfl) ?_
        refine va_mmax hx hb (hml.trans hl.1.symm) hown (hg _ kw60) (hg _ kw61) (hg _ kw37) (hg _ kw62) (Nat.le_of_ble_eq_true rfl) (Nat.le_of_ble_eq_true rfl) (Nat.le_of_ble_eq_true rfl) (Nat.le_of_ble_eq_true rfl) dX3_commonDivisor_42 ?_
        refine lv_topi (fun y_5 ey_5 => ?_)
        replace ey_5 : y_5 = maxI 1 a := ey_5.trans (rfl)
        subst ey_5
        exact W.iret (v := maxI 1 a) hx hb hr (fun t ht hW => ⟨congrArg (fun z => Outcome.returned (some (Value.int z))) (by simp [gcdL, c21]), ht⟩) (fun q hq => nomatch hq) dX3_commonDivisor_45
      · refine lv_iload_n hx hb dX3_commonDivisor_24 rfl (lv_at hl 0 rfl) ?_
        refine lv_iload_n hx hb dX3_commonDivisor_25 rfl (lv_at hl 1 rfl) ?_
        refine lv_irem hx hb dX3_commonDivisor_26 (c21) ?_
        refine lv_istore (lv' := [(5, .int (a - a / b * b)), (2, .int a), (3, .int b), (4, .int (nI i))]) hx hb dX3_commonDivisor_27 hl (by decide) rfl (fun ls hl => ?_)
        refine lv_iload_n hx hb dX3_commonDivisor_29 rfl (lv_at hl 2 rfl) ?_
        refine lv_istore_n (lv' := [(2, .int b), (5, .int (a - a / b * b)), (3, .int b), (4, .int (nI i))]) hx hb dX3_commonDivisor_30 rfl hl (by decide) rfl (fun ls hl => ?_)
        refine lv_iload hx hb dX3_commonDivisor_31 (lv_at hl 1 rfl) ?_
        refine lv_istore_n (lv' := [(3, .int (a - a / b * b)), (2, .int b), (5, .int (a - a / b * b)), (4, .int (nI i))]) hx hb dX3_commonDivisor_33 rfl hl (by decide) rfl (fun ls hl => ?_)
        refine lv_iinc (v := nI (i + 1)) (lv' := [(4, .int (nI (i + 1))), (3, .int (a - a / b * b)), (2, .int b), (5, .int (a - a / b * b))]) hx hb dX3_commonDivisor_34 hl (k := 3) rfl (nI_1 _) (by decide) rfl (fun ls hl => ?_)
        refine lv_goto (tgt := 13) hx hb dX3_commonDivisor_37 (by decide) ?_
        rw [show gcdL (n + 1) a b = gcdL n b (a - a / b * b) from by simp [gcdL, c21]]
        exact ih (i + 1) b (a - a / b * b) (by omega) ls (lv_sub hl [2, 1, 0] rfl)
  exact loop_3 64 0 (absI x) (absI y) (by omega) ls (lv_sub hl [2, 1, 0] rfl)

set_option maxHeartbeats 4000000 in
set_option maxRecDepth 100000 in
/-- Path.hasHit -/
theorem qX2_hasHit (l : Launch) (D : va_G) (cI cZ cJ : ClassId) (a0 a1 a2 a3 a4 a5 a6 a7 a8 a9 a10 a11 : Nat) (b0 b1 b2 b3 b4 b5 : Nat) (og di ar ho hx9 ha hl9 hs : Nat → Int32) (lb la lv lw nb9 na nv nw tb ta tv tw : Int32) (nh0 li : Int32) (lo hi ki sh of : Nat → Int32) (cn : Int32) (k : Int32) : Met l yX2_hasHit (Cond.code yX2_hasHit cX2_hasHit 2 (some .boolean) :: gw) ({ frames := 0, cells := 0, slots := 0, locals := 0 }) (pq D [.ref a0, .int k] [(a0, .inr (2, [.ref a1, .ref a2, .ref a3, .ref a4, .ref a5, .ref a6, .ref a7, .ref a8, .ref a9, .ref a10, .ref a11, .int nh0, .int li])), (a1, .inl (cI, 3, .inl og)), (a2, .inl (cI, 3, .inl di)), (a3, .inl (cI, 3, .inl ar)), (a4, .inl (cI, 30, .inl ho)), (a5, .inl (cI, 30, .inl hx9)), (a6, .inl (cI, 30, .inl ha)), (a7, .inl (cI, 30, .inl hl9)), (a8, .inl (cI, 90, .inl hs)), (a9, .inr (1, [.int lb, .int la, .int lv, .int lw])), (a10, .inr (1, [.int nb9, .int na, .int nv, .int nw])), (a11, .inr (1, [.int tb, .int ta, .int tv, .int tw])), (b0, .inr (0, [.ref b1, .ref b2, .ref b3, .ref b4, .ref b5, .int cn])), (b1, .inl (cI, 60, .inl lo)), (b2, .inl (cI, 60, .inl hi)), (b3, .inl (cI, 20, .inl ki)), (b4, .inl (cI, 20, .inl sh)), (b5, .inl (cZ, 20, .inl of))] [(cI, .int), (cZ, .boolean), (cJ, .long)]) (QcRead (bI (decide (0 ≤ k) && decide (k < nh0)))) 0 0 (fun _ => False) := by
  refine Met.ofW (cc := cX2_hasHit) (maxL := 2) (ret := (some .boolean)) (by decide) rfl ?_
  intro p e s m args below meth c s₁ B hml hv
  obtain ⟨rfl, hP, hK, hZ⟩ := hv
  have hx := B.exec
  have hb := B.bytes
  have hr := B.returns
  have hg : ∀ w ∈ gw, w.before _ s = true := fun w h => atoms_spec (ws := Cond.code yX2_hasHit cX2_hasHit 2 (some .boolean) :: gw) B.pre w (List.mem_cons_of_mem _ h)
  have hown : s.vm.findClass RX2 = some m.cls := findClass_of_methodNamed B.named
  have hlocks := B.notSynchronized
  have hP : va_P D vwCl [(a0, .inr (2, [.ref a1, .ref a2, .ref a3, .ref a4, .ref a5, .ref a6, .ref a7, .ref a8, .ref a9, .ref a10, .ref a11, .int nh0, .int li])), (a1, .inl (cI, 3, .inl og)), (a2, .inl (cI, 3, .inl di)), (a3, .inl (cI, 3, .inl ar)), (a4, .inl (cI, 30, .inl ho)), (a5, .inl (cI, 30, .inl hx9)), (a6, .inl (cI, 30, .inl ha)), (a7, .inl (cI, 30, .inl hl9)), (a8, .inl (cI, 90, .inl hs)), (a9, .inr (1, [.int lb, .int la, .int lv, .int lw])), (a10, .inr (1, [.int nb9, .int na, .int nv, .int nw])), (a11, .inr (1, [.int tb, .int ta, .int tv, .int tw])), (b0, .inr (0, [.ref b1, .ref b2, .ref b3, .ref b4, .ref b5, .int cn])), (b1, .inl (cI, 60, .inl lo)), (b2, .inl (cI, 60, .inl hi)), (b3, .inl (cI, 20, .inl ki)), (b4, .inl (cI, 20, .inl sh)), (b5, .inl (cZ, 20, .inl of))] s.heap := hP
  have hl := lv_entry ([.ref a0, .int k]) (n := 2) (Nat.le_of_ble_eq_true rfl)
  rw [lg_entry_eq]
  generalize (lg_sl ([.ref a0, .int k]) ++ List.replicate (2 - (lg_sl ([.ref a0, .int k])).length) Slot.unset).toArray = ls at hl ⊢
  have hl : lv_has ls 2 [(0, .ref a0), (1, .int k)] := hl
  refine lv_iconst (v := 0) hx hb dX2_hasHit_0 (by decide) ?_
  refine lv_iload_n hx hb dX2_hasHit_1 rfl (lv_at hl 1 rfl) ?_
  refine lv_icmp_gt (tgt := 17) hx hb dX2_hasHit_2 (by decide) (fun c2 => ?_) (fun c2 => ?_)
  · have c2n := Int32.not_le.mpr c2
    refine lv_iconst (v := 0) hx hb dX2_hasHit_17 (by decide) ?_
    exact W.zret (v := 0) hx hb hr (by decide) (fun t ht hW => ⟨congrArg (fun z => Outcome.returned (some (Value.int z))) (by simp [bI, c2, c2n]), ht⟩) (fun q hq => nomatch hq) dX2_hasHit_18
  · have c2n := Int32.not_lt.mp c2
    refine lv_iload_n hx hb dX2_hasHit_5 rfl (lv_at hl 1 rfl) ?_
    refine lv_aload_n hx hb dX2_hasHit_6 rfl (lv_at hl 0 rfl) ?_
    refine va_get (D := D) (ci := 2) (v := .int nh0) (C := RX2) (T := TX2) (N := 13) hx hb hg iX2 hown hK hP 0 rfl rfl 11 (by decide) (hg _ kw146) (fun _ h9 => h9) rfl dX2_hasHit_7 ?_
    refine lv_icmp_ge (tgt := 17) hx hb dX2_hasHit_10 (by decide) (fun c10 => ?_) (fun c10 => ?_)
    · have c10n := Int32.not_lt.mpr c10
      refine lv_iconst (v := 0) hx hb dX2_hasHit_17 (by decide) ?_
      exact W.zret (v := 0) hx hb hr (by decide) (fun t ht hW => ⟨congrArg (fun z => Outcome.returned (some (Value.int z))) (by simp [bI, c2, c2n, c10, c10n]), ht⟩) (fun q hq => nomatch hq) dX2_hasHit_18
    · have c10n := Int32.not_le.mp c10
      refine lv_iconst (v := 1) hx hb dX2_hasHit_13 (by decide) ?_
      refine lv_goto (tgt := 18) hx hb dX2_hasHit_14 (by decide) ?_
      exact W.zret (v := 1) hx hb hr (by decide) (fun t ht hW => ⟨congrArg (fun z => Outcome.returned (some (Value.int z))) (by simp [bI, c2, c2n, c10, c10n]), ht⟩) (fun q hq => nomatch hq) dX2_hasHit_18

def octF (di : Nat → Int32) : Int32 := ((if di 0 < 0 then 4 else 0) + (if di 1 < 0 then 2 else 0)) + (if di 2 < 0 then 1 else 0)

set_option maxHeartbeats 4000000 in
set_option maxRecDepth 100000 in
/-- Path.octant -/
theorem qX2_octant (l : Launch) (D : va_G) (cI cZ cJ : ClassId) (a0 a1 a2 a3 a4 a5 a6 a7 a8 a9 a10 a11 : Nat) (b0 b1 b2 b3 b4 b5 : Nat) (og di ar ho hx9 ha hl9 hs : Nat → Int32) (lb la lv lw nb9 na nv nw tb ta tv tw : Int32) (nh0 li : Int32) (lo hi ki sh of : Nat → Int32) (cn : Int32) : Met l yX2_octant (Cond.code yX2_octant cX2_octant 1 (some .int) :: gw) ({ frames := 0, cells := 0, slots := 0, locals := 0 }) (pq D [.ref a0] [(a0, .inr (2, [.ref a1, .ref a2, .ref a3, .ref a4, .ref a5, .ref a6, .ref a7, .ref a8, .ref a9, .ref a10, .ref a11, .int nh0, .int li])), (a1, .inl (cI, 3, .inl og)), (a2, .inl (cI, 3, .inl di)), (a3, .inl (cI, 3, .inl ar)), (a4, .inl (cI, 30, .inl ho)), (a5, .inl (cI, 30, .inl hx9)), (a6, .inl (cI, 30, .inl ha)), (a7, .inl (cI, 30, .inl hl9)), (a8, .inl (cI, 90, .inl hs)), (a9, .inr (1, [.int lb, .int la, .int lv, .int lw])), (a10, .inr (1, [.int nb9, .int na, .int nv, .int nw])), (a11, .inr (1, [.int tb, .int ta, .int tv, .int tw])), (b0, .inr (0, [.ref b1, .ref b2, .ref b3, .ref b4, .ref b5, .int cn])), (b1, .inl (cI, 60, .inl lo)), (b2, .inl (cI, 60, .inl hi)), (b3, .inl (cI, 20, .inl ki)), (b4, .inl (cI, 20, .inl sh)), (b5, .inl (cZ, 20, .inl of))] [(cI, .int), (cZ, .boolean), (cJ, .long)]) (QcRead (octF di)) 0 0 (fun _ => False) := by
  refine Met.ofW (cc := cX2_octant) (maxL := 1) (ret := (some .int)) (by decide) rfl ?_
  intro p e s m args below meth c s₁ B hml hv
  obtain ⟨rfl, hP, hK, hZ⟩ := hv
  have hx := B.exec
  have hb := B.bytes
  have hr := B.returns
  have hg : ∀ w ∈ gw, w.before _ s = true := fun w h => atoms_spec (ws := Cond.code yX2_octant cX2_octant 1 (some .int) :: gw) B.pre w (List.mem_cons_of_mem _ h)
  have hown : s.vm.findClass RX2 = some m.cls := findClass_of_methodNamed B.named
  have hlocks := B.notSynchronized
  have hP : va_P D vwCl [(a0, .inr (2, [.ref a1, .ref a2, .ref a3, .ref a4, .ref a5, .ref a6, .ref a7, .ref a8, .ref a9, .ref a10, .ref a11, .int nh0, .int li])), (a1, .inl (cI, 3, .inl og)), (a2, .inl (cI, 3, .inl di)), (a3, .inl (cI, 3, .inl ar)), (a4, .inl (cI, 30, .inl ho)), (a5, .inl (cI, 30, .inl hx9)), (a6, .inl (cI, 30, .inl ha)), (a7, .inl (cI, 30, .inl hl9)), (a8, .inl (cI, 90, .inl hs)), (a9, .inr (1, [.int lb, .int la, .int lv, .int lw])), (a10, .inr (1, [.int nb9, .int na, .int nv, .int nw])), (a11, .inr (1, [.int tb, .int ta, .int tv, .int tw])), (b0, .inr (0, [.ref b1, .ref b2, .ref b3, .ref b4, .ref b5, .int cn])), (b1, .inl (cI, 60, .inl lo)), (b2, .inl (cI, 60, .inl hi)), (b3, .inl (cI, 20, .inl ki)), (b4, .inl (cI, 20, .inl sh)), (b5, .inl (cZ, 20, .inl of))] s.heap := hP
  have hl := lv_entry ([.ref a0]) (n := 1) (Nat.le_of_ble_eq_true rfl)
  rw [lg_entry_eq]
  generalize (lg_sl ([.ref a0]) ++ List.replicate (1 - (lg_sl ([.ref a0])).length) Slot.unset).toArray = ls at hl ⊢
  have hl : lv_has ls 1 [(0, .ref a0)] := hl
  have J_6 : W p l e (headSpec (Cond.code yX2_octant cX2_octant 1 (some .int) :: gw) ({ frames := 0, cells := 0, slots := 0, locals := 0 })).room s m ([.ref a0] : List Value).toArray below meth c s.heap [] 0 0 (MQ below (QcRead (octF di)) ([.ref a0] : List Value).toArray s 0 0 (fun _ => False)) (F0 m 14 ls [.int (if di 0 < 0 then ((4 : Int32)) else 0)]) := by
    have J_7 : W p l e (headSpec (Cond.code yX2_octant cX2_octant 1 (some .int) :: gw) ({ frames := 0, cells := 0, slots := 0, locals := 0 })).room s m ([.ref a0] : List Value).toArray below meth c s.heap [] 0 0 (MQ below (QcRead (octF di)) ([.ref a0] : List Value).toArray s 0 0 (fun _ => False)) (F0 m 28 ls [.int (if di 1 < 0 then ((2 : Int32)) else 0), .int (if di 0 < 0 then ((4 : Int32)) else 0)]) := by
      refine lv_iadd hx hb dX2_octant_28 ?_
      have J_8 : W p l e (headSpec (Cond.code yX2_octant cX2_octant 1 (some .int) :: gw) ({ frames := 0, cells := 0, slots := 0, locals := 0 })).room s m ([.ref a0] : List Value).toArray below meth c s.heap [] 0 0 (MQ below (QcRead (octF di)) ([.ref a0] : List Value).toArray s 0 0 (fun _ => False)) (F0 m 43 ls [.int (if di 2 < 0 then ((1 : Int32)) else 0), .int ((if di 0 < 0 then ((4 : Int32)) else 0) + (if di 1 < 0 then ((2 : Int32)) else 0))]) := by
        refine lv_iadd hx hb dX2_octant_43 ?_
        exact W.iret (v := ((if di 0 < 0 then ((4 : Int32)) else 0) + (if di 1 < 0 then ((2 : Int32)) else 0)) + (if di 2 < 0 then ((1 : Int32)) else 0)) hx hb hr (fun t ht hW => ⟨congrArg (fun z => Outcome.returned (some (Value.int z))) (rfl), ht⟩) (fun q hq => nomatch hq) dX2_octant_44
      refine lv_aload_n hx hb dX2_octant_29 rfl (lv_at hl 0 rfl) ?_
      refine va_get (D := D) (ci := 2) (v := .ref a2) (C := RX2) (T := TX2) (N := 13) hx hb hg iX2 hown hK hP 0 rfl rfl 1 (by decide) (hg _ kw130) (fun _ h9 => h9) rfl dX2_octant_30 ?_
      refine lv_iconst (v := 2) hx hb dX2_octant_33 (by decide) ?_
      refine va_iald hx hb hK hP 2 0 rfl rfl (vp_in_nI (n := 2) (by decide) (by decide)) dX2_octant_34 ?_
      refine lv_topi (fun y_9 ey_9 => ?_)
      replace ey_9 : y_9 = di 2 := ey_9.trans (congrArg di (rfl))
      subst ey_9
      refine lv_if_ge (tgt := 42) hx hb dX2_octant_35 (by decide) (fun c35 => ?_) (fun c35 => ?_)
      · have c35n := Int32.not_lt.mpr c35
        refine lv_iconst (v := 0) hx hb dX2_octant_42 (by decide) ?_
        refine lv_topi (fun y_10 ey_10 => ?_)
        replace ey_10 : y_10 = if di 2 < 0 then ((1 : Int32)) else 0 := ey_10.trans (by simp [c35, c35n])
        subst ey_10
        exact J_8
      · have c35n := Int32.not_le.mp c35
        refine lv_iconst (v := 1) hx hb dX2_octant_38 (by decide) ?_
        refine lv_goto (tgt := 43) hx hb dX2_octant_39 (by decide) ?_
        refine lv_topi (fun y_11 ey_11 => ?_)
        replace ey_11 : y_11 = if di 2 < 0 then ((1 : Int32)) else 0 := ey_11.trans (by simp [c35, c35n])
        subst ey_11
        exact J_8
    refine lv_aload_n hx hb dX2_octant_14 rfl (lv_at hl 0 rfl) ?_
    refine va_get (D := D) (ci := 2) (v := .ref a2) (C := RX2) (T := TX2) (N := 13) hx hb hg iX2 hown hK hP 0 rfl rfl 1 (by decide) (hg _ kw130) (fun _ h9 => h9) rfl dX2_octant_15 ?_
    refine lv_iconst (v := 1) hx hb dX2_octant_18 (by decide) ?_
    refine va_iald hx hb hK hP 2 0 rfl rfl (vp_in_nI (n := 1) (by decide) (by decide)) dX2_octant_19 ?_
    refine lv_topi (fun y_12 ey_12 => ?_)
    replace ey_12 : y_12 = di 1 := ey_12.trans (congrArg di (rfl))
    subst ey_12
    refine lv_if_ge (tgt := 27) hx hb dX2_octant_20 (by decide) (fun c20 => ?_) (fun c20 => ?_)
    · have c20n := Int32.not_lt.mpr c20
      refine lv_iconst (v := 0) hx hb dX2_octant_27 (by decide) ?_
      refine lv_topi (fun y_13 ey_13 => ?_)
      replace ey_13 : y_13 = if di 1 < 0 then ((2 : Int32)) else 0 := ey_13.trans (by simp [c20, c20n])
      subst ey_13
      exact J_7
    · have c20n := Int32.not_le.mp c20
      refine lv_iconst (v := 2) hx hb dX2_octant_23 (by decide) ?_
      refine lv_goto (tgt := 28) hx hb dX2_octant_24 (by decide) ?_
      refine lv_topi (fun y_14 ey_14 => ?_)
      replace ey_14 : y_14 = if di 1 < 0 then ((2 : Int32)) else 0 := ey_14.trans (by simp [c20, c20n])
      subst ey_14
      exact J_7
  refine lv_aload_n hx hb dX2_octant_0 rfl (lv_at hl 0 rfl) ?_
  refine va_get (D := D) (ci := 2) (v := .ref a2) (C := RX2) (T := TX2) (N := 13) hx hb hg iX2 hown hK hP 0 rfl rfl 1 (by decide) (hg _ kw130) (fun _ h9 => h9) rfl dX2_octant_1 ?_
  refine lv_iconst (v := 0) hx hb dX2_octant_4 (by decide) ?_
  refine va_iald hx hb hK hP 2 0 rfl rfl (vp_in_nI (n := 0) (by decide) (by decide)) dX2_octant_5 ?_
  refine lv_topi (fun y_15 ey_15 => ?_)
  replace ey_15 : y_15 = di 0 := ey_15.trans (congrArg di (rfl))
  subst ey_15
  refine lv_if_ge (tgt := 13) hx hb dX2_octant_6 (by decide) (fun c6 => ?_) (fun c6 => ?_)
  · have c6n := Int32.not_lt.mpr c6
    refine lv_iconst (v := 0) hx hb dX2_octant_13 (by decide) ?_
    refine lv_topi (fun y_16 ey_16 => ?_)
    replace ey_16 : y_16 = if di 0 < 0 then ((4 : Int32)) else 0 := ey_16.trans (by simp [c6, c6n])
    subst ey_16
    exact J_6
  · have c6n := Int32.not_le.mp c6
    refine lv_iconst (v := 4) hx hb dX2_octant_9 (by decide) ?_
    refine lv_goto (tgt := 14) hx hb dX2_octant_10 (by decide) ?_
    refine lv_topi (fun y_17 ey_17 => ?_)
    replace ey_17 : y_17 = if di 0 < 0 then ((4 : Int32)) else 0 := ey_17.trans (by simp [c6, c6n])
    subst ey_17
    exact J_6

set_option maxHeartbeats 4000000 in
set_option maxRecDepth 100000 in
/-- Path.spotAtLatest -/
theorem qX2_spotAtLatest (l : Launch) (D : va_G) (cI cZ cJ : ClassId) (a0 a1 a2 a3 a4 a5 a6 a7 a8 a9 a10 a11 : Nat) (b0 b1 b2 b3 b4 b5 : Nat) (og di ar ho hx9 ha hl9 hs : Nat → Int32) (lb la lv lw nb9 na nv nw tb ta tv tw : Int32) (nh0 li : Int32) (lo hi ki sh of : Nat → Int32) (cn : Int32) (k : Nat) (hk : k < 3) : Met l yX2_spotAtLatest (Cond.code yX2_spotAtLatest cX2_spotAtLatest 2 (some .int) :: gw) ({ frames := 0, cells := 0, slots := 0, locals := 0 }) (pq D [.ref a0, .int (nI k)] [(a0, .inr (2, [.ref a1, .ref a2, .ref a3, .ref a4, .ref a5, .ref a6, .ref a7, .ref a8, .ref a9, .ref a10, .ref a11, .int nh0, .int li])), (a1, .inl (cI, 3, .inl og)), (a2, .inl (cI, 3, .inl di)), (a3, .inl (cI, 3, .inl ar)), (a4, .inl (cI, 30, .inl ho)), (a5, .inl (cI, 30, .inl hx9)), (a6, .inl (cI, 30, .inl ha)), (a7, .inl (cI, 30, .inl hl9)), (a8, .inl (cI, 90, .inl hs)), (a9, .inr (1, [.int lb, .int la, .int lv, .int lw])), (a10, .inr (1, [.int nb9, .int na, .int nv, .int nw])), (a11, .inr (1, [.int tb, .int ta, .int tv, .int tw])), (b0, .inr (0, [.ref b1, .ref b2, .ref b3, .ref b4, .ref b5, .int cn])), (b1, .inl (cI, 60, .inl lo)), (b2, .inl (cI, 60, .inl hi)), (b3, .inl (cI, 20, .inl ki)), (b4, .inl (cI, 20, .inl sh)), (b5, .inl (cZ, 20, .inl of))] [(cI, .int), (cZ, .boolean), (cJ, .long)]) (QcRead (og k * lw + di k * lv)) 0 0 (fun _ => False) := by
  refine Met.ofW (cc := cX2_spotAtLatest) (maxL := 2) (ret := (some .int)) (by decide) rfl ?_
  intro p e s m args below meth c s₁ B hml hv
  obtain ⟨rfl, hP, hK, hZ⟩ := hv
  have hx := B.exec
  have hb := B.bytes
  have hr := B.returns
  have hg : ∀ w ∈ gw, w.before _ s = true := fun w h => atoms_spec (ws := Cond.code yX2_spotAtLatest cX2_spotAtLatest 2 (some .int) :: gw) B.pre w (List.mem_cons_of_mem _ h)
  have hown : s.vm.findClass RX2 = some m.cls := findClass_of_methodNamed B.named
  have hlocks := B.notSynchronized
  have hP : va_P D vwCl [(a0, .inr (2, [.ref a1, .ref a2, .ref a3, .ref a4, .ref a5, .ref a6, .ref a7, .ref a8, .ref a9, .ref a10, .ref a11, .int nh0, .int li])), (a1, .inl (cI, 3, .inl og)), (a2, .inl (cI, 3, .inl di)), (a3, .inl (cI, 3, .inl ar)), (a4, .inl (cI, 30, .inl ho)), (a5, .inl (cI, 30, .inl hx9)), (a6, .inl (cI, 30, .inl ha)), (a7, .inl (cI, 30, .inl hl9)), (a8, .inl (cI, 90, .inl hs)), (a9, .inr (1, [.int lb, .int la, .int lv, .int lw])), (a10, .inr (1, [.int nb9, .int na, .int nv, .int nw])), (a11, .inr (1, [.int tb, .int ta, .int tv, .int tw])), (b0, .inr (0, [.ref b1, .ref b2, .ref b3, .ref b4, .ref b5, .int cn])), (b1, .inl (cI, 60, .inl lo)), (b2, .inl (cI, 60, .inl hi)), (b3, .inl (cI, 20, .inl ki)), (b4, .inl (cI, 20, .inl sh)), (b5, .inl (cZ, 20, .inl of))] s.heap := hP
  have hl := lv_entry ([.ref a0, .int (nI k)]) (n := 2) (Nat.le_of_ble_eq_true rfl)
  rw [lg_entry_eq]
  generalize (lg_sl ([.ref a0, .int (nI k)]) ++ List.replicate (2 - (lg_sl ([.ref a0, .int (nI k)])).length) Slot.unset).toArray = ls at hl ⊢
  have hl : lv_has ls 2 [(0, .ref a0), (1, .int (nI k))] := hl
  refine lv_aload_n hx hb dX2_spotAtLatest_0 rfl (lv_at hl 0 rfl) ?_
  refine va_get (D := D) (ci := 2) (v := .ref a1) (C := RX2) (T := TX2) (N := 13) hx hb hg iX2 hown hK hP 0 rfl rfl 0 (by decide) (hg _ kw129) (fun _ h9 => h9) rfl dX2_spotAtLatest_1 ?_
  refine lv_iload_n hx hb dX2_spotAtLatest_4 rfl (lv_at hl 1 rfl) ?_
  refine va_iald hx hb hK hP 1 0 rfl rfl (vp_in_nI (by omega) (by decide)) dX2_spotAtLatest_5 ?_
  refine lv_topi (fun y_18 ey_18 => ?_)
  replace ey_18 : y_18 = og k := ey_18.trans (congrArg og (nI_clamp (by omega)))
  subst ey_18
  refine lv_aload_n hx hb dX2_spotAtLatest_6 rfl (lv_at hl 0 rfl) ?_
  refine va_get (D := D) (ci := 2) (v := .ref a9) (C := RX2) (T := TX2) (N := 13) hx hb hg iX2 hown hK hP 0 rfl rfl 8 (by decide) (hg _ kw143) (fun _ h9 => h9) rfl dX2_spotAtLatest_7 ?_
  refine va_getN (D := D) (ci := 1) (v := .int lw) (C := RX1) (T := TX1) (N := 4) hx hb hg iX1 hown hK hP 9 rfl rfl 3 (by decide) (va_Nw.use rfl (hZ.1 _ (List.mem_of_getElem? (i := 13) rfl))) (fun _ h9 => h9) rfl dX2_spotAtLatest_10 ?_
  refine lv_imul hx hb dX2_spotAtLatest_13 ?_
  refine lv_aload_n hx hb dX2_spotAtLatest_14 rfl (lv_at hl 0 rfl) ?_
  refine va_get (D := D) (ci := 2) (v := .ref a2) (C := RX2) (T := TX2) (N := 13) hx hb hg iX2 hown hK hP 0 rfl rfl 1 (by decide) (hg _ kw130) (fun _ h9 => h9) rfl dX2_spotAtLatest_15 ?_
  refine lv_iload_n hx hb dX2_spotAtLatest_18 rfl (lv_at hl 1 rfl) ?_
  refine va_iald hx hb hK hP 2 0 rfl rfl (vp_in_nI (by omega) (by decide)) dX2_spotAtLatest_19 ?_
  refine lv_topi (fun y_19 ey_19 => ?_)
  replace ey_19 : y_19 = di k := ey_19.trans (congrArg di (nI_clamp (by omega)))
  subst ey_19
  refine lv_aload_n hx hb dX2_spotAtLatest_20 rfl (lv_at hl 0 rfl) ?_
  refine va_get (D := D) (ci := 2) (v := .ref a9) (C := RX2) (T := TX2) (N := 13) hx hb hg iX2 hown hK hP 0 rfl rfl 8 (by decide) (hg _ kw143) (fun _ h9 => h9) rfl dX2_spotAtLatest_21 ?_
  refine va_getN (D := D) (ci := 1) (v := .int lv) (C := RX1) (T := TX1) (N := 4) hx hb hg iX1 hown hK hP 9 rfl rfl 2 (by decide) (va_Nw.use rfl (hZ.1 _ (List.mem_of_getElem? (i := 12) rfl))) (fun _ h9 => h9) rfl dX2_spotAtLatest_24 ?_
  refine lv_imul hx hb dX2_spotAtLatest_27 ?_
  refine lv_iadd hx hb dX2_spotAtLatest_28 ?_
  exact W.iret (v := ((og k) * lw) + ((di k) * lv)) hx hb hr (fun t ht hW => ⟨congrArg (fun z => Outcome.returned (some (Value.int z))) (rfl), ht⟩) (fun q hq => nomatch hq) dX2_spotAtLatest_29

def geB (sp lo a : Int32) : Bool := decide (lo < sp) || (decide (sp = lo) && decide (a < 0))
def leB (sp hi a : Int32) : Bool := decide (sp < hi) || (decide (sp = hi) && decide (0 < a))
def cameK (lo hi og di ar : Nat → Int32) (lv lw : Int32) (k j : Nat) : Bool := geB (og k * lw + di k * lv) (lo j * lw) (ar k) && leB (og k * lw + di k * lv) (hi j * lw) (ar k)
/-- it was in the inside of the box i just before the latest hit's time -/
def cameB (lo hi og di ar : Nat → Int32) (lv lw : Int32) (i : Nat) : Bool := !decide (lv = 0) && (cameK lo hi og di ar lv lw 0 (i * 3) && (cameK lo hi og di ar lv lw 1 (i * 3 + 1) && cameK lo hi og di ar lv lw 2 (i * 3 + 2)))
def countsB (lo hi og di ar : Nat → Int32) (lb lv lw tv tw : Int32) (i : Nat) : Bool := if cmpI (tv * lw) (lv * tw) = 0 then (decide (lb < nI i) && !cameB lo hi og di ar lv lw i) else decide (0 < cmpI (tv * lw) (lv * tw))

set_option maxHeartbeats 4000000 in
set_option maxRecDepth 100000 in
/-- Path.cameInside -/
theorem qX2_cameInside (l : Launch) (D : va_G) (cI cZ cJ : ClassId) (a0 a1 a2 a3 a4 a5 a6 a7 a8 a9 a10 a11 : Nat) (b0 b1 b2 b3 b4 b5 : Nat) (og di ar ho hx9 ha hl9 hs : Nat → Int32) (lb la lv lw nb9 na nv nw tb ta tv tw : Int32) (nh0 li : Int32) (lo hi ki sh of : Nat → Int32) (cn : Int32) (i : Nat) (hi2 : i < 20) : Met l yX2_cameInside (Cond.code yX2_cameInside cX2_cameInside 9 (some .boolean) :: gw) ({ frames := 1, cells := 0, slots := 0, locals := 21 }) (pq D [.ref a0, .ref b0, .int (nI i)] [(a0, .inr (2, [.ref a1, .ref a2, .ref a3, .ref a4, .ref a5, .ref a6, .ref a7, .ref a8, .ref a9, .ref a10, .ref a11, .int nh0, .int li])), (a1, .inl (cI, 3, .inl og)), (a2, .inl (cI, 3, .inl di)), (a3, .inl (cI, 3, .inl ar)), (a4, .inl (cI, 30, .inl ho)), (a5, .inl (cI, 30, .inl hx9)), (a6, .inl (cI, 30, .inl ha)), (a7, .inl (cI, 30, .inl hl9)), (a8, .inl (cI, 90, .inl hs)), (a9, .inr (1, [.int lb, .int la, .int lv, .int lw])), (a10, .inr (1, [.int nb9, .int na, .int nv, .int nw])), (a11, .inr (1, [.int tb, .int ta, .int tv, .int tw])), (b0, .inr (0, [.ref b1, .ref b2, .ref b3, .ref b4, .ref b5, .int cn])), (b1, .inl (cI, 60, .inl lo)), (b2, .inl (cI, 60, .inl hi)), (b3, .inl (cI, 20, .inl ki)), (b4, .inl (cI, 20, .inl sh)), (b5, .inl (cZ, 20, .inl of))] [(cI, .int), (cZ, .boolean), (cJ, .long)]) (QcRead (bI (cameB lo hi og di ar lv lw i))) 0 0 (fun _ => False) := by
  refine Met.ofW (cc := cX2_cameInside) (maxL := 9) (ret := (some .boolean)) (by decide) rfl ?_
  intro p e s m args below meth c s₁ B hml hv
  obtain ⟨rfl, hP, hK, hZ⟩ := hv
  have hx := B.exec
  have hb := B.bytes
  have hr := B.returns
  have hg : ∀ w ∈ gw, w.before _ s = true := fun w h => atoms_spec (ws := Cond.code yX2_cameInside cX2_cameInside 9 (some .boolean) :: gw) B.pre w (List.mem_cons_of_mem _ h)
  have hown : s.vm.findClass RX2 = some m.cls := findClass_of_methodNamed B.named
  have hlocks := B.notSynchronized
  have hP : va_P D vwCl [(a0, .inr (2, [.ref a1, .ref a2, .ref a3, .ref a4, .ref a5, .ref a6, .ref a7, .ref a8, .ref a9, .ref a10, .ref a11, .int nh0, .int li])), (a1, .inl (cI, 3, .inl og)), (a2, .inl (cI, 3, .inl di)), (a3, .inl (cI, 3, .inl ar)), (a4, .inl (cI, 30, .inl ho)), (a5, .inl (cI, 30, .inl hx9)), (a6, .inl (cI, 30, .inl ha)), (a7, .inl (cI, 30, .inl hl9)), (a8, .inl (cI, 90, .inl hs)), (a9, .inr (1, [.int lb, .int la, .int lv, .int lw])), (a10, .inr (1, [.int nb9, .int na, .int nv, .int nw])), (a11, .inr (1, [.int tb, .int ta, .int tv, .int tw])), (b0, .inr (0, [.ref b1, .ref b2, .ref b3, .ref b4, .ref b5, .int cn])), (b1, .inl (cI, 60, .inl lo)), (b2, .inl (cI, 60, .inl hi)), (b3, .inl (cI, 20, .inl ki)), (b4, .inl (cI, 20, .inl sh)), (b5, .inl (cZ, 20, .inl of))] s.heap := hP
  have hl := lv_entry ([.ref a0, .ref b0, .int (nI i)]) (n := 9) (Nat.le_of_ble_eq_true rfl)
  rw [lg_entry_eq]
  generalize (lg_sl ([.ref a0, .ref b0, .int (nI i)]) ++ List.replicate (9 - (lg_sl ([.ref a0, .ref b0, .int (nI i)])).length) Slot.unset).toArray = ls at hl ⊢
  have hl : lv_has ls 9 [(0, .ref a0), (1, .ref b0), (2, .int (nI i))] := hl
  refine lv_aload_n hx hb dX2_cameInside_0 rfl (lv_at hl 0 rfl) ?_
  refine va_get (D := D) (ci := 2) (v := .ref a9) (C := RX2) (T := TX2) (N := 13) hx hb hg iX2 hown hK hP 0 rfl rfl 8 (by decide) (hg _ kw143) (fun _ h9 => h9) rfl dX2_cameInside_1 ?_
  refine va_getN (D := D) (ci := 1) (v := .int lv) (C := RX1) (T := TX1) (N := 4) hx hb hg iX1 hown hK hP 9 rfl rfl 2 (by decide) (va_Nw.use rfl (hZ.1 _ (List.mem_of_getElem? (i := 12) rfl))) (fun _ h9 => h9) rfl dX2_cameInside_4 ?_
  refine lv_if_ne (tgt := 12) hx hb dX2_cameInside_7 (by decide) (fun c7 => ?_) (fun c7 => ?_)
  · refine lv_iconst (v := 0) hx hb dX2_cameInside_12 (by decide) ?_
    refine lv_istore_n (lv' := [(3, .int 0), (0, .ref a0), (1, .ref b0), (2, .int (nI i))]) hx hb dX2_cameInside_13 rfl hl (by decide) rfl (fun ls hl => ?_)
    refine lv_iload_n hx hb dX2_cameInside_14 rfl (lv_at hl 0 rfl) ?_
    refine lv_iconst (v := 3) hx hb dX2_cameInside_15 (by decide) ?_
    refine lv_icmp_ge (tgt := 144) hx hb dX2_cameInside_16 (by decide) (fun c16 => absurd c16 (by decide)) (fun _ => ?_)
    refine lv_aload_n hx hb dX2_cameInside_19 rfl (lv_at hl 1 rfl) ?_
    refine lv_iload_n hx hb dX2_cameInside_20 rfl (lv_at hl 0 rfl) ?_
    have hPc := hP.sub (ws' := [(a0, .inr (2, [.ref a1, .ref a2, .ref a3, .ref a4, .ref a5, .ref a6, .ref a7, .ref a8, .ref a9, .ref a10, .ref a11, .int nh0, .int li])), (a1, .inl (cI, 3, .inl og)), (a2, .inl (cI, 3, .inl di)), (a3, .inl (cI, 3, .inl ar)), (a4, .inl (cI, 30, .inl ho)), (a5, .inl (cI, 30, .inl hx9)), (a6, .inl (cI, 30, .inl ha)), (a7, .inl (cI, 30, .inl hl9)), (a8, .inl (cI, 90, .inl hs)), (a9, .inr (1, [.int lb, .int la, .int lv, .int lw])), (a10, .inr (1, [.int nb9, .int na, .int nv, .int nw])), (a11, .inr (1, [.int tb, .int ta, .int tv, .int tw])), (b0, .inr (0, [.ref b1, .ref b2, .ref b3, .ref b4, .ref b5, .int cn])), (b1, .inl (cI, 60, .inl lo)), (b2, .inl (cI, 60, .inl hi)), (b3, .inl (cI, 20, .inl ki)), (b4, .inl (cI, 20, .inl sh)), (b5, .inl (cZ, 20, .inl of))]) [0, 1, 2, 3, 4, 5, 6, 7, 8, 9, 10, 11, 12, 13, 14, 15, 16, 17] rfl
    refine rq_call (va_runV (As := [.int 0]) (rest := []) ⟨hx, hb, hml, hown, hg⟩ (qX2_spotAtLatest l D cI cZ cJ a0 a1 a2 a3 a4 a5 a6 a7 a8 a9 a10 a11 b0 b1 b2 b3 b4 b5 og di ar ho hx9 ha hl9 hs lb la lv lw nb9 na nv nw tb ta tv tw nh0 li lo hi ki sh of cn 0 (by omega)) (cwV 1 hg (gw_V kw394 kw396 kw15 kw39 kw397) rfl rfl rfl (by decide +kernel) ⟨Nat.le_of_ble_eq_true rfl, Nat.le_of_ble_eq_true rfl⟩) (pq_preV hPc hK hZ (va_recv hK hPc (ci := 2) (q0 := 0) rfl rfl)) rfl rfl hl.1 rfl (lv_room (Nat.le_of_ble_eq_true rfl)) dX2_cameInside_21 ⟨Nat.le_of_ble_eq_true rfl, Nat.le_of_ble_eq_true rfl⟩) ?_
    refine lv_istore (lv' := [(4, .int (og 0 * lw + di 0 * lv)), (3, .int 0), (0, .ref a0), (1, .ref b0), (2, .int (nI i))]) hx hb dX2_cameInside_24 hl (by decide) rfl (fun ls hl => ?_)
    refine lv_aload_n hx hb dX2_cameInside_26 rfl (lv_at hl 3 rfl) ?_
    refine va_getN (D := D) (ci := 0) (v := .ref b1) (C := RX0) (T := TX0) (N := 6) hx hb hg iX0 hown hK hP 12 rfl rfl 0 (by decide) (va_Nw.use rfl (hZ.1 _ (List.mem_of_getElem? (i := 0) rfl))) (fun _ h9 => h9) rfl dX2_cameInside_27 ?_
    refine lv_iload_n hx hb dX2_cameInside_30 rfl (lv_at hl 4 rfl) ?_
    refine lv_iconst (v := 3) hx hb dX2_cameInside_31 (by decide) ?_
    refine lv_imul hx hb dX2_cameInside_32 ?_
    refine lv_iload_n hx hb dX2_cameInside_33 rfl (lv_at hl 1 rfl) ?_
    refine lv_iadd hx hb dX2_cameInside_34 ?_
    refine va_iald hx hb hK hP 13 0 rfl rfl (vin3 (k := 0) (by omega) (by decide)) dX2_cameInside_35 ?_
    refine lv_topi (fun y_20 ey_20 => ?_)
    replace ey_20 : y_20 = lo (i * 3) := ey_20.trans (congrArg lo (vcl3 (k := 0) (by omega)))
    subst ey_20
    refine lv_aload_n hx hb dX2_cameInside_36 rfl (lv_at hl 2 rfl) ?_
    refine va_get (D := D) (ci := 2) (v := .ref a9) (C := RX2) (T := TX2) (N := 13) hx hb hg iX2 hown hK hP 0 rfl rfl 8 (by decide) (hg _ kw143) (fun _ h9 => h9) rfl dX2_cameInside_37 ?_
    refine va_getN (D := D) (ci := 1) (v := .int lw) (C := RX1) (T := TX1) (N := 4) hx hb hg iX1 hown hK hP 9 rfl rfl 3 (by decide) (va_Nw.use rfl (hZ.1 _ (List.mem_of_getElem? (i := 13) rfl))) (fun _ h9 => h9) rfl dX2_cameInside_40 ?_
    refine lv_imul hx hb dX2_cameInside_43 ?_
    refine lv_istore (lv' := [(5, .int ((lo (i * 3)) * lw)), (4, .int (og 0 * lw + di 0 * lv)), (3, .int 0), (0, .ref a0), (1, .ref b0), (2, .int (nI i))]) hx hb dX2_cameInside_44 hl (by decide) rfl (fun ls hl => ?_)
    refine lv_aload_n hx hb dX2_cameInside_46 rfl (lv_at hl 4 rfl) ?_
    refine va_getN (D := D) (ci := 0) (v := .ref b2) (C := RX0) (T := TX0) (N := 6) hx hb hg iX0 hown hK hP 12 rfl rfl 1 (by decide) (va_Nw.use rfl (hZ.1 _ (List.mem_of_getElem? (i := 1) rfl))) (fun _ h9 => h9) rfl dX2_cameInside_47 ?_
    refine lv_iload_n hx hb dX2_cameInside_50 rfl (lv_at hl 5 rfl) ?_
    refine lv_iconst (v := 3) hx hb dX2_cameInside_51 (by decide) ?_
    refine lv_imul hx hb dX2_cameInside_52 ?_
    refine lv_iload_n hx hb dX2_cameInside_53 rfl (lv_at hl 2 rfl) ?_
    refine lv_iadd hx hb dX2_cameInside_54 ?_
    refine va_iald hx hb hK hP 14 0 rfl rfl (vin3 (k := 0) (by omega) (by decide)) dX2_cameInside_55 ?_
    refine lv_topi (fun y_21 ey_21 => ?_)
    replace ey_21 : y_21 = hi (i * 3) := ey_21.trans (congrArg hi (vcl3 (k := 0) (by omega)))
    subst ey_21
    refine lv_aload_n hx hb dX2_cameInside_56 rfl (lv_at hl 3 rfl) ?_
    refine va_get (D := D) (ci := 2) (v := .ref a9) (C := RX2) (T := TX2) (N := 13) hx hb hg iX2 hown hK hP 0 rfl rfl 8 (by decide) (hg _ kw143) (fun _ h9 => h9) rfl dX2_cameInside_57 ?_
    refine va_getN (D := D) (ci := 1) (v := .int lw) (C := RX1) (T := TX1) (N := 4) hx hb hg iX1 hown hK hP 9 rfl rfl 3 (by decide) (va_Nw.use rfl (hZ.1 _ (List.mem_of_getElem? (i := 13) rfl))) (fun _ h9 => h9) rfl dX2_cameInside_60 ?_
    refine lv_imul hx hb dX2_cameInside_63 ?_
    refine lv_istore (lv' := [(6, .int ((hi (i * 3)) * lw)), (5, .int ((lo (i * 3)) * lw)), (4, .int (og 0 * lw + di 0 * lv)), (3, .int 0), (0, .ref a0), (1, .ref b0), (2, .int (nI i))]) hx hb dX2_cameInside_64 hl (by decide) rfl (fun ls hl => ?_)
    have J_22 : W p l e (headSpec (Cond.code yX2_cameInside cX2_cameInside 9 (some .boolean) :: gw) ({ frames := 1, cells := 0, slots := 0, locals := 21 })).room s m ([.ref a0, .ref b0, .int (nI i)] : List Value).toArray below meth c s.heap [] 0 0 (MQ below (QcRead (bI (cameB lo hi og di ar lv lw i))) ([.ref a0, .ref b0, .int (nI i)] : List Value).toArray s 0 0 (fun _ => False)) (F0 m 94 ls [.int (bI (geB (og 0 * lw + di 0 * lv) ((lo (i * 3)) * lw) (ar 0)))]) := by
      refine lv_istore (lv' := [(7, .int (bI (geB (og 0 * lw + di 0 * lv) ((lo (i * 3)) * lw) (ar 0)))), (6, .int ((hi (i * 3)) * lw)), (5, .int ((lo (i * 3)) * lw)), (4, .int (og 0 * lw + di 0 * lv)), (3, .int 0), (0, .ref a0), (1, .ref b0), (2, .int (nI i))]) hx hb dX2_cameInside_94 hl (by decide) rfl (fun ls hl => ?_)
      have J_23 : W p l e (headSpec (Cond.code yX2_cameInside cX2_cameInside 9 (some .boolean) :: gw) ({ frames := 1, cells := 0, slots := 0, locals := 21 })).room s m ([.ref a0, .ref b0, .int (nI i)] : List Value).toArray below meth c s.heap [] 0 0 (MQ below (QcRead (bI (cameB lo hi og di ar lv lw i))) ([.ref a0, .ref b0, .int (nI i)] : List Value).toArray s 0 0 (fun _ => False)) (F0 m 124 ls [.int (bI (leB (og 0 * lw + di 0 * lv) ((hi (i * 3)) * lw) (ar 0)))]) := by
        refine lv_istore (lv' := [(8, .int (bI (leB (og 0 * lw + di 0 * lv) ((hi (i * 3)) * lw) (ar 0)))), (7, .int (bI (geB (og 0 * lw + di 0 * lv) ((lo (i * 3)) * lw) (ar 0)))), (6, .int ((hi (i * 3)) * lw)), (5, .int ((lo (i * 3)) * lw)), (4, .int (og 0 * lw + di 0 * lv)), (3, .int 0), (0, .ref a0), (1, .ref b0), (2, .int (nI i))]) hx hb dX2_cameInside_124 hl (by decide) rfl (fun ls hl => ?_)
        refine lv_iload hx hb dX2_cameInside_126 (lv_at hl 1 rfl) ?_
        refine lv_if_eq (tgt := 136) hx hb dX2_cameInside_128 (by decide) (fun c128 => ?_) (fun c128 => ?_)
        · replace c128 := bI_f c128
          refine lv_iconst (v := 0) hx hb dX2_cameInside_136 (by decide) ?_
          exact W.zret (v := 0) hx hb hr (by decide) (fun t ht hW => ⟨congrArg (fun z => Outcome.returned (some (Value.int z))) (by simp [bI, cameB, cameK, c7, c128]), ht⟩) (fun q hq => nomatch hq) dX2_cameInside_137
        · replace c128 := bI_t c128
          refine lv_iload hx hb dX2_cameInside_131 (lv_at hl 0 rfl) ?_
          refine lv_if_ne (tgt := 138) hx hb dX2_cameInside_133 (by decide) (fun c133 => ?_) (fun c133 => ?_)
          · replace c133 := bI_t c133
            refine lv_iinc (v := 1) (lv' := [(3, .int 1), (8, .int (bI (leB (og 0 * lw + di 0 * lv) ((hi (i * 3)) * lw) (ar 0)))), (7, .int (bI (geB (og 0 * lw + di 0 * lv) ((lo (i * 3)) * lw) (ar 0)))), (6, .int ((hi (i * 3)) * lw)), (5, .int ((lo (i * 3)) * lw)), (4, .int (og 0 * lw + di 0 * lv)), (0, .ref a0), (1, .ref b0), (2, .int (nI i))]) hx hb dX2_cameInside_138 hl (k := 5) rfl (by decide) (by decide) rfl (fun ls hl => ?_)
            refine lv_goto (tgt := 14) hx hb dX2_cameInside_141 (by decide) ?_
            refine lv_iload_n hx hb dX2_cameInside_14 rfl (lv_at hl 0 rfl) ?_
            refine lv_iconst (v := 3) hx hb dX2_cameInside_15 (by decide) ?_
            refine lv_icmp_ge (tgt := 144) hx hb dX2_cameInside_16 (by decide) (fun c16 => absurd c16 (by decide)) (fun _ => ?_)
            refine lv_aload_n hx hb dX2_cameInside_19 rfl (lv_at hl 6 rfl) ?_
            refine lv_iload_n hx hb dX2_cameInside_20 rfl (lv_at hl 0 rfl) ?_
            have hPc := hP.sub (ws' := [(a0, .inr (2, [.ref a1, .ref a2, .ref a3, .ref a4, .ref a5, .ref a6, .ref a7, .ref a8, .ref a9, .ref a10, .ref a11, .int nh0, .int li])), (a1, .inl (cI, 3, .inl og)), (a2, .inl (cI, 3, .inl di)), (a3, .inl (cI, 3, .inl ar)), (a4, .inl (cI, 30, .inl ho)), (a5, .inl (cI, 30, .inl hx9)), (a6, .inl (cI, 30, .inl ha)), (a7, .inl (cI, 30, .inl hl9)), (a8, .inl (cI, 90, .inl hs)), (a9, .inr (1, [.int lb, .int la, .int lv, .int lw])), (a10, .inr (1, [.int nb9, .int na, .int nv, .int nw])), (a11, .inr (1, [.int tb, .int ta, .int tv, .int tw])), (b0, .inr (0, [.ref b1, .ref b2, .ref b3, .ref b4, .ref b5, .int cn])), (b1, .inl (cI, 60, .inl lo)), (b2, .inl (cI, 60, .inl hi)), (b3, .inl (cI, 20, .inl ki)), (b4, .inl (cI, 20, .inl sh)), (b5, .inl (cZ, 20, .inl of))]) [0, 1, 2, 3, 4, 5, 6, 7, 8, 9, 10, 11, 12, 13, 14, 15, 16, 17] rfl
            refine rq_call (va_runV (As := [.int 1]) (rest := []) ⟨hx, hb, hml, hown, hg⟩ (qX2_spotAtLatest l D cI cZ cJ a0 a1 a2 a3 a4 a5 a6 a7 a8 a9 a10 a11 b0 b1 b2 b3 b4 b5 og di ar ho hx9 ha hl9 hs lb la lv lw nb9 na nv nw tb ta tv tw nh0 li lo hi ki sh of cn 1 (by omega)) (cwV 1 hg (gw_V kw394 kw396 kw15 kw39 kw397) rfl rfl rfl (by decide +kernel) ⟨Nat.le_of_ble_eq_true rfl, Nat.le_of_ble_eq_true rfl⟩) (pq_preV hPc hK hZ (va_recv hK hPc (ci := 2) (q0 := 0) rfl rfl)) rfl rfl hl.1 rfl (lv_room (Nat.le_of_ble_eq_true rfl)) dX2_cameInside_21 ⟨Nat.le_of_ble_eq_true rfl, Nat.le_of_ble_eq_true rfl⟩) ?_
            refine lv_istore (lv' := [(4, .int (og 1 * lw + di 1 * lv)), (3, .int 1), (8, .int (bI (leB (og 0 * lw + di 0 * lv) ((hi (i * 3)) * lw) (ar 0)))), (7, .int (bI (geB (og 0 * lw + di 0 * lv) ((lo (i * 3)) * lw) (ar 0)))), (6, .int ((hi (i * 3)) * lw)), (5, .int ((lo (i * 3)) * lw)), (0, .ref a0), (1, .ref b0), (2, .int (nI i))]) hx hb dX2_cameInside_24 hl (by decide) rfl (fun ls hl => ?_)
            refine lv_aload_n hx hb dX2_cameInside_26 rfl (lv_at hl 7 rfl) ?_
            refine va_getN (D := D) (ci := 0) (v := .ref b1) (C := RX0) (T := TX0) (N := 6) hx hb hg iX0 hown hK hP 12 rfl rfl 0 (by decide) (va_Nw.use rfl (hZ.1 _ (List.mem_of_getElem? (i := 0) rfl))) (fun _ h9 => h9) rfl dX2_cameInside_27 ?_
            refine lv_iload_n hx hb dX2_cameInside_30 rfl (lv_at hl 8 rfl) ?_
            refine lv_iconst (v := 3) hx hb dX2_cameInside_31 (by decide) ?_
            refine lv_imul hx hb dX2_cameInside_32 ?_
            refine lv_iload_n hx hb dX2_cameInside_33 rfl (lv_at hl 1 rfl) ?_
            refine lv_iadd hx hb dX2_cameInside_34 ?_
            refine va_iald hx hb hK hP 13 0 rfl rfl (vin3 (k := 1) (by omega) (by decide)) dX2_cameInside_35 ?_
            refine lv_topi (fun y_24 ey_24 => ?_)
            replace ey_24 : y_24 = lo (i * 3 + 1) := ey_24.trans (congrArg lo (vcl3 (k := 1) (by omega)))
            subst ey_24
            refine lv_aload_n hx hb dX2_cameInside_36 rfl (lv_at hl 6 rfl) ?_
            refine va_get (D := D) (ci := 2) (v := .ref a9) (C := RX2) (T := TX2) (N := 13) hx hb hg iX2 hown hK hP 0 rfl rfl 8 (by decide) (hg _ kw143) (fun _ h9 => h9) rfl dX2_cameInside_37 ?_
            refine va_getN (D := D) (ci := 1) (v := .int lw) (C := RX1) (T := TX1) (N := 4) hx hb hg iX1 hown hK hP 9 rfl rfl 3 (by decide) (va_Nw.use rfl (hZ.1 _ (List.mem_of_getElem? (i := 13) rfl))) (fun _ h9 => h9) rfl dX2_cameInside_40 ?_
            refine lv_imul hx hb dX2_cameInside_43 ?_
            refine lv_istore (lv' := [(5, .int ((lo (i * 3 + 1)) * lw)), (4, .int (og 1 * lw + di 1 * lv)), (3, .int 1), (8, .int (bI (leB (og 0 * lw + di 0 * lv) ((hi (i * 3)) * lw) (ar 0)))), (7, .int (bI (geB (og 0 * lw + di 0 * lv) ((lo (i * 3)) * lw) (ar 0)))), (6, .int ((hi (i * 3)) * lw)), (0, .ref a0), (1, .ref b0), (2, .int (nI i))]) hx hb dX2_cameInside_44 hl (by decide) rfl (fun ls hl => ?_)
            refine lv_aload_n hx hb dX2_cameInside_46 rfl (lv_at hl 7 rfl) ?_
            refine va_getN (D := D) (ci := 0) (v := .ref b2) (C := RX0) (T := TX0) (N := 6) hx hb hg iX0 hown hK hP 12 rfl rfl 1 (by decide) (va_Nw.use rfl (hZ.1 _ (List.mem_of_getElem? (i := 1) rfl))) (fun _ h9 => h9) rfl dX2_cameInside_47 ?_
            refine lv_iload_n hx hb dX2_cameInside_50 rfl (lv_at hl 8 rfl) ?_
            refine lv_iconst (v := 3) hx hb dX2_cameInside_51 (by decide) ?_
            refine lv_imul hx hb dX2_cameInside_52 ?_
            refine lv_iload_n hx hb dX2_cameInside_53 rfl (lv_at hl 2 rfl) ?_
            refine lv_iadd hx hb dX2_cameInside_54 ?_
            refine va_iald hx hb hK hP 14 0 rfl rfl (vin3 (k := 1) (by omega) (by decide)) dX2_cameInside_55 ?_
            refine lv_topi (fun y_25 ey_25 => ?_)
            replace ey_25 : y_25 = hi (i * 3 + 1) := ey_25.trans (congrArg hi (vcl3 (k := 1) (by omega)))
            subst ey_25
            refine lv_aload_n hx hb dX2_cameInside_56 rfl (lv_at hl 6 rfl) ?_
            refine va_get (D := D) (ci := 2) (v := .ref a9) (C := RX2) (T := TX2) (N := 13) hx hb hg iX2 hown hK hP 0 rfl rfl 8 (by decide) (hg _ kw143) (fun _ h9 => h9) rfl dX2_cameInside_57 ?_
            refine va_getN (D := D) (ci := 1) (v := .int lw) (C := RX1) (T := TX1) (N := 4) hx hb hg iX1 hown hK hP 9 rfl rfl 3 (by decide) (va_Nw.use rfl (hZ.1 _ (List.mem_of_getElem? (i := 13) rfl))) (fun _ h9 => h9) rfl dX2_cameInside_60 ?_
            refine lv_imul hx hb dX2_cameInside_63 ?_
            refine lv_istore (lv' := [(6, .int ((hi (i * 3 + 1)) * lw)), (5, .int ((lo (i * 3 + 1)) * lw)), (4, .int (og 1 * lw + di 1 * lv)), (3, .int 1), (8, .int (bI (leB (og 0 * lw + di 0 * lv) ((hi (i * 3)) * lw) (ar 0)))), (7, .int (bI (geB (og 0 * lw + di 0 * lv) ((lo (i * 3)) * lw) (ar 0)))), (0, .ref a0), (1, .ref b0), (2, .int (nI i))]) hx hb dX2_cameInside_64 hl (by decide) rfl (fun ls hl => ?_)
            have J_26 : W p l e (headSpec (Cond.code yX2_cameInside cX2_cameInside 9 (some .boolean) :: gw) ({ frames := 1, cells := 0, slots := 0, locals := 21 })).room s m ([.ref a0, .ref b0, .int (nI i)] : List Value).toArray below meth c s.heap [] 0 0 (MQ below (QcRead (bI (cameB lo hi og di ar lv lw i))) ([.ref a0, .ref b0, .int (nI i)] : List Value).toArray s 0 0 (fun _ => False)) (F0 m 94 ls [.int (bI (geB (og 1 * lw + di 1 * lv) ((lo (i * 3 + 1)) * lw) (ar 1)))]) := by
              refine lv_istore (lv' := [(7, .int (bI (geB (og 1 * lw + di 1 * lv) ((lo (i * 3 + 1)) * lw) (ar 1)))), (6, .int ((hi (i * 3 + 1)) * lw)), (5, .int ((lo (i * 3 + 1)) * lw)), (4, .int (og 1 * lw + di 1 * lv)), (3, .int 1), (8, .int (bI (leB (og 0 * lw + di 0 * lv) ((hi (i * 3)) * lw) (ar 0)))), (0, .ref a0), (1, .ref b0), (2, .int (nI i))]) hx hb dX2_cameInside_94 hl (by decide) rfl (fun ls hl => ?_)
              have J_27 : W p l e (headSpec (Cond.code yX2_cameInside cX2_cameInside 9 (some .boolean) :: gw) ({ frames := 1, cells := 0, slots := 0, locals := 21 })).room s m ([.ref a0, .ref b0, .int (nI i)] : List Value).toArray below meth c s.heap [] 0 0 (MQ below (QcRead (bI (cameB lo hi og di ar lv lw i))) ([.ref a0, .ref b0, .int (nI i)] : List Value).toArray s 0 0 (fun _ => False)) (F0 m 124 ls [.int (bI (leB (og 1 * lw + di 1 * lv) ((hi (i * 3 + 1)) * lw) (ar 1)))]) := by
                refine lv_istore (lv' := [(8, .int (bI (leB (og 1 * lw + di 1 * lv) ((hi (i * 3 + 1)) * lw) (ar 1)))), (7, .int (bI (geB (og 1 * lw + di 1 * lv) ((lo (i * 3 + 1)) * lw) (ar 1)))), (6, .int ((hi (i * 3 + 1)) * lw)), (5, .int ((lo (i * 3 + 1)) * lw)), (4, .int (og 1 * lw + di 1 * lv)), (3, .int 1), (0, .ref a0), (1, .ref b0), (2, .int (nI i))]) hx hb dX2_cameInside_124 hl (by decide) rfl (fun ls hl => ?_)
                refine lv_iload hx hb dX2_cameInside_126 (lv_at hl 1 rfl) ?_
                refine lv_if_eq (tgt := 136) hx hb dX2_cameInside_128 (by decide) (fun c128_1 => ?_) (fun c128_1 => ?_)
                · replace c128_1 := bI_f c128_1
                  refine lv_iconst (v := 0) hx hb dX2_cameInside_136 (by decide) ?_
                  exact W.zret (v := 0) hx hb hr (by decide) (fun t ht hW => ⟨congrArg (fun z => Outcome.returned (some (Value.int z))) (by simp [bI, cameB, cameK, c7, c128, c133, c128_1]), ht⟩) (fun q hq => nomatch hq) dX2_cameInside_137
                · replace c128_1 := bI_t c128_1
                  refine lv_iload hx hb dX2_cameInside_131 (lv_at hl 0 rfl) ?_
                  refine lv_if_ne (tgt := 138) hx hb dX2_cameInside_133 (by decide) (fun c133_1 => ?_) (fun c133_1 => ?_)
                  · replace c133_1 := bI_t c133_1
                    refine lv_iinc (v := 2) (lv' := [(3, .int 2), (8, .int (bI (leB (og 1 * lw + di 1 * lv) ((hi (i * 3 + 1)) * lw) (ar 1)))), (7, .int (bI (geB (og 1 * lw + di 1 * lv) ((lo (i * 3 + 1)) * lw) (ar 1)))), (6, .int ((hi (i * 3 + 1)) * lw)), (5, .int ((lo (i * 3 + 1)) * lw)), (4, .int (og 1 * lw + di 1 * lv)), (0, .ref a0), (1, .ref b0), (2, .int (nI i))]) hx hb dX2_cameInside_138 hl (k := 5) rfl (by decide) (by decide) rfl (fun ls hl => ?_)
                    refine lv_goto (tgt := 14) hx hb dX2_cameInside_141 (by decide) ?_
                    refine lv_iload_n hx hb dX2_cameInside_14 rfl (lv_at hl 0 rfl) ?_
                    refine lv_iconst (v := 3) hx hb dX2_cameInside_15 (by decide) ?_
                    refine lv_icmp_ge (tgt := 144) hx hb dX2_cameInside_16 (by decide) (fun c16 => absurd c16 (by decide)) (fun _ => ?_)
                    refine lv_aload_n hx hb dX2_cameInside_19 rfl (lv_at hl 6 rfl) ?_
                    refine lv_iload_n hx hb dX2_cameInside_20 rfl (lv_at hl 0 rfl) ?_
                    have hPc := hP.sub (ws' := [(a0, .inr (2, [.ref a1, .ref a2, .ref a3, .ref a4, .ref a5, .ref a6, .ref a7, .ref a8, .ref a9, .ref a10, .ref a11, .int nh0, .int li])), (a1, .inl (cI, 3, .inl og)), (a2, .inl (cI, 3, .inl di)), (a3, .inl (cI, 3, .inl ar)), (a4, .inl (cI, 30, .inl ho)), (a5, .inl (cI, 30, .inl hx9)), (a6, .inl (cI, 30, .inl ha)), (a7, .inl (cI, 30, .inl hl9)), (a8, .inl (cI, 90, .inl hs)), (a9, .inr (1, [.int lb, .int la, .int lv, .int lw])), (a10, .inr (1, [.int nb9, .int na, .int nv, .int nw])), (a11, .inr (1, [.int tb, .int ta, .int tv, .int tw])), (b0, .inr (0, [.ref b1, .ref b2, .ref b3, .ref b4, .ref b5, .int cn])), (b1, .inl (cI, 60, .inl lo)), (b2, .inl (cI, 60, .inl hi)), (b3, .inl (cI, 20, .inl ki)), (b4, .inl (cI, 20, .inl sh)), (b5, .inl (cZ, 20, .inl of))]) [0, 1, 2, 3, 4, 5, 6, 7, 8, 9, 10, 11, 12, 13, 14, 15, 16, 17] rfl
                    refine rq_call (va_runV (As := [.int 2]) (rest := []) ⟨hx, hb, hml, hown, hg⟩ (qX2_spotAtLatest l D cI cZ cJ a0 a1 a2 a3 a4 a5 a6 a7 a8 a9 a10 a11 b0 b1 b2 b3 b4 b5 og di ar ho hx9 ha hl9 hs lb la lv lw nb9 na nv nw tb ta tv tw nh0 li lo hi ki sh of cn 2 (by omega)) (cwV 1 hg (gw_V kw394 kw396 kw15 kw39 kw397) rfl rfl rfl (by decide +kernel) ⟨Nat.le_of_ble_eq_true rfl, Nat.le_of_ble_eq_true rfl⟩) (pq_preV hPc hK hZ (va_recv hK hPc (ci := 2) (q0 := 0) rfl rfl)) rfl rfl hl.1 rfl (lv_room (Nat.le_of_ble_eq_true rfl)) dX2_cameInside_21 ⟨Nat.le_of_ble_eq_true rfl, Nat.le_of_ble_eq_true rfl⟩) ?_
                    refine lv_istore (lv' := [(4, .int (og 2 * lw + di 2 * lv)), (3, .int 2), (8, .int (bI (leB (og 1 * lw + di 1 * lv) ((hi (i * 3 + 1)) * lw) (ar 1)))), (7, .int (bI (geB (og 1 * lw + di 1 * lv) ((lo (i * 3 + 1)) * lw) (ar 1)))), (6, .int ((hi (i * 3 + 1)) * lw)), (5, .int ((lo (i * 3 + 1)) * lw)), (0, .ref a0), (1, .ref b0), (2, .int (nI i))]) hx hb dX2_cameInside_24 hl (by decide) rfl (fun ls hl => ?_)
                    refine lv_aload_n hx hb dX2_cameInside_26 rfl (lv_at hl 7 rfl) ?_
                    refine va_getN (D := D) (ci := 0) (v := .ref b1) (C := RX0) (T := TX0) (N := 6) hx hb hg iX0 hown hK hP 12 rfl rfl 0 (by decide) (va_Nw.use rfl (hZ.1 _ (List.mem_of_getElem? (i := 0) rfl))) (fun _ h9 => h9) rfl dX2_cameInside_27 ?_
                    refine lv_iload_n hx hb dX2_cameInside_30 rfl (lv_at hl 8 rfl) ?_
                    refine lv_iconst (v := 3) hx hb dX2_cameInside_31 (by decide) ?_
                    refine lv_imul hx hb dX2_cameInside_32 ?_
                    refine lv_iload_n hx hb dX2_cameInside_33 rfl (lv_at hl 1 rfl) ?_
                    refine lv_iadd hx hb dX2_cameInside_34 ?_
                    refine va_iald hx hb hK hP 13 0 rfl rfl (vin3 (k := 2) (by omega) (by decide)) dX2_cameInside_35 ?_
                    refine lv_topi (fun y_28 ey_28 => ?_)
                    replace ey_28 : y_28 = lo (i * 3 + 2) := ey_28.trans (congrArg lo (vcl3 (k := 2) (by omega)))
                    subst ey_28
                    refine lv_aload_n hx hb dX2_cameInside_36 rfl (lv_at hl 6 rfl) ?_
                    refine va_get (D := D) (ci := 2) (v := .ref a9) (C := RX2) (T := TX2) (N := 13) hx hb hg iX2 hown hK hP 0 rfl rfl 8 (by decide) (hg _ kw143) (fun _ h9 => h9) rfl dX2_cameInside_37 ?_
                    refine va_getN (D := D) (ci := 1) (v := .int lw) (C := RX1) (T := TX1) (N := 4) hx hb hg iX1 hown hK hP 9 rfl rfl 3 (by decide) (va_Nw.use rfl (hZ.1 _ (List.mem_of_getElem? (i := 13) rfl))) (fun _ h9 => h9) rfl dX2_cameInside_40 ?_
                    refine lv_imul hx hb dX2_cameInside_43 ?_
                    refine lv_istore (lv' := [(5, .int ((lo (i * 3 + 2)) * lw)), (4, .int (og 2 * lw + di 2 * lv)), (3, .int 2), (8, .int (bI (leB (og 1 * lw + di 1 * lv) ((hi (i * 3 + 1)) * lw) (ar 1)))), (7, .int (bI (geB (og 1 * lw + di 1 * lv) ((lo (i * 3 + 1)) * lw) (ar 1)))), (6, .int ((hi (i * 3 + 1)) * lw)), (0, .ref a0), (1, .ref b0), (2, .int (nI i))]) hx hb dX2_cameInside_44 hl (by decide) rfl (fun ls hl => ?_)
                    refine lv_aload_n hx hb dX2_cameInside_46 rfl (lv_at hl 7 rfl) ?_
                    refine va_getN (D := D) (ci := 0) (v := .ref b2) (C := RX0) (T := TX0) (N := 6) hx hb hg iX0 hown hK hP 12 rfl rfl 1 (by decide) (va_Nw.use rfl (hZ.1 _ (List.mem_of_getElem? (i := 1) rfl))) (fun _ h9 => h9) rfl dX2_cameInside_47 ?_
                    refine lv_iload_n hx hb dX2_cameInside_50 rfl (lv_at hl 8 rfl) ?_
                    refine lv_iconst (v := 3) hx hb dX2_cameInside_51 (by decide) ?_
                    refine lv_imul hx hb dX2_cameInside_52 ?_
                    refine lv_iload_n hx hb dX2_cameInside_53 rfl (lv_at hl 2 rfl) ?_
                    refine lv_iadd hx hb dX2_cameInside_54 ?_
                    refine va_iald hx hb hK hP 14 0 rfl rfl (vin3 (k := 2) (by omega) (by decide)) dX2_cameInside_55 ?_
                    refine lv_topi (fun y_29 ey_29 => ?_)
                    replace ey_29 : y_29 = hi (i * 3 + 2) := ey_29.trans (congrArg hi (vcl3 (k := 2) (by omega)))
                    subst ey_29
                    refine lv_aload_n hx hb dX2_cameInside_56 rfl (lv_at hl 6 rfl) ?_
                    refine va_get (D := D) (ci := 2) (v := .ref a9) (C := RX2) (T := TX2) (N := 13) hx hb hg iX2 hown hK hP 0 rfl rfl 8 (by decide) (hg _ kw143) (fun _ h9 => h9) rfl dX2_cameInside_57 ?_
                    refine va_getN (D := D) (ci := 1) (v := .int lw) (C := RX1) (T := TX1) (N := 4) hx hb hg iX1 hown hK hP 9 rfl rfl 3 (by decide) (va_Nw.use rfl (hZ.1 _ (List.mem_of_getElem? (i := 13) rfl))) (fun _ h9 => h9) rfl dX2_cameInside_60 ?_
                    refine lv_imul hx hb dX2_cameInside_63 ?_
                    refine lv_istore (lv' := [(6, .int ((hi (i * 3 + 2)) * lw)), (5, .int ((lo (i * 3 + 2)) * lw)), (4, .int (og 2 * lw + di 2 * lv)), (3, .int 2), (8, .int (bI (leB (og 1 * lw + di 1 * lv) ((hi (i * 3 + 1)) * lw) (ar 1)))), (7, .int (bI (geB (og 1 * lw + di 1 * lv) ((lo (i * 3 + 1)) * lw) (ar 1)))), (0, .ref a0), (1, .ref b0), (2, .int (nI i))]) hx hb dX2_cameInside_64 hl (by decide) rfl (fun ls hl => ?_)
                    have J_30 : W p l e (headSpec (Cond.code yX2_cameInside cX2_cameInside 9 (some .boolean) :: gw) ({ frames := 1, cells := 0, slots := 0, locals := 21 })).room s m ([.ref a0, .ref b0, .int (nI i)] : List Value).toArray below meth c s.heap [] 0 0 (MQ below (QcRead (bI (cameB lo hi og di ar lv lw i))) ([.ref a0, .ref b0, .int (nI i)] : List Value).toArray s 0 0 (fun _ => False)) (F0 m 94 ls [.int (bI (geB (og 2 * lw + di 2 * lv) ((lo (i * 3 + 2)) * lw) (ar 2)))]) := by
                      refine lv_istore (lv' := [(7, .int (bI (geB (og 2 * lw + di 2 * lv) ((lo (i * 3 + 2)) * lw) (ar 2)))), (6, .int ((hi (i * 3 + 2)) * lw)), (5, .int ((lo (i * 3 + 2)) * lw)), (4, .int (og 2 * lw + di 2 * lv)), (3, .int 2), (8, .int (bI (leB (og 1 * lw + di 1 * lv) ((hi (i * 3 + 1)) * lw) (ar 1)))), (0, .ref a0), (1, .ref b0), (2, .int (nI i))]) hx hb dX2_cameInside_94 hl (by decide) rfl (fun ls hl => ?_)
                      have J_31 : W p l e (headSpec (Cond.code yX2_cameInside cX2_cameInside 9 (some .boolean) :: gw) ({ frames := 1, cells := 0, slots := 0, locals := 21 })).room s m ([.ref a0, .ref b0, .int (nI i)] : List Value).toArray below meth c s.heap [] 0 0 (MQ below (QcRead (bI (cameB lo hi og di ar lv lw i))) ([.ref a0, .ref b0, .int (nI i)] : List Value).toArray s 0 0 (fun _ => False)) (F0 m 124 ls [.int (bI (leB (og 2 * lw + di 2 * lv) ((hi (i * 3 + 2)) * lw) (ar 2)))]) := by
                        refine lv_istore (lv' := [(8, .int (bI (leB (og 2 * lw + di 2 * lv) ((hi (i * 3 + 2)) * lw) (ar 2)))), (7, .int (bI (geB (og 2 * lw + di 2 * lv) ((lo (i * 3 + 2)) * lw) (ar 2)))), (6, .int ((hi (i * 3 + 2)) * lw)), (5, .int ((lo (i * 3 + 2)) * lw)), (4, .int (og 2 * lw + di 2 * lv)), (3, .int 2), (0, .ref a0), (1, .ref b0), (2, .int (nI i))]) hx hb dX2_cameInside_124 hl (by decide) rfl (fun ls hl => ?_)
                        refine lv_iload hx hb dX2_cameInside_126 (lv_at hl 1 rfl) ?_
                        refine lv_if_eq (tgt := 136) hx hb dX2_cameInside_128 (by decide) (fun c128_2 => ?_) (fun c128_2 => ?_)
                        · replace c128_2 := bI_f c128_2
                          refine lv_iconst (v := 0) hx hb dX2_cameInside_136 (by decide) ?_
                          exact W.zret (v := 0) hx hb hr (by decide) (fun t ht hW => ⟨congrArg (fun z => Outcome.returned (some (Value.int z))) (by simp [bI, cameB, cameK, c7, c128, c133, c128_1, c133_1, c128_2]), ht⟩) (fun q hq => nomatch hq) dX2_cameInside_137
                        · replace c128_2 := bI_t c128_2
                          refine lv_iload hx hb dX2_cameInside_131 (lv_at hl 0 rfl) ?_
                          refine lv_if_ne (tgt := 138) hx hb dX2_cameInside_133 (by decide) (fun c133_2 => ?_) (fun c133_2 => ?_)
                          · replace c133_2 := bI_t c133_2
                            refine lv_iinc (v := 3) (lv' := [(3, .int 3), (8, .int (bI (leB (og 2 * lw + di 2 * lv) ((hi (i * 3 + 2)) * lw) (ar 2)))), (7, .int (bI (geB (og 2 * lw + di 2 * lv) ((lo (i * 3 + 2)) * lw) (ar 2)))), (6, .int ((hi (i * 3 + 2)) * lw)), (5, .int ((lo (i * 3 + 2)) * lw)), (4, .int (og 2 * lw + di 2 * lv)), (0, .ref a0), (1, .ref b0), (2, .int (nI i))]) hx hb dX2_cameInside_138 hl (k := 5) rfl (by decide) (by decide) rfl (fun ls hl => ?_)
                            refine lv_goto (tgt := 14) hx hb dX2_cameInside_141 (by decide) ?_
                            refine lv_iload_n hx hb dX2_cameInside_14 rfl (lv_at hl 0 rfl) ?_
                            refine lv_iconst (v := 3) hx hb dX2_cameInside_15 (by decide) ?_
                            refine lv_icmp_ge (tgt := 144) hx hb dX2_cameInside_16 (by decide) (fun _ => ?_) (fun c16 => absurd (by decide) c16)
                            refine lv_iconst (v := 1) hx hb dX2_cameInside_144 (by decide) ?_
                            exact W.zret (v := 1) hx hb hr (by decide) (fun t ht hW => ⟨congrArg (fun z => Outcome.returned (some (Value.int z))) (by simp [bI, cameB, cameK, c7, c128, c133, c128_1, c133_1, c128_2, c133_2]), ht⟩) (fun q hq => nomatch hq) dX2_cameInside_145
                          · replace c133_2 := bI_f c133_2
                            refine lv_iconst (v := 0) hx hb dX2_cameInside_136 (by decide) ?_
                            exact W.zret (v := 0) hx hb hr (by decide) (fun t ht hW => ⟨congrArg (fun z => Outcome.returned (some (Value.int z))) (by simp [bI, cameB, cameK, c7, c128, c133, c128_1, c133_1, c128_2, c133_2]), ht⟩) (fun q hq => nomatch hq) dX2_cameInside_137
                      refine lv_iload hx hb dX2_cameInside_96 (lv_at hl 3 rfl) ?_
                      refine lv_iload hx hb dX2_cameInside_98 (lv_at hl 1 rfl) ?_
                      refine lv_icmp_lt (tgt := 119) hx hb dX2_cameInside_100 (by decide) (fun c100 => ?_) (fun c100 => ?_)
                      · have c100n := Int32.not_le.mpr c100
                        refine lv_iconst (v := 1) hx hb dX2_cameInside_119 (by decide) ?_
                        refine lv_goto (tgt := 124) hx hb dX2_cameInside_120 (by decide) ?_
                        refine lv_topi (fun y_32 ey_32 => ?_)
                        replace ey_32 : y_32 = bI (leB (og 2 * lw + di 2 * lv) ((hi (i * 3 + 2)) * lw) (ar 2)) := ey_32.trans (by simp [bI, leB, c7, c128, c133, c128_1, c133_1, c100, c100n])
                        subst ey_32
                        exact J_31
                      · have c100n := Int32.not_lt.mp c100
                        refine lv_iload hx hb dX2_cameInside_103 (lv_at hl 3 rfl) ?_
                        refine lv_iload hx hb dX2_cameInside_105 (lv_at hl 1 rfl) ?_
                        refine lv_icmp_ne (tgt := 123) hx hb dX2_cameInside_107 (by decide) (fun c107 => ?_) (fun c107 => ?_)
                        · refine lv_iconst (v := 0) hx hb dX2_cameInside_123 (by decide) ?_
                          refine lv_topi (fun y_33 ey_33 => ?_)
                          replace ey_33 : y_33 = bI (leB (og 2 * lw + di 2 * lv) ((hi (i * 3 + 2)) * lw) (ar 2)) := ey_33.trans (by simp [bI, leB, c7, c128, c133, c128_1, c133_1, c100, c100n, c107])
                          subst ey_33
                          exact J_31
                        · refine lv_aload_n hx hb dX2_cameInside_110 rfl (lv_at hl 6 rfl) ?_
                          refine va_get (D := D) (ci := 2) (v := .ref a3) (C := RX2) (T := TX2) (N := 13) hx hb hg iX2 hown hK hP 0 rfl rfl 2 (by decide) (hg _ kw132) (fun _ h9 => h9) rfl dX2_cameInside_111 ?_
                          refine lv_iload_n hx hb dX2_cameInside_114 rfl (lv_at hl 4 rfl) ?_
                          refine va_iald hx hb hK hP 3 0 rfl rfl (vp_in_nI (n := 2) (by decide) (by decide)) dX2_cameInside_115 ?_
                          refine lv_topi (fun y_34 ey_34 => ?_)
                          replace ey_34 : y_34 = ar 2 := ey_34.trans (congrArg ar (rfl))
                          subst ey_34
                          refine lv_if_le (tgt := 123) hx hb dX2_cameInside_116 (by decide) (fun c116 => ?_) (fun c116 => ?_)
                          · have c116n := Int32.not_lt.mpr c116
                            refine lv_iconst (v := 0) hx hb dX2_cameInside_123 (by decide) ?_
                            refine lv_topi (fun y_35 ey_35 => ?_)
                            replace ey_35 : y_35 = bI (leB (og 2 * lw + di 2 * lv) ((hi (i * 3 + 2)) * lw) (ar 2)) := ey_35.trans (by simp [bI, leB, c7, c128, c133, c128_1, c133_1, c100, c100n, c107, c116, c116n])
                            subst ey_35
                            exact J_31
                          · have c116n := Int32.not_le.mp c116
                            refine lv_iconst (v := 1) hx hb dX2_cameInside_119 (by decide) ?_
                            refine lv_goto (tgt := 124) hx hb dX2_cameInside_120 (by decide) ?_
                            refine lv_topi (fun y_36 ey_36 => ?_)
                            replace ey_36 : y_36 = bI (leB (og 2 * lw + di 2 * lv) ((hi (i * 3 + 2)) * lw) (ar 2)) := ey_36.trans (by simp [bI, leB, c7, c128, c133, c128_1, c133_1, c100, c100n, c107, c116, c116n])
                            subst ey_36
                            exact J_31
                    refine lv_iload hx hb dX2_cameInside_66 (lv_at hl 2 rfl) ?_
                    refine lv_iload hx hb dX2_cameInside_68 (lv_at hl 1 rfl) ?_
                    refine lv_icmp_gt (tgt := 89) hx hb dX2_cameInside_70 (by decide) (fun c70 => ?_) (fun c70 => ?_)
                    · have c70n := Int32.not_le.mpr c70
                      refine lv_iconst (v := 1) hx hb dX2_cameInside_89 (by decide) ?_
                      refine lv_goto (tgt := 94) hx hb dX2_cameInside_90 (by decide) ?_
                      refine lv_topi (fun y_37 ey_37 => ?_)
                      replace ey_37 : y_37 = bI (geB (og 2 * lw + di 2 * lv) ((lo (i * 3 + 2)) * lw) (ar 2)) := ey_37.trans (by simp [bI, geB, c7, c128, c133, c128_1, c133_1, c70, c70n])
                      subst ey_37
                      exact J_30
                    · have c70n := Int32.not_lt.mp c70
                      refine lv_iload hx hb dX2_cameInside_73 (lv_at hl 2 rfl) ?_
                      refine lv_iload hx hb dX2_cameInside_75 (lv_at hl 1 rfl) ?_
                      refine lv_icmp_ne (tgt := 93) hx hb dX2_cameInside_77 (by decide) (fun c77 => ?_) (fun c77 => ?_)
                      · refine lv_iconst (v := 0) hx hb dX2_cameInside_93 (by decide) ?_
                        refine lv_topi (fun y_38 ey_38 => ?_)
                        replace ey_38 : y_38 = bI (geB (og 2 * lw + di 2 * lv) ((lo (i * 3 + 2)) * lw) (ar 2)) := ey_38.trans (by simp [bI, geB, c7, c128, c133, c128_1, c133_1, c70, c70n, c77])
                        subst ey_38
                        exact J_30
                      · refine lv_aload_n hx hb dX2_cameInside_80 rfl (lv_at hl 6 rfl) ?_
                        refine va_get (D := D) (ci := 2) (v := .ref a3) (C := RX2) (T := TX2) (N := 13) hx hb hg iX2 hown hK hP 0 rfl rfl 2 (by decide) (hg _ kw132) (fun _ h9 => h9) rfl dX2_cameInside_81 ?_
                        refine lv_iload_n hx hb dX2_cameInside_84 rfl (lv_at hl 3 rfl) ?_
                        refine va_iald hx hb hK hP 3 0 rfl rfl (vp_in_nI (n := 2) (by decide) (by decide)) dX2_cameInside_85 ?_
                        refine lv_topi (fun y_39 ey_39 => ?_)
                        replace ey_39 : y_39 = ar 2 := ey_39.trans (congrArg ar (rfl))
                        subst ey_39
                        refine lv_if_ge (tgt := 93) hx hb dX2_cameInside_86 (by decide) (fun c86 => ?_) (fun c86 => ?_)
                        · have c86n := Int32.not_lt.mpr c86
                          refine lv_iconst (v := 0) hx hb dX2_cameInside_93 (by decide) ?_
                          refine lv_topi (fun y_40 ey_40 => ?_)
                          replace ey_40 : y_40 = bI (geB (og 2 * lw + di 2 * lv) ((lo (i * 3 + 2)) * lw) (ar 2)) := ey_40.trans (by simp [bI, geB, c7, c128, c133, c128_1, c133_1, c70, c70n, c77, c86, c86n])
                          subst ey_40
                          exact J_30
                        · have c86n := Int32.not_le.mp c86
                          refine lv_iconst (v := 1) hx hb dX2_cameInside_89 (by decide) ?_
                          refine lv_goto (tgt := 94) hx hb dX2_cameInside_90 (by decide) ?_
                          refine lv_topi (fun y_41 ey_41 => ?_)
                          replace ey_41 : y_41 = bI (geB (og 2 * lw + di 2 * lv) ((lo (i * 3 + 2)) * lw) (ar 2)) := ey_41.trans (by simp [bI, geB, c7, c128, c133, c128_1, c133_1, c70, c70n, c77, c86, c86n])
                          subst ey_41
                          exact J_30
                  · replace c133_1 := bI_f c133_1
                    refine lv_iconst (v := 0) hx hb dX2_cameInside_136 (by decide) ?_
                    exact W.zret (v := 0) hx hb hr (by decide) (fun t ht hW => ⟨congrArg (fun z => Outcome.returned (some (Value.int z))) (by simp [bI, cameB, cameK, c7, c128, c133, c128_1, c133_1]), ht⟩) (fun q hq => nomatch hq) dX2_cameInside_137
              refine lv_iload hx hb dX2_cameInside_96 (lv_at hl 3 rfl) ?_
              refine lv_iload hx hb dX2_cameInside_98 (lv_at hl 1 rfl) ?_
              refine lv_icmp_lt (tgt := 119) hx hb dX2_cameInside_100 (by decide) (fun c100 => ?_) (fun c100 => ?_)
              · have c100n := Int32.not_le.mpr c100
                refine lv_iconst (v := 1) hx hb dX2_cameInside_119 (by decide) ?_
                refine lv_goto (tgt := 124) hx hb dX2_cameInside_120 (by decide) ?_
                refine lv_topi (fun y_42 ey_42 => ?_)
                replace ey_42 : y_42 = bI (leB (og 1 * lw + di 1 * lv) ((hi (i * 3 + 1)) * lw) (ar 1)) := ey_42.trans (by simp [bI, leB, c7, c128, c133, c100, c100n])
                subst ey_42
                exact J_27
              · have c100n := Int32.not_lt.mp c100
                refine lv_iload hx hb dX2_cameInside_103 (lv_at hl 3 rfl) ?_
                refine lv_iload hx hb dX2_cameInside_105 (lv_at hl 1 rfl) ?_
                refine lv_icmp_ne (tgt := 123) hx hb dX2_cameInside_107 (by decide) (fun c107 => ?_) (fun c107 => ?_)
                · refine lv_iconst (v := 0) hx hb dX2_cameInside_123 (by decide) ?_
                  refine lv_topi (fun y_43 ey_43 => ?_)
                  replace ey_43 : y_43 = bI (leB (og 1 * lw + di 1 * lv) ((hi (i * 3 + 1)) * lw) (ar 1)) := ey_43.trans (by simp [bI, leB, c7, c128, c133, c100, c100n, c107])
                  subst ey_43
                  exact J_27
                · refine lv_aload_n hx hb dX2_cameInside_110 rfl (lv_at hl 6 rfl) ?_
                  refine va_get (D := D) (ci := 2) (v := .ref a3) (C := RX2) (T := TX2) (N := 13) hx hb hg iX2 hown hK hP 0 rfl rfl 2 (by decide) (hg _ kw132) (fun _ h9 => h9) rfl dX2_cameInside_111 ?_
                  refine lv_iload_n hx hb dX2_cameInside_114 rfl (lv_at hl 4 rfl) ?_
                  refine va_iald hx hb hK hP 3 0 rfl rfl (vp_in_nI (n := 1) (by decide) (by decide)) dX2_cameInside_115 ?_
                  refine lv_topi (fun y_44 ey_44 => ?_)
                  replace ey_44 : y_44 = ar 1 := ey_44.trans (congrArg ar (rfl))
                  subst ey_44
                  refine lv_if_le (tgt := 123) hx hb dX2_cameInside_116 (by decide) (fun c116 => ?_) (fun c116 => ?_)
                  · have c116n := Int32.not_lt.mpr c116
                    refine lv_iconst (v := 0) hx hb dX2_cameInside_123 (by decide) ?_
                    refine lv_topi (fun y_45 ey_45 => ?_)
                    replace ey_45 : y_45 = bI (leB (og 1 * lw + di 1 * lv) ((hi (i * 3 + 1)) * lw) (ar 1)) := ey_45.trans (by simp [bI, leB, c7, c128, c133, c100, c100n, c107, c116, c116n])
                    subst ey_45
                    exact J_27
                  · have c116n := Int32.not_le.mp c116
                    refine lv_iconst (v := 1) hx hb dX2_cameInside_119 (by decide) ?_
                    refine lv_goto (tgt := 124) hx hb dX2_cameInside_120 (by decide) ?_
                    refine lv_topi (fun y_46 ey_46 => ?_)
                    replace ey_46 : y_46 = bI (leB (og 1 * lw + di 1 * lv) ((hi (i * 3 + 1)) * lw) (ar 1)) := ey_46.trans (by simp [bI, leB, c7, c128, c133, c100, c100n, c107, c116, c116n])
                    subst ey_46
                    exact J_27
            refine lv_iload hx hb dX2_cameInside_66 (lv_at hl 2 rfl) ?_
            refine lv_iload hx hb dX2_cameInside_68 (lv_at hl 1 rfl) ?_
            refine lv_icmp_gt (tgt := 89) hx hb dX2_cameInside_70 (by decide) (fun c70 => ?_) (fun c70 => ?_)
            · have c70n := Int32.not_le.mpr c70
              refine lv_iconst (v := 1) hx hb dX2_cameInside_89 (by decide) ?_
              refine lv_goto (tgt := 94) hx hb dX2_cameInside_90 (by decide) ?_
              refine lv_topi (fun y_47 ey_47 => ?_)
              replace ey_47 : y_47 = bI (geB (og 1 * lw + di 1 * lv) ((lo (i * 3 + 1)) * lw) (ar 1)) := ey_47.trans (by simp [bI, geB, c7, c128, c133, c70, c70n])
              subst ey_47
              exact J_26
            · have c70n := Int32.not_lt.mp c70
              refine lv_iload hx hb dX2_cameInside_73 (lv_at hl 2 rfl) ?_
              refine lv_iload hx hb dX2_cameInside_75 (lv_at hl 1 rfl) ?_
              refine lv_icmp_ne (tgt := 93) hx hb dX2_cameInside_77 (by decide) (fun c77 => ?_) (fun c77 => ?_)
              · refine lv_iconst (v := 0) hx hb dX2_cameInside_93 (by decide) ?_
                refine lv_topi (fun y_48 ey_48 => ?_)
                replace ey_48 : y_48 = bI (geB (og 1 * lw + di 1 * lv) ((lo (i * 3 + 1)) * lw) (ar 1)) := ey_48.trans (by simp [bI, geB, c7, c128, c133, c70, c70n, c77])
                subst ey_48
                exact J_26
              · refine lv_aload_n hx hb dX2_cameInside_80 rfl (lv_at hl 6 rfl) ?_
                refine va_get (D := D) (ci := 2) (v := .ref a3) (C := RX2) (T := TX2) (N := 13) hx hb hg iX2 hown hK hP 0 rfl rfl 2 (by decide) (hg _ kw132) (fun _ h9 => h9) rfl dX2_cameInside_81 ?_
                refine lv_iload_n hx hb dX2_cameInside_84 rfl (lv_at hl 3 rfl) ?_
                refine va_iald hx hb hK hP 3 0 rfl rfl (vp_in_nI (n := 1) (by decide) (by decide)) dX2_cameInside_85 ?_
                refine lv_topi (fun y_49 ey_49 => ?_)
                replace ey_49 : y_49 = ar 1 := ey_49.trans (congrArg ar (rfl))
                subst ey_49
                refine lv_if_ge (tgt := 93) hx hb dX2_cameInside_86 (by decide) (fun c86 => ?_) (fun c86 => ?_)
                · have c86n := Int32.not_lt.mpr c86
                  refine lv_iconst (v := 0) hx hb dX2_cameInside_93 (by decide) ?_
                  refine lv_topi (fun y_50 ey_50 => ?_)
                  replace ey_50 : y_50 = bI (geB (og 1 * lw + di 1 * lv) ((lo (i * 3 + 1)) * lw) (ar 1)) := ey_50.trans (by simp [bI, geB, c7, c128, c133, c70, c70n, c77, c86, c86n])
                  subst ey_50
                  exact J_26
                · have c86n := Int32.not_le.mp c86
                  refine lv_iconst (v := 1) hx hb dX2_cameInside_89 (by decide) ?_
                  refine lv_goto (tgt := 94) hx hb dX2_cameInside_90 (by decide) ?_
                  refine lv_topi (fun y_51 ey_51 => ?_)
                  replace ey_51 : y_51 = bI (geB (og 1 * lw + di 1 * lv) ((lo (i * 3 + 1)) * lw) (ar 1)) := ey_51.trans (by simp [bI, geB, c7, c128, c133, c70, c70n, c77, c86, c86n])
                  subst ey_51
                  exact J_26
          · replace c133 := bI_f c133
            refine lv_iconst (v := 0) hx hb dX2_cameInside_136 (by decide) ?_
            exact W.zret (v := 0) hx hb hr (by decide) (fun t ht hW => ⟨congrArg (fun z => Outcome.returned (some (Value.int z))) (by simp [bI, cameB, cameK, c7, c128, c133]), ht⟩) (fun q hq => nomatch hq) dX2_cameInside_137
      refine lv_iload hx hb dX2_cameInside_96 (lv_at hl 3 rfl) ?_
      refine lv_iload hx hb dX2_cameInside_98 (lv_at hl 1 rfl) ?_
      refine lv_icmp_lt (tgt := 119) hx hb dX2_cameInside_100 (by decide) (fun c100 => ?_) (fun c100 => ?_)
      · have c100n := Int32.not_le.mpr c100
        refine lv_iconst (v := 1) hx hb dX2_cameInside_119 (by decide) ?_
        refine lv_goto (tgt := 124) hx hb dX2_cameInside_120 (by decide) ?_
        refine lv_topi (fun y_52 ey_52 => ?_)
        replace ey_52 : y_52 = bI (leB (og 0 * lw + di 0 * lv) ((hi (i * 3)) * lw) (ar 0)) := ey_52.trans (by simp [bI, leB, c7, c100, c100n])
        subst ey_52
        exact J_23
      · have c100n := Int32.not_lt.mp c100
        refine lv_iload hx hb dX2_cameInside_103 (lv_at hl 3 rfl) ?_
        refine lv_iload hx hb dX2_cameInside_105 (lv_at hl 1 rfl) ?_
        refine lv_icmp_ne (tgt := 123) hx hb dX2_cameInside_107 (by decide) (fun c107 => ?_) (fun c107 => ?_)
        · refine lv_iconst (v := 0) hx hb dX2_cameInside_123 (by decide) ?_
          refine lv_topi (fun y_53 ey_53 => ?_)
          replace ey_53 : y_53 = bI (leB (og 0 * lw + di 0 * lv) ((hi (i * 3)) * lw) (ar 0)) := ey_53.trans (by simp [bI, leB, c7, c100, c100n, c107])
          subst ey_53
          exact J_23
        · refine lv_aload_n hx hb dX2_cameInside_110 rfl (lv_at hl 5 rfl) ?_
          refine va_get (D := D) (ci := 2) (v := .ref a3) (C := RX2) (T := TX2) (N := 13) hx hb hg iX2 hown hK hP 0 rfl rfl 2 (by decide) (hg _ kw132) (fun _ h9 => h9) rfl dX2_cameInside_111 ?_
          refine lv_iload_n hx hb dX2_cameInside_114 rfl (lv_at hl 4 rfl) ?_
          refine va_iald hx hb hK hP 3 0 rfl rfl (vp_in_nI (n := 0) (by decide) (by decide)) dX2_cameInside_115 ?_
          refine lv_topi (fun y_54 ey_54 => ?_)
          replace ey_54 : y_54 = ar 0 := ey_54.trans (congrArg ar (rfl))
          subst ey_54
          refine lv_if_le (tgt := 123) hx hb dX2_cameInside_116 (by decide) (fun c116 => ?_) (fun c116 => ?_)
          · have c116n := Int32.not_lt.mpr c116
            refine lv_iconst (v := 0) hx hb dX2_cameInside_123 (by decide) ?_
            refine lv_topi (fun y_55 ey_55 => ?_)
            replace ey_55 : y_55 = bI (leB (og 0 * lw + di 0 * lv) ((hi (i * 3)) * lw) (ar 0)) := ey_55.trans (by simp [bI, leB, c7, c100, c100n, c107, c116, c116n])
            subst ey_55
            exact J_23
          · have c116n := Int32.not_le.mp c116
            refine lv_iconst (v := 1) hx hb dX2_cameInside_119 (by decide) ?_
            refine lv_goto (tgt := 124) hx hb dX2_cameInside_120 (by decide) ?_
            refine lv_topi (fun y_56 ey_56 => ?_)
            replace ey_56 : y_56 = bI (leB (og 0 * lw + di 0 * lv) ((hi (i * 3)) * lw) (ar 0)) := ey_56.trans (by simp [bI, leB, c7, c100, c100n, c107, c116, c116n])
            subst ey_56
            exact J_23
    refine lv_iload hx hb dX2_cameInside_66 (lv_at hl 2 rfl) ?_
    refine lv_iload hx hb dX2_cameInside_68 (lv_at hl 1 rfl) ?_
    refine lv_icmp_gt (tgt := 89) hx hb dX2_cameInside_70 (by decide) (fun c70 => ?_) (fun c70 => ?_)
    · have c70n := Int32.not_le.mpr c70
      refine lv_iconst (v := 1) hx hb dX2_cameInside_89 (by decide) ?_
      refine lv_goto (tgt := 94) hx hb dX2_cameInside_90 (by decide) ?_
      refine lv_topi (fun y_57 ey_57 => ?_)
      replace ey_57 : y_57 = bI (geB (og 0 * lw + di 0 * lv) ((lo (i * 3)) * lw) (ar 0)) := ey_57.trans (by simp [bI, geB, c7, c70, c70n])
      subst ey_57
      exact J_22
    · have c70n := Int32.not_lt.mp c70
      refine lv_iload hx hb dX2_cameInside_73 (lv_at hl 2 rfl) ?_
      refine lv_iload hx hb dX2_cameInside_75 (lv_at hl 1 rfl) ?_
      refine lv_icmp_ne (tgt := 93) hx hb dX2_cameInside_77 (by decide) (fun c77 => ?_) (fun c77 => ?_)
      · refine lv_iconst (v := 0) hx hb dX2_cameInside_93 (by decide) ?_
        refine lv_topi (fun y_58 ey_58 => ?_)
        replace ey_58 : y_58 = bI (geB (og 0 * lw + di 0 * lv) ((lo (i * 3)) * lw) (ar 0)) := ey_58.trans (by simp [bI, geB, c7, c70, c70n, c77])
        subst ey_58
        exact J_22
      · refine lv_aload_n hx hb dX2_cameInside_80 rfl (lv_at hl 4 rfl) ?_
        refine va_get (D := D) (ci := 2) (v := .ref a3) (C := RX2) (T := TX2) (N := 13) hx hb hg iX2 hown hK hP 0 rfl rfl 2 (by decide) (hg _ kw132) (fun _ h9 => h9) rfl dX2_cameInside_81 ?_
        refine lv_iload_n hx hb dX2_cameInside_84 rfl (lv_at hl 3 rfl) ?_
        refine va_iald hx hb hK hP 3 0 rfl rfl (vp_in_nI (n := 0) (by decide) (by decide)) dX2_cameInside_85 ?_
        refine lv_topi (fun y_59 ey_59 => ?_)
        replace ey_59 : y_59 = ar 0 := ey_59.trans (congrArg ar (rfl))
        subst ey_59
        refine lv_if_ge (tgt := 93) hx hb dX2_cameInside_86 (by decide) (fun c86 => ?_) (fun c86 => ?_)
        · have c86n := Int32.not_lt.mpr c86
          refine lv_iconst (v := 0) hx hb dX2_cameInside_93 (by decide) ?_
          refine lv_topi (fun y_60 ey_60 => ?_)
          replace ey_60 : y_60 = bI (geB (og 0 * lw + di 0 * lv) ((lo (i * 3)) * lw) (ar 0)) := ey_60.trans (by simp [bI, geB, c7, c70, c70n, c77, c86, c86n])
          subst ey_60
          exact J_22
        · have c86n := Int32.not_le.mp c86
          refine lv_iconst (v := 1) hx hb dX2_cameInside_89 (by decide) ?_
          refine lv_goto (tgt := 94) hx hb dX2_cameInside_90 (by decide) ?_
          refine lv_topi (fun y_61 ey_61 => ?_)
          replace ey_61 : y_61 = bI (geB (og 0 * lw + di 0 * lv) ((lo (i * 3)) * lw) (ar 0)) := ey_61.trans (by simp [bI, geB, c7, c70, c70n, c77, c86, c86n])
          subst ey_61
          exact J_22
  · refine lv_iconst (v := 0) hx hb dX2_cameInside_10 (by decide) ?_
    exact W.zret (v := 0) hx hb hr (by decide) (fun t ht hW => ⟨congrArg (fun z => Outcome.returned (some (Value.int z))) (by simp [bI, cameB, cameK, c7]), ht⟩) (fun q hq => nomatch hq) dX2_cameInside_11

set_option maxHeartbeats 4000000 in
set_option maxRecDepth 100000 in
/-- Path.countsNow -/
theorem qX2_countsNow (l : Launch) (D : va_G) (cI cZ cJ : ClassId) (a0 a1 a2 a3 a4 a5 a6 a7 a8 a9 a10 a11 : Nat) (b0 b1 b2 b3 b4 b5 : Nat) (og di ar ho hx9 ha hl9 hs : Nat → Int32) (lb la lv lw nb9 na nv nw ta tv tw : Int32) (nh0 li : Int32) (lo hi ki sh of : Nat → Int32) (cn : Int32) (i : Nat) (hi2 : i < 20) : Met l yX2_countsNow (Cond.code yX2_countsNow cX2_countsNow 3 (some .boolean) :: gw) ({ frames := 2, cells := 0, slots := 0, locals := 49 }) (pq D [.ref a0, .ref b0] [(a0, .inr (2, [.ref a1, .ref a2, .ref a3, .ref a4, .ref a5, .ref a6, .ref a7, .ref a8, .ref a9, .ref a10, .ref a11, .int nh0, .int li])), (a1, .inl (cI, 3, .inl og)), (a2, .inl (cI, 3, .inl di)), (a3, .inl (cI, 3, .inl ar)), (a4, .inl (cI, 30, .inl ho)), (a5, .inl (cI, 30, .inl hx9)), (a6, .inl (cI, 30, .inl ha)), (a7, .inl (cI, 30, .inl hl9)), (a8, .inl (cI, 90, .inl hs)), (a9, .inr (1, [.int lb, .int la, .int lv, .int lw])), (a10, .inr (1, [.int nb9, .int na, .int nv, .int nw])), (a11, .inr (1, [.int (nI i), .int ta, .int tv, .int tw])), (b0, .inr (0, [.ref b1, .ref b2, .ref b3, .ref b4, .ref b5, .int cn])), (b1, .inl (cI, 60, .inl lo)), (b2, .inl (cI, 60, .inl hi)), (b3, .inl (cI, 20, .inl ki)), (b4, .inl (cI, 20, .inl sh)), (b5, .inl (cZ, 20, .inl of))] [(cI, .int), (cZ, .boolean), (cJ, .long)]) (QcRead (bI (countsB lo hi og di ar lb lv lw tv tw i))) 0 0 (fun _ => False) := by
  refine Met.ofW (cc := cX2_countsNow) (maxL := 3) (ret := (some .boolean)) (by decide) rfl ?_
  intro p e s m args below meth c s₁ B hml hv
  obtain ⟨rfl, hP, hK, hZ⟩ := hv
  have hx := B.exec
  have hb := B.bytes
  have hr := B.returns
  have hg : ∀ w ∈ gw, w.before _ s = true := fun w h => atoms_spec (ws := Cond.code yX2_countsNow cX2_countsNow 3 (some .boolean) :: gw) B.pre w (List.mem_cons_of_mem _ h)
  have hown : s.vm.findClass RX2 = some m.cls := findClass_of_methodNamed B.named
  have hlocks := B.notSynchronized
  have hP : va_P D vwCl [(a0, .inr (2, [.ref a1, .ref a2, .ref a3, .ref a4, .ref a5, .ref a6, .ref a7, .ref a8, .ref a9, .ref a10, .ref a11, .int nh0, .int li])), (a1, .inl (cI, 3, .inl og)), (a2, .inl (cI, 3, .inl di)), (a3, .inl (cI, 3, .inl ar)), (a4, .inl (cI, 30, .inl ho)), (a5, .inl (cI, 30, .inl hx9)), (a6, .inl (cI, 30, .inl ha)), (a7, .inl (cI, 30, .inl hl9)), (a8, .inl (cI, 90, .inl hs)), (a9, .inr (1, [.int lb, .int la, .int lv, .int lw])), (a10, .inr (1, [.int nb9, .int na, .int nv, .int nw])), (a11, .inr (1, [.int (nI i), .int ta, .int tv, .int tw])), (b0, .inr (0, [.ref b1, .ref b2, .ref b3, .ref b4, .ref b5, .int cn])), (b1, .inl (cI, 60, .inl lo)), (b2, .inl (cI, 60, .inl hi)), (b3, .inl (cI, 20, .inl ki)), (b4, .inl (cI, 20, .inl sh)), (b5, .inl (cZ, 20, .inl of))] s.heap := hP
  have hl := lv_entry ([.ref a0, .ref b0]) (n := 3) (Nat.le_of_ble_eq_true rfl)
  rw [lg_entry_eq]
  generalize (lg_sl ([.ref a0, .ref b0]) ++ List.replicate (3 - (lg_sl ([.ref a0, .ref b0])).length) Slot.unset).toArray = ls at hl ⊢
  have hl : lv_has ls 3 [(0, .ref a0), (1, .ref b0)] := hl
  refine lv_aload_n hx hb dX2_countsNow_0 rfl (lv_at hl 0 rfl) ?_
  refine va_get (D := D) (ci := 2) (v := .ref a11) (C := RX2) (T := TX2) (N := 13) hx hb hg iX2 hown hK hP 0 rfl rfl 10 (by decide) (hg _ kw145) (fun _ h9 => h9) rfl dX2_countsNow_1 ?_
  refine lv_aload_n hx hb dX2_countsNow_4 rfl (lv_at hl 0 rfl) ?_
  refine va_get (D := D) (ci := 2) (v := .ref a9) (C := RX2) (T := TX2) (N := 13) hx hb hg iX2 hown hK hP 0 rfl rfl 8 (by decide) (hg _ kw143) (fun _ h9 => h9) rfl dX2_countsNow_5 ?_
  have hPc := hP.sub (ws' := [(a11, .inr (1, [.int (nI i), .int ta, .int tv, .int tw])), (a9, .inr (1, [.int lb, .int la, .int lv, .int lw]))]) [11, 9] rfl
  refine rq_call (va_runVN (As := [.ref a9]) (rest := []) ⟨hx, hb, hml, hown, hg⟩ (qX1_compareTime l D cI cZ cJ a11 a9 (nI i) ta tv tw lb la lv lw) ⟨va_cnB 1 hg (gw_in kw386) rfl rfl rfl (hZ.2.1 _ (List.mem_of_getElem? (i := 9) rfl)) (hg _ kw40) (by decide +kernel) ⟨Nat.le_of_ble_eq_true rfl, Nat.le_of_ble_eq_true rfl⟩, hg _ kw385, hg _ kw13⟩ (pq_preV hPc hK hZ (va_recv hK hPc (ci := 1) (q0 := 0) rfl rfl)) rfl rfl hl.1 rfl (lv_room (Nat.le_of_ble_eq_true rfl)) dX2_countsNow_8 ⟨Nat.le_of_ble_eq_true rfl, Nat.le_of_ble_eq_true rfl⟩) ?_
  refine lv_istore_n (lv' := [(2, .int (cmpI (tv * lw) (lv * tw))), (0, .ref a0), (1, .ref b0)]) hx hb dX2_countsNow_11 rfl hl (by decide) rfl (fun ls hl => ?_)
  refine lv_iload_n hx hb dX2_countsNow_12 rfl (lv_at hl 0 rfl) ?_
  refine lv_if_eq (tgt := 26) hx hb dX2_countsNow_13 (by decide) (fun c13 => ?_) (fun c13 => ?_)
  · refine lv_aload_n hx hb dX2_countsNow_26 rfl (lv_at hl 1 rfl) ?_
    refine va_get (D := D) (ci := 2) (v := .ref a11) (C := RX2) (T := TX2) (N := 13) hx hb hg iX2 hown hK hP 0 rfl rfl 10 (by decide) (hg _ kw145) (fun _ h9 => h9) rfl dX2_countsNow_27 ?_
    refine va_getN (D := D) (ci := 1) (v := .int (nI i)) (C := RX1) (T := TX1) (N := 4) hx hb hg iX1 hown hK hP 11 rfl rfl 0 (by decide) (va_Nw.use rfl (hZ.1 _ (List.mem_of_getElem? (i := 10) rfl))) (fun _ h9 => h9) rfl dX2_countsNow_30 ?_
    refine lv_aload_n hx hb dX2_countsNow_33 rfl (lv_at hl 1 rfl) ?_
    refine va_get (D := D) (ci := 2) (v := .ref a9) (C := RX2) (T := TX2) (N := 13) hx hb hg iX2 hown hK hP 0 rfl rfl 8 (by decide) (hg _ kw143) (fun _ h9 => h9) rfl dX2_countsNow_34 ?_
    refine va_getN (D := D) (ci := 1) (v := .int lb) (C := RX1) (T := TX1) (N := 4) hx hb hg iX1 hown hK hP 9 rfl rfl 0 (by decide) (va_Nw.use rfl (hZ.1 _ (List.mem_of_getElem? (i := 10) rfl))) (fun _ h9 => h9) rfl dX2_countsNow_37 ?_
    refine lv_icmp_le (tgt := 62) hx hb dX2_countsNow_40 (by decide) (fun c40 => ?_) (fun c40 => ?_)
    · have c40n := Int32.not_lt.mpr c40
      refine lv_iconst (v := 0) hx hb dX2_countsNow_62 (by decide) ?_
      exact W.zret (v := 0) hx hb hr (by decide) (fun t ht hW => ⟨congrArg (fun z => Outcome.returned (some (Value.int z))) (by simp [bI, countsB, c13, c40, c40n]), ht⟩) (fun q hq => nomatch hq) dX2_countsNow_63
    · have c40n := Int32.not_le.mp c40
      refine lv_aload_n hx hb dX2_countsNow_43 rfl (lv_at hl 1 rfl) ?_
      refine lv_aload_n hx hb dX2_countsNow_44 rfl (lv_at hl 2 rfl) ?_
      refine lv_aload_n hx hb dX2_countsNow_45 rfl (lv_at hl 1 rfl) ?_
      refine va_get (D := D) (ci := 2) (v := .ref a11) (C := RX2) (T := TX2) (N := 13) hx hb hg iX2 hown hK hP 0 rfl rfl 10 (by decide) (hg _ kw145) (fun _ h9 => h9) rfl dX2_countsNow_46 ?_
      refine va_getN (D := D) (ci := 1) (v := .int (nI i)) (C := RX1) (T := TX1) (N := 4) hx hb hg iX1 hown hK hP 11 rfl rfl 0 (by decide) (va_Nw.use rfl (hZ.1 _ (List.mem_of_getElem? (i := 10) rfl))) (fun _ h9 => h9) rfl dX2_countsNow_49 ?_
      have hPc := hP.sub (ws' := [(a0, .inr (2, [.ref a1, .ref a2, .ref a3, .ref a4, .ref a5, .ref a6, .ref a7, .ref a8, .ref a9, .ref a10, .ref a11, .int nh0, .int li])), (a1, .inl (cI, 3, .inl og)), (a2, .inl (cI, 3, .inl di)), (a3, .inl (cI, 3, .inl ar)), (a4, .inl (cI, 30, .inl ho)), (a5, .inl (cI, 30, .inl hx9)), (a6, .inl (cI, 30, .inl ha)), (a7, .inl (cI, 30, .inl hl9)), (a8, .inl (cI, 90, .inl hs)), (a9, .inr (1, [.int lb, .int la, .int lv, .int lw])), (a10, .inr (1, [.int nb9, .int na, .int nv, .int nw])), (a11, .inr (1, [.int (nI i), .int ta, .int tv, .int tw])), (b0, .inr (0, [.ref b1, .ref b2, .ref b3, .ref b4, .ref b5, .int cn])), (b1, .inl (cI, 60, .inl lo)), (b2, .inl (cI, 60, .inl hi)), (b3, .inl (cI, 20, .inl ki)), (b4, .inl (cI, 20, .inl sh)), (b5, .inl (cZ, 20, .inl of))]) [0, 1, 2, 3, 4, 5, 6, 7, 8, 9, 10, 11, 12, 13, 14, 15, 16, 17] rfl
      refine rq_call (va_runV (As := [.ref b0, .int (nI i)]) (rest := []) ⟨hx, hb, hml, hown, hg⟩ (qX2_cameInside l D cI cZ cJ a0 a1 a2 a3 a4 a5 a6 a7 a8 a9 a10 a11 b0 b1 b2 b3 b4 b5 og di ar ho hx9 ha hl9 hs lb la lv lw nb9 na nv nw (nI i) ta tv tw nh0 li lo hi ki sh of cn i hi2) (cwV 2 hg (gw_V kw390 kw392 kw14 kw39 kw393) rfl rfl rfl (by decide +kernel) ⟨Nat.le_of_ble_eq_true rfl, Nat.le_of_ble_eq_true rfl⟩) (pq_preV hPc hK hZ (va_recv hK hPc (ci := 2) (q0 := 0) rfl rfl)) rfl rfl hl.1 rfl (lv_room (Nat.le_of_ble_eq_true rfl)) dX2_countsNow_52 ⟨Nat.le_of_ble_eq_true rfl, Nat.le_of_ble_eq_true rfl⟩) ?_
      refine lv_if_ne (tgt := 62) hx hb dX2_countsNow_55 (by decide) (fun c55 => ?_) (fun c55 => ?_)
      · replace c55 := bI_t c55
        refine lv_iconst (v := 0) hx hb dX2_countsNow_62 (by decide) ?_
        exact W.zret (v := 0) hx hb hr (by decide) (fun t ht hW => ⟨congrArg (fun z => Outcome.returned (some (Value.int z))) (by simp [bI, countsB, c13, c40, c40n, c55]), ht⟩) (fun q hq => nomatch hq) dX2_countsNow_63
      · replace c55 := bI_f c55
        refine lv_iconst (v := 1) hx hb dX2_countsNow_58 (by decide) ?_
        refine lv_goto (tgt := 63) hx hb dX2_countsNow_59 (by decide) ?_
        exact W.zret (v := 1) hx hb hr (by decide) (fun t ht hW => ⟨congrArg (fun z => Outcome.returned (some (Value.int z))) (by simp [bI, countsB, c13, c40, c40n, c55]), ht⟩) (fun q hq => nomatch hq) dX2_countsNow_63
  · refine lv_iload_n hx hb dX2_countsNow_16 rfl (lv_at hl 0 rfl) ?_
    refine lv_if_le (tgt := 24) hx hb dX2_countsNow_17 (by decide) (fun c17 => ?_) (fun c17 => ?_)
    · have c17n := Int32.not_lt.mpr c17
      refine lv_iconst (v := 0) hx hb dX2_countsNow_24 (by decide) ?_
      exact W.zret (v := 0) hx hb hr (by decide) (fun t ht hW => ⟨congrArg (fun z => Outcome.returned (some (Value.int z))) (by simp [bI, countsB, c13, c17, c17n]), ht⟩) (fun q hq => nomatch hq) dX2_countsNow_25
    · have c17n := Int32.not_le.mp c17
      refine lv_iconst (v := 1) hx hb dX2_countsNow_20 (by decide) ?_
      refine lv_goto (tgt := 25) hx hb dX2_countsNow_21 (by decide) ?_
      exact W.zret (v := 1) hx hb hr (by decide) (fun t ht hW => ⟨congrArg (fun z => Outcome.returned (some (Value.int z))) (by simp [bI, countsB, c13, c17, c17n]), ht⟩) (fun q hq => nomatch hq) dX2_countsNow_25
