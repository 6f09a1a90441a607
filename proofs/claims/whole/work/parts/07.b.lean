set_option maxHeartbeats 4000000 in
set_option maxRecDepth 100000 in
/-- Path.hasHit -/
theorem qX2_hasHit (l : Launch) (D : va_G) (cI cZ cJ : ClassId) (a0 a1 a2 a3 a4 a5 a6 a7 a8 a9 a10 a11 : Nat) (b0 b1 b2 b3 b4 b5 : Nat) (og di ar ho hx9 ha hl9 hs : Nat → Int32) (lb la lv lw nb9 na nv nw tb ta tv tw : Int32) (nh0 li : Int32) (lo hi ki sh of : Nat → Int32) (cn : Int32) (k : Int32) : Met l yX2_hasHit (Cond.code yX2_hasHit cX2_hasHit 2 (some .boolean) :: gw) ({ frames := 0, cells := 0, slots := 0, locals := 0 }) (pq D [.ref a0, .int k] [(a0, .inr (2, [.ref a1, .ref a2, .ref a3, .ref a4, .ref a5, .ref a6, .ref a7, .ref a8, .ref a9, .ref a10, .ref a11, .int nh0, .int li])), (a1, .inl (cI, 3, .inl og)), (a2, .inl (cI, 3, .inl di)), (a3, .inl (cI, 3, .inl ar)), (a4, .inl (cI, 30, .inl ho)), (a5, .inl (cI, 30, .inl hx9)), (a6, .inl (cI, 30, .inl ha)), (a7, .inl (cI, 30, .inl hl9)), (a8, .inl (cI, 90, .inl hs)), (a9, .inr (1, [.int lb, .int la, .int lv, .int lw])), (a10, .inr (1, [.int nb9, .int na, .int nv, .int nw])), (a11, .inr (1, [.int tb, .int ta, .int tv, .int tw])), (b0, .inr (0, [.ref b1, .ref b2, .ref b3, .ref b4, .ref b5, .int cn])), (b1, .inl (cI, 60, .inl lo)), (b2, .inl (cI, 60, .inl hi)), (b3, .inl (cI, 20, .inl ki)), (b4, .inl (cI, 20, .inl sh)), (b5, .inl (cZ, 20, .inl of))] [(cI, .int), (cZ, .boolean), (cJ, .long)]) (QcRead (bI (decide (0 ≤ k) && decide (k < nh0)))) 0 0 (fun _ => False) := by
  refine Met.ofW (cc := cX2_hasHit) (maxL := 2) (ret := (some .boolean)) (by decide) rfl ?_
  intro p e s m args below meth c s₁ B hml hv
  obtain ⟨rfl, hP, hK, hZ⟩ := hv
  have hx := B.exec
  have hb := B.bytes
  have hr := B.returns
  have hg : ∀ w ∈ gw, w.before _ s = true := fun w h => atoms_spec (ws := Cond.code yX2_hasHit cX2_hasHit 2 (some .boolean) :: gw) B.pre w (List.mem_cons_of_mem _ h)
  have hown : s.vm.findClass RX2 = some m.cls := findClass_of_methodNamed B.named
  have hlocks := B.notSynchronized
  have hP : va_P D vwCl [(a0, .inr (2, [.ref a1, .ref a2, .ref a3, .ref a4, .ref a5, .ref a6, .ref a7, .ref a8, .ref a9, .ref a10, .ref a11, .int nh0, .int li])), (a1, .inl (cI, 3, .inl og)), (a2, .inl (cI, 3, .inl di)), (a3, .inl (cI, 3, .inl ar)), (a4, .inl (cI, 30, .inl ho)), (a5, .inl (cI, 30, .inl hx9)), (a6, .inl (cI, 30, .inl ha)), (a7, .inl (cI, 30, .inl hl9)), (a8, .inl (cI, 90, .inl hs)), (a9, .inr (1, [.int lb, .int la, .int lv, .int lw])), (a10, .inr (1, [.int nb9, .int na, .int nv, .int nw])), (a11, .inr (1, [.int tb, .int ta, .int tv, .int tw])), (b0, .inr (0, [.ref b1, .ref b2, .ref b3, .ref b4, .ref b5, .int cn])), (b1, .inl (cI, 60, .inl lo)), (b2, .inl (cI, 60, .inl hi)), (b3, .inl (cI, 20, .inl ki)), (b4, .inl (cI, 20, .inl sh)), (b5, .inl (cZ, 20, .inl of))] s.heap := hP
  have hl := lv_entry ([.ref a0, .int k]) (n := 2) (Nat.le_of_ble_eq_true rfl)
  rw [lg_entry_eq]
  generalize (lg_sl ([.ref a0, .int k]) ++ List.replicate (2 - (lg_sl ([.ref a0, .int k])).length) Slot.unset).toArray = ls at hl ⊢
  have hl : lv_has ls 2 [(0, .ref a0), (1, .int k)] := hl
  refine lv_iconst (v := 0) hx hb dX2_hasHit_0 (by decide) ?_
  refine lv_iload_n hx hb dX2_hasHit_1 rfl (lv_at hl 1 rfl) ?_
  refine lv_icmp_gt (tgt := 17) hx hb dX2_hasHit_2 (by decide) (fun c2 => ?_) (fun c2 => ?_)
  · have c2n := Int32.not_le.mpr c2
    refine lv_iconst (v := 0) hx hb dX2_hasHit_17 (by decide) ?_
    exact W.zret (v := 0) hx hb hr (by decide) (fun t ht hW => ⟨congrArg (fun z => Outcome.returned (some (Value.int z))) (by simp [bI, c2, c2n]), ht⟩) (fun q hq => nomatch hq) dX2_hasHit_18
  · have c2n := Int32.not_lt.mp c2
    refine lv_iload_n hx hb dX2_hasHit_5 rfl (lv_at hl 1 rfl) ?_
    refine lv_aload_n hx hb dX2_hasHit_6 rfl (lv_at hl 0 rfl) ?_
    refine va_get (D := D) (ci := 2) (v := .int nh0) (C := RX2) (T := TX2) (N := 13) hx hb hg iX2 hown hK hP 0 rfl rfl 11 (by decide) (hg _ kw146) (fun _ h9 => h9) rfl dX2_hasHit_7 ?_
    refine lv_icmp_ge (tgt := 17) hx hb dX2_hasHit_10 (by decide) (fun c10 => ?_) (fun c10 => ?_)
    · have c10n := Int32.not_lt.mpr c10
      refine lv_iconst (v := 0) hx hb dX2_hasHit_17 (by decide) ?_
      exact W.zret (v := 0) hx hb hr (by decide) (fun t ht hW => ⟨congrArg (fun z => Outcome.returned (some (Value.int z))) (by simp [bI, c2, c2n, c10, c10n]), ht⟩) (fun q hq => nomatch hq) dX2_hasHit_18
    · have c10n := Int32.not_le.mp c10
      refine lv_iconst (v := 1) hx hb dX2_hasHit_13 (by decide) ?_
      refine lv_goto (tgt := 18) hx hb dX2_hasHit_14 (by decide) ?_
      exact W.zret (v := 1) hx hb hr (by decide) (fun t ht hW => ⟨congrArg (fun z => Outcome.returned (some (Value.int z))) (by simp [bI, c2, c2n, c10, c10n]), ht⟩) (fun q hq => nomatch hq) dX2_hasHit_18

def octF (di : Nat → Int32) : Int32 := ((if di 0 < 0 then 4 else 0) + (if di 1 < 0 then 2 else 0)) + (if di 2 < 0 then 1 else 0)

set_option maxHeartbeats 4000000 in
set_option maxRecDepth 100000 in
/-- Path.octant -/
theorem qX2_octant (l : Launch) (D : va_G) (cI cZ cJ : ClassId) (a0 a1 a2 a3 a4 a5 a6 a7 a8 a9 a10 a11 : Nat) (b0 b1 b2 b3 b4 b5 : Nat) (og di ar ho hx9 ha hl9 hs : Nat → Int32) (lb la lv lw nb9 na nv nw tb ta tv tw : Int32) (nh0 li : Int32) (lo hi ki sh of : Nat → Int32) (cn : Int32) : Met l yX2_octant (Cond.code yX2_octant cX2_octant 1 (some .int) :: gw) ({ frames := 0, cells := 0, slots := 0, locals := 0 }) (pq D [.ref a0] [(a0, .inr (2, [.ref a1, .ref a2, .ref a3, .ref a4, .ref a5, .ref a6, .ref a7, .ref a8, .ref a9, .ref a10, .ref a11, .int nh0, .int li])), (a1, .inl (cI, 3, .inl og)), (a2, .inl (cI, 3, .inl di)), (a3, .inl (cI, 3, .inl ar)), (a4, .inl (cI, 30, .inl ho)), (a5, .inl (cI, 30, .inl hx9)), (a6, .inl (cI, 30, .inl ha)), (a7, .inl (cI, 30, .inl hl9)), (a8, .inl (cI, 90, .inl hs)), (a9, .inr (1, [.int lb, .int la, .int lv, .int lw])), (a10, .inr (1, [.int nb9, .int na, .int nv, .int nw])), (a11, .inr (1, [.int tb, .int ta, .int tv, .int tw])), (b0, .inr (0, [.ref b1, .ref b2, .ref b3, .ref b4, .ref b5, .int cn])), (b1, .inl (cI, 60, .inl lo)), (b2, .inl (cI, 60, .inl hi)), (b3, .inl (cI, 20, .inl ki)), (b4, .inl (cI, 20, .inl sh)), (b5, .inl (cZ, 20, .inl of))] [(cI, .int), (cZ, .boolean), (cJ, .long)]) (QcRead (octF di)) 0 0 (fun _ => False) := by
  refine Met.ofW (cc := cX2_octant) (maxL := 1) (ret := (some .int)) (by decide) rfl ?_
  intro p e s m args below meth c s₁ B hml hv
  obtain ⟨rfl, hP, hK, hZ⟩ := hv
  have hx := B.exec
  have hb := B.bytes
  have hr := B.returns
  have hg : ∀ w ∈ gw, w.before _ s = true := fun w h => atoms_spec (ws := Cond.code yX2_octant cX2_octant 1 (some .int) :: gw) B.pre w (List.mem_cons_of_mem _ h)
  have hown : s.vm.findClass RX2 = some m.cls := findClass_of_methodNamed B.named
  have hlocks := B.notSynchronized
  have hP : va_P D vwCl [(a0, .inr (2, [.ref a1, .ref a2, .ref a3, .ref a4, .ref a5, .ref a6, .ref a7, .ref a8, .ref a9, .ref a10, .ref a11, .int nh0, .int li])), (a1, .inl (cI, 3, .inl og)), (a2, .inl (cI, 3, .inl di)), (a3, .inl (cI, 3, .inl ar)), (a4, .inl (cI, 30, .inl ho)), (a5, .inl (cI, 30, .inl hx9)), (a6, .inl (cI, 30, .inl ha)), (a7, .inl (cI, 30, .inl hl9)), (a8, .inl (cI, 90, .inl hs)), (a9, .inr (1, [.int lb, .int la, .int lv, .int lw])), (a10, .inr (1, [.int nb9, .int na, .int nv, .int nw])), (a11, .inr (1, [.int tb, .int ta, .int tv, .int tw])), (b0, .inr (0, [.ref b1, .ref b2, .ref b3, .ref b4, .ref b5, .int cn])), (b1, .inl (cI, 60, .inl lo)), (b2, .inl (cI, 60, .inl hi)), (b3, .inl (cI, 20, .inl ki)), (b4, .inl (cI, 20, .inl sh)), (b5, .inl (cZ, 20, .inl of))] s.heap := hP
  have hl := lv_entry ([.ref a0]) (n := 1) (Nat.le_of_ble_eq_true rfl)
  rw [lg_entry_eq]
  generalize (lg_sl ([.ref a0]) ++ List.replicate (1 - (lg_sl ([.ref a0])).length) Slot.unset).toArray = ls at hl ⊢
  have hl : lv_has ls 1 [(0, .ref a0)] := hl
  have J_2 : W p l e (headSpec (Cond.code yX2_octant cX2_octant 1 (some .int) :: gw) ({ frames := 0, cells := 0, slots := 0, locals := 0 })).room s m ([.ref a0] : List Value).toArray below meth c s.heap [] 0 0 (MQ below (QcRead (octF di)) ([.ref a0] : List Value).toArray s 0 0 (fun _ => False)) (F0 m 14 ls [.int (if di 0 < 0 then ((4 : Int32)) else 0)]) := by
    have J_3 : W p l e (headSpec (Cond.code yX2_octant cX2_octant 1 (some .int) :: gw) ({ frames := 0, cells := 0, slots := 0, locals := 0 })).room s m ([.ref a0] : List Value).toArray below meth c s.heap [] 0 0 (MQ below (QcRead (octF di)) ([.ref a0] : List Value).toArray s 0 0 (fun _ => False)) (F0 m 28 ls [.int (if di 1 < 0 then ((2 : Int32)) else 0), .int (if di 0 < 0 then ((4 : Int32)) else 0)]) := by
      refine lv_iadd hx hb dX2_octant_28 ?_
      have J_4 : W p l e (headSpec (Cond.code yX2_octant cX2_octant 1 (some .int) :: gw) ({ frames := 0, cells := 0, slots := 0, locals := 0 })).room s m ([.ref a0] : List Value).toArray below meth c s.heap [] 0 0 (MQ below (QcRead (octF di)) ([.ref a0] : List Value).toArray s 0 0 (fun _ => False)) (F0 m 43 ls [.int (if di 2 < 0 then ((1 : Int32)) else 0), .int ((if di 0 < 0 then ((4 : Int32)) else 0) + (if di 1 < 0 then ((2 : Int32)) else 0))]) := by
        refine lv_iadd hx hb dX2_octant_43 ?_
        exact W.iret (v := ((if di 0 < 0 then ((4 : Int32)) else 0) + (if di 1 < 0 then ((2 : Int32)) else 0)) + (if di 2 < 0 then ((1 : Int32)) else 0)) hx hb hr (fun t ht hW => ⟨congrArg (fun z => Outcome.returned (some (Value.int z))) (rfl), ht⟩) (fun q hq => nomatch hq) dX2_octant_44
      refine lv_aload_n hx hb dX2_octant_29 rfl (lv_at hl 0 rfl) ?_
      refine va_get (D := D) (ci := 2) (v := .ref a2) (C := RX2) (T := TX2) (N := 13) hx hb hg iX2 hown hK hP 0 rfl rfl 1 (by decide) (hg _ kw130) (fun _ h9 => h9) rfl dX2_octant_30 ?_
      refine lv_iconst (v := 2) hx hb dX2_octant_33 (by decide) ?_
      refine va_iald hx hb hK hP 2 0 rfl rfl (vp_in_nI (n := 2) (by decide) (by decide)) dX2_octant_34 ?_
      refine tp_i (y := di 2) (congrArg di (rfl)) ?_
      refine lv_if_ge (tgt := 42) hx hb dX2_octant_35 (by decide) (fun c35 => ?_) (fun c35 => ?_)
      · have c35n := Int32.not_lt.mpr c35
        refine lv_iconst (v := 0) hx hb dX2_octant_42 (by decide) ?_
        refine tp_i (y := if di 2 < 0 then ((1 : Int32)) else 0) (by simp [c35, c35n]) ?_
        exact J_4
      · have c35n := Int32.not_le.mp c35
        refine lv_iconst (v := 1) hx hb dX2_octant_38 (by decide) ?_
        refine lv_goto (tgt := 43) hx hb dX2_octant_39 (by decide) ?_
        refine tp_i (y := if di 2 < 0 then ((1 : Int32)) else 0) (by simp [c35, c35n]) ?_
        exact J_4
    refine lv_aload_n hx hb dX2_octant_14 rfl (lv_at hl 0 rfl) ?_
    refine va_get (D := D) (ci := 2) (v := .ref a2) (C := RX2) (T := TX2) (N := 13) hx hb hg iX2 hown hK hP 0 rfl rfl 1 (by decide) (hg _ kw130) (fun _ h9 => h9) rfl dX2_octant_15 ?_
    refine lv_iconst (v := 1) hx hb dX2_octant_18 (by decide) ?_
    refine va_iald hx hb hK hP 2 0 rfl rfl (vp_in_nI (n := 1) (by decide) (by decide)) dX2_octant_19 ?_
    refine tp_i (y := di 1) (congrArg di (rfl)) ?_
    refine lv_if_ge (tgt := 27) hx hb dX2_octant_20 (by decide) (fun c20 => ?_) (fun c20 => ?_)
    · have c20n := Int32.not_lt.mpr c20
      refine lv_iconst (v := 0) hx hb dX2_octant_27 (by decide) ?_
      refine tp_i (y := if di 1 < 0 then ((2 : Int32)) else 0) (by simp [c20, c20n]) ?_
      exact J_3
    · have c20n := Int32.not_le.mp c20
      refine lv_iconst (v := 2) hx hb dX2_octant_23 (by decide) ?_
      refine lv_goto (tgt := 28) hx hb dX2_octant_24 (by decide) ?_
      refine tp_i (y := if di 1 < 0 then ((2 : Int32)) else 0) (by simp [c20, c20n]) ?_
      exact J_3
  refine lv_aload_n hx hb dX2_octant_0 rfl (lv_at hl 0 rfl) ?_
  refine va_get (D := D) (ci := 2) (v := .ref a2) (C := RX2) (T := TX2) (N := 13) hx hb hg iX2 hown hK hP 0 rfl rfl 1 (by decide) (hg _ kw130) (fun _ h9 => h9) rfl dX2_octant_1 ?_
  refine lv_iconst (v := 0) hx hb dX2_octant_4 (by decide) ?_
  refine va_iald hx hb hK hP 2 0 rfl rfl (vp_in_nI (n := 0) (by decide) (by decide)) dX2_octant_5 ?_
  refine tp_i (y := di 0) (congrArg di (rfl)) ?_
  refine lv_if_ge (tgt := 13) hx hb dX2_octant_6 (by decide) (fun c6 => ?_) (fun c6 => ?_)
  · have c6n := Int32.not_lt.mpr c6
    refine lv_iconst (v := 0) hx hb dX2_octant_13 (by decide) ?_
    refine tp_i (y := if di 0 < 0 then ((4 : Int32)) else 0) (by simp [c6, c6n]) ?_
    exact J_2
  · have c6n := Int32.not_le.mp c6
    refine lv_iconst (v := 4) hx hb dX2_octant_9 (by decide) ?_
    refine lv_goto (tgt := 14) hx hb dX2_octant_10 (by decide) ?_
    refine tp_i (y := if di 0 < 0 then ((4 : Int32)) else 0) (by simp [c6, c6n]) ?_
    exact J_2

set_option maxHeartbeats 4000000 in
set_option maxRecDepth 100000 in
/-- Path.spotAtLatest -/
theorem qX2_spotAtLatest (l : Launch) (D : va_G) (cI cZ cJ : ClassId) (a0 a1 a2 a3 a4 a5 a6 a7 a8 a9 a10 a11 : Nat) (b0 b1 b2 b3 b4 b5 : Nat) (og di ar ho hx9 ha hl9 hs : Nat → Int32) (lb la lv lw nb9 na nv nw tb ta tv tw : Int32) (nh0 li : Int32) (lo hi ki sh of : Nat → Int32) (cn : Int32) (k : Nat) (hk : k < 3) : Met l yX2_spotAtLatest (Cond.code yX2_spotAtLatest cX2_spotAtLatest 2 (some .int) :: gw) ({ frames := 0, cells := 0, slots := 0, locals := 0 }) (pq D [.ref a0, .int (nI k)] [(a0, .inr (2, [.ref a1, .ref a2, .ref a3, .ref a4, .ref a5, .ref a6, .ref a7, .ref a8, .ref a9, .ref a10, .ref a11, .int nh0, .int li])), (a1, .inl (cI, 3, .inl og)), (a2, .inl (cI, 3, .inl di)), (a3, .inl (cI, 3, .inl ar)), (a4, .inl (cI, 30, .inl ho)), (a5, .inl (cI, 30, .inl hx9)), (a6, .inl (cI, 30, .inl ha)), (a7, .inl (cI, 30, .inl hl9)), (a8, .inl (cI, 90, .inl hs)), (a9, .inr (1, [.int lb, .int la, .int lv, .int lw])), (a10, .inr (1, [.int nb9, .int na, .int nv, .int nw])), (a11, .inr (1, [.int tb, .int ta, .int tv, .int tw])), (b0, .inr (0, [.ref b1, .ref b2, .ref b3, .ref b4, .ref b5, .int cn])), (b1, .inl (cI, 60, .inl lo)), (b2, .inl (cI, 60, .inl hi)), (b3, .inl (cI, 20, .inl ki)), (b4, .inl (cI, 20, .inl sh)), (b5, .inl (cZ, 20, .inl of))] [(cI, .int), (cZ, .boolean), (cJ, .long)]) (QcRead (og k * lw + di k * lv)) 0 0 (fun _ => False) := by
  refine Met.ofW (cc := cX2_spotAtLatest) (maxL := 2) (ret := (some .int)) (by decide) rfl ?_
  intro p e s m args below meth c s₁ B hml hv
  obtain ⟨rfl, hP, hK, hZ⟩ := hv
  have hx := B.exec
  have hb := B.bytes
  have hr := B.returns
  have hg : ∀ w ∈ gw, w.before _ s = true := fun w h => atoms_spec (ws := Cond.code yX2_spotAtLatest cX2_spotAtLatest 2 (some .int) :: gw) B.pre w (List.mem_cons_of_mem _ h)
  have hown : s.vm.findClass RX2 = some m.cls := findClass_of_methodNamed B.named
  have hlocks := B.notSynchronized
  have hP : va_P D vwCl [(a0, .inr (2, [.ref a1, .ref a2, .ref a3, .ref a4, .ref a5, .ref a6, .ref a7, .ref a8, .ref a9, .ref a10, .ref a11, .int nh0, .int li])), (a1, .inl (cI, 3, .inl og)), (a2, .inl (cI, 3, .inl di)), (a3, .inl (cI, 3, .inl ar)), (a4, .inl (cI, 30, .inl ho)), (a5, .inl (cI, 30, .inl hx9)), (a6, .inl (cI, 30, .inl ha)), (a7, .inl (cI, 30, .inl hl9)), (a8, .inl (cI, 90, .inl hs)), (a9, .inr (1, [.int lb, .int la, .int lv, .int lw])), (a10, .inr (1, [.int nb9, .int na, .int nv, .int nw])), (a11, .inr (1, [.int tb, .int ta, .int tv, .int tw])), (b0, .inr (0, [.ref b1, .ref b2, .ref b3, .ref b4, .ref b5, .int cn])), (b1, .inl (cI, 60, .inl lo)), (b2, .inl (cI, 60, .inl hi)), (b3, .inl (cI, 20, .inl ki)), (b4, .inl (cI, 20, .inl sh)), (b5, .inl (cZ, 20, .inl of))] s.heap := hP
  have hl := lv_entry ([.ref a0, .int (nI k)]) (n := 2) (Nat.le_of_ble_eq_true rfl)
  rw [lg_entry_eq]
  generalize (lg_sl ([.ref a0, .int (nI k)]) ++ List.replicate (2 - (lg_sl ([.ref a0, .int (nI k)])).length) Slot.unset).toArray = ls at hl ⊢
  have hl : lv_has ls 2 [(0, .ref a0), (1, .int (nI k))] := hl
  refine lv_aload_n hx hb dX2_spotAtLatest_0 rfl (lv_at hl 0 rfl) ?_
  refine va_get (D := D) (ci := 2) (v := .ref a1) (C := RX2) (T := TX2) (N := 13) hx hb hg iX2 hown hK hP 0 rfl rfl 0 (by decide) (hg _ kw129) (fun _ h9 => h9) rfl dX2_spotAtLatest_1 ?_
  refine lv_iload_n hx hb dX2_spotAtLatest_4 rfl (lv_at hl 1 rfl) ?_
  refine va_iald hx hb hK hP 1 0 rfl rfl (vp_in_nI (by omega) (by decide)) dX2_spotAtLatest_5 ?_
  refine tp_i (y := og k) (congrArg og (nI_clamp (by omega))) ?_
  refine lv_aload_n hx hb dX2_spotAtLatest_6 rfl (lv_at hl 0 rfl) ?_
  refine va_get (D := D) (ci := 2) (v := .ref a9) (C := RX2) (T := TX2) (N := 13) hx hb hg iX2 hown hK hP 0 rfl rfl 8 (by decide) (hg _ kw143) (fun _ h9 => h9) rfl dX2_spotAtLatest_7 ?_
  refine va_getN (D := D) (ci := 1) (v := .int lw) (C := RX1) (T := TX1) (N := 4) hx hb hg iX1 hown hK hP 9 rfl rfl 3 (by decide) (va_Nw.use rfl (nzF_13 hZ)) (fun _ h9 => h9) rfl dX2_spotAtLatest_10 ?_
  refine lv_imul hx hb dX2_spotAtLatest_13 ?_
  refine lv_aload_n hx hb dX2_spotAtLatest_14 rfl (lv_at hl 0 rfl) ?_
  refine va_get (D := D) (ci := 2) (v := .ref a2) (C := RX2) (T := TX2) (N := 13) hx hb hg iX2 hown hK hP 0 rfl rfl 1 (by decide) (hg _ kw130) (fun _ h9 => h9) rfl dX2_spotAtLatest_15 ?_
  refine lv_iload_n hx hb dX2_spotAtLatest_18 rfl (lv_at hl 1 rfl) ?_
  refine va_iald hx hb hK hP 2 0 rfl rfl (vp_in_nI (by omega) (by decide)) dX2_spotAtLatest_19 ?_
  refine tp_i (y := di k) (congrArg di (nI_clamp (by omega))) ?_
  refine lv_aload_n hx hb dX2_spotAtLatest_20 rfl (lv_at hl 0 rfl) ?_
  refine va_get (D := D) (ci := 2) (v := .ref a9) (C := RX2) (T := TX2) (N := 13) hx hb hg iX2 hown hK hP 0 rfl rfl 8 (by decide) (hg _ kw143) (fun _ h9 => h9) rfl dX2_spotAtLatest_21 ?_
  refine va_getN (D := D) (ci := 1) (v := .int lv) (C := RX1) (T := TX1) (N := 4) hx hb hg iX1 hown hK hP 9 rfl rfl 2 (by decide) (va_Nw.use rfl (nzF_12 hZ)) (fun _ h9 => h9) rfl dX2_spotAtLatest_24 ?_
  refine lv_imul hx hb dX2_spotAtLatest_27 ?_
  refine lv_iadd hx hb dX2_spotAtLatest_28 ?_
  exact W.iret (v := ((og k) * lw) + ((di k) * lv)) hx hb hr (fun t ht hW => ⟨congrArg (fun z => Outcome.returned (some (Value.int z))) (rfl), ht⟩) (fun q hq => nomatch hq) dX2_spotAtLatest_29

