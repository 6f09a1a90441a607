def inR (lo x hi : Int32) : Prop := lo ≤ x ∧ x ≤ hi

set_option maxHeartbeats 4000000 in
set_option maxRecDepth 100000 in
/-- demand -/
theorem qX3_demand (l : Launch) (hl0 : l.stackTraces = false) (D : va_G) (cI cZ cJ : ClassId) (h : Int32) : vx_Met l yX3_demand (Cond.code yX3_demand cX3_demand 1 none :: gw) ({ frames := 6, cells := 1, slots := 6, locals := 82 }) (tq D [.int h] [] [(cI, .int), (cZ, .boolean), (cJ, .long)]) (cx_Q (¬ h = 0)) (cy_X (fun E => h = 0 ∧ E = sx_iae)) 1 6 (fun _ => False) := by
  refine vx_ofW (cc := cX3_demand) (maxL := 1) (ret := none) (by decide) rfl ?_
  intro p e s m args below meth c s₁ B hml htab hv
  obtain ⟨rfl, hP, hK, hZ, hY⟩ := hv
  have hx := B.exec
  have hb := B.bytes
  have hr := B.returns
  have hg : ∀ w ∈ gw, w.before _ s = true := fun w h => atoms_spec (ws := Cond.code yX3_demand cX3_demand 1 none :: gw) B.pre w (List.mem_cons_of_mem _ h)
  have hown : s.vm.findClass RX3 = some m.cls := findClass_of_methodNamed B.named
  have hlocks := B.notSynchronized
  have hP : va_P D vwCl [] s.heap := hP
  have hl := lv_entry ([.int h]) (n := 1) (Nat.le_of_ble_eq_true rfl)
  rw [lg_entry_eq]
  generalize (lg_sl ([.int h]) ++ List.replicate (1 - (lg_sl ([.int h])).length) Slot.unset).toArray = ls at hl ⊢
  have hl : lv_has ls 1 [(0, .int h)] := hl
  refine lv_iload_n hx hb dX3_demand_0 rfl (lv_at hl 0 rfl) ?_
  refine lv_if_ne (tgt := 14) hx hb dX3_demand_1 (by decide) (fun c1 => ?_) (fun c1 => ?_)
  · refine vx_ret ?_
    refine W.widen (k := 1) (n := 6) (Nat.le_of_ble_eq_true rfl) (Nat.le_of_ble_eq_true rfl) ?_
    exact W.vret hx hb hr (fun t ht hW => ⟨c1, rfl, ht⟩) (fun q hq => nomatch hq) dX3_demand_14
  · exact th_iae hx hb hl0 hg hZ hY hown (hl.1.trans hml.symm) htab hlocks dX3_demand_4 dX3_demand_7 dX3_demand_8 dX3_demand_10 dX3_demand_13 (Nat.le_of_ble_eq_true rfl) (Nat.le_of_ble_eq_true rfl) (Nat.le_of_ble_eq_true rfl) (Nat.le_of_ble_eq_true rfl) (Nat.le_of_ble_eq_true rfl) (Nat.le_of_ble_eq_true rfl) (⟨c1, rfl⟩)

set_option maxHeartbeats 4000000 in
set_option maxRecDepth 100000 in
/-- demandWithin -/
theorem qX3_demandWithin (l : Launch) (hl0 : l.stackTraces = false) (D : va_G) (cI cZ cJ : ClassId) (x lo hi : Int32) : vx_Met l yX3_demandWithin (Cond.code yX3_demandWithin cX3_demandWithin 3 none :: gw) ({ frames := 7, cells := 1, slots := 6, locals := 102 }) (tq D [.int x, .int lo, .int hi] [] [(cI, .int), (cZ, .boolean), (cJ, .long)]) (cx_Q (inR lo x hi)) (cy_X (fun E => ¬ inR lo x hi ∧ E = sx_iae)) 1 6 (fun _ => False) := by
  refine vx_ofW (cc := cX3_demandWithin) (maxL := 3) (ret := none) (by decide) rfl ?_
  intro p e s m args below meth c s₁ B hml htab hv
  obtain ⟨rfl, hP, hK, hZ, hY⟩ := hv
  have hx := B.exec
  have hb := B.bytes
  have hr := B.returns
  have hg : ∀ w ∈ gw, w.before _ s = true := fun w h => atoms_spec (ws := Cond.code yX3_demandWithin cX3_demandWithin 3 none :: gw) B.pre w (List.mem_cons_of_mem _ h)
  have hown : s.vm.findClass RX3 = some m.cls := findClass_of_methodNamed B.named
  have hlocks := B.notSynchronized
  have hP : va_P D vwCl [] s.heap := hP
  have hl := lv_entry ([.int x, .int lo, .int hi]) (n := 3) (Nat.le_of_ble_eq_true rfl)
  rw [lg_entry_eq]
  generalize (lg_sl ([.int x, .int lo, .int hi]) ++ List.replicate (3 - (lg_sl ([.int x, .int lo, .int hi])).length) Slot.unset).toArray = ls at hl ⊢
  have hl : lv_has ls 3 [(0, .int x), (1, .int lo), (2, .int hi)] := hl
  have J_1 : W p l e (headSpec (Cond.code yX3_demandWithin cX3_demandWithin 3 none :: gw) ({ frames := 7, cells := 1, slots := 6, locals := 102 })).room s m ([.int x, .int lo, .int hi] : List Value).toArray below meth c s.heap [] 0 0 (vx_MQ below (cx_Q (inR lo x hi)) (cy_X (fun E => ¬ inR lo x hi ∧ E = sx_iae)) ([.int x, .int lo, .int hi] : List Value).toArray s 1 6 (fun _ => False)) (F0 m 15 ls [.int (bI (decide (lo ≤ x) && decide (x ≤ hi)))]) := by
    have hPc := hP.sub (ws' := []) [] rfl
    refine cx_pass (vx_runS (As := [.int (bI (decide (lo ≤ x) && decide (x ≤ hi)))]) (rest := []) ⟨hx, hb, hml, hown, hg⟩ (qX3_demand l hl0 D cI cZ cJ (bI (decide (lo ≤ x) && decide (x ≤ hi)))) (va_cwS 1 hg (gw_S kw225 kw226 kw36 kw227) rfl rfl rfl (by decide +kernel) ⟨Nat.le_of_ble_eq_true rfl, Nat.le_of_ble_eq_true rfl⟩) (tq_pre hPc hK hZ hY) rfl rfl hl.1 rfl (lv_room (Nat.le_of_ble_eq_true rfl)) dX3_demandWithin_15 ⟨Nat.le_of_ble_eq_true rfl, Nat.le_of_ble_eq_true rfl⟩) htab hlocks (Nat.le_of_ble_eq_true rfl) (Nat.le_of_ble_eq_true rfl) (fun E h9 => ⟨fun q => absurd (show (decide (lo ≤ x) && decide (x ≤ hi)) = true by simp [q.1, q.2]) (by rw [bI_f h9.1]; decide), h9.2⟩) (fun k_2 => ?_)
    replace k_2 := bI_t k_2
    refine vx_ret ?_
    refine W.widen (k := 1) (n := 6) (Nat.le_of_ble_eq_true rfl) (Nat.le_of_ble_eq_true rfl) ?_
    exact W.vret hx hb hr (fun t ht hW => ⟨by have q := k_2; simpa [inR] using q, rfl, ht⟩) (fun q hq => nomatch hq) dX3_demandWithin_18
  refine lv_iload_n hx hb dX3_demandWithin_0 rfl (lv_at hl 1 rfl) ?_
  refine lv_iload_n hx hb dX3_demandWithin_1 rfl (lv_at hl 0 rfl) ?_
  refine lv_icmp_gt (tgt := 14) hx hb dX3_demandWithin_2 (by decide) (fun c2 => ?_) (fun c2 => ?_)
  · have c2n := Int32.not_le.mpr c2
    refine lv_iconst (v := 0) hx hb dX3_demandWithin_14 (by decide) ?_
    refine tp_i (y := bI (decide (lo ≤ x) && decide (x ≤ hi))) (by simp [bI, c2, c2n]) ?_
    exact J_1
  · have c2n := Int32.not_lt.mp c2
    refine lv_iload_n hx hb dX3_demandWithin_5 rfl (lv_at hl 0 rfl) ?_
    refine lv_iload_n hx hb dX3_demandWithin_6 rfl (lv_at hl 2 rfl) ?_
    refine lv_icmp_gt (tgt := 14) hx hb dX3_demandWithin_7 (by decide) (fun c7 => ?_) (fun c7 => ?_)
    · have c7n := Int32.not_le.mpr c7
      refine lv_iconst (v := 0) hx hb dX3_demandWithin_14 (by decide) ?_
      refine tp_i (y := bI (decide (lo ≤ x) && decide (x ≤ hi))) (by simp [bI, c2, c2n, c7, c7n]) ?_
      exact J_1
    · have c7n := Int32.not_lt.mp c7
      refine lv_iconst (v := 1) hx hb dX3_demandWithin_10 (by decide) ?_
      refine lv_goto (tgt := 15) hx hb dX3_demandWithin_11 (by decide) ?_
      refine tp_i (y := bI (decide (lo ≤ x) && decide (x ≤ hi))) (by simp [bI, c2, c2n, c7, c7n]) ?_
      exact J_1

def ptR (sz0 x y z : Int32) : Prop := inR (-sz0) x sz0 ∧ inR (-sz0) y sz0 ∧ inR (-sz0) z sz0

set_option maxHeartbeats 4000000 in
set_option maxRecDepth 100000 in
/-- demandPoint -/
theorem qX3_demandPoint (l : Launch) (hl0 : l.stackTraces = false) (D : va_G) (cI cZ cJ : ClassId) (o0 b0 c2 c3 a0 e0 : Nat) (sz0 fc rw : Int32) (x y z : Int32) : vx_Met l yX3_demandPoint (Cond.code yX3_demandPoint cX3_demandPoint 4 none :: gw) ({ frames := 8, cells := 1, slots := 6, locals := 124 }) (tq D [.ref o0, .int x, .int y, .int z] [(o0, .inr (3, [.int sz0, .ref b0, .ref c2, .ref c3, .int fc, .ref a0, .int rw, .ref e0]))] [(cI, .int), (cZ, .boolean), (cJ, .long)]) (cx_Q (ptR sz0 x y z)) (cy_X (fun E => ¬ ptR sz0 x y z ∧ E = sx_iae)) 1 6 (fun _ => False) := by
  refine vx_ofW (cc := cX3_demandPoint) (maxL := 4) (ret := none) (by decide) rfl ?_
  intro p e s m args below meth c s₁ B hml htab hv
  obtain ⟨rfl, hP, hK, hZ, hY⟩ := hv
  have hx := B.exec
  have hb := B.bytes
  have hr := B.returns
  have hg : ∀ w ∈ gw, w.before _ s = true := fun w h => atoms_spec (ws := Cond.code yX3_demandPoint cX3_demandPoint 4 none :: gw) B.pre w (List.mem_cons_of_mem _ h)
  have hown : s.vm.findClass RX3 = some m.cls := findClass_of_methodNamed B.named
  have hlocks := B.notSynchronized
  have hP : va_P D vwCl [(o0, .inr (3, [.int sz0, .ref b0, .ref c2, .ref c3, .int fc, .ref a0, .int rw, .ref e0]))] s.heap := hP
  have hl := lv_entry ([.ref o0, .int x, .int y, .int z]) (n := 4) (Nat.le_of_ble_eq_true rfl)
  rw [lg_entry_eq]
  generalize (lg_sl ([.ref o0, .int x, .int y, .int z]) ++ List.replicate (4 - (lg_sl ([.ref o0, .int x, .int y, .int z])).length) Slot.unset).toArray = ls at hl ⊢
  have hl : lv_has ls 4 [(0, .ref o0), (1, .int x), (2, .int y), (3, .int z)] := hl
  refine lv_iload_n hx hb dX3_demandPoint_0 rfl (lv_at hl 1 rfl) ?_
  refine lv_aload_n hx hb dX3_demandPoint_1 rfl (lv_at hl 0 rfl) ?_
  refine va_get (D := D) (ci := 3) (v := .int sz0) (C := RX3) (T := TX3) (N := 8) hx hb hg iX3 hown hK hP 0 rfl rfl 0 (by decide) (hg _ kw177) (fun _ h9 => h9) rfl dX3_demandPoint_2 ?_
  refine lv_ineg hx hb dX3_demandPoint_5 ?_
  refine lv_aload_n hx hb dX3_demandPoint_6 rfl (lv_at hl 0 rfl) ?_
  refine va_get (D := D) (ci := 3) (v := .int sz0) (C := RX3) (T := TX3) (N := 8) hx hb hg iX3 hown hK hP 0 rfl rfl 0 (by decide) (hg _ kw177) (fun _ h9 => h9) rfl dX3_demandPoint_7 ?_
  have hPc := hP.sub (ws' := []) [] rfl
  refine cx_pass (vx_runS (As := [.int x, .int (-sz0), .int sz0]) (rest := []) ⟨hx, hb, hml, hown, hg⟩ (qX3_demandWithin l hl0 D cI cZ cJ x (-sz0) sz0) (va_cwS 3 hg (gw_S kw222 kw223 kw36 kw224) rfl rfl rfl (by decide +kernel) ⟨Nat.le_of_ble_eq_true rfl, Nat.le_of_ble_eq_true rfl⟩) (tq_pre hPc hK hZ hY) rfl rfl hl.1 rfl (lv_room (Nat.le_of_ble_eq_true rfl)) dX3_demandPoint_10 ⟨Nat.le_of_ble_eq_true rfl, Nat.le_of_ble_eq_true rfl⟩) htab hlocks (Nat.le_of_ble_eq_true rfl) (Nat.le_of_ble_eq_true rfl) (fun E h9 => ⟨fun q => h9.1 q.1, h9.2⟩) (fun k_3 => ?_)
  refine lv_iload_n hx hb dX3_demandPoint_13 rfl (lv_at hl 2 rfl) ?_
  refine lv_aload_n hx hb dX3_demandPoint_14 rfl (lv_at hl 0 rfl) ?_
  refine va_get (D := D) (ci := 3) (v := .int sz0) (C := RX3) (T := TX3) (N := 8) hx hb hg iX3 hown hK hP 0 rfl rfl 0 (by decide) (hg _ kw177) (fun _ h9 => h9) rfl dX3_demandPoint_15 ?_
  refine lv_ineg hx hb dX3_demandPoint_18 ?_
  refine lv_aload_n hx hb dX3_demandPoint_19 rfl (lv_at hl 0 rfl) ?_
  refine va_get (D := D) (ci := 3) (v := .int sz0) (C := RX3) (T := TX3) (N := 8) hx hb hg iX3 hown hK hP 0 rfl rfl 0 (by decide) (hg _ kw177) (fun _ h9 => h9) rfl dX3_demandPoint_20 ?_
  have hPc := hP.sub (ws' := []) [] rfl
  refine cx_pass (vx_runS (As := [.int y, .int (-sz0), .int sz0]) (rest := []) ⟨hx, hb, hml, hown, hg⟩ (qX3_demandWithin l hl0 D cI cZ cJ y (-sz0) sz0) (va_cwS 3 hg (gw_S kw222 kw223 kw36 kw224) rfl rfl rfl (by decide +kernel) ⟨Nat.le_of_ble_eq_true rfl, Nat.le_of_ble_eq_true rfl⟩) (tq_pre hPc hK hZ hY) rfl rfl hl.1 rfl (lv_room (Nat.le_of_ble_eq_true rfl)) dX3_demandPoint_23 ⟨Nat.le_of_ble_eq_true rfl, Nat.le_of_ble_eq_true rfl⟩) htab hlocks (Nat.le_of_ble_eq_true rfl) (Nat.le_of_ble_eq_true rfl) (fun E h9 => ⟨fun q => h9.1 q.2.1, h9.2⟩) (fun k_4 => ?_)
  refine lv_iload_n hx hb dX3_demandPoint_26 rfl (lv_at hl 3 rfl) ?_
  refine lv_aload_n hx hb dX3_demandPoint_27 rfl (lv_at hl 0 rfl) ?_
  refine va_get (D := D) (ci := 3) (v := .int sz0) (C := RX3) (T := TX3) (N := 8) hx hb hg iX3 hown hK hP 0 rfl rfl 0 (by decide) (hg _ kw177) (fun _ h9 => h9) rfl dX3_demandPoint_28 ?_
  refine lv_ineg hx hb dX3_demandPoint_31 ?_
  refine lv_aload_n hx hb dX3_demandPoint_32 rfl (lv_at hl 0 rfl) ?_
  refine va_get (D := D) (ci := 3) (v := .int sz0) (C := RX3) (T := TX3) (N := 8) hx hb hg iX3 hown hK hP 0 rfl rfl 0 (by decide) (hg _ kw177) (fun _ h9 => h9) rfl dX3_demandPoint_33 ?_
  have hPc := hP.sub (ws' := []) [] rfl
  refine cx_pass (vx_runS (As := [.int z, .int (-sz0), .int sz0]) (rest := []) ⟨hx, hb, hml, hown, hg⟩ (qX3_demandWithin l hl0 D cI cZ cJ z (-sz0) sz0) (va_cwS 3 hg (gw_S kw222 kw223 kw36 kw224) rfl rfl rfl (by decide +kernel) ⟨Nat.le_of_ble_eq_true rfl, Nat.le_of_ble_eq_true rfl⟩) (tq_pre hPc hK hZ hY) rfl rfl hl.1 rfl (lv_room (Nat.le_of_ble_eq_true rfl)) dX3_demandPoint_36 ⟨Nat.le_of_ble_eq_true rfl, Nat.le_of_ble_eq_true rfl⟩) htab hlocks (Nat.le_of_ble_eq_true rfl) (Nat.le_of_ble_eq_true rfl) (fun E h9 => ⟨fun q => h9.1 q.2.2, h9.2⟩) (fun k_5 => ?_)
  refine vx_ret ?_
  refine W.widen (k := 1) (n := 6) (Nat.le_of_ble_eq_true rfl) (Nat.le_of_ble_eq_true rfl) ?_
  exact W.vret hx hb hr (fun t ht hW => ⟨⟨k_3, k_4, k_5⟩, rfl, ht⟩) (fun q hq => nomatch hq) dX3_demandPoint_39

def dirR (x y z : Int32) : Prop := inR (-100) x 100 ∧ inR (-100) y 100 ∧ inR (-100) z 100 ∧ ¬ (x = 0 ∧ y = 0 ∧ z = 0)

set_option maxHeartbeats 4000000 in
set_option maxRecDepth 100000 in
/-- demandDirection -/
theorem qX3_demandDirection (l : Launch) (hl0 : l.stackTraces = false) (D : va_G) (cI cZ cJ : ClassId) (x y z : Int32) : vx_Met l yX3_demandDirection (Cond.code yX3_demandDirection cX3_demandDirection 3 none :: gw) ({ frames := 8, cells := 1, slots := 6, locals := 124 }) (tq D [.int x, .int y, .int z] [] [(cI, .int), (cZ, .boolean), (cJ, .long)]) (cx_Q (dirR x y z)) (cy_X (fun E => ¬ dirR x y z ∧ E = sx_iae)) 1 6 (fun _ => False) := by
  refine vx_ofW (cc := cX3_demandDirection) (maxL := 3) (ret := none) (by decide) rfl ?_
  intro p e s m args below meth c s₁ B hml htab hv
  obtain ⟨rfl, hP, hK, hZ, hY⟩ := hv
  have hx := B.exec
  have hb := B.bytes
  have hr := B.returns
  have hg : ∀ w ∈ gw, w.before _ s = true := fun w h => atoms_spec (ws := Cond.code yX3_demandDirection cX3_demandDirection 3 none :: gw) B.pre w (List.mem_cons_of_mem _ h)
  have hown : s.vm.findClass RX3 = some m.cls := findClass_of_methodNamed B.named
  have hlocks := B.notSynchronized
  have hP : va_P D vwCl [] s.heap := hP
  have hl := lv_entry ([.int x, .int y, .int z]) (n := 3) (Nat.le_of_ble_eq_true rfl)
  rw [lg_entry_eq]
  generalize (lg_sl ([.int x, .int y, .int z]) ++ List.replicate (3 - (lg_sl ([.int x, .int y, .int z])).length) Slot.unset).toArray = ls at hl ⊢
  have hl : lv_has ls 3 [(0, .int x), (1, .int y), (2, .int z)] := hl
  refine lv_iload_n hx hb dX3_demandDirection_0 rfl (lv_at hl 0 rfl) ?_
  refine lv_bipush (v := (-100)) hx hb dX3_demandDirection_1 (by decide) ?_
  refine lv_bipush (v := 100) hx hb dX3_demandDirection_3 (by decide) ?_
  have hPc := hP.sub (ws' := []) [] rfl
  refine cx_pass (vx_runS (As := [.int x, .int (-100), .int 100]) (rest := []) ⟨hx, hb, hml, hown, hg⟩ (qX3_demandWithin l hl0 D cI cZ cJ x (-100) 100) (va_cwS 3 hg (gw_S kw222 kw223 kw36 kw224) rfl rfl rfl (by decide +kernel) ⟨Nat.le_of_ble_eq_true rfl, Nat.le_of_ble_eq_true rfl⟩) (tq_pre hPc hK hZ hY) rfl rfl hl.1 rfl (lv_room (Nat.le_of_ble_eq_true rfl)) dX3_demandDirection_5 ⟨Nat.le_of_ble_eq_true rfl, Nat.le_of_ble_eq_true rfl⟩) htab hlocks (Nat.le_of_ble_eq_true rfl) (Nat.le_of_ble_eq_true rfl) (fun E h9 => ⟨fun q => h9.1 q.1, h9.2⟩) (fun k_6 => ?_)
  refine lv_iload_n hx hb dX3_demandDirection_8 rfl (lv_at hl 1 rfl) ?_
  refine lv_bipush (v := (-100)) hx hb dX3_demandDirection_9 (by decide) ?_
  refine lv_bipush (v := 100) hx hb dX3_demandDirection_11 (by decide) ?_
  have hPc := hP.sub (ws' := []) [] rfl
  refine cx_pass (vx_runS (As := [.int y, .int (-100), .int 100]) (rest := []) ⟨hx, hb, hml, hown, hg⟩ (qX3_demandWithin l hl0 D cI cZ cJ y (-100) 100) (va_cwS 3 hg (gw_S kw222 kw223 kw36 kw224) rfl rfl rfl (by decide +kernel) ⟨Nat.le_of_ble_eq_true rfl, Nat.le_of_ble_eq_true rfl⟩) (tq_pre hPc hK hZ hY) rfl rfl hl.1 rfl (lv_room (Nat.le_of_ble_eq_true rfl)) dX3_demandDirection_13 ⟨Nat.le_of_ble_eq_true rfl, Nat.le_of_ble_eq_true rfl⟩) htab hlocks (Nat.le_of_ble_eq_true rfl) (Nat.le_of_ble_eq_true rfl) (fun E h9 => ⟨fun q => h9.1 q.2.1, h9.2⟩) (fun k_7 => ?_)
  refine lv_iload_n hx hb dX3_demandDirection_16 rfl (lv_at hl 2 rfl) ?_
  refine lv_bipush (v := (-100)) hx hb dX3_demandDirection_17 (by decide) ?_
  refine lv_bipush (v := 100) hx hb dX3_demandDirection_19 (by decide) ?_
  have hPc := hP.sub (ws' := []) [] rfl
  refine cx_pass (vx_runS (As := [.int z, .int (-100), .int 100]) (rest := []) ⟨hx, hb, hml, hown, hg⟩ (qX3_demandWithin l hl0 D cI cZ cJ z (-100) 100) (va_cwS 3 hg (gw_S kw222 kw223 kw36 kw224) rfl rfl rfl (by decide +kernel) ⟨Nat.le_of_ble_eq_true rfl, Nat.le_of_ble_eq_true rfl⟩) (tq_pre hPc hK hZ hY) rfl rfl hl.1 rfl (lv_room (Nat.le_of_ble_eq_true rfl)) dX3_demandDirection_21 ⟨Nat.le_of_ble_eq_true rfl, Nat.le_of_ble_eq_true rfl⟩) htab hlocks (Nat.le_of_ble_eq_true rfl) (Nat.le_of_ble_eq_true rfl) (fun E h9 => ⟨fun q => h9.1 q.2.2.1, h9.2⟩) (fun k_8 => ?_)
  have J_9 : W p l e (headSpec (Cond.code yX3_demandDirection cX3_demandDirection 3 none :: gw) ({ frames := 8, cells := 1, slots := 6, locals := 124 })).room s m ([.int x, .int y, .int z] : List Value).toArray below meth c s.heap [] 0 0 (vx_MQ below (cx_Q (dirR x y z)) (cy_X (fun E => ¬ dirR x y z ∧ E = sx_iae)) ([.int x, .int y, .int z] : List Value).toArray s 1 6 (fun _ => False)) (F0 m 41 ls [.int (bI (!decide (x = 0) || (!decide (y = 0) || !decide (z = 0))))]) := by
    have hPc := hP.sub (ws' := []) [] rfl
    refine cx_pass (vx_runS (As := [.int (bI (!decide (x = 0) || (!decide (y = 0) || !decide (z = 0))))]) (rest := []) ⟨hx, hb, hml, hown, hg⟩ (qX3_demand l hl0 D cI cZ cJ (bI (!decide (x = 0) || (!decide (y = 0) || !decide (z = 0))))) (va_cwS 1 hg (gw_S kw225 kw226 kw36 kw227) rfl rfl rfl (by decide +kernel) ⟨Nat.le_of_ble_eq_true rfl, Nat.le_of_ble_eq_true rfl⟩) (tq_pre hPc hK hZ hY) rfl rfl hl.1 rfl (lv_room (Nat.le_of_ble_eq_true rfl)) dX3_demandDirection_41 ⟨Nat.le_of_ble_eq_true rfl, Nat.le_of_ble_eq_true rfl⟩) htab hlocks (Nat.le_of_ble_eq_true rfl) (Nat.le_of_ble_eq_true rfl) (fun E h9 => ⟨fun q => q.2.2.2 (by have h8 := bI_f h9.1; simpa using h8), h9.2⟩) (fun k_10 => ?_)
    replace k_10 := bI_t k_10
    refine vx_ret ?_
    refine W.widen (k := 1) (n := 6) (Nat.le_of_ble_eq_true rfl) (Nat.le_of_ble_eq_true rfl) ?_
    exact W.vret hx hb hr (fun t ht hW => ⟨⟨k_6, k_7, k_8, by have q := k_10; intro hq; simp [hq.1, hq.2.1, hq.2.2] at q⟩, rfl, ht⟩) (fun q hq => nomatch hq) dX3_demandDirection_44
  refine lv_iload_n hx hb dX3_demandDirection_24 rfl (lv_at hl 0 rfl) ?_
  refine lv_if_ne (tgt := 36) hx hb dX3_demandDirection_25 (by decide) (fun c25 => ?_) (fun c25 => ?_)
  · refine lv_iconst (v := 1) hx hb dX3_demandDirection_36 (by decide) ?_
    refine lv_goto (tgt := 41) hx hb dX3_demandDirection_37 (by decide) ?_
    refine tp_i (y := bI (!decide (x = 0) || (!decide (y = 0) || !decide (z = 0)))) (by simp [bI, c25]) ?_
    exact J_9
  · refine lv_iload_n hx hb dX3_demandDirection_28 rfl (lv_at hl 1 rfl) ?_
    refine lv_if_ne (tgt := 36) hx hb dX3_demandDirection_29 (by decide) (fun c29 => ?_) (fun c29 => ?_)
    · refine lv_iconst (v := 1) hx hb dX3_demandDirection_36 (by decide) ?_
      refine lv_goto (tgt := 41) hx hb dX3_demandDirection_37 (by decide) ?_
      refine tp_i (y := bI (!decide (x = 0) || (!decide (y = 0) || !decide (z = 0)))) (by simp [bI, c25, c29]) ?_
      exact J_9
    · refine lv_iload_n hx hb dX3_demandDirection_32 rfl (lv_at hl 2 rfl) ?_
      refine lv_if_eq (tgt := 40) hx hb dX3_demandDirection_33 (by decide) (fun c33 => ?_) (fun c33 => ?_)
      · refine lv_iconst (v := 0) hx hb dX3_demandDirection_40 (by decide) ?_
        refine tp_i (y := bI (!decide (x = 0) || (!decide (y = 0) || !decide (z = 0)))) (by simp [bI, c25, c29, c33]) ?_
        exact J_9
      · refine lv_iconst (v := 1) hx hb dX3_demandDirection_36 (by decide) ?_
        refine lv_goto (tgt := 41) hx hb dX3_demandDirection_37 (by decide) ?_
        refine tp_i (y := bI (!decide (x = 0) || (!decide (y = 0) || !decide (z = 0)))) (by simp [bI, c25, c29, c33]) ?_
        exact J_9

set_option maxHeartbeats 4000000 in
set_option maxRecDepth 100000 in
/-- demandBox -/
theorem qX3_demandBox (l : Launch) (hl0 : l.stackTraces = false) (D : va_G) (cI cZ cJ : ClassId) (o0 b0 c2 c3 a0 e0 : Nat) (sz0 fc rw : Int32) (b1 b2 b3 b4 b5 : Nat) (cn x : Int32) : vx_Met l yX3_demandBox (Cond.code yX3_demandBox cX3_demandBox 2 none :: gw) ({ frames := 7, cells := 1, slots := 6, locals := 102 }) (tq D [.ref o0, .int x] [(o0, .inr (3, [.int sz0, .ref b0, .ref c2, .ref c3, .int fc, .ref a0, .int rw, .ref e0])), (b0, .inr (0, [.ref b1, .ref b2, .ref b3, .ref b4, .ref b5, .int cn]))] [(cI, .int), (cZ, .boolean), (cJ, .long)]) (cx_Q (0 ≤ x ∧ x < cn)) (cy_X (fun E => ¬ (0 ≤ x ∧ x < cn) ∧ E = sx_iae)) 1 6 (fun _ => False) := by
  refine vx_ofW (cc := cX3_demandBox) (maxL := 2) (ret := none) (by decide) rfl ?_
  intro p e s m args below meth c s₁ B hml htab hv
  obtain ⟨rfl, hP, hK, hZ, hY⟩ := hv
  have hx := B.exec
  have hb := B.bytes
  have hr := B.returns
  have hg : ∀ w ∈ gw, w.before _ s = true := fun w h => atoms_spec (ws := Cond.code yX3_demandBox cX3_demandBox 2 none :: gw) B.pre w (List.mem_cons_of_mem _ h)
  have hown : s.vm.findClass RX3 = some m.cls := findClass_of_methodNamed B.named
  have hlocks := B.notSynchronized
  have hP : va_P D vwCl [(o0, .inr (3, [.int sz0, .ref b0, .ref c2, .ref c3, .int fc, .ref a0, .int rw, .ref e0])), (b0, .inr (0, [.ref b1, .ref b2, .ref b3, .ref b4, .ref b5, .int cn]))] s.heap := hP
  have hl := lv_entry ([.ref o0, .int x]) (n := 2) (Nat.le_of_ble_eq_true rfl)
  rw [lg_entry_eq]
  generalize (lg_sl ([.ref o0, .int x]) ++ List.replicate (2 - (lg_sl ([.ref o0, .int x])).length) Slot.unset).toArray = ls at hl ⊢
  have hl : lv_has ls 2 [(0, .ref o0), (1, .int x)] := hl
  have J_11 : W p l e (headSpec (Cond.code yX3_demandBox cX3_demandBox 2 none :: gw) ({ frames := 7, cells := 1, slots := 6, locals := 102 })).room s m ([.ref o0, .int x] : List Value).toArray below meth c s.heap [] 0 0 (vx_MQ below (cx_Q (0 ≤ x ∧ x < cn)) (cy_X (fun E => ¬ (0 ≤ x ∧ x < cn) ∧ E = sx_iae)) ([.ref o0, .int x] : List Value).toArray s 1 6 (fun _ => False)) (F0 m 21 ls [.int (bI (decide (0 ≤ x) && decide (x < cn)))]) := by
    have hPc := hP.sub (ws' := []) [] rfl
    refine cx_pass (vx_runS (As := [.int (bI (decide (0 ≤ x) && decide (x < cn)))]) (rest := []) ⟨hx, hb, hml, hown, hg⟩ (qX3_demand l hl0 D cI cZ cJ (bI (decide (0 ≤ x) && decide (x < cn)))) (va_cwS 1 hg (gw_S kw225 kw226 kw36 kw227) rfl rfl rfl (by decide +kernel) ⟨Nat.le_of_ble_eq_true rfl, Nat.le_of_ble_eq_true rfl⟩) (tq_pre hPc hK hZ hY) rfl rfl hl.1 rfl (lv_room (Nat.le_of_ble_eq_true rfl)) dX3_demandBox_21 ⟨Nat.le_of_ble_eq_true rfl, Nat.le_of_ble_eq_true rfl⟩) htab hlocks (Nat.le_of_ble_eq_true rfl) (Nat.le_of_ble_eq_true rfl) (fun E h9 => ⟨fun q => absurd (show (decide (0 ≤ x) && decide (x < cn)) = true by simp [q.1, q.2]) (by rw [bI_f h9.1]; decide), h9.2⟩) (fun k_12 => ?_)
    replace k_12 := bI_t k_12
    refine vx_ret ?_
    refine W.widen (k := 1) (n := 6) (Nat.le_of_ble_eq_true rfl) (Nat.le_of_ble_eq_true rfl) ?_
    exact W.vret hx hb hr (fun t ht hW => ⟨by have q := k_12; simpa using q, rfl, ht⟩) (fun q hq => nomatch hq) dX3_demandBox_24
  refine lv_iconst (v := 0) hx hb dX3_demandBox_0 (by decide) ?_
  refine lv_iload_n hx hb dX3_demandBox_1 rfl (lv_at hl 1 rfl) ?_
  refine lv_icmp_gt (tgt := 20) hx hb dX3_demandBox_2 (by decide) (fun c2 => ?_) (fun c2 => ?_)
  · have c2n := Int32.not_le.mpr c2
    refine lv_iconst (v := 0) hx hb dX3_demandBox_20 (by decide) ?_
    refine tp_i (y := bI (decide (0 ≤ x) && decide (x < cn))) (by simp [bI, c2, c2n]) ?_
    exact J_11
  · have c2n := Int32.not_lt.mp c2
    refine lv_iload_n hx hb dX3_demandBox_5 rfl (lv_at hl 1 rfl) ?_
    refine lv_aload_n hx hb dX3_demandBox_6 rfl (lv_at hl 0 rfl) ?_
    refine va_get (D := D) (ci := 3) (v := .ref b0) (C := RX3) (T := TX3) (N := 8) hx hb hg iX3 hown hK hP 0 rfl rfl 1 (by decide) (hg _ kw178) (fun _ h9 => h9) rfl dX3_demandBox_7 ?_
    refine va_getN (D := D) (ci := 0) (v := .int cn) (C := RX0) (T := TX0) (N := 6) hx hb hg iX0 hown hK hP 1 rfl rfl 5 (by decide) (va_Nw.use rfl (nzF_8 hZ)) (fun _ h9 => h9) rfl dX3_demandBox_10 ?_
    refine lv_icmp_ge (tgt := 20) hx hb dX3_demandBox_13 (by decide) (fun c13 => ?_) (fun c13 => ?_)
    · have c13n := Int32.not_lt.mpr c13
      refine lv_iconst (v := 0) hx hb dX3_demandBox_20 (by decide) ?_
      refine tp_i (y := bI (decide (0 ≤ x) && decide (x < cn))) (by simp [bI, c2, c2n, c13, c13n]) ?_
      exact J_11
    · have c13n := Int32.not_le.mp c13
      refine lv_iconst (v := 1) hx hb dX3_demandBox_16 (by decide) ?_
      refine lv_goto (tgt := 21) hx hb dX3_demandBox_17 (by decide) ?_
      refine tp_i (y := bI (decide (0 ≤ x) && decide (x < cn))) (by simp [bI, c2, c2n, c13, c13n]) ?_
      exact J_11

set_option maxHeartbeats 4000000 in
set_option maxRecDepth 100000 in
/-- demandRay -/
theorem qX3_demandRay (l : Launch) (hl0 : l.stackTraces = false) (D : va_G) (cI cZ cJ : ClassId) (o0 b0 c2 c3 a0 e0 : Nat) (sz0 fc rw : Int32) : vx_Met l yX3_demandRay (Cond.code yX3_demandRay cX3_demandRay 1 none :: gw) ({ frames := 6, cells := 1, slots := 6, locals := 82 }) (tq D [.ref o0] [(o0, .inr (3, [.int sz0, .ref b0, .ref c2, .ref c3, .int fc, .ref a0, .int rw, .ref e0]))] [(cI, .int), (cZ, .boolean), (cJ, .long)]) (cx_Q (¬ rw = 0)) (cy_X (fun E => rw = 0 ∧ E = sx_ise)) 1 6 (fun _ => False) := by
  refine vx_ofW (cc := cX3_demandRay) (maxL := 1) (ret := none) (by decide) rfl ?_
  intro p e s m args below meth c s₁ B hml htab hv
  obtain ⟨rfl, hP, hK, hZ, hY⟩ := hv
  have hx := B.exec
  have hb := B.bytes
  have hr := B.returns
  have hg : ∀ w ∈ gw, w.before _ s = true := fun w h => atoms_spec (ws := Cond.code yX3_demandRay cX3_demandRay 1 none :: gw) B.pre w (List.mem_cons_of_mem _ h)
  have hown : s.vm.findClass RX3 = some m.cls := findClass_of_methodNamed B.named
  have hlocks := B.notSynchronized
  have hP : va_P D vwCl [(o0, .inr (3, [.int sz0, .ref b0, .ref c2, .ref c3, .int fc, .ref a0, .int rw, .ref e0]))] s.heap := hP
  have hl := lv_entry ([.ref o0]) (n := 1) (Nat.le_of_ble_eq_true rfl)
  rw [lg_entry_eq]
  generalize (lg_sl ([.ref o0]) ++ List.replicate (1 - (lg_sl ([.ref o0])).length) Slot.unset).toArray = ls at hl ⊢
  have hl : lv_has ls 1 [(0, .ref o0)] := hl
  refine lv_aload_n hx hb dX3_demandRay_0 rfl (lv_at hl 0 rfl) ?_
  refine va_get (D := D) (ci := 3) (v := .int rw) (C := RX3) (T := TX3) (N := 8) hx hb hg iX3 hown hK hP 0 rfl rfl 6 (by decide) (hg _ kw183) (fun _ h9 => h9) rfl dX3_demandRay_1 ?_
  refine lv_if_ne (tgt := 17) hx hb dX3_demandRay_4 (by decide) (fun c4 => ?_) (fun c4 => ?_)
  · refine vx_ret ?_
    refine W.widen (k := 1) (n := 6) (Nat.le_of_ble_eq_true rfl) (Nat.le_of_ble_eq_true rfl) ?_
    exact W.vret hx hb hr (fun t ht hW => ⟨c4, rfl, ht⟩) (fun q hq => nomatch hq) dX3_demandRay_17
  · exact th_ise hx hb hl0 hg hZ hY hZ.2.2.2.2.2.2.1 hown (hl.1.trans hml.symm) htab hlocks dX3_demandRay_7 dX3_demandRay_10 dX3_demandRay_11 dX3_demandRay_13 dX3_demandRay_16 (Nat.le_of_ble_eq_true rfl) (Nat.le_of_ble_eq_true rfl) (Nat.le_of_ble_eq_true rfl) (Nat.le_of_ble_eq_true rfl) (Nat.le_of_ble_eq_true rfl) (Nat.le_of_ble_eq_true rfl) (⟨c4, rfl⟩)
