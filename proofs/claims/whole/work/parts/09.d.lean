theorem in1 {x : Int32} (h : inR 0 x 1) : x = 0 ∨ x = 1 := by
  obtain ⟨j, hj, rfl⟩ := nI_of2 (M := 1) (n := 1) (by decide) (Int32.not_lt.mpr h.1) h.2
  rcases (show j = 0 ∨ j = 1 by omega) with rfl | rfl
  · exact Or.inl rfl
  · exact Or.inr rfl
theorem in3 {x : Int32} (h : inR 0 x 3) : x = 0 ∨ x = 1 ∨ x = 2 ∨ x = 3 := by
  obtain ⟨j, hj, rfl⟩ := nI_of2 (M := 3) (n := 3) (by decide) (Int32.not_lt.mpr h.1) h.2
  rcases (show j = 0 ∨ j = 1 ∨ j = 2 ∨ j = 3 by omega) with rfl | rfl | rfl | rfl
  · exact Or.inl rfl
  · exact Or.inr (Or.inl rfl)
  · exact Or.inr (Or.inr (Or.inl rfl))
  · exact Or.inr (Or.inr (Or.inr rfl))
theorem in4 {x : Int32} (h : inR 0 x 4) : x = 0 ∨ x = 1 ∨ x = 2 ∨ x = 3 ∨ x = 4 := by
  obtain ⟨j, hj, rfl⟩ := nI_of2 (M := 4) (n := 4) (by decide) (Int32.not_lt.mpr h.1) h.2
  rcases (show j = 0 ∨ j = 1 ∨ j = 2 ∨ j = 3 ∨ j = 4 by omega) with rfl | rfl | rfl | rfl | rfl
  · exact Or.inl rfl
  · exact Or.inr (Or.inl rfl)
  · exact Or.inr (Or.inr (Or.inl rfl))
  · exact Or.inr (Or.inr (Or.inr (Or.inl rfl)))
  · exact Or.inr (Or.inr (Or.inr (Or.inr rfl)))
theorem ix_of {x : Int32} {n : Nat} (h : 0 ≤ x ∧ x < nI n) (hn : n < 2 ^ 31) : ∃ j, j < n ∧ x = nI j := by
  obtain ⟨j, hj, rfl⟩ := nI_of (Int32.not_lt.mpr h.1)
  exact ⟨j, (nI_ltI hj hn).mp h.2, rfl⟩
def toldF (wh ht li : Int32) (di : Nat → Int32) : Int32 := if wh = 0 then ht else if wh = 1 then li else if wh = 2 then di 0 else if wh = 3 then di 1 else di 2
def hitF (k wh : Int32) (nh : Nat) (ho hx9 ha hl9 : Nat → Int32) : Int32 := if (decide (0 ≤ k) && decide (k < nI nh)) = true then (if wh = 0 then ho k.toNatClampNeg else if wh = 1 then hx9 k.toNatClampNeg else if wh = 2 then ha k.toNatClampNeg else hl9 k.toNatClampNeg) else -1
def placeF (k ax pt : Int32) (hl9 hs : Nat → Int32) : Int64 := if pt = 0 then (hs (k.toNatClampNeg * 3 + ax.toNatClampNeg) / gD (hs (k.toNatClampNeg * 3 + ax.toNatClampNeg)) (hl9 k.toNatClampNeg)).toInt64 else (hl9 k.toNatClampNeg / gD (hs (k.toNatClampNeg * 3 + ax.toNatClampNeg)) (hl9 k.toNatClampNeg)).toInt64

set_option maxHeartbeats 4000000 in
set_option maxRecDepth 100000 in
/-- told -/
theorem qX3_told (l : Launch) (hl0 : l.stackTraces = false) (D : va_G) (cI cZ cJ : ClassId) (a0 a1 a2 a3 a4 a5 a6 a7 a8 a9 a10 a11 : Nat) (b0 : Nat) (o0 c2 c3 e0 : Nat) (sz0 fc rw : Int32) (ht li : Int32) (di : Nat → Int32) (wh : Int32) : vx_Met l yX3_told (Cond.code yX3_told cX3_told 2 (some .int) :: gw) ({ frames := 8, cells := 1, slots := 6, locals := 124 }) (tq D [.ref o0, .int wh] [(o0, .inr (3, [.int sz0, .ref b0, .ref c2, .ref c3, .int fc, .ref a0, .int rw, .ref e0])), (a0, .inr (2, [.ref a1, .ref a2, .ref a3, .ref a4, .ref a5, .ref a6, .ref a7, .ref a8, .ref a9, .ref a10, .ref a11, .int ht, .int li])), (a2, .inl (cI, 3, .inl di))] [(cI, .int), (cZ, .boolean), (cJ, .long)]) (cx_R (inR 0 wh 4 ∧ ¬ rw = 0) (toldF wh ht li di)) (cy_X (fun E => (¬ inR 0 wh 4 ∧ E = sx_iae) ∨ (inR 0 wh 4 ∧ rw = 0 ∧ E = sx_ise))) 1 6 (fun _ => False) := by
  refine vx_ofW (cc := cX3_told) (maxL := 2) (ret := (some .int)) (by decide) rfl ?_
  intro p e s m args below meth c s₁ B hml htab hv
  obtain ⟨rfl, hP, hK, hZ, hY⟩ := hv
  have hx := B.exec
  have hb := B.bytes
  have hr := B.returns
  have hg : ∀ w ∈ gw, w.before _ s = true := fun w h => atoms_spec (ws := Cond.code yX3_told cX3_told 2 (some .int) :: gw) B.pre w (List.mem_cons_of_mem _ h)
  have hown : s.vm.findClass RX3 = some m.cls := findClass_of_methodNamed B.named
  have hlocks := B.notSynchronized
  have hP : va_P D vwCl [(o0, .inr (3, [.int sz0, .ref b0, .ref c2, .ref c3, .int fc, .ref a0, .int rw, .ref e0])), (a0, .inr (2, [.ref a1, .ref a2, .ref a3, .ref a4, .ref a5, .ref a6, .ref a7, .ref a8, .ref a9, .ref a10, .ref a11, .int ht, .int li])), (a2, .inl (cI, 3, .inl di))] s.heap := hP
  have hl := lv_entry ([.ref o0, .int wh]) (n := 2) (Nat.le_of_ble_eq_true rfl)
  rw [lg_entry_eq]
  generalize (lg_sl ([.ref o0, .int wh]) ++ List.replicate (2 - (lg_sl ([.ref o0, .int wh])).length) Slot.unset).toArray = ls at hl ⊢
  have hl : lv_has ls 2 [(0, .ref o0), (1, .int wh)] := hl
  refine lv_iload_n hx hb dX3_told_0 rfl (lv_at hl 1 rfl) ?_
  refine lv_iconst (v := 0) hx hb dX3_told_1 (by decide) ?_
  refine lv_iconst (v := 4) hx hb dX3_told_2 (by decide) ?_
  have hPc := hP.sub (ws' := []) [] rfl
  refine cx_pass (vx_runS (As := [.int wh, .int 0, .int 4]) (rest := []) ⟨hx, hb, hml, hown, hg⟩ (qX3_demandWithin l hl0 D cI cZ cJ wh 0 4) (va_cwS 3 hg (gw_S kw222 kw223 kw36 kw224) rfl rfl rfl (by decide +kernel) ⟨Nat.le_of_ble_eq_true rfl, Nat.le_of_ble_eq_true rfl⟩) (tq_pre hPc hK hZ hY) rfl rfl hl.1 rfl (lv_room (Nat.le_of_ble_eq_true rfl)) dX3_told_3 ⟨Nat.le_of_ble_eq_true rfl, Nat.le_of_ble_eq_true rfl⟩) htab hlocks (Nat.le_of_ble_eq_true rfl) (Nat.le_of_ble_eq_true rfl) (fun E h9 => Or.inl ⟨h9.1, h9.2⟩) (fun k_25 => ?_)
  refine lv_aload_n hx hb dX3_told_6 rfl (lv_at hl 0 rfl) ?_
  have hPc := hP.sub (ws' := [(o0, .inr (3, [.int sz0, .ref b0, .ref c2, .ref c3, .int fc, .ref a0, .int rw, .ref e0]))]) [0] rfl
  refine cx_pass (vx_runV (As := []) (rest := []) ⟨hx, hb, hml, hown, hg⟩ (qX3_demandRay l hl0 D cI cZ cJ o0 b0 c2 c3 a0 e0 sz0 fc rw) (cwV 0 hg (gw_V kw425 kw427 kw19 kw36 kw428) rfl rfl rfl (by decide +kernel) ⟨Nat.le_of_ble_eq_true rfl, Nat.le_of_ble_eq_true rfl⟩) (tq_preV hPc hK hZ hY (va_recv hK hPc (ci := 3) (q0 := 0) rfl rfl)) rfl rfl hl.1 rfl (lv_room (Nat.le_of_ble_eq_true rfl)) dX3_told_7 ⟨Nat.le_of_ble_eq_true rfl, Nat.le_of_ble_eq_true rfl⟩) htab hlocks (Nat.le_of_ble_eq_true rfl) (Nat.le_of_ble_eq_true rfl) (fun E h9 => Or.inr ⟨k_25, h9.1, h9.2⟩) (fun k_26 => ?_)
  refine lv_iload_n hx hb dX3_told_10 rfl (lv_at hl 1 rfl) ?_
  rcases in4 k_25 with rfl | rfl | rfl | rfl | rfl
  · refine lv_lookup (off := 25) (tgt := 36) hx hb dX3_told_11 (by decide) (by decide) (by decide) ?_
    refine lv_aload_n hx hb dX3_told_36 rfl (lv_at hl 0 rfl) ?_
    refine va_get (D := D) (ci := 3) (v := .ref a0) (C := RX3) (T := TX3) (N := 8) hx hb hg iX3 hown hK hP 0 rfl rfl 5 (by decide) (hg _ kw182) (fun _ h9 => h9) rfl dX3_told_37 ?_
    refine va_getN (D := D) (ci := 2) (v := .int ht) (C := RX2) (T := TX2) (N := 13) hx hb hg iX2 hown hK hP 1 rfl rfl 11 (by decide) (va_Nw.use rfl (nzF_20 hZ)) (fun _ h9 => h9) rfl dX3_told_40 ?_
    refine vx_ret ?_
    refine W.widen (k := 1) (n := 6) (Nat.le_of_ble_eq_true rfl) (Nat.le_of_ble_eq_true rfl) ?_
    exact W.iret (v := ht) hx hb hr (fun t ht hW => ⟨⟨k_25, k_26⟩, congrArg (fun z => Outcome.returned (some (Value.int z))) (rfl), ht⟩) (fun q hq => nomatch hq) dX3_told_43
  · refine lv_lookup (off := 33) (tgt := 44) hx hb dX3_told_11 (by decide) (by decide) (by decide) ?_
    refine lv_aload_n hx hb dX3_told_44 rfl (lv_at hl 0 rfl) ?_
    refine va_get (D := D) (ci := 3) (v := .ref a0) (C := RX3) (T := TX3) (N := 8) hx hb hg iX3 hown hK hP 0 rfl rfl 5 (by decide) (hg _ kw182) (fun _ h9 => h9) rfl dX3_told_45 ?_
    refine va_getN (D := D) (ci := 2) (v := .int li) (C := RX2) (T := TX2) (N := 13) hx hb hg iX2 hown hK hP 1 rfl rfl 12 (by decide) (va_Nw.use rfl (nzF_21 hZ)) (fun _ h9 => h9) rfl dX3_told_48 ?_
    refine vx_ret ?_
    refine W.widen (k := 1) (n := 6) (Nat.le_of_ble_eq_true rfl) (Nat.le_of_ble_eq_true rfl) ?_
    exact W.iret (v := li) hx hb hr (fun t ht hW => ⟨⟨k_25, k_26⟩, congrArg (fun z => Outcome.returned (some (Value.int z))) (rfl), ht⟩) (fun q hq => nomatch hq) dX3_told_51
  · refine lv_lookup (off := 41) (tgt := 52) hx hb dX3_told_11 (by decide) (by decide) (by decide) ?_
    refine lv_aload_n hx hb dX3_told_52 rfl (lv_at hl 0 rfl) ?_
    refine va_get (D := D) (ci := 3) (v := .ref a0) (C := RX3) (T := TX3) (N := 8) hx hb hg iX3 hown hK hP 0 rfl rfl 5 (by decide) (hg _ kw182) (fun _ h9 => h9) rfl dX3_told_53 ?_
    refine va_getN (D := D) (ci := 2) (v := .ref a2) (C := RX2) (T := TX2) (N := 13) hx hb hg iX2 hown hK hP 1 rfl rfl 1 (by decide) (va_Nw.use rfl (nzF_14 hZ)) (fun _ h9 => h9) rfl dX3_told_56 ?_
    refine lv_iload_n hx hb dX3_told_59 rfl (lv_at hl 1 rfl) ?_
    refine lv_iconst (v := 2) hx hb dX3_told_60 (by decide) ?_
    refine lv_isub hx hb dX3_told_61 ?_
    refine tp_i (y := 0) (by decide) ?_
    refine va_iald hx hb hK hP 2 0 rfl rfl (vp_in_nI (n := 0) (by decide) (by decide)) dX3_told_62 ?_
    refine tp_i (y := di 0) (congrArg di (rfl)) ?_
    refine vx_ret ?_
    refine W.widen (k := 1) (n := 6) (Nat.le_of_ble_eq_true rfl) (Nat.le_of_ble_eq_true rfl) ?_
    exact W.iret (v := di 0) hx hb hr (fun t ht hW => ⟨⟨k_25, k_26⟩, congrArg (fun z => Outcome.returned (some (Value.int z))) (rfl), ht⟩) (fun q hq => nomatch hq) dX3_told_63
  · refine lv_lookup (off := 41) (tgt := 52) hx hb dX3_told_11 (by decide) (by decide) (by decide) ?_
    refine lv_aload_n hx hb dX3_told_52 rfl (lv_at hl 0 rfl) ?_
    refine va_get (D := D) (ci := 3) (v := .ref a0) (C := RX3) (T := TX3) (N := 8) hx hb hg iX3 hown hK hP 0 rfl rfl 5 (by decide) (hg _ kw182) (fun _ h9 => h9) rfl dX3_told_53 ?_
    refine va_getN (D := D) (ci := 2) (v := .ref a2) (C := RX2) (T := TX2) (N := 13) hx hb hg iX2 hown hK hP 1 rfl rfl 1 (by decide) (va_Nw.use rfl (nzF_14 hZ)) (fun _ h9 => h9) rfl dX3_told_56 ?_
    refine lv_iload_n hx hb dX3_told_59 rfl (lv_at hl 1 rfl) ?_
    refine lv_iconst (v := 2) hx hb dX3_told_60 (by decide) ?_
    refine lv_isub hx hb dX3_told_61 ?_
    refine tp_i (y := 1) (by decide) ?_
    refine va_iald hx hb hK hP 2 0 rfl rfl (vp_in_nI (n := 1) (by decide) (by decide)) dX3_told_62 ?_
    refine tp_i (y := di 1) (congrArg di (rfl)) ?_
    refine vx_ret ?_
    refine W.widen (k := 1) (n := 6) (Nat.le_of_ble_eq_true rfl) (Nat.le_of_ble_eq_true rfl) ?_
    exact W.iret (v := di 1) hx hb hr (fun t ht hW => ⟨⟨k_25, k_26⟩, congrArg (fun z => Outcome.returned (some (Value.int z))) (rfl), ht⟩) (fun q hq => nomatch hq) dX3_told_63
  · refine lv_lookup (off := 41) (tgt := 52) hx hb dX3_told_11 (by decide) (by decide) (by decide) ?_
    refine lv_aload_n hx hb dX3_told_52 rfl (lv_at hl 0 rfl) ?_
    refine va_get (D := D) (ci := 3) (v := .ref a0) (C := RX3) (T := TX3) (N := 8) hx hb hg iX3 hown hK hP 0 rfl rfl 5 (by decide) (hg _ kw182) (fun _ h9 => h9) rfl dX3_told_53 ?_
    refine va_getN (D := D) (ci := 2) (v := .ref a2) (C := RX2) (T := TX2) (N := 13) hx hb hg iX2 hown hK hP 1 rfl rfl 1 (by decide) (va_Nw.use rfl (nzF_14 hZ)) (fun _ h9 => h9) rfl dX3_told_56 ?_
    refine lv_iload_n hx hb dX3_told_59 rfl (lv_at hl 1 rfl) ?_
    refine lv_iconst (v := 2) hx hb dX3_told_60 (by decide) ?_
    refine lv_isub hx hb dX3_told_61 ?_
    refine tp_i (y := 2) (by decide) ?_
    refine va_iald hx hb hK hP 2 0 rfl rfl (vp_in_nI (n := 2) (by decide) (by decide)) dX3_told_62 ?_
    refine tp_i (y := di 2) (congrArg di (rfl)) ?_
    refine vx_ret ?_
    refine W.widen (k := 1) (n := 6) (Nat.le_of_ble_eq_true rfl) (Nat.le_of_ble_eq_true rfl) ?_
    exact W.iret (v := di 2) hx hb hr (fun t ht hW => ⟨⟨k_25, k_26⟩, congrArg (fun z => Outcome.returned (some (Value.int z))) (rfl), ht⟩) (fun q hq => nomatch hq) dX3_told_63

set_option maxHeartbeats 4000000 in
set_option maxRecDepth 100000 in
/-- hit -/
theorem qX3_hit (l : Launch) (hl0 : l.stackTraces = false) (D : va_G) (cI cZ cJ : ClassId) (a0 a1 a2 a3 a4 a5 a6 a7 a8 a9 a10 a11 : Nat) (b0 b1 b2 b3 b4 b5 : Nat) (o0 c2 c3 e0 : Nat) (sz0 fc rw : Int32) (og di ar ho hx9 ha hl9 hs : Nat → Int32) (lb la lv lw nb9 na nv nw tb ta tv tw : Int32) (li : Int32) (lo hi ki sh of : Nat → Int32) (cn : Int32) (nh : Nat) (hnh : nh ≤ 30) (k wh : Int32) : vx_Met l yX3_hit (Cond.code yX3_hit cX3_hit 3 (some .int) :: gw) ({ frames := 8, cells := 1, slots := 6, locals := 124 }) (tq D [.ref o0, .int k, .int wh] [(o0, .inr (3, [.int sz0, .ref b0, .ref c2, .ref c3, .int fc, .ref a0, .int rw, .ref e0])), (a0, .inr (2, [.ref a1, .ref a2, .ref a3, .ref a4, .ref a5, .ref a6, .ref a7, .ref a8, .ref a9, .ref a10, .ref a11, .int (nI nh), .int li])), (a1, .inl (cI, 3, .inl og)), (a2, .inl (cI, 3, .inl di)), (a3, .inl (cI, 3, .inl ar)), (a4, .inl (cI, 30, .inl ho)), (a5, .inl (cI, 30, .inl hx9)), (a6, .inl (cI, 30, .inl ha)), (a7, .inl (cI, 30, .inl hl9)), (a8, .inl (cI, 90, .inl hs)), (a9, .inr (1, [.int lb, .int la, .int lv, .int lw])), (a10, .inr (1, [.int nb9, .int na, .int nv, .int nw])), (a11, .inr (1, [.int tb, .int ta, .int tv, .int tw])), (b0, .inr (0, [.ref b1, .ref b2, .ref b3, .ref b4, .ref b5, .int cn])), (b1, .inl (cI, 60, .inl lo)), (b2, .inl (cI, 60, .inl hi)), (b3, .inl (cI, 20, .inl ki)), (b4, .inl (cI, 20, .inl sh)), (b5, .inl (cZ, 20, .inl of))] [(cI, .int), (cZ, .boolean), (cJ, .long)]) (cx_R ((0 ≤ k ∧ inR 0 wh 3) ∧ ¬ rw = 0) (hitF k wh nh ho hx9 ha hl9)) (cy_X (fun E => (¬ (0 ≤ k ∧ inR 0 wh 3) ∧ E = sx_iae) ∨ ((0 ≤ k ∧ inR 0 wh 3) ∧ rw = 0 ∧ E = sx_ise))) 1 6 (fun _ => False) := by
  refine vx_ofW (cc := cX3_hit) (maxL := 3) (ret := (some .int)) (by decide) rfl ?_
  intro p e s m args below meth c s₁ B hml htab hv
  obtain ⟨rfl, hP, hK, hZ, hY⟩ := hv
  have hx := B.exec
  have hb := B.bytes
  have hr := B.returns
  have hg : ∀ w ∈ gw, w.before _ s = true := fun w h => atoms_spec (ws := Cond.code yX3_hit cX3_hit 3 (some .int) :: gw) B.pre w (List.mem_cons_of_mem _ h)
  have hown : s.vm.findClass RX3 = some m.cls := findClass_of_methodNamed B.named
  have hlocks := B.notSynchronized
  have hP : va_P D vwCl [(o0, .inr (3, [.int sz0, .ref b0, .ref c2, .ref c3, .int fc, .ref a0, .int rw, .ref e0])), (a0, .inr (2, [.ref a1, .ref a2, .ref a3, .ref a4, .ref a5, .ref a6, .ref a7, .ref a8, .ref a9, .ref a10, .ref a11, .int (nI nh), .int li])), (a1, .inl (cI, 3, .inl og)), (a2, .inl (cI, 3, .inl di)), (a3, .inl (cI, 3, .inl ar)), (a4, .inl (cI, 30, .inl ho)), (a5, .inl (cI, 30, .inl hx9)), (a6, .inl (cI, 30, .inl ha)), (a7, .inl (cI, 30, .inl hl9)), (a8, .inl (cI, 90, .inl hs)), (a9, .inr (1, [.int lb, .int la, .int lv, .int lw])), (a10, .inr (1, [.int nb9, .int na, .int nv, .int nw])), (a11, .inr (1, [.int tb, .int ta, .int tv, .int tw])), (b0, .inr (0, [.ref b1, .ref b2, .ref b3, .ref b4, .ref b5, .int cn])), (b1, .inl (cI, 60, .inl lo)), (b2, .inl (cI, 60, .inl hi)), (b3, .inl (cI, 20, .inl ki)), (b4, .inl (cI, 20, .inl sh)), (b5, .inl (cZ, 20, .inl of))] s.heap := hP
  have hl := lv_entry ([.ref o0, .int k, .int wh]) (n := 3) (Nat.le_of_ble_eq_true rfl)
  rw [lg_entry_eq]
  generalize (lg_sl ([.ref o0, .int k, .int wh]) ++ List.replicate (3 - (lg_sl ([.ref o0, .int k, .int wh])).length) Slot.unset).toArray = ls at hl ⊢
  have hl : lv_has ls 3 [(0, .ref o0), (1, .int k), (2, .int wh)] := hl
  have J_27 : W p l e (headSpec (Cond.code yX3_hit cX3_hit 3 (some .int) :: gw) ({ frames := 8, cells := 1, slots := 6, locals := 124 })).room s m ([.ref o0, .int k, .int wh] : List Value).toArray below meth c s.heap [] 0 0 (vx_MQ below (cx_R ((0 ≤ k ∧ inR 0 wh 3) ∧ ¬ rw = 0) (hitF k wh nh ho hx9 ha hl9)) (cy_X (fun E => (¬ (0 ≤ k ∧ inR 0 wh 3) ∧ E = sx_iae) ∨ ((0 ≤ k ∧ inR 0 wh 3) ∧ rw = 0 ∧ E = sx_ise))) ([.ref o0, .int k, .int wh] : List Value).toArray s 1 6 (fun _ => False)) (F0 m 9 ls [.int (bI (decide (0 ≤ k)))]) := by
    have hPc := hP.sub (ws' := []) [] rfl
    refine cx_pass (vx_runS (As := [.int (bI (decide (0 ≤ k)))]) (rest := []) ⟨hx, hb, hml, hown, hg⟩ (qX3_demand l hl0 D cI cZ cJ (bI (decide (0 ≤ k)))) (va_cwS 1 hg (gw_S kw225 kw226 kw36 kw227) rfl rfl rfl (by decide +kernel) ⟨Nat.le_of_ble_eq_true rfl, Nat.le_of_ble_eq_true rfl⟩) (tq_pre hPc hK hZ hY) rfl rfl hl.1 rfl (lv_room (Nat.le_of_ble_eq_true rfl)) dX3_hit_9 ⟨Nat.le_of_ble_eq_true rfl, Nat.le_of_ble_eq_true rfl⟩) htab hlocks (Nat.le_of_ble_eq_true rfl) (Nat.le_of_ble_eq_true rfl) (fun E h9 => Or.inl ⟨fun q => absurd (show decide (0 ≤ k) = true by simp [q.1]) (by rw [bI_f h9.1]; decide), h9.2⟩) (fun k_28 => ?_)
    replace k_28 := bI_t k_28
    refine lv_iload_n hx hb dX3_hit_12 rfl (lv_at hl 2 rfl) ?_
    refine lv_iconst (v := 0) hx hb dX3_hit_13 (by decide) ?_
    refine lv_iconst (v := 3) hx hb dX3_hit_14 (by decide) ?_
    have hPc := hP.sub (ws' := []) [] rfl
    refine cx_pass (vx_runS (As := [.int wh, .int 0, .int 3]) (rest := []) ⟨hx, hb, hml, hown, hg⟩ (qX3_demandWithin l hl0 D cI cZ cJ wh 0 3) (va_cwS 3 hg (gw_S kw222 kw223 kw36 kw224) rfl rfl rfl (by decide +kernel) ⟨Nat.le_of_ble_eq_true rfl, Nat.le_of_ble_eq_true rfl⟩) (tq_pre hPc hK hZ hY) rfl rfl hl.1 rfl (lv_room (Nat.le_of_ble_eq_true rfl)) dX3_hit_15 ⟨Nat.le_of_ble_eq_true rfl, Nat.le_of_ble_eq_true rfl⟩) htab hlocks (Nat.le_of_ble_eq_true rfl) (Nat.le_of_ble_eq_true rfl) (fun E h9 => Or.inl ⟨fun q => h9.1 q.2, h9.2⟩) (fun k_29 => ?_)
    refine lv_aload_n hx hb dX3_hit_18 rfl (lv_at hl 0 rfl) ?_
    have hPc := hP.sub (ws' := [(o0, .inr (3, [.int sz0, .ref b0, .ref c2, .ref c3, .int fc, .ref a0, .int rw, .ref e0]))]) [0] rfl
    refine cx_pass (vx_runV (As := []) (rest := []) ⟨hx, hb, hml, hown, hg⟩ (qX3_demandRay l hl0 D cI cZ cJ o0 b0 c2 c3 a0 e0 sz0 fc rw) (cwV 0 hg (gw_V kw425 kw427 kw19 kw36 kw428) rfl rfl rfl (by decide +kernel) ⟨Nat.le_of_ble_eq_true rfl, Nat.le_of_ble_eq_true rfl⟩) (tq_preV hPc hK hZ hY (va_recv hK hPc (ci := 3) (q0 := 0) rfl rfl)) rfl rfl hl.1 rfl (lv_room (Nat.le_of_ble_eq_true rfl)) dX3_hit_19 ⟨Nat.le_of_ble_eq_true rfl, Nat.le_of_ble_eq_true rfl⟩) htab hlocks (Nat.le_of_ble_eq_true rfl) (Nat.le_of_ble_eq_true rfl) (fun E h9 => Or.inr ⟨⟨of_decide_eq_true k_28, k_29⟩, h9.1, h9.2⟩) (fun k_30 => ?_)
    refine lv_aload_n hx hb dX3_hit_22 rfl (lv_at hl 0 rfl) ?_
    refine va_get (D := D) (ci := 3) (v := .ref a0) (C := RX3) (T := TX3) (N := 8) hx hb hg iX3 hown hK hP 0 rfl rfl 5 (by decide) (hg _ kw182) (fun _ h9 => h9) rfl dX3_hit_23 ?_
    refine lv_iload_n hx hb dX3_hit_26 rfl (lv_at hl 1 rfl) ?_
    have hPc := hP.sub (ws' := [(a0, .inr (2, [.ref a1, .ref a2, .ref a3, .ref a4, .ref a5, .ref a6, .ref a7, .ref a8, .ref a9, .ref a10, .ref a11, .int (nI nh), .int li])), (a1, .inl (cI, 3, .inl og)), (a2, .inl (cI, 3, .inl di)), (a3, .inl (cI, 3, .inl ar)), (a4, .inl (cI, 30, .inl ho)), (a5, .inl (cI, 30, .inl hx9)), (a6, .inl (cI, 30, .inl ha)), (a7, .inl (cI, 30, .inl hl9)), (a8, .inl (cI, 90, .inl hs)), (a9, .inr (1, [.int lb, .int la, .int lv, .int lw])), (a10, .inr (1, [.int nb9, .int na, .int nv, .int nw])), (a11, .inr (1, [.int tb, .int ta, .int tv, .int tw])), (b0, .inr (0, [.ref b1, .ref b2, .ref b3, .ref b4, .ref b5, .int cn])), (b1, .inl (cI, 60, .inl lo)), (b2, .inl (cI, 60, .inl hi)), (b3, .inl (cI, 20, .inl ki)), (b4, .inl (cI, 20, .inl sh)), (b5, .inl (cZ, 20, .inl of))]) [1, 2, 3, 4, 5, 6, 7, 8, 9, 10, 11, 12, 13, 14, 15, 16, 17, 18] rfl
    refine rq_call (va_runVN (As := [.int k]) (rest := []) ⟨hx, hb, hml, hown, hg⟩ (qX2_hasHit l D cI cZ cJ a0 a1 a2 a3 a4 a5 a6 a7 a8 a9 a10 a11 b0 b1 b2 b3 b4 b5 og di ar ho hx9 ha hl9 hs lb la lv lw nb9 na nv nw tb ta tv tw (nI nh) li lo hi ki sh of cn k) ⟨va_cnB 1 hg (gw_in kw440) rfl rfl rfl (nzM_12 hZ) (hg _ kw39) (by decide +kernel) ⟨Nat.le_of_ble_eq_true rfl, Nat.le_of_ble_eq_true rfl⟩, hg _ kw439, hg _ kw20⟩ (pq_preV hPc hK hZ (va_recv hK hPc (ci := 2) (q0 := 0) rfl rfl)) rfl rfl hl.1 rfl (lv_room (Nat.le_of_ble_eq_true rfl)) dX3_hit_27 ⟨Nat.le_of_ble_eq_true rfl, Nat.le_of_ble_eq_true rfl⟩) ?_
    refine lv_if_ne (tgt := 35) hx hb dX3_hit_30 (by decide) (fun c30 => ?_) (fun c30 => ?_)
    · replace c30 := bI_t c30
      have hkk : 0 ≤ k ∧ k < nI nh := by simpa using c30
      refine lv_iload_n hx hb dX3_hit_35 rfl (lv_at hl 2 rfl) ?_
      rcases in3 k_29 with rfl | rfl | rfl | rfl
      · refine lv_tableIn (off := 28) (tgt := 64) hx hb dX3_hit_36 (by decide) (by decide) (by decide) (by decide) ?_
        refine lv_aload_n hx hb dX3_hit_64 rfl (lv_at hl 0 rfl) ?_
        refine va_get (D := D) (ci := 3) (v := .ref a0) (C := RX3) (T := TX3) (N := 8) hx hb hg iX3 hown hK hP 0 rfl rfl 5 (by decide) (hg _ kw182) (fun _ h9 => h9) rfl dX3_hit_65 ?_
        refine va_getN (D := D) (ci := 2) (v := .ref a4) (C := RX2) (T := TX2) (N := 13) hx hb hg iX2 hown hK hP 1 rfl rfl 3 (by decide) (va_Nw.use rfl (nzF_15 hZ)) (fun _ h9 => h9) rfl dX3_hit_68 ?_
        refine lv_iload_n hx hb dX3_hit_71 rfl (lv_at hl 1 rfl) ?_
        refine va_iald hx hb hK hP 5 0 rfl rfl (vin_of hkk hnh (by decide)) dX3_hit_72 ?_
        refine vx_ret ?_
        refine W.widen (k := 1) (n := 6) (Nat.le_of_ble_eq_true rfl) (Nat.le_of_ble_eq_true rfl) ?_
        exact W.iret (v := ho k.toNatClampNeg) hx hb hr (fun t ht hW => ⟨⟨⟨of_decide_eq_true k_28, k_29⟩, k_30⟩, congrArg (fun z => Outcome.returned (some (Value.int z))) (by simp [hitF, c30]), ht⟩) (fun q hq => nomatch hq) dX3_hit_73
      · refine lv_tableIn (off := 38) (tgt := 74) hx hb dX3_hit_36 (by decide) (by decide) (by decide) (by decide) ?_
        refine lv_aload_n hx hb dX3_hit_74 rfl (lv_at hl 0 rfl) ?_
        refine va_get (D := D) (ci := 3) (v := .ref a0) (C := RX3) (T := TX3) (N := 8) hx hb hg iX3 hown hK hP 0 rfl rfl 5 (by decide) (hg _ kw182) (fun _ h9 => h9) rfl dX3_hit_75 ?_
        refine va_getN (D := D) (ci := 2) (v := .ref a5) (C := RX2) (T := TX2) (N := 13) hx hb hg iX2 hown hK hP 1 rfl rfl 4 (by decide) (va_Nw.use rfl (nzF_16 hZ)) (fun _ h9 => h9) rfl dX3_hit_78 ?_
        refine lv_iload_n hx hb dX3_hit_81 rfl (lv_at hl 1 rfl) ?_
        refine va_iald hx hb hK hP 6 0 rfl rfl (vin_of hkk hnh (by decide)) dX3_hit_82 ?_
        refine vx_ret ?_
        refine W.widen (k := 1) (n := 6) (Nat.le_of_ble_eq_true rfl) (Nat.le_of_ble_eq_true rfl) ?_
        exact W.iret (v := hx9 k.toNatClampNeg) hx hb hr (fun t ht hW => ⟨⟨⟨of_decide_eq_true k_28, k_29⟩, k_30⟩, congrArg (fun z => Outcome.returned (some (Value.int z))) (by simp [hitF, c30]), ht⟩) (fun q hq => nomatch hq) dX3_hit_83
      · refine lv_tableIn (off := 48) (tgt := 84) hx hb dX3_hit_36 (by decide) (by decide) (by decide) (by decide) ?_
        refine lv_aload_n hx hb dX3_hit_84 rfl (lv_at hl 0 rfl) ?_
        refine va_get (D := D) (ci := 3) (v := .ref a0) (C := RX3) (T := TX3) (N := 8) hx hb hg iX3 hown hK hP 0 rfl rfl 5 (by decide) (hg _ kw182) (fun _ h9 => h9) rfl dX3_hit_85 ?_
        refine va_getN (D := D) (ci := 2) (v := .ref a6) (C := RX2) (T := TX2) (N := 13) hx hb hg iX2 hown hK hP 1 rfl rfl 5 (by decide) (va_Nw.use rfl (nzF_17 hZ)) (fun _ h9 => h9) rfl dX3_hit_88 ?_
        refine lv_iload_n hx hb dX3_hit_91 rfl (lv_at hl 1 rfl) ?_
        refine va_iald hx hb hK hP 7 0 rfl rfl (vin_of hkk hnh (by decide)) dX3_hit_92 ?_
        refine vx_ret ?_
        refine W.widen (k := 1) (n := 6) (Nat.le_of_ble_eq_true rfl) (Nat.le_of_ble_eq_true rfl) ?_
        exact W.iret (v := ha k.toNatClampNeg) hx hb hr (fun t ht hW => ⟨⟨⟨of_decide_eq_true k_28, k_29⟩, k_30⟩, congrArg (fun z => Outcome.returned (some (Value.int z))) (by simp [hitF, c30]), ht⟩) (fun q hq => nomatch hq) dX3_hit_93
      · refine lv_tableOut (tgt := 94) hx hb dX3_hit_36 (by decide) (by decide) ?_
        refine lv_aload_n hx hb dX3_hit_94 rfl (lv_at hl 0 rfl) ?_
        refine va_get (D := D) (ci := 3) (v := .ref a0) (C := RX3) (T := TX3) (N := 8) hx hb hg iX3 hown hK hP 0 rfl rfl 5 (by decide) (hg _ kw182) (fun _ h9 => h9) rfl dX3_hit_95 ?_
        refine va_getN (D := D) (ci := 2) (v := .ref a7) (C := RX2) (T := TX2) (N := 13) hx hb hg iX2 hown hK hP 1 rfl rfl 6 (by decide) (va_Nw.use rfl (nzF_18 hZ)) (fun _ h9 => h9) rfl dX3_hit_98 ?_
        refine lv_iload_n hx hb dX3_hit_101 rfl (lv_at hl 1 rfl) ?_
        refine va_iald hx hb hK hP 8 0 rfl rfl (vin_of hkk hnh (by decide)) dX3_hit_102 ?_
        refine vx_ret ?_
        refine W.widen (k := 1) (n := 6) (Nat.le_of_ble_eq_true rfl) (Nat.le_of_ble_eq_true rfl) ?_
        exact W.iret (v := hl9 k.toNatClampNeg) hx hb hr (fun t ht hW => ⟨⟨⟨of_decide_eq_true k_28, k_29⟩, k_30⟩, congrArg (fun z => Outcome.returned (some (Value.int z))) (by simp [hitF, c30]), ht⟩) (fun q hq => nomatch hq) dX3_hit_103
    · replace c30 := bI_f c30
      refine lv_iconst (v := (-1)) hx hb dX3_hit_33 (by decide) ?_
      refine vx_ret ?_
      refine W.widen (k := 1) (n := 6) (Nat.le_of_ble_eq_true rfl) (Nat.le_of_ble_eq_true rfl) ?_
      exact W.iret (v := (-1)) hx hb hr (fun t ht hW => ⟨⟨⟨of_decide_eq_true k_28, k_29⟩, k_30⟩, congrArg (fun z => Outcome.returned (some (Value.int z))) (by simp [hitF, c30]), ht⟩) (fun q hq => nomatch hq) dX3_hit_34
  refine lv_iload_n hx hb dX3_hit_0 rfl (lv_at hl 1 rfl) ?_
  refine lv_if_lt (tgt := 8) hx hb dX3_hit_1 (by decide) (fun c1 => ?_) (fun c1 => ?_)
  · have c1n := Int32.not_le.mpr c1
    refine lv_iconst (v := 0) hx hb dX3_hit_8 (by decide) ?_
    refine tp_i (y := bI (decide (0 ≤ k))) (by simp [bI, c1, c1n]) ?_
    exact J_27
  · have c1n := Int32.not_lt.mp c1
    refine lv_iconst (v := 1) hx hb dX3_hit_4 (by decide) ?_
    refine lv_goto (tgt := 9) hx hb dX3_hit_5 (by decide) ?_
    refine tp_i (y := bI (decide (0 ≤ k))) (by simp [bI, c1, c1n]) ?_
    exact J_27

set_option maxHeartbeats 4000000 in
set_option maxRecDepth 100000 in
/-- place -/
theorem qX3_place (l : Launch) (hl0 : l.stackTraces = false) (D : va_G) (cI cZ cJ : ClassId) (a0 a1 a2 a3 a4 a5 a6 a7 a8 a9 a10 a11 : Nat) (b0 b1 b2 b3 b4 b5 : Nat) (o0 c2 c3 e0 : Nat) (sz0 fc rw : Int32) (og di ar ho hx9 ha hl9 hs : Nat → Int32) (lb la lv lw nb9 na nv nw tb ta tv tw : Int32) (li : Int32) (lo hi ki sh of : Nat → Int32) (cn : Int32) (nh : Nat) (hnh : nh ≤ 30) (k ax pt : Int32) : vx_Met l yX3_place (Cond.code yX3_place cX3_place 7 (some .long) :: gw) ({ frames := 8, cells := 1, slots := 6, locals := 124 }) (tq D [.ref o0, .int k, .int ax, .int pt] [(o0, .inr (3, [.int sz0, .ref b0, .ref c2, .ref c3, .int fc, .ref a0, .int rw, .ref e0])), (a0, .inr (2, [.ref a1, .ref a2, .ref a3, .ref a4, .ref a5, .ref a6, .ref a7, .ref a8, .ref a9, .ref a10, .ref a11, .int (nI nh), .int li])), (a1, .inl (cI, 3, .inl og)), (a2, .inl (cI, 3, .inl di)), (a3, .inl (cI, 3, .inl ar)), (a4, .inl (cI, 30, .inl ho)), (a5, .inl (cI, 30, .inl hx9)), (a6, .inl (cI, 30, .inl ha)), (a7, .inl (cI, 30, .inl hl9)), (a8, .inl (cI, 90, .inl hs)), (a9, .inr (1, [.int lb, .int la, .int lv, .int lw])), (a10, .inr (1, [.int nb9, .int na, .int nv, .int nw])), (a11, .inr (1, [.int tb, .int ta, .int tv, .int tw])), (b0, .inr (0, [.ref b1, .ref b2, .ref b3, .ref b4, .ref b5, .int cn])), (b1, .inl (cI, 60, .inl lo)), (b2, .inl (cI, 60, .inl hi)), (b3, .inl (cI, 20, .inl ki)), (b4, .inl (cI, 20, .inl sh)), (b5, .inl (cZ, 20, .inl of))] [(cI, .int), (cZ, .boolean), (cJ, .long)]) (cx_RL (inR 0 ax 2 ∧ inR 0 pt 1 ∧ ¬ rw = 0 ∧ 0 ≤ k ∧ k < nI nh) (placeF k ax pt hl9 hs)) (cy_X (fun E => ¬ (inR 0 ax 2 ∧ inR 0 pt 1 ∧ ¬ rw = 0 ∧ 0 ≤ k ∧ k < nI nh) ∧ E = sx_iae)) 1 6 (fun _ => False) := by
  refine vx_ofW (cc := cX3_place) (maxL := 7) (ret := (some .long)) (by decide) rfl ?_
  intro p e s m args below meth c s₁ B hml htab hv
  obtain ⟨rfl, hP, hK, hZ, hY⟩ := hv
  have hx := B.exec
  have hb := B.bytes
  have hr := B.returns
  have hg : ∀ w ∈ gw, w.before _ s = true := fun w h => atoms_spec (ws := Cond.code yX3_place cX3_place 7 (some .long) :: gw) B.pre w (List.mem_cons_of_mem _ h)
  have hown : s.vm.findClass RX3 = some m.cls := findClass_of_methodNamed B.named
  have hlocks := B.notSynchronized
  have hP : va_P D vwCl [(o0, .inr (3, [.int sz0, .ref b0, .ref c2, .ref c3, .int fc, .ref a0, .int rw, .ref e0])), (a0, .inr (2, [.ref a1, .ref a2, .ref a3, .ref a4, .ref a5, .ref a6, .ref a7, .ref a8, .ref a9, .ref a10, .ref a11, .int (nI nh), .int li])), (a1, .inl (cI, 3, .inl og)), (a2, .inl (cI, 3, .inl di)), (a3, .inl (cI, 3, .inl ar)), (a4, .inl (cI, 30, .inl ho)), (a5, .inl (cI, 30, .inl hx9)), (a6, .inl (cI, 30, .inl ha)), (a7, .inl (cI, 30, .inl hl9)), (a8, .inl (cI, 90, .inl hs)), (a9, .inr (1, [.int lb, .int la, .int lv, .int lw])), (a10, .inr (1, [.int nb9, .int na, .int nv, .int nw])), (a11, .inr (1, [.int tb, .int ta, .int tv, .int tw])), (b0, .inr (0, [.ref b1, .ref b2, .ref b3, .ref b4, .ref b5, .int cn])), (b1, .inl (cI, 60, .inl lo)), (b2, .inl (cI, 60, .inl hi)), (b3, .inl (cI, 20, .inl ki)), (b4, .inl (cI, 20, .inl sh)), (b5, .inl (cZ, 20, .inl of))] s.heap := hP
  have hl := lv_entry ([.ref o0, .int k, .int ax, .int pt]) (n := 7) (Nat.le_of_ble_eq_true rfl)
  rw [lg_entry_eq]
  generalize (lg_sl ([.ref o0, .int k, .int ax, .int pt]) ++ List.replicate (7 - (lg_sl ([.ref o0, .int k, .int ax, .int pt])).length) Slot.unset).toArray = ls at hl ⊢
  have hl : lv_has ls 7 [(0, .ref o0), (1, .int k), (2, .int ax), (3, .int pt)] := hl
  refine lv_iload_n hx hb dX3_place_0 rfl (lv_at hl 2 rfl) ?_
  refine lv_iconst (v := 0) hx hb dX3_place_1 (by decide) ?_
  refine lv_iconst (v := 2) hx hb dX3_place_2 (by decide) ?_
  have hPc := hP.sub (ws' := []) [] rfl
  refine cx_pass (vx_runS (As := [.int ax, .int 0, .int 2]) (rest := []) ⟨hx, hb, hml, hown, hg⟩ (qX3_demandWithin l hl0 D cI cZ cJ ax 0 2) (va_cwS 3 hg (gw_S kw222 kw223 kw36 kw224) rfl rfl rfl (by decide +kernel) ⟨Nat.le_of_ble_eq_true rfl, Nat.le_of_ble_eq_true rfl⟩) (tq_pre hPc hK hZ hY) rfl rfl hl.1 rfl (lv_room (Nat.le_of_ble_eq_true rfl)) dX3_place_3 ⟨Nat.le_of_ble_eq_true rfl, Nat.le_of_ble_eq_true rfl⟩) htab hlocks (Nat.le_of_ble_eq_true rfl) (Nat.le_of_ble_eq_true rfl) (fun E h9 => ⟨fun q => h9.1 q.1, h9.2⟩) (fun k_31 => ?_)
  refine lv_iload_n hx hb dX3_place_6 rfl (lv_at hl 3 rfl) ?_
  refine lv_iconst (v := 0) hx hb dX3_place_7 (by decide) ?_
  refine lv_iconst (v := 1) hx hb dX3_place_8 (by decide) ?_
  have hPc := hP.sub (ws' := []) [] rfl
  refine cx_pass (vx_runS (As := [.int pt, .int 0, .int 1]) (rest := []) ⟨hx, hb, hml, hown, hg⟩ (qX3_demandWithin l hl0 D cI cZ cJ pt 0 1) (va_cwS 3 hg (gw_S kw222 kw223 kw36 kw224) rfl rfl rfl (by decide +kernel) ⟨Nat.le_of_ble_eq_true rfl, Nat.le_of_ble_eq_true rfl⟩) (tq_pre hPc hK hZ hY) rfl rfl hl.1 rfl (lv_room (Nat.le_of_ble_eq_true rfl)) dX3_place_9 ⟨Nat.le_of_ble_eq_true rfl, Nat.le_of_ble_eq_true rfl⟩) htab hlocks (Nat.le_of_ble_eq_true rfl) (Nat.le_of_ble_eq_true rfl) (fun E h9 => ⟨fun q => h9.1 q.2.1, h9.2⟩) (fun k_32 => ?_)
  have J_33 : W p l e (headSpec (Cond.code yX3_place cX3_place 7 (some .long) :: gw) ({ frames := 8, cells := 1, slots := 6, locals := 124 })).room s m ([.ref o0, .int k, .int ax, .int pt] : List Value).toArray below meth c s.heap [] 0 0 (vx_MQ below (cx_RL (inR 0 ax 2 ∧ inR 0 pt 1 ∧ ¬ rw = 0 ∧ 0 ≤ k ∧ k < nI nh) (placeF k ax pt hl9 hs)) (cy_X (fun E => ¬ (inR 0 ax 2 ∧ inR 0 pt 1 ∧ ¬ rw = 0 ∧ 0 ≤ k ∧ k < nI nh) ∧ E = sx_iae)) ([.ref o0, .int k, .int ax, .int pt] : List Value).toArray s 1 6 (fun _ => False)) (F0 m 35 ls [.int (bI (!decide (rw = 0) && (decide (0 ≤ k) && decide (k < nI nh))))]) := by
    have hPc := hP.sub (ws' := []) [] rfl
    refine cx_pass (vx_runS (As := [.int (bI (!decide (rw = 0) && (decide (0 ≤ k) && decide (k < nI nh))))]) (rest := []) ⟨hx, hb, hml, hown, hg⟩ (qX3_demand l hl0 D cI cZ cJ (bI (!decide (rw = 0) && (decide (0 ≤ k) && decide (k < nI nh))))) (va_cwS 1 hg (gw_S kw225 kw226 kw36 kw227) rfl rfl rfl (by decide +kernel) ⟨Nat.le_of_ble_eq_true rfl, Nat.le_of_ble_eq_true rfl⟩) (tq_pre hPc hK hZ hY) rfl rfl hl.1 rfl (lv_room (Nat.le_of_ble_eq_true rfl)) dX3_place_35 ⟨Nat.le_of_ble_eq_true rfl, Nat.le_of_ble_eq_true rfl⟩) htab hlocks (Nat.le_of_ble_eq_true rfl) (Nat.le_of_ble_eq_true rfl) (fun E h9 => ⟨fun q => absurd (show (!decide (rw = 0) && (decide (0 ≤ k) && decide (k < nI nh))) = true by simp [q.2.2.1, q.2.2.2.1, q.2.2.2.2]) (by rw [bI_f h9.1]; decide), h9.2⟩) (fun k_34 => ?_)
    replace k_34 := bI_t k_34
    have hok : ¬ rw = 0 ∧ 0 ≤ k ∧ k < nI nh := by have q := k_34; simpa using q
    obtain ⟨j, hj, ej⟩ := ix_of hok.2 (by omega)
    obtain ⟨a, hja, ea⟩ := nI_of2 (M := 2) (n := 2) (by decide) (Int32.not_lt.mpr k_31.1) k_31.2
    subst ej
    subst ea
    have cj : (nI j).toNatClampNeg = j := nI_clamp (by omega)
    have ca : (nI a).toNatClampNeg = a := nI_clamp (by omega)
    refine lv_aload_n hx hb dX3_place_38 rfl (lv_at hl 0 rfl) ?_
    refine va_get (D := D) (ci := 3) (v := .ref a0) (C := RX3) (T := TX3) (N := 8) hx hb hg iX3 hown hK hP 0 rfl rfl 5 (by decide) (hg _ kw182) (fun _ h9 => h9) rfl dX3_place_39 ?_
    refine va_getN (D := D) (ci := 2) (v := .ref a8) (C := RX2) (T := TX2) (N := 13) hx hb hg iX2 hown hK hP 1 rfl rfl 7 (by decide) (va_Nw.use rfl (nzF_19 hZ)) (fun _ h9 => h9) rfl dX3_place_42 ?_
    refine lv_iload_n hx hb dX3_place_45 rfl (lv_at hl 1 rfl) ?_
    refine lv_iconst (v := 3) hx hb dX3_place_46 (by decide) ?_
    refine lv_imul hx hb dX3_place_47 ?_
    refine lv_iload_n hx hb dX3_place_48 rfl (lv_at hl 2 rfl) ?_
    refine lv_iadd hx hb dX3_place_49 ?_
    refine va_iald hx hb hK hP 9 0 rfl rfl (vin3 (by omega) (by decide)) dX3_place_50 ?_
    refine tp_i (y := hs (j * 3 + a)) (congrArg hs (vcl3 (by omega))) ?_
    refine lv_istore (lv' := [(4, .int (hs (j * 3 + a))), (0, .ref o0), (1, .int (nI j)), (2, .int (nI a)), (3, .int pt)]) hx hb dX3_place_51 hl (by decide) rfl (fun ls hl => ?_)
    refine lv_aload_n hx hb dX3_place_53 rfl (lv_at hl 1 rfl) ?_
    refine va_get (D := D) (ci := 3) (v := .ref a0) (C := RX3) (T := TX3) (N := 8) hx hb hg iX3 hown hK hP 0 rfl rfl 5 (by decide) (hg _ kw182) (fun _ h9 => h9) rfl dX3_place_54 ?_
    refine va_getN (D := D) (ci := 2) (v := .ref a7) (C := RX2) (T := TX2) (N := 13) hx hb hg iX2 hown hK hP 1 rfl rfl 6 (by decide) (va_Nw.use rfl (nzF_18 hZ)) (fun _ h9 => h9) rfl dX3_place_57 ?_
    refine lv_iload_n hx hb dX3_place_60 rfl (lv_at hl 2 rfl) ?_
    refine va_iald hx hb hK hP 8 0 rfl rfl (vp_in_nI (by omega) (by decide)) dX3_place_61 ?_
    refine tp_i (y := hl9 j) (congrArg hl9 (nI_clamp (by omega))) ?_
    refine lv_istore (lv' := [(5, .int (hl9 j)), (4, .int (hs (j * 3 + a))), (0, .ref o0), (1, .int (nI j)), (2, .int (nI a)), (3, .int pt)]) hx hb dX3_place_62 hl (by decide) rfl (fun ls hl => ?_)
    refine lv_iload hx hb dX3_place_64 (lv_at hl 1 rfl) ?_
    refine lv_iload hx hb dX3_place_66 (lv_at hl 0 rfl) ?_
    have hPc := hP.sub (ws' := []) [] rfl
    refine rq_call (va_runS (As := [.int (hs (j * 3 + a)), .int (hl9 j)]) (rest := []) ⟨hx, hb, hml, hown, hg⟩ (qX3_commonDivisor l D cI cZ cJ (hs (j * 3 + a)) (hl9 j)) (va_cwS 2 hg (gw_S kw448 kw411 kw36 kw412) rfl rfl rfl (by decide +kernel) ⟨Nat.le_of_ble_eq_true rfl, Nat.le_of_ble_eq_true rfl⟩) (pq_pre hPc hK hZ) rfl rfl hl.1 rfl (lv_room (Nat.le_of_ble_eq_true rfl)) dX3_place_68 ⟨Nat.le_of_ble_eq_true rfl, Nat.le_of_ble_eq_true rfl⟩) ?_
    refine tp_i (y := gD (hs (j * 3 + a)) (hl9 j)) (rfl) ?_
    refine lv_istore (lv' := [(6, .int (gD (hs (j * 3 + a)) (hl9 j))), (5, .int (hl9 j)), (4, .int (hs (j * 3 + a))), (0, .ref o0), (1, .int (nI j)), (2, .int (nI a)), (3, .int pt)]) hx hb dX3_place_71 hl (by decide) rfl (fun ls hl => ?_)
    refine lv_iload_n hx hb dX3_place_73 rfl (lv_at hl 6 rfl) ?_
    refine lv_if_ne (tgt := 86) hx hb dX3_place_74 (by decide) (fun c74 => ?_) (fun c74 => ?_)
    · refine lv_iload hx hb dX3_place_86 (lv_at hl 1 rfl) ?_
      refine lv_iload hx hb dX3_place_88 (lv_at hl 0 rfl) ?_
      refine lv_idiv hx hb dX3_place_90 (gD_ne _ _) ?_
      refine lv_i2l hx hb dX3_place_91 rfl ?_
      refine vx_ret ?_
      refine W.widen (k := 1) (n := 6) (Nat.le_of_ble_eq_true rfl) (Nat.le_of_ble_eq_true rfl) ?_
      exact W.lret (v := ((hl9 j) / (gD (hs (j * 3 + a)) (hl9 j))).toInt64) hx hb hr (fun t ht hW => ⟨⟨k_31, k_32, hok⟩, congrArg (fun z => Outcome.returned (some (Value.long z))) (by simp [placeF, cj, ca, c74]), ht⟩) (fun q hq => nomatch hq) dX3_place_92
    · refine lv_iload hx hb dX3_place_77 (lv_at hl 2 rfl) ?_
      refine lv_iload hx hb dX3_place_79 (lv_at hl 0 rfl) ?_
      refine lv_idiv hx hb dX3_place_81 (gD_ne _ _) ?_
      refine lv_i2l hx hb dX3_place_82 rfl ?_
      refine lv_goto (tgt := 92) hx hb dX3_place_83 (by decide) ?_
      refine vx_ret ?_
      refine W.widen (k := 1) (n := 6) (Nat.le_of_ble_eq_true rfl) (Nat.le_of_ble_eq_true rfl) ?_
      exact W.lret (v := ((hs (j * 3 + a)) / (gD (hs (j * 3 + a)) (hl9 j))).toInt64) hx hb hr (fun t ht hW => ⟨⟨k_31, k_32, hok⟩, congrArg (fun z => Outcome.returned (some (Value.long z))) (by simp [placeF, cj, ca, c74]), ht⟩) (fun q hq => nomatch hq) dX3_place_92
  refine lv_aload_n hx hb dX3_place_12 rfl (lv_at hl 0 rfl) ?_
  refine va_get (D := D) (ci := 3) (v := .int rw) (C := RX3) (T := TX3) (N := 8) hx hb hg iX3 hown hK hP 0 rfl rfl 6 (by decide) (hg _ kw183) (fun _ h9 => h9) rfl dX3_place_13 ?_
  refine lv_if_eq (tgt := 34) hx hb dX3_place_16 (by decide) (fun c16 => ?_) (fun c16 => ?_)
  · refine lv_iconst (v := 0) hx hb dX3_place_34 (by decide) ?_
    refine tp_i (y := bI (!decide (rw = 0) && (decide (0 ≤ k) && decide (k < nI nh)))) (by simp [bI, c16]) ?_
    exact J_33
  · refine lv_aload_n hx hb dX3_place_19 rfl (lv_at hl 0 rfl) ?_
    refine va_get (D := D) (ci := 3) (v := .ref a0) (C := RX3) (T := TX3) (N := 8) hx hb hg iX3 hown hK hP 0 rfl rfl 5 (by decide) (hg _ kw182) (fun _ h9 => h9) rfl dX3_place_20 ?_
    refine lv_iload_n hx hb dX3_place_23 rfl (lv_at hl 1 rfl) ?_
    have hPc := hP.sub (ws' := [(a0, .inr (2, [.ref a1, .ref a2, .ref a3, .ref a4, .ref a5, .ref a6, .ref a7, .ref a8, .ref a9, .ref a10, .ref a11, .int (nI nh), .int li])), (a1, .inl (cI, 3, .inl og)), (a2, .inl (cI, 3, .inl di)), (a3, .inl (cI, 3, .inl ar)), (a4, .inl (cI, 30, .inl ho)), (a5, .inl (cI, 30, .inl hx9)), (a6, .inl (cI, 30, .inl ha)), (a7, .inl (cI, 30, .inl hl9)), (a8, .inl (cI, 90, .inl hs)), (a9, .inr (1, [.int lb, .int la, .int lv, .int lw])), (a10, .inr (1, [.int nb9, .int na, .int nv, .int nw])), (a11, .inr (1, [.int tb, .int ta, .int tv, .int tw])), (b0, .inr (0, [.ref b1, .ref b2, .ref b3, .ref b4, .ref b5, .int cn])), (b1, .inl (cI, 60, .inl lo)), (b2, .inl (cI, 60, .inl hi)), (b3, .inl (cI, 20, .inl ki)), (b4, .inl (cI, 20, .inl sh)), (b5, .inl (cZ, 20, .inl of))]) [1, 2, 3, 4, 5, 6, 7, 8, 9, 10, 11, 12, 13, 14, 15, 16, 17, 18] rfl
    refine rq_call (va_runVN (As := [.int k]) (rest := []) ⟨hx, hb, hml, hown, hg⟩ (qX2_hasHit l D cI cZ cJ a0 a1 a2 a3 a4 a5 a6 a7 a8 a9 a10 a11 b0 b1 b2 b3 b4 b5 og di ar ho hx9 ha hl9 hs lb la lv lw nb9 na nv nw tb ta tv tw (nI nh) li lo hi ki sh of cn k) ⟨va_cnB 1 hg (gw_in kw440) rfl rfl rfl (nzM_12 hZ) (hg _ kw39) (by decide +kernel) ⟨Nat.le_of_ble_eq_true rfl, Nat.le_of_ble_eq_true rfl⟩, hg _ kw439, hg _ kw20⟩ (pq_preV hPc hK hZ (va_recv hK hPc (ci := 2) (q0 := 0) rfl rfl)) rfl rfl hl.1 rfl (lv_room (Nat.le_of_ble_eq_true rfl)) dX3_place_24 ⟨Nat.le_of_ble_eq_true rfl, Nat.le_of_ble_eq_true rfl⟩) ?_
    refine lv_if_eq (tgt := 34) hx hb dX3_place_27 (by decide) (fun c27 => ?_) (fun c27 => ?_)
    · replace c27 := bI_f c27
      refine lv_iconst (v := 0) hx hb dX3_place_34 (by decide) ?_
      refine tp_i (y := bI (!decide (rw = 0) && (decide (0 ≤ k) && decide (k < nI nh)))) (by simp [bI, c16, c27]) ?_
      exact J_33
    · replace c27 := bI_t c27
      refine lv_iconst (v := 1) hx hb dX3_place_30 (by decide) ?_
      refine lv_goto (tgt := 35) hx hb dX3_place_31 (by decide) ?_
      refine tp_i (y := bI (!decide (rw = 0) && (decide (0 ≤ k) && decide (k < nI nh)))) (by simp [bI, c16, c27]) ?_
      exact J_33

set_option maxHeartbeats 4000000 in
set_option maxRecDepth 100000 in
/-- ray -/
theorem qX3_ray (l : Launch) (hl0 : l.stackTraces = false) (D : va_G) (cI cZ cJ : ClassId) (a0 a1 a2 a3 a4 a5 a6 a7 a8 a9 a10 a11 : Nat) (b0 b1 b2 b3 b4 b5 : Nat) (o0 c2 c3 e0 : Nat) (sz0 fc rw : Int32) (og di ar ho hx9 ha hl9 hs : Nat → Int32) (lb la lv lw nb9 na nv nw tb ta tv tw : Int32) (nh0 li : Int32) (lo hi ki sh of : Nat → Int32) (nb : Nat) (hnb : nb ≤ 20) (x y z dx dy dz : Int32) (sz : Nat) : vx_Met l yX3_ray (Cond.code yX3_ray cX3_ray 7 (some .int) :: gw) ({ frames := 9, cells := 1, slots := 6, locals := 147 }) (uq D [.ref o0, .int x, .int y, .int z, .int dx, .int dy, .int dz] sz [(o0, .inr (3, [.int sz0, .ref b0, .ref c2, .ref c3, .int fc, .ref a0, .int rw, .ref e0])), (a0, .inr (2, [.ref a1, .ref a2, .ref a3, .ref a4, .ref a5, .ref a6, .ref a7, .ref a8, .ref a9, .ref a10, .ref a11, .int nh0, .int li])), (a1, .inl (cI, 3, .inl og)), (a2, .inl (cI, 3, .inl di)), (a3, .inl (cI, 3, .inl ar)), (a4, .inl (cI, 30, .inl ho)), (a5, .inl (cI, 30, .inl hx9)), (a6, .inl (cI, 30, .inl ha)), (a7, .inl (cI, 30, .inl hl9)), (a8, .inl (cI, 90, .inl hs)), (a9, .inr (1, [.int lb, .int la, .int lv, .int lw])), (a10, .inr (1, [.int nb9, .int na, .int nv, .int nw])), (a11, .inr (1, [.int tb, .int ta, .int tv, .int tw])), (b0, .inr (0, [.ref b1, .ref b2, .ref b3, .ref b4, .ref b5, .int (nI nb)])), (b1, .inl (cI, 60, .inl lo)), (b2, .inl (cI, 60, .inl hi)), (b3, .inl (cI, 20, .inl ki)), (b4, .inl (cI, 20, .inl sh)), (b5, .inl (cZ, 20, .inl of))] [(cI, .int), (cZ, .boolean), (cJ, .long)]) (fun z9 st o t => (ptR sz0 x y z ∧ dirR dx dy dz) ∧ va_Qi (S := FSt × Nat × (Int32 × Int32 × Int32 × Int32)) (fun r u => r = (foW lo hi ki sh of nb (upd (upd (upd og 0 x) 1 y) 2 z, upd (upd (upd di 0 dx) 1 dy) 2 dz, ar, ho, hx9, ha, hl9, hs, (-1, -1, 0, 1), (nb9, na, nv, nw), 1000000)).1 ∧ u.2.1 = (foW lo hi ki sh of nb (upd (upd (upd og 0 x) 1 y) 2 z, upd (upd (upd di 0 dx) 1 dy) 2 dz, ar, ho, hx9, ha, hl9, hs, (-1, -1, 0, 1), (nb9, na, nv, nw), 1000000)).2.1 ∧ u.1 = (foW lo hi ki sh of nb (upd (upd (upd og 0 x) 1 y) 2 z, upd (upd (upd di 0 dx) 1 dy) 2 dz, ar, ho, hx9, ha, hl9, hs, (-1, -1, 0, 1), (nb9, na, nv, nw), 1000000)).2.2) (fun u => bq D [(cI, .int), (cZ, .boolean), (cJ, .long)] (va_A [(o0, .inr (3, [.int sz0, .ref b0, .ref c2, .ref c3, .int fc, .ref a0, .int rw, .ref e0])), (a0, .inr (2, [.ref a1, .ref a2, .ref a3, .ref a4, .ref a5, .ref a6, .ref a7, .ref a8, .ref a9, .ref a10, .ref a11, .int nh0, .int li])), (a1, .inl (cI, 3, .inl og)), (a2, .inl (cI, 3, .inl di)), (a3, .inl (cI, 3, .inl ar)), (a4, .inl (cI, 30, .inl ho)), (a5, .inl (cI, 30, .inl hx9)), (a6, .inl (cI, 30, .inl ha)), (a7, .inl (cI, 30, .inl hl9)), (a8, .inl (cI, 90, .inl hs)), (a9, .inr (1, [.int lb, .int la, .int lv, .int lw])), (a10, .inr (1, [.int nb9, .int na, .int nv, .int nw])), (a11, .inr (1, [.int tb, .int ta, .int tv, .int tw])), (b0, .inr (0, [.ref b1, .ref b2, .ref b3, .ref b4, .ref b5, .int (nI nb)])), (b1, .inl (cI, 60, .inl lo)), (b2, .inl (cI, 60, .inl hi)), (b3, .inl (cI, 20, .inl ki)), (b4, .inl (cI, 20, .inl sh)), (b5, .inl (cZ, 20, .inl of))] sz) ([(o0, .inr (3, [.int sz0, .ref b0, .ref c2, .ref c3, .int fc, .ref a0, .int 1, .ref e0])), (a0, .inr (2, [.ref a1, .ref a2, .ref a3, .ref a4, .ref a5, .ref a6, .ref a7, .ref a8, .ref a9, .ref a10, .ref a11, .int (nI u.2.1), .int u.1.2.2.2.2.2.2.2.2.2.2])), (a1, .inl (cI, 3, .inl u.1.1)), (a2, .inl (cI, 3, .inl u.1.2.1)), (a3, .inl (cI, 3, .inl u.1.2.2.1)), (a4, .inl (cI, 30, .inl u.1.2.2.2.1)), (a5, .inl (cI, 30, .inl u.1.2.2.2.2.1)), (a6, .inl (cI, 30, .inl u.1.2.2.2.2.2.1)), (a7, .inl (cI, 30, .inl u.1.2.2.2.2.2.2.1)), (a8, .inl (cI, 90, .inl u.1.2.2.2.2.2.2.2.1)), (a9, .inr (1, [.int u.1.2.2.2.2.2.2.2.2.1.1, .int u.1.2.2.2.2.2.2.2.2.1.2.1, .int u.1.2.2.2.2.2.2.2.2.1.2.2.1, .int u.1.2.2.2.2.2.2.2.2.1.2.2.2])), (a10, .inr (1, [.int u.1.2.2.2.2.2.2.2.2.2.1.1, .int u.1.2.2.2.2.2.2.2.2.2.1.2.1, .int u.1.2.2.2.2.2.2.2.2.2.1.2.2.1, .int u.1.2.2.2.2.2.2.2.2.2.1.2.2.2])), (a11, .inr (1, [.int u.2.2.1, .int u.2.2.2.1, .int u.2.2.2.2.1, .int u.2.2.2.2.2])), (b0, .inr (0, [.ref b1, .ref b2, .ref b3, .ref b4, .ref b5, .int (nI nb)])), (b1, .inl (cI, 60, .inl lo)), (b2, .inl (cI, 60, .inl hi)), (b3, .inl (cI, 20, .inl ki)), (b4, .inl (cI, 20, .inl sh)), (b5, .inl (cZ, 20, .inl of))])) (va_A [(o0, .inr (3, [.int sz0, .ref b0, .ref c2, .ref c3, .int fc, .ref a0, .int rw, .ref e0])), (a0, .inr (2, [.ref a1, .ref a2, .ref a3, .ref a4, .ref a5, .ref a6, .ref a7, .ref a8, .ref a9, .ref a10, .ref a11, .int nh0, .int li])), (a1, .inl (cI, 3, .inl og)), (a2, .inl (cI, 3, .inl di)), (a3, .inl (cI, 3, .inl ar)), (a4, .inl (cI, 30, .inl ho)), (a5, .inl (cI, 30, .inl hx9)), (a6, .inl (cI, 30, .inl ha)), (a7, .inl (cI, 30, .inl hl9)), (a8, .inl (cI, 90, .inl hs)), (a9, .inr (1, [.int lb, .int la, .int lv, .int lw])), (a10, .inr (1, [.int nb9, .int na, .int nv, .int nw])), (a11, .inr (1, [.int tb, .int ta, .int tv, .int tw])), (b0, .inr (0, [.ref b1, .ref b2, .ref b3, .ref b4, .ref b5, .int (nI nb)])), (b1, .inl (cI, 60, .inl lo)), (b2, .inl (cI, 60, .inl hi)), (b3, .inl (cI, 20, .inl ki)), (b4, .inl (cI, 20, .inl sh)), (b5, .inl (cZ, 20, .inl of))] sz) z9 st o t) (cy_X (fun E => ¬ (ptR sz0 x y z ∧ dirR dx dy dz) ∧ E = sx_iae)) 1 6 (va_A [(o0, .inr (3, [.int sz0, .ref b0, .ref c2, .ref c3, .int fc, .ref a0, .int rw, .ref e0])), (a0, .inr (2, [.ref a1, .ref a2, .ref a3, .ref a4, .ref a5, .ref a6, .ref a7, .ref a8, .ref a9, .ref a10, .ref a11, .int nh0, .int li])), (a1, .inl (cI, 3, .inl og)), (a2, .inl (cI, 3, .inl di)), (a3, .inl (cI, 3, .inl ar)), (a4, .inl (cI, 30, .inl ho)), (a5, .inl (cI, 30, .inl hx9)), (a6, .inl (cI, 30, .inl ha)), (a7, .inl (cI, 30, .inl hl9)), (a8, .inl (cI, 90, .inl hs)), (a9, .inr (1, [.int lb, .int la, .int lv, .int lw])), (a10, .inr (1, [.int nb9, .int na, .int nv, .int nw])), (a11, .inr (1, [.int tb, .int ta, .int tv, .int tw])), (b0, .inr (0, [.ref b1, .ref b2, .ref b3, .ref b4, .ref b5, .int (nI nb)])), (b1, .inl (cI, 60, .inl lo)), (b2, .inl (cI, 60, .inl hi)), (b3, .inl (cI, 20, .inl ki)), (b4, .inl (cI, 20, .inl sh)), (b5, .inl (cZ, 20, .inl of))] sz) := by
  refine vx_ofW (cc := cX3_ray) (maxL := 7) (ret := (some .int)) (by decide) rfl ?_
  intro p e s m args below meth c s₁ B hml htab hv
  obtain ⟨rfl, hsz, hP, hK, hD0, hZ, hY⟩ := hv
  have hx := B.exec
  have hb := B.bytes
  have hr := B.returns
  have hg : ∀ w ∈ gw, w.before _ s = true := fun w h => atoms_spec (ws := Cond.code yX3_ray cX3_ray 7 (some .int) :: gw) B.pre w (List.mem_cons_of_mem _ h)
  have hown : s.vm.findClass RX3 = some m.cls := findClass_of_methodNamed B.named
  have hlocks := B.notSynchronized
  subst hsz
  have hD := hD0.self (sz := s.heap.size)
  generalize hAe : va_A [(o0, .inr (3, [.int sz0, .ref b0, .ref c2, .ref c3, .int fc, .ref a0, .int rw, .ref e0])), (a0, .inr (2, [.ref a1, .ref a2, .ref a3, .ref a4, .ref a5, .ref a6, .ref a7, .ref a8, .ref a9, .ref a10, .ref a11, .int nh0, .int li])), (a1, .inl (cI, 3, .inl og)), (a2, .inl (cI, 3, .inl di)), (a3, .inl (cI, 3, .inl ar)), (a4, .inl (cI, 30, .inl ho)), (a5, .inl (cI, 30, .inl hx9)), (a6, .inl (cI, 30, .inl ha)), (a7, .inl (cI, 30, .inl hl9)), (a8, .inl (cI, 90, .inl hs)), (a9, .inr (1, [.int lb, .int la, .int lv, .int lw])), (a10, .inr (1, [.int nb9, .int na, .int nv, .int nw])), (a11, .inr (1, [.int tb, .int ta, .int tv, .int tw])), (b0, .inr (0, [.ref b1, .ref b2, .ref b3, .ref b4, .ref b5, .int (nI nb)])), (b1, .inl (cI, 60, .inl lo)), (b2, .inl (cI, 60, .inl hi)), (b3, .inl (cI, 20, .inl ki)), (b4, .inl (cI, 20, .inl sh)), (b5, .inl (cZ, 20, .inl of))] s.heap.size = A at hD ⊢
  have hA : ∀ q : Nat, s.heap.size ≤ q → A q := fun q h => by rw [← hAe]; exact Or.inr h
  have hS : va_S A s.heap s.heap [] := va_S.rf
  have hP : va_P D vwCl [(o0, .inr (3, [.int sz0, .ref b0, .ref c2, .ref c3, .int fc, .ref a0, .int rw, .ref e0])), (a0, .inr (2, [.ref a1, .ref a2, .ref a3, .ref a4, .ref a5, .ref a6, .ref a7, .ref a8, .ref a9, .ref a10, .ref a11, .int nh0, .int li])), (a1, .inl (cI, 3, .inl og)), (a2, .inl (cI, 3, .inl di)), (a3, .inl (cI, 3, .inl ar)), (a4, .inl (cI, 30, .inl ho)), (a5, .inl (cI, 30, .inl hx9)), (a6, .inl (cI, 30, .inl ha)), (a7, .inl (cI, 30, .inl hl9)), (a8, .inl (cI, 90, .inl hs)), (a9, .inr (1, [.int lb, .int la, .int lv, .int lw])), (a10, .inr (1, [.int nb9, .int na, .int nv, .int nw])), (a11, .inr (1, [.int tb, .int ta, .int tv, .int tw])), (b0, .inr (0, [.ref b1, .ref b2, .ref b3, .ref b4, .ref b5, .int (nI nb)])), (b1, .inl (cI, 60, .inl lo)), (b2, .inl (cI, 60, .inl hi)), (b3, .inl (cI, 20, .inl ki)), (b4, .inl (cI, 20, .inl sh)), (b5, .inl (cZ, 20, .inl of))] s.heap := hP
  have hl := lv_entry ([.ref o0, .int x, .int y, .int z, .int dx, .int dy, .int dz]) (n := 7) (Nat.le_of_ble_eq_true rfl)
  rw [lg_entry_eq]
  generalize (lg_sl ([.ref o0, .int x, .int y, .int z, .int dx, .int dy, .int dz]) ++ List.replicate (7 - (lg_sl ([.ref o0, .int x, .int y, .int z, .int dx, .int dy, .int dz])).length) Slot.unset).toArray = ls at hl ⊢
  have hl : lv_has ls 7 [(0, .ref o0), (1, .int x), (2, .int y), (3, .int z), (4, .int dx), (5, .int dy), (6, .int dz)] := hl
  refine lv_aload_n hx hb dX3_ray_0 rfl (lv_at hl 0 rfl) ?_
  refine lv_iload_n hx hb dX3_ray_1 rfl (lv_at hl 1 rfl) ?_
  refine lv_iload_n hx hb dX3_ray_2 rfl (lv_at hl 2 rfl) ?_
  refine lv_iload_n hx hb dX3_ray_3 rfl (lv_at hl 3 rfl) ?_
  have hPc := hP.sub (ws' := [(o0, .inr (3, [.int sz0, .ref b0, .ref c2, .ref c3, .int fc, .ref a0, .int rw, .ref e0]))]) [0] rfl
  refine cx_pass (vx_runV (As := [.int x, .int y, .int z]) (rest := []) ⟨hx, hb, hml, hown, hg⟩ (qX3_demandPoint l hl0 D cI cZ cJ o0 b0 c2 c3 a0 e0 sz0 fc rw x y z) (cwV 3 hg (gw_V kw218 kw220 kw0 kw36 kw221) rfl rfl rfl (by decide +kernel) ⟨Nat.le_of_ble_eq_true rfl, Nat.le_of_ble_eq_true rfl⟩) (tq_preV hPc hK hZ hY (va_recv hK hPc (ci := 3) (q0 := 0) rfl rfl)) rfl rfl hl.1 rfl (lv_room (Nat.le_of_ble_eq_true rfl)) dX3_ray_4 ⟨Nat.le_of_ble_eq_true rfl, Nat.le_of_ble_eq_true rfl⟩) htab hlocks (Nat.le_of_ble_eq_true rfl) (Nat.le_of_ble_eq_true rfl) (fun E h9 => ⟨fun q => h9.1 q.1, h9.2⟩) (fun k_35 => ?_)
  refine lv_iload hx hb dX3_ray_7 (lv_at hl 4 rfl) ?_
  refine lv_iload hx hb dX3_ray_9 (lv_at hl 5 rfl) ?_
  refine lv_iload hx hb dX3_ray_11 (lv_at hl 6 rfl) ?_
  have hPc := hP.sub (ws' := []) [] rfl
  refine cx_pass (vx_runS (As := [.int dx, .int dy, .int dz]) (rest := []) ⟨hx, hb, hml, hown, hg⟩ (qX3_demandDirection l hl0 D cI cZ cJ dx dy dz) (va_cwS 3 hg (gw_S kw340 kw341 kw36 kw342) rfl rfl rfl (by decide +kernel) ⟨Nat.le_of_ble_eq_true rfl, Nat.le_of_ble_eq_true rfl⟩) (tq_pre hPc hK hZ hY) rfl rfl hl.1 rfl (lv_room (Nat.le_of_ble_eq_true rfl)) dX3_ray_13 ⟨Nat.le_of_ble_eq_true rfl, Nat.le_of_ble_eq_true rfl⟩) htab hlocks (Nat.le_of_ble_eq_true rfl) (Nat.le_of_ble_eq_true rfl) (fun E h9 => ⟨fun q => h9.1 q.2, h9.2⟩) (fun k_36 => ?_)
  refine lv_aload_n hx hb dX3_ray_16 rfl (lv_at hl 0 rfl) ?_
  refine va_get (D := D) (ci := 3) (v := .ref a0) (C := RX3) (T := TX3) (N := 8) hx hb hg iX3 hown hK hP 0 rfl rfl 5 (by decide) (hg _ kw182) (fun _ h9 => h9) rfl dX3_ray_17 ?_
  refine lv_iload_n hx hb dX3_ray_20 rfl (lv_at hl 1 rfl) ?_
  refine lv_iload_n hx hb dX3_ray_21 rfl (lv_at hl 2 rfl) ?_
  refine lv_iload_n hx hb dX3_ray_22 rfl (lv_at hl 3 rfl) ?_
  have hPc := hP.sub (ws' := [(a0, .inr (2, [.ref a1, .ref a2, .ref a3, .ref a4, .ref a5, .ref a6, .ref a7, .ref a8, .ref a9, .ref a10, .ref a11, .int nh0, .int li])), (a1, .inl (cI, 3, .inl og)), (a9, .inr (1, [.int lb, .int la, .int lv, .int lw]))]) [1, 2, 10] rfl
  have hDc := hD.sub (ws' := [(a0, .inr (2, [.ref a1, .ref a2, .ref a3, .ref a4, .ref a5, .ref a6, .ref a7, .ref a8, .ref a9, .ref a10, .ref a11, .int nh0, .int li])), (a1, .inl (cI, 3, .inl og)), (a9, .inr (1, [.int lb, .int la, .int lv, .int lw]))]) [1, 2, 10] (by decide) rfl
  have hFc := va_free (wc := [(a0, .inr (2, [.ref a1, .ref a2, .ref a3, .ref a4, .ref a5, .ref a6, .ref a7, .ref a8, .ref a9, .ref a10, .ref a11, .int nh0, .int li])), (a1, .inl (cI, 3, .inl og)), (a9, .inr (1, [.int lb, .int la, .int lv, .int lw]))]) hD hS hA [1, 2, 10] rfl
  refine va_callv (va_runVN (As := [.int x, .int y, .int z]) (rest := []) ⟨hx, hb, hml, hown, hg⟩ (qX2_begin l D cI cZ cJ a0 a1 a2 a3 a4 a5 a6 a7 a8 a9 a10 a11 og lb la lv lw nh0 li x y z s.heap.size) ⟨va_cnB 3 hg (gw_in kw346) rfl rfl rfl (nzM_4 hZ) (hg _ kw39) (by decide +kernel) ⟨Nat.le_of_ble_eq_true rfl, Nat.le_of_ble_eq_true rfl⟩, hg _ kw345, hg _ kw4⟩ (wq_preV hPc hK hDc hZ (va_recv hK hPc (ci := 2) (q0 := 0) rfl rfl)) rfl rfl hl.1 rfl (lv_room (Nat.le_of_ble_eq_true rfl)) dX3_ray_23 ⟨Nat.le_of_ble_eq_true rfl, Nat.le_of_ble_eq_true rfl⟩) hS (fun q _ h => hFc q h) hFc (fun u t H locs ht hvm hw hB hz1 hk1 hS => ?_)
  obtain ⟨hP1, hK1, hD1⟩ := hB
  rw [ht] at hP1
  try dsimp only at hw hP1 hD1
  obtain ⟨hP, hD⟩ := va_join (wr := [(o0, .inr (3, [.int sz0, .ref b0, .ref c2, .ref c3, .int fc, .ref a0, .int rw, .ref e0])), (a2, .inl (cI, 3, .inl di)), (a3, .inl (cI, 3, .inl ar)), (a4, .inl (cI, 30, .inl ho)), (a5, .inl (cI, 30, .inl hx9)), (a6, .inl (cI, 30, .inl ha)), (a7, .inl (cI, 30, .inl hl9)), (a8, .inl (cI, 90, .inl hs)), (a10, .inr (1, [.int nb9, .int na, .int nv, .int nw])), (a11, .inr (1, [.int tb, .int ta, .int tv, .int tw])), (b0, .inr (0, [.ref b1, .ref b2, .ref b3, .ref b4, .ref b5, .int (nI nb)])), (b1, .inl (cI, 60, .inl lo)), (b2, .inl (cI, 60, .inl hi)), (b3, .inl (cI, 20, .inl ki)), (b4, .inl (cI, 20, .inl sh)), (b5, .inl (cZ, 20, .inl of))]) (w1 := [(a0, .inr (2, [.ref a1, .ref a2, .ref a3, .ref a4, .ref a5, .ref a6, .ref a7, .ref a8, .ref a9, .ref a10, .ref a11, .int 0, .int 1000000])), (a1, .inl (cI, 3, .inl (upd (upd (upd og 0 x) 1 y) 2 z))), (a9, .inr (1, [.int (-1), .int (-1), .int 0, .int 1]))]) hP hD [1, 2, 10] [0, 3, 4, 5, 6, 7, 8, 9, 11, 12, 13, 14, 15, 16, 17, 18] rfl rfl (by decide) (by decide) hk1 hFc hP1 hD1
  replace hP := hP.sub (ws' := [(o0, .inr (3, [.int sz0, .ref b0, .ref c2, .ref c3, .int fc, .ref a0, .int rw, .ref e0])), (a0, .inr (2, [.ref a1, .ref a2, .ref a3, .ref a4, .ref a5, .ref a6, .ref a7, .ref a8, .ref a9, .ref a10, .ref a11, .int 0, .int 1000000])), (a1, .inl (cI, 3, .inl (upd (upd (upd og 0 x) 1 y) 2 z))), (a2, .inl (cI, 3, .inl di)), (a3, .inl (cI, 3, .inl ar)), (a4, .inl (cI, 30, .inl ho)), (a5, .inl (cI, 30, .inl hx9)), (a6, .inl (cI, 30, .inl ha)), (a7, .inl (cI, 30, .inl hl9)), (a8, .inl (cI, 90, .inl hs)), (a9, .inr (1, [.int (-1), .int (-1), .int 0, .int 1])), (a10, .inr (1, [.int nb9, .int na, .int nv, .int nw])), (a11, .inr (1, [.int tb, .int ta, .int tv, .int tw])), (b0, .inr (0, [.ref b1, .ref b2, .ref b3, .ref b4, .ref b5, .int (nI nb)])), (b1, .inl (cI, 60, .inl lo)), (b2, .inl (cI, 60, .inl hi)), (b3, .inl (cI, 20, .inl ki)), (b4, .inl (cI, 20, .inl sh)), (b5, .inl (cZ, 20, .inl of))]) [0, 16, 17, 1, 2, 3, 4, 5, 6, 7, 18, 8, 9, 10, 11, 12, 13, 14, 15] rfl
  replace hD := hD.sub (ws' := [(o0, .inr (3, [.int sz0, .ref b0, .ref c2, .ref c3, .int fc, .ref a0, .int rw, .ref e0])), (a0, .inr (2, [.ref a1, .ref a2, .ref a3, .ref a4, .ref a5, .ref a6, .ref a7, .ref a8, .ref a9, .ref a10, .ref a11, .int 0, .int 1000000])), (a1, .inl (cI, 3, .inl (upd (upd (upd og 0 x) 1 y) 2 z))), (a2, .inl (cI, 3, .inl di)), (a3, .inl (cI, 3, .inl ar)), (a4, .inl (cI, 30, .inl ho)), (a5, .inl (cI, 30, .inl hx9)), (a6, .inl (cI, 30, .inl ha)), (a7, .inl (cI, 30, .inl hl9)), (a8, .inl (cI, 90, .inl hs)), (a9, .inr (1, [.int (-1), .int (-1), .int 0, .int 1])), (a10, .inr (1, [.int nb9, .int na, .int nv, .int nw])), (a11, .inr (1, [.int tb, .int ta, .int tv, .int tw])), (b0, .inr (0, [.ref b1, .ref b2, .ref b3, .ref b4, .ref b5, .int (nI nb)])), (b1, .inl (cI, 60, .inl lo)), (b2, .inl (cI, 60, .inl hi)), (b3, .inl (cI, 20, .inl ki)), (b4, .inl (cI, 20, .inl sh)), (b5, .inl (cZ, 20, .inl of))]) [0, 16, 17, 1, 2, 3, 4, 5, 6, 7, 18, 8, 9, 10, 11, 12, 13, 14, 15] (by decide) rfl
  refine lv_aload_n hx hb dX3_ray_26 rfl (lv_at hl 0 rfl) ?_
  refine va_get (D := D) (ci := 3) (v := .ref a0) (C := RX3) (T := TX3) (N := 8) hx hb hg iX3 hown hK hP 0 rfl rfl 5 (by decide) (hg _ kw182) (fun _ h9 => h9) rfl dX3_ray_27 ?_
  refine lv_iload hx hb dX3_ray_30 (lv_at hl 4 rfl) ?_
  refine lv_iload hx hb dX3_ray_32 (lv_at hl 5 rfl) ?_
  refine lv_iload hx hb dX3_ray_34 (lv_at hl 6 rfl) ?_
  have hPc := hP.sub (ws' := [(a0, .inr (2, [.ref a1, .ref a2, .ref a3, .ref a4, .ref a5, .ref a6, .ref a7, .ref a8, .ref a9, .ref a10, .ref a11, .int 0, .int 1000000])), (a2, .inl (cI, 3, .inl di))]) [1, 3] rfl
  have hDc := hD.sub (ws' := [(a0, .inr (2, [.ref a1, .ref a2, .ref a3, .ref a4, .ref a5, .ref a6, .ref a7, .ref a8, .ref a9, .ref a10, .ref a11, .int 0, .int 1000000])), (a2, .inl (cI, 3, .inl di))]) [1, 3] (by decide) rfl
  have hFc := va_free (wc := [(a0, .inr (2, [.ref a1, .ref a2, .ref a3, .ref a4, .ref a5, .ref a6, .ref a7, .ref a8, .ref a9, .ref a10, .ref a11, .int 0, .int 1000000])), (a2, .inl (cI, 3, .inl di))]) hD hS hA [1, 3] rfl
  refine va_callv (va_runVN (As := [.int dx, .int dy, .int dz]) (rest := []) ⟨hx, hb, hml, hown, hg⟩ (qX2_aim l D cI cZ cJ a0 a1 a2 a3 a4 a5 a6 a7 a8 a9 a10 a11 di 0 1000000 dx dy dz H.size) ⟨va_cnB 3 hg (gw_in kw355) rfl rfl rfl (nzM_6 hZ) (hg _ kw39) (by decide +kernel) ⟨Nat.le_of_ble_eq_true rfl, Nat.le_of_ble_eq_true rfl⟩, hg _ kw354, hg _ kw6⟩ (wq_preV hPc hK hDc hZ (va_recv hK hPc (ci := 2) (q0 := 0) rfl rfl)) rfl rfl hl.1 rfl (lv_room (Nat.le_of_ble_eq_true rfl)) dX3_ray_36 ⟨Nat.le_of_ble_eq_true rfl, Nat.le_of_ble_eq_true rfl⟩) hS (fun q _ h => hFc q h) hFc (fun u t H locs ht hvm hw hB hz1 hk1 hS => ?_)
  obtain ⟨hP1, hK1, hD1⟩ := hB
  rw [ht] at hP1
  try dsimp only at hw hP1 hD1
  obtain ⟨hP, hD⟩ := va_join (wr := [(o0, .inr (3, [.int sz0, .ref b0, .ref c2, .ref c3, .int fc, .ref a0, .int rw, .ref e0])), (a1, .inl (cI, 3, .inl (upd (upd (upd og 0 x) 1 y) 2 z))), (a3, .inl (cI, 3, .inl ar)), (a4, .inl (cI, 30, .inl ho)), (a5, .inl (cI, 30, .inl hx9)), (a6, .inl (cI, 30, .inl ha)), (a7, .inl (cI, 30, .inl hl9)), (a8, .inl (cI, 90, .inl hs)), (a9, .inr (1, [.int (-1), .int (-1), .int 0, .int 1])), (a10, .inr (1, [.int nb9, .int na, .int nv, .int nw])), (a11, .inr (1, [.int tb, .int ta, .int tv, .int tw])), (b0, .inr (0, [.ref b1, .ref b2, .ref b3, .ref b4, .ref b5, .int (nI nb)])), (b1, .inl (cI, 60, .inl lo)), (b2, .inl (cI, 60, .inl hi)), (b3, .inl (cI, 20, .inl ki)), (b4, .inl (cI, 20, .inl sh)), (b5, .inl (cZ, 20, .inl of))]) (w1 := [(a0, .inr (2, [.ref a1, .ref a2, .ref a3, .ref a4, .ref a5, .ref a6, .ref a7, .ref a8, .ref a9, .ref a10, .ref a11, .int 0, .int 1000000])), (a2, .inl (cI, 3, .inl (upd (upd (upd di 0 dx) 1 dy) 2 dz)))]) hP hD [1, 3] [0, 2, 4, 5, 6, 7, 8, 9, 10, 11, 12, 13, 14, 15, 16, 17, 18] rfl rfl (by decide) (by decide) hk1 hFc hP1 hD1
  replace hP := hP.sub (ws' := [(o0, .inr (3, [.int sz0, .ref b0, .ref c2, .ref c3, .int fc, .ref a0, .int rw, .ref e0])), (a0, .inr (2, [.ref a1, .ref a2, .ref a3, .ref a4, .ref a5, .ref a6, .ref a7, .ref a8, .ref a9, .ref a10, .ref a11, .int 0, .int 1000000])), (a1, .inl (cI, 3, .inl (upd (upd (upd og 0 x) 1 y) 2 z))), (a2, .inl (cI, 3, .inl (upd (upd (upd di 0 dx) 1 dy) 2 dz))), (a3, .inl (cI, 3, .inl ar)), (a4, .inl (cI, 30, .inl ho)), (a5, .inl (cI, 30, .inl hx9)), (a6, .inl (cI, 30, .inl ha)), (a7, .inl (cI, 30, .inl hl9)), (a8, .inl (cI, 90, .inl hs)), (a9, .inr (1, [.int (-1), .int (-1), .int 0, .int 1])), (a10, .inr (1, [.int nb9, .int na, .int nv, .int nw])), (a11, .inr (1, [.int tb, .int ta, .int tv, .int tw])), (b0, .inr (0, [.ref b1, .ref b2, .ref b3, .ref b4, .ref b5, .int (nI nb)])), (b1, .inl (cI, 60, .inl lo)), (b2, .inl (cI, 60, .inl hi)), (b3, .inl (cI, 20, .inl ki)), (b4, .inl (cI, 20, .inl sh)), (b5, .inl (cZ, 20, .inl of))]) [0, 17, 1, 18, 2, 3, 4, 5, 6, 7, 8, 9, 10, 11, 12, 13, 14, 15, 16] rfl
  replace hD := hD.sub (ws' := [(o0, .inr (3, [.int sz0, .ref b0, .ref c2, .ref c3, .int fc, .ref a0, .int rw, .ref e0])), (a0, .inr (2, [.ref a1, .ref a2, .ref a3, .ref a4, .ref a5, .ref a6, .ref a7, .ref a8, .ref a9, .ref a10, .ref a11, .int 0, .int 1000000])), (a1, .inl (cI, 3, .inl (upd (upd (upd og 0 x) 1 y) 2 z))), (a2, .inl (cI, 3, .inl (upd (upd (upd di 0 dx) 1 dy) 2 dz))), (a3, .inl (cI, 3, .inl ar)), (a4, .inl (cI, 30, .inl ho)), (a5, .inl (cI, 30, .inl hx9)), (a6, .inl (cI, 30, .inl ha)), (a7, .inl (cI, 30, .inl hl9)), (a8, .inl (cI, 90, .inl hs)), (a9, .inr (1, [.int (-1), .int (-1), .int 0, .int 1])), (a10, .inr (1, [.int nb9, .int na, .int nv, .int nw])), (a11, .inr (1, [.int tb, .int ta, .int tv, .int tw])), (b0, .inr (0, [.ref b1, .ref b2, .ref b3, .ref b4, .ref b5, .int (nI nb)])), (b1, .inl (cI, 60, .inl lo)), (b2, .inl (cI, 60, .inl hi)), (b3, .inl (cI, 20, .inl ki)), (b4, .inl (cI, 20, .inl sh)), (b5, .inl (cZ, 20, .inl of))]) [0, 17, 1, 18, 2, 3, 4, 5, 6, 7, 8, 9, 10, 11, 12, 13, 14, 15, 16] (by decide) rfl
  refine lv_aload_n hx hb dX3_ray_39 rfl (lv_at hl 0 rfl) ?_
  refine lv_iconst (v := 1) hx hb dX3_ray_40 (by decide) ?_
  refine va_put (D := D) (ci := 3) (v := .int 1) (ty := .boolean) (C := RX3) (T := TX3) (N := 8) hx hb hg iX3 tyX3 tyX3_ok nmX3 hown hK hP hD hS 0 rfl rfl 6 (by decide) (hg _ kw183) (fun _ h9 => h9) rfl (by decide +kernel) rfl rfl (Nat.le_of_ble_eq_true rfl) dX3_ray_41 (fun H locs hP hD hS => ?_)
  have hP : va_P D vwCl [(o0, .inr (3, [.int sz0, .ref b0, .ref c2, .ref c3, .int fc, .ref a0, .int 1, .ref e0])), (a0, .inr (2, [.ref a1, .ref a2, .ref a3, .ref a4, .ref a5, .ref a6, .ref a7, .ref a8, .ref a9, .ref a10, .ref a11, .int 0, .int 1000000])), (a1, .inl (cI, 3, .inl (upd (upd (upd og 0 x) 1 y) 2 z))), (a2, .inl (cI, 3, .inl (upd (upd (upd di 0 dx) 1 dy) 2 dz))), (a3, .inl (cI, 3, .inl ar)), (a4, .inl (cI, 30, .inl ho)), (a5, .inl (cI, 30, .inl hx9)), (a6, .inl (cI, 30, .inl ha)), (a7, .inl (cI, 30, .inl hl9)), (a8, .inl (cI, 90, .inl hs)), (a9, .inr (1, [.int (-1), .int (-1), .int 0, .int 1])), (a10, .inr (1, [.int nb9, .int na, .int nv, .int nw])), (a11, .inr (1, [.int tb, .int ta, .int tv, .int tw])), (b0, .inr (0, [.ref b1, .ref b2, .ref b3, .ref b4, .ref b5, .int (nI nb)])), (b1, .inl (cI, 60, .inl lo)), (b2, .inl (cI, 60, .inl hi)), (b3, .inl (cI, 20, .inl ki)), (b4, .inl (cI, 20, .inl sh)), (b5, .inl (cZ, 20, .inl of))] H := hP
  have hD : va_D A [(o0, .inr (3, [.int sz0, .ref b0, .ref c2, .ref c3, .int fc, .ref a0, .int 1, .ref e0])), (a0, .inr (2, [.ref a1, .ref a2, .ref a3, .ref a4, .ref a5, .ref a6, .ref a7, .ref a8, .ref a9, .ref a10, .ref a11, .int 0, .int 1000000])), (a1, .inl (cI, 3, .inl (upd (upd (upd og 0 x) 1 y) 2 z))), (a2, .inl (cI, 3, .inl (upd (upd (upd di 0 dx) 1 dy) 2 dz))), (a3, .inl (cI, 3, .inl ar)), (a4, .inl (cI, 30, .inl ho)), (a5, .inl (cI, 30, .inl hx9)), (a6, .inl (cI, 30, .inl ha)), (a7, .inl (cI, 30, .inl hl9)), (a8, .inl (cI, 90, .inl hs)), (a9, .inr (1, [.int (-1), .int (-1), .int 0, .int 1])), (a10, .inr (1, [.int nb9, .int na, .int nv, .int nw])), (a11, .inr (1, [.int tb, .int ta, .int tv, .int tw])), (b0, .inr (0, [.ref b1, .ref b2, .ref b3, .ref b4, .ref b5, .int (nI nb)])), (b1, .inl (cI, 60, .inl lo)), (b2, .inl (cI, 60, .inl hi)), (b3, .inl (cI, 20, .inl ki)), (b4, .inl (cI, 20, .inl sh)), (b5, .inl (cZ, 20, .inl of))] := hD
  refine lv_aload_n hx hb dX3_ray_44 rfl (lv_at hl 0 rfl) ?_
  refine va_get (D := D) (ci := 3) (v := .ref a0) (C := RX3) (T := TX3) (N := 8) hx hb hg iX3 hown hK hP 0 rfl rfl 5 (by decide) (hg _ kw182) (fun _ h9 => h9) rfl dX3_ray_45 ?_
  refine lv_aload_n hx hb dX3_ray_48 rfl (lv_at hl 0 rfl) ?_
  refine va_get (D := D) (ci := 3) (v := .ref b0) (C := RX3) (T := TX3) (N := 8) hx hb hg iX3 hown hK hP 0 rfl rfl 1 (by decide) (hg _ kw178) (fun _ h9 => h9) rfl dX3_ray_49 ?_
  have hnb2 := hnb
  have hPc := hP.sub (ws' := [(a0, .inr (2, [.ref a1, .ref a2, .ref a3, .ref a4, .ref a5, .ref a6, .ref a7, .ref a8, .ref a9, .ref a10, .ref a11, .int 0, .int 1000000])), (a1, .inl (cI, 3, .inl (upd (upd (upd og 0 x) 1 y) 2 z))), (a2, .inl (cI, 3, .inl (upd (upd (upd di 0 dx) 1 dy) 2 dz))), (a3, .inl (cI, 3, .inl ar)), (a4, .inl (cI, 30, .inl ho)), (a5, .inl (cI, 30, .inl hx9)), (a6, .inl (cI, 30, .inl ha)), (a7, .inl (cI, 30, .inl hl9)), (a8, .inl (cI, 90, .inl hs)), (a9, .inr (1, [.int (-1), .int (-1), .int 0, .int 1])), (a10, .inr (1, [.int nb9, .int na, .int nv, .int nw])), (a11, .inr (1, [.int tb, .int ta, .int tv, .int tw])), (b0, .inr (0, [.ref b1, .ref b2, .ref b3, .ref b4, .ref b5, .int (nI nb)])), (b1, .inl (cI, 60, .inl lo)), (b2, .inl (cI, 60, .inl hi)), (b3, .inl (cI, 20, .inl ki)), (b4, .inl (cI, 20, .inl sh)), (b5, .inl (cZ, 20, .inl of))]) [1, 2, 3, 4, 5, 6, 7, 8, 9, 10, 11, 12, 13, 14, 15, 16, 17, 18] rfl
  have hDc := hD.sub (ws' := [(a0, .inr (2, [.ref a1, .ref a2, .ref a3, .ref a4, .ref a5, .ref a6, .ref a7, .ref a8, .ref a9, .ref a10, .ref a11, .int 0, .int 1000000])), (a1, .inl (cI, 3, .inl (upd (upd (upd og 0 x) 1 y) 2 z))), (a2, .inl (cI, 3, .inl (upd (upd (upd di 0 dx) 1 dy) 2 dz))), (a3, .inl (cI, 3, .inl ar)), (a4, .inl (cI, 30, .inl ho)), (a5, .inl (cI, 30, .inl hx9)), (a6, .inl (cI, 30, .inl ha)), (a7, .inl (cI, 30, .inl hl9)), (a8, .inl (cI, 90, .inl hs)), (a9, .inr (1, [.int (-1), .int (-1), .int 0, .int 1])), (a10, .inr (1, [.int nb9, .int na, .int nv, .int nw])), (a11, .inr (1, [.int tb, .int ta, .int tv, .int tw])), (b0, .inr (0, [.ref b1, .ref b2, .ref b3, .ref b4, .ref b5, .int (nI nb)])), (b1, .inl (cI, 60, .inl lo)), (b2, .inl (cI, 60, .inl hi)), (b3, .inl (cI, 20, .inl ki)), (b4, .inl (cI, 20, .inl sh)), (b5, .inl (cZ, 20, .inl of))]) [1, 2, 3, 4, 5, 6, 7, 8, 9, 10, 11, 12, 13, 14, 15, 16, 17, 18] (by decide) rfl
  have hFc := va_free (wc := [(a0, .inr (2, [.ref a1, .ref a2, .ref a3, .ref a4, .ref a5, .ref a6, .ref a7, .ref a8, .ref a9, .ref a10, .ref a11, .int 0, .int 1000000])), (a1, .inl (cI, 3, .inl (upd (upd (upd og 0 x) 1 y) 2 z))), (a2, .inl (cI, 3, .inl (upd (upd (upd di 0 dx) 1 dy) 2 dz))), (a3, .inl (cI, 3, .inl ar)), (a4, .inl (cI, 30, .inl ho)), (a5, .inl (cI, 30, .inl hx9)), (a6, .inl (cI, 30, .inl ha)), (a7, .inl (cI, 30, .inl hl9)), (a8, .inl (cI, 90, .inl hs)), (a9, .inr (1, [.int (-1), .int (-1), .int 0, .int 1])), (a10, .inr (1, [.int nb9, .int na, .int nv, .int nw])), (a11, .inr (1, [.int tb, .int ta, .int tv, .int tw])), (b0, .inr (0, [.ref b1, .ref b2, .ref b3, .ref b4, .ref b5, .int (nI nb)])), (b1, .inl (cI, 60, .inl lo)), (b2, .inl (cI, 60, .inl hi)), (b3, .inl (cI, 20, .inl ki)), (b4, .inl (cI, 20, .inl sh)), (b5, .inl (cZ, 20, .inl of))]) hD hS hA [1, 2, 3, 4, 5, 6, 7, 8, 9, 10, 11, 12, 13, 14, 15, 16, 17, 18] rfl
  refine va_calli (va_runVN (As := [.ref b0]) (rest := []) ⟨hx, hb, hml, hown, hg⟩ (qX2_follow l D cI cZ cJ a0 a1 a2 a3 a4 a5 a6 a7 a8 a9 a10 a11 b0 b1 b2 b3 b4 b5 (upd (upd (upd og 0 x) 1 y) 2 z) (upd (upd (upd di 0 dx) 1 dy) 2 dz) ar ho hx9 ha hl9 hs (-1) (-1) 0 1 nb9 na nv nw tb ta tv tw 1000000 lo hi ki sh of nb hnb H.size) ⟨va_cnB 1 hg (gw_in kw359) rfl rfl rfl (nzM_7 hZ) (hg _ kw39) (by decide +kernel) ⟨Nat.le_of_ble_eq_true rfl, Nat.le_of_ble_eq_true rfl⟩, hg _ kw358, hg _ kw7⟩ (wq_preV hPc hK hDc hZ (va_recv hK hPc (ci := 2) (q0 := 0) rfl rfl)) rfl rfl hl.1 rfl (lv_room (Nat.le_of_ble_eq_true rfl)) dX3_ray_52 ⟨Nat.le_of_ble_eq_true rfl, Nat.le_of_ble_eq_true rfl⟩) hS (fun q _ h => hFc q h) hFc (fun r_38 u t H locs ht hvm hwo_37 hB hz1 hk1 hS => ?_)
  obtain ⟨⟨g1, g2, g3, g4, g5, g6, g7, g8, ⟨l1, l2, l3, l4⟩, ⟨n1, n2, n3, n4⟩, li1⟩, h1, ⟨t1, t2, t3, t4⟩⟩ := u
  obtain ⟨hP1, hK1, hD1⟩ := hB
  rw [ht] at hP1
  try dsimp only at hwo_37 hP1 hD1
  obtain ⟨hP, hD⟩ := va_join (wr := [(o0, .inr (3, [.int sz0, .ref b0, .ref c2, .ref c3, .int fc, .ref a0, .int 1, .ref e0]))]) (w1 := [(a0, .inr (2, [.ref a1, .ref a2, .ref a3, .ref a4, .ref a5, .ref a6, .ref a7, .ref a8, .ref a9, .ref a10, .ref a11, .int (nI h1), .int li1])), (a1, .inl (cI, 3, .inl g1)), (a2, .inl (cI, 3, .inl g2)), (a3, .inl (cI, 3, .inl g3)), (a4, .inl (cI, 30, .inl g4)), (a5, .inl (cI, 30, .inl g5)), (a6, .inl (cI, 30, .inl g6)), (a7, .inl (cI, 30, .inl g7)), (a8, .inl (cI, 90, .inl g8)), (a9, .inr (1, [.int l1, .int l2, .int l3, .int l4])), (a10, .inr (1, [.int n1, .int n2, .int n3, .int n4])), (a11, .inr (1, [.int t1, .int t2, .int t3, .int t4])), (b0, .inr (0, [.ref b1, .ref b2, .ref b3, .ref b4, .ref b5, .int (nI nb)])), (b1, .inl (cI, 60, .inl lo)), (b2, .inl (cI, 60, .inl hi)), (b3, .inl (cI, 20, .inl ki)), (b4, .inl (cI, 20, .inl sh)), (b5, .inl (cZ, 20, .inl of))]) hP hD [1, 2, 3, 4, 5, 6, 7, 8, 9, 10, 11, 12, 13, 14, 15, 16, 17, 18] [0] rfl rfl (by decide) (by decide) hk1 hFc hP1 hD1
  replace hP := hP.sub (ws' := [(o0, .inr (3, [.int sz0, .ref b0, .ref c2, .ref c3, .int fc, .ref a0, .int 1, .ref e0])), (a0, .inr (2, [.ref a1, .ref a2, .ref a3, .ref a4, .ref a5, .ref a6, .ref a7, .ref a8, .ref a9, .ref a10, .ref a11, .int (nI h1), .int li1])), (a1, .inl (cI, 3, .inl g1)), (a2, .inl (cI, 3, .inl g2)), (a3, .inl (cI, 3, .inl g3)), (a4, .inl (cI, 30, .inl g4)), (a5, .inl (cI, 30, .inl g5)), (a6, .inl (cI, 30, .inl g6)), (a7, .inl (cI, 30, .inl g7)), (a8, .inl (cI, 90, .inl g8)), (a9, .inr (1, [.int l1, .int l2, .int l3, .int l4])), (a10, .inr (1, [.int n1, .int n2, .int n3, .int n4])), (a11, .inr (1, [.int t1, .int t2, .int t3, .int t4])), (b0, .inr (0, [.ref b1, .ref b2, .ref b3, .ref b4, .ref b5, .int (nI nb)])), (b1, .inl (cI, 60, .inl lo)), (b2, .inl (cI, 60, .inl hi)), (b3, .inl (cI, 20, .inl ki)), (b4, .inl (cI, 20, .inl sh)), (b5, .inl (cZ, 20, .inl of))]) [0, 1, 2, 3, 4, 5, 6, 7, 8, 9, 10, 11, 12, 13, 14, 15, 16, 17, 18] rfl
  replace hD := hD.sub (ws' := [(o0, .inr (3, [.int sz0, .ref b0, .ref c2, .ref c3, .int fc, .ref a0, .int 1, .ref e0])), (a0, .inr (2, [.ref a1, .ref a2, .ref a3, .ref a4, .ref a5, .ref a6, .ref a7, .ref a8, .ref a9, .ref a10, .ref a11, .int (nI h1), .int li1])), (a1, .inl (cI, 3, .inl g1)), (a2, .inl (cI, 3, .inl g2)), (a3, .inl (cI, 3, .inl g3)), (a4, .inl (cI, 30, .inl g4)), (a5, .inl (cI, 30, .inl g5)), (a6, .inl (cI, 30, .inl g6)), (a7, .inl (cI, 30, .inl g7)), (a8, .inl (cI, 90, .inl g8)), (a9, .inr (1, [.int l1, .int l2, .int l3, .int l4])), (a10, .inr (1, [.int n1, .int n2, .int n3, .int n4])), (a11, .inr (1, [.int t1, .int t2, .int t3, .int t4])), (b0, .inr (0, [.ref b1, .ref b2, .ref b3, .ref b4, .ref b5, .int (nI nb)])), (b1, .inl (cI, 60, .inl lo)), (b2, .inl (cI, 60, .inl hi)), (b3, .inl (cI, 20, .inl ki)), (b4, .inl (cI, 20, .inl sh)), (b5, .inl (cZ, 20, .inl of))]) [0, 1, 2, 3, 4, 5, 6, 7, 8, 9, 10, 11, 12, 13, 14, 15, 16, 17, 18] (by decide) rfl
  refine vx_ret ?_
  refine W.widen (k := 1) (n := 6) (Nat.le_of_ble_eq_true rfl) (Nat.le_of_ble_eq_true rfl) ?_
  exact W.iret (v := r_38) hx hb hr (fun t ht hW => ⟨⟨k_35, k_36⟩, ⟨⟨r_38, ((g1, g2, g3, g4, g5, g6, g7, g8, (l1, l2, l3, l4), (n1, n2, n3, n4), li1), h1, (t1, t2, t3, t4)), rfl, hwo_37, bq_end hP hK hD ht hW⟩, hS.F ht⟩⟩) hS.2.2 dX3_ray_55
