def geB (sp lo a : Int32) : Bool := decide (lo < sp) || (decide (sp = lo) && decide (a < 0))
def leB (sp hi a : Int32) : Bool := decide (sp < hi) || (decide (sp = hi) && decide (0 < a))
def cameK (lo hi og di ar : Nat → Int32) (lv lw : Int32) (k j : Nat) : Bool := geB (og k * lw + di k * lv) (lo j * lw) (ar k) && leB (og k * lw + di k * lv) (hi j * lw) (ar k)
/-- it was in the inside of the box i just before the latest hit's time -/
def cameB (lo hi og di ar : Nat → Int32) (lv lw : Int32) (i : Nat) : Bool := !decide (lv = 0) && (cameK lo hi og di ar lv lw 0 (i * 3) && (cameK lo hi og di ar lv lw 1 (i * 3 + 1) && cameK lo hi og di ar lv lw 2 (i * 3 + 2)))
def countsB (lo hi og di ar : Nat → Int32) (lb lv lw tv tw : Int32) (i : Nat) : Bool := if cmpI (tv * lw) (lv * tw) = 0 then (decide (lb < nI i) && !cameB lo hi og di ar lv lw i) else decide (0 < cmpI (tv * lw) (lv * tw))

set_option maxHeartbeats 4000000 in
set_option maxRecDepth 100000 in
/-- Path.cameInside -/
theorem qX2_cameInside (l : Launch) (D : va_G) (cI cZ cJ : ClassId) (a0 a1 a2 a3 a4 a5 a6 a7 a8 a9 a10 a11 : Nat) (b0 b1 b2 b3 b4 b5 : Nat) (og di ar ho hx9 ha hl9 hs : Nat → Int32) (lb la lv lw nb9 na nv nw tb ta tv tw : Int32) (nh0 li : Int32) (lo hi ki sh of : Nat → Int32) (cn : Int32) (i : Nat) (hi2 : i < 20) : Met l yX2_cameInside (Cond.code yX2_cameInside cX2_cameInside 9 (some .boolean) :: gw) ({ frames := 1, cells := 0, slots := 0, locals := 21 }) (pq D [.ref a0, .ref b0, .int (nI i)] [(a0, .inr (2, [.ref a1, .ref a2, .ref a3, .ref a4, .ref a5, .ref a6, .ref a7, .ref a8, .ref a9, .ref a10, .ref a11, .int nh0, .int li])), (a1, .inl (cI, 3, .inl og)), (a2, .inl (cI, 3, .inl di)), (a3, .inl (cI, 3, .inl ar)), (a4, .inl (cI, 30, .inl ho)), (a5, .inl (cI, 30, .inl hx9)), (a6, .inl (cI, 30, .inl ha)), (a7, .inl (cI, 30, .inl hl9)), (a8, .inl (cI, 90, .inl hs)), (a9, .inr (1, [.int lb, .int la, .int lv, .int lw])), (a10, .inr (1, [.int nb9, .int na, .int nv, .int nw])), (a11, .inr (1, [.int tb, .int ta, .int tv, .int tw])), (b0, .inr (0, [.ref b1, .ref b2, .ref b3, .ref b4, .ref b5, .int cn])), (b1, .inl (cI, 60, .inl lo)), (b2, .inl (cI, 60, .inl hi)), (b3, .inl (cI, 20, .inl ki)), (b4, .inl (cI, 20, .inl sh)), (b5, .inl (cZ, 20, .inl of))] [(cI, .int), (cZ, .boolean), (cJ, .long)]) (QcRead (bI (cameB lo hi og di ar lv lw i))) 0 0 (fun _ => False) := by
  refine Met.ofW (cc := cX2_cameInside) (maxL := 9) (ret := (some .boolean)) (by decide) rfl ?_
  intro p e s m args below meth c s₁ B hml hv
  obtain ⟨rfl, hP, hK, hZ⟩ := hv
  have hx := B.exec
  have hb := B.bytes
  have hr := B.returns
  have hg : ∀ w ∈ gw, w.before _ s = true := fun w h => atoms_spec (ws := Cond.code yX2_cameInside cX2_cameInside 9 (some .boolean) :: gw) B.pre w (List.mem_cons_of_mem _ h)
  have hown : s.vm.findClass RX2 = some m.cls := findClass_of_methodNamed B.named
  have hlocks := B.notSynchronized
  have hP : va_P D vwCl [(a0, .inr (2, [.ref a1, .ref a2, .ref a3, .ref a4, .ref a5, .ref a6, .ref a7, .ref a8, .ref a9, .ref a10, .ref a11, .int nh0, .int li])), (a1, .inl (cI, 3, .inl og)), (a2, .inl (cI, 3, .inl di)), (a3, .inl (cI, 3, .inl ar)), (a4, .inl (cI, 30, .inl ho)), (a5, .inl (cI, 30, .inl hx9)), (a6, .inl (cI, 30, .inl ha)), (a7, .inl (cI, 30, .inl hl9)), (a8, .inl (cI, 90, .inl hs)), (a9, .inr (1, [.int lb, .int la, .int lv, .int lw])), (a10, .inr (1, [.int nb9, .int na, .int nv, .int nw])), (a11, .inr (1, [.int tb, .int ta, .int tv, .int tw])), (b0, .inr (0, [.ref b1, .ref b2, .ref b3, .ref b4, .ref b5, .int cn])), (b1, .inl (cI, 60, .inl lo)), (b2, .inl (cI, 60, .inl hi)), (b3, .inl (cI, 20, .inl ki)), (b4, .inl (cI, 20, .inl sh)), (b5, .inl (cZ, 20, .inl of))] s.heap := hP
  have hl := lv_entry ([.ref a0, .ref b0, .int (nI i)]) (n := 9) (Nat.le_of_ble_eq_true rfl)
  rw [lg_entry_eq]
  generalize (lg_sl ([.ref a0, .ref b0, .int (nI i)]) ++ List.replicate (9 - (lg_sl ([.ref a0, .ref b0, .int (nI i)])).length) Slot.unset).toArray = ls at hl ⊢
  have hl : lv_has ls 9 [(0, .ref a0), (1, .ref b0), (2, .int (nI i))] := hl
  refine lv_aload_n hx hb dX2_cameInside_0 rfl (lv_at hl 0 rfl) ?_
  refine va_get (D := D) (ci := 2) (v := .ref a9) (C := RX2) (T := TX2) (N := 13) hx hb hg iX2 hown hK hP 0 rfl rfl 8 (by decide) (hg _ kw143) (fun _ h9 => h9) rfl dX2_cameInside_1 ?_
  refine va_getN (D := D) (ci := 1) (v := .int lv) (C := RX1) (T := TX1) (N := 4) hx hb hg iX1 hown hK hP 9 rfl rfl 2 (by decide) (va_Nw.use rfl (nzF_12 hZ)) (fun _ h9 => h9) rfl dX2_cameInside_4 ?_
  refine lv_if_ne (tgt := 12) hx hb dX2_cameInside_7 (by decide) (fun c7 => ?_) (fun c7 => ?_)
  · refine lv_iconst (v := 0) hx hb dX2_cameInside_12 (by decide) ?_
    refine lv_istore_n (lv' := [(3, .int 0), (0, .ref a0), (1, .ref b0), (2, .int (nI i))]) hx hb dX2_cameInside_13 rfl hl (by decide) rfl (fun ls hl => ?_)
    refine lv_iload_n hx hb dX2_cameInside_14 rfl (lv_at hl 0 rfl) ?_
    refine lv_iconst (v := 3) hx hb dX2_cameInside_15 (by decide) ?_
    refine lv_icmp_ge (tgt := 144) hx hb dX2_cameInside_16 (by decide) (fun c16 => absurd c16 (by decide)) (fun _ => ?_)
    refine lv_aload_n hx hb dX2_cameInside_19 rfl (lv_at hl 1 rfl) ?_
    refine lv_iload_n hx hb dX2_cameInside_20 rfl (lv_at hl 0 rfl) ?_
    have hPc := hP.sub (ws' := [(a0, .inr (2, [.ref a1, .ref a2, .ref a3, .ref a4, .ref a5, .ref a6, .ref a7, .ref a8, .ref a9, .ref a10, .ref a11, .int nh0, .int li])), (a1, .inl (cI, 3, .inl og)), (a2, .inl (cI, 3, .inl di)), (a3, .inl (cI, 3, .inl ar)), (a4, .inl (cI, 30, .inl ho)), (a5, .inl (cI, 30, .inl hx9)), (a6, .inl (cI, 30, .inl ha)), (a7, .inl (cI, 30, .inl hl9)), (a8, .inl (cI, 90, .inl hs)), (a9, .inr (1, [.int lb, .int la, .int lv, .int lw])), (a10, .inr (1, [.int nb9, .int na, .int nv, .int nw])), (a11, .inr (1, [.int tb, .int ta, .int tv, .int tw])), (b0, .inr (0, [.ref b1, .ref b2, .ref b3, .ref b4, .ref b5, .int cn])), (b1, .inl (cI, 60, .inl lo)), (b2, .inl (cI, 60, .inl hi)), (b3, .inl (cI, 20, .inl ki)), (b4, .inl (cI, 20, .inl sh)), (b5, .inl (cZ, 20, .inl of))]) [0, 1, 2, 3, 4, 5, 6, 7, 8, 9, 10, 11, 12, 13, 14, 15, 16, 17] rfl
    refine rq_call (va_runV (As := [.int 0]) (rest := []) ⟨hx, hb, hml, hown, hg⟩ (qX2_spotAtLatest l D cI cZ cJ a0 a1 a2 a3 a4 a5 a6 a7 a8 a9 a10 a11 b0 b1 b2 b3 b4 b5 og di ar ho hx9 ha hl9 hs lb la lv lw nb9 na nv nw tb ta tv tw nh0 li lo hi ki sh of cn 0 (by omega)) (cwV 1 hg (gw_V kw394 kw396 kw15 kw39 kw397) rfl rfl rfl (by decide +kernel) ⟨Nat.le_of_ble_eq_true rfl, Nat.le_of_ble_eq_true rfl⟩) (pq_preV hPc hK hZ (va_recv hK hPc (ci := 2) (q0 := 0) rfl rfl)) rfl rfl hl.1 rfl (lv_room (Nat.le_of_ble_eq_true rfl)) dX2_cameInside_21 ⟨Nat.le_of_ble_eq_true rfl, Nat.le_of_ble_eq_true rfl⟩) ?_
    refine lv_istore (lv' := [(4, .int (og 0 * lw + di 0 * lv)), (3, .int 0), (0, .ref a0), (1, .ref b0), (2, .int (nI i))]) hx hb dX2_cameInside_24 hl (by decide) rfl (fun ls hl => ?_)
    refine lv_aload_n hx hb dX2_cameInside_26 rfl (lv_at hl 3 rfl) ?_
    refine va_getN (D := D) (ci := 0) (v := .ref b1) (C := RX0) (T := TX0) (N := 6) hx hb hg iX0 hown hK hP 12 rfl rfl 0 (by decide) (va_Nw.use rfl (nzF_0 hZ)) (fun _ h9 => h9) rfl dX2_cameInside_27 ?_
    refine lv_iload_n hx hb dX2_cameInside_30 rfl (lv_at hl 4 rfl) ?_
    refine lv_iconst (v := 3) hx hb dX2_cameInside_31 (by decide) ?_
    refine lv_imul hx hb dX2_cameInside_32 ?_
    refine lv_iload_n hx hb dX2_cameInside_33 rfl (lv_at hl 1 rfl) ?_
    refine lv_iadd hx hb dX2_cameInside_34 ?_
    refine va_iald hx hb hK hP 13 0 rfl rfl (vin3 (k := 0) (by omega) (by decide)) dX2_cameInside_35 ?_
    refine tp_i (y := lo (i * 3)) (congrArg lo (vcl3 (k := 0) (by omega))) ?_
    refine lv_aload_n hx hb dX2_cameInside_36 rfl (lv_at hl 2 rfl) ?_
    refine va_get (D := D) (ci := 2) (v := .ref a9) (C := RX2) (T := TX2) (N := 13) hx hb hg iX2 hown hK hP 0 rfl rfl 8 (by decide) (hg _ kw143) (fun _ h9 => h9) rfl dX2_cameInside_37 ?_
    refine va_getN (D := D) (ci := 1) (v := .int lw) (C := RX1) (T := TX1) (N := 4) hx hb hg iX1 hown hK hP 9 rfl rfl 3 (by decide) (va_Nw.use rfl (nzF_13 hZ)) (fun _ h9 => h9) rfl dX2_cameInside_40 ?_
    refine lv_imul hx hb dX2_cameInside_43 ?_
    refine lv_istore (lv' := [(5, .int ((lo (i * 3)) * lw)), (4, .int (og 0 * lw + di 0 * lv)), (3, .int 0), (0, .ref a0), (1, .ref b0), (2, .int (nI i))]) hx hb dX2_cameInside_44 hl (by decide) rfl (fun ls hl => ?_)
    refine lv_aload_n hx hb dX2_cameInside_46 rfl (lv_at hl 4 rfl) ?_
    refine va_getN (D := D) (ci := 0) (v := .ref b2) (C := RX0) (T := TX0) (N := 6) hx hb hg iX0 hown hK hP 12 rfl rfl 1 (by decide) (va_Nw.use rfl (nzF_1 hZ)) (fun _ h9 => h9) rfl dX2_cameInside_47 ?_
    refine lv_iload_n hx hb dX2_cameInside_50 rfl (lv_at hl 5 rfl) ?_
    refine lv_iconst (v := 3) hx hb dX2_cameInside_51 (by decide) ?_
    refine lv_imul hx hb dX2_cameInside_52 ?_
    refine lv_iload_n hx hb dX2_cameInside_53 rfl (lv_at hl 2 rfl) ?_
    refine lv_iadd hx hb dX2_cameInside_54 ?_
    refine va_iald hx hb hK hP 14 0 rfl rfl (vin3 (k := 0) (by omega) (by decide)) dX2_cameInside_55 ?_
    refine tp_i (y := hi (i * 3)) (congrArg hi (vcl3 (k := 0) (by omega))) ?_
    refine lv_aload_n hx hb dX2_cameInside_56 rfl (lv_at hl 3 rfl) ?_
    refine va_get (D := D) (ci := 2) (v := .ref a9) (C := RX2) (T := TX2) (N := 13) hx hb hg iX2 hown hK hP 0 rfl rfl 8 (by decide) (hg _ kw143) (fun _ h9 => h9) rfl dX2_cameInside_57 ?_
    refine va_getN (D := D) (ci := 1) (v := .int lw) (C := RX1) (T := TX1) (N := 4) hx hb hg iX1 hown hK hP 9 rfl rfl 3 (by decide) (va_Nw.use rfl (nzF_13 hZ)) (fun _ h9 => h9) rfl dX2_cameInside_60 ?_
    refine lv_imul hx hb dX2_cameInside_63 ?_
    refine lv_istore (lv' := [(6, .int ((hi (i * 3)) * lw)), (5, .int ((lo (i * 3)) * lw)), (4, .int (og 0 * lw + di 0 * lv)), (3, .int 0), (0, .ref a0), (1, .ref b0), (2, .int (nI i))]) hx hb dX2_cameInside_64 hl (by decide) rfl (fun ls hl => ?_)
    have J_5 : W p l e (headSpec (Cond.code yX2_cameInside cX2_cameInside 9 (some .boolean) :: gw) ({ frames := 1, cells := 0, slots := 0, locals := 21 })).room s m ([.ref a0, .ref b0, .int (nI i)] : List Value).toArray below meth c s.heap [] 0 0 (MQ below (QcRead (bI (cameB lo hi og di ar lv lw i))) ([.ref a0, .ref b0, .int (nI i)] : List Value).toArray s 0 0 (fun _ => False)) (F0 m 94 ls [.int (bI (geB (og 0 * lw + di 0 * lv) ((lo (i * 3)) * lw) (ar 0)))]) := by
      refine lv_istore (lv' := [(7, .int (bI (geB (og 0 * lw + di 0 * lv) ((lo (i * 3)) * lw) (ar 0)))), (6, .int ((hi (i * 3)) * lw)), (5, .int ((lo (i * 3)) * lw)), (4, .int (og 0 * lw + di 0 * lv)), (3, .int 0), (0, .ref a0), (1, .ref b0), (2, .int (nI i))]) hx hb dX2_cameInside_94 hl (by decide) rfl (fun ls hl => ?_)
      have J_6 : W p l e (headSpec (Cond.code yX2_cameInside cX2_cameInside 9 (some .boolean) :: gw) ({ frames := 1, cells := 0, slots := 0, locals := 21 })).room s m ([.ref a0, .ref b0, .int (nI i)] : List Value).toArray below meth c s.heap [] 0 0 (MQ below (QcRead (bI (cameB lo hi og di ar lv lw i))) ([.ref a0, .ref b0, .int (nI i)] : List Value).toArray s 0 0 (fun _ => False)) (F0 m 124 ls [.int (bI (leB (og 0 * lw + di 0 * lv) ((hi (i * 3)) * lw) (ar 0)))]) := by
        refine lv_istore (lv' := [(8, .int (bI (leB (og 0 * lw + di 0 * lv) ((hi (i * 3)) * lw) (ar 0)))), (7, .int (bI (geB (og 0 * lw + di 0 * lv) ((lo (i * 3)) * lw) (ar 0)))), (6, .int ((hi (i * 3)) * lw)), (5, .int ((lo (i * 3)) * lw)), (4, .int (og 0 * lw + di 0 * lv)), (3, .int 0), (0, .ref a0), (1, .ref b0), (2, .int (nI i))]) hx hb dX2_cameInside_124 hl (by decide) rfl (fun ls hl => ?_)
        refine lv_iload hx hb dX2_cameInside_126 (lv_at hl 1 rfl) ?_
        refine lv_if_eq (tgt := 136) hx hb dX2_cameInside_128 (by decide) (fun c128 => ?_) (fun c128 => ?_)
        · replace c128 := bI_f c128
          refine lv_iconst (v := 0) hx hb dX2_cameInside_136 (by decide) ?_
          exact W.zret (v := 0) hx hb hr (by decide) (fun t ht hW => ⟨congrArg (fun z => Outcome.returned (some (Value.int z))) (by simp [bI, cameB, cameK, c7, c128]), ht⟩) (fun q hq => nomatch hq) dX2_cameInside_137
        · replace c128 := bI_t c128
          refine lv_iload hx hb dX2_cameInside_131 (lv_at hl 0 rfl) ?_
          refine lv_if_ne (tgt := 138) hx hb dX2_cameInside_133 (by decide) (fun c133 => ?_) (fun c133 => ?_)
          · replace c133 := bI_t c133
            refine lv_iinc (v := 1) (lv' := [(3, .int 1), (8, .int (bI (leB (og 0 * lw + di 0 * lv) ((hi (i * 3)) * lw) (ar 0)))), (7, .int (bI (geB (og 0 * lw + di 0 * lv) ((lo (i * 3)) * lw) (ar 0)))), (6, .int ((hi (i * 3)) * lw)), (5, .int ((lo (i * 3)) * lw)), (4, .int (og 0 * lw + di 0 * lv)), (0, .ref a0), (1, .ref b0), (2, .int (nI i))]) hx hb dX2_cameInside_138 hl (k := 5) rfl (by decide) (by decide) rfl (fun ls hl => ?_)
            refine lv_goto (tgt := 14) hx hb dX2_cameInside_141 (by decide) ?_
            refine lv_iload_n hx hb dX2_cameInside_14 rfl (lv_at hl 0 rfl) ?_
            refine lv_iconst (v := 3) hx hb dX2_cameInside_15 (by decide) ?_
            refine lv_icmp_ge (tgt := 144) hx hb dX2_cameInside_16 (by decide) (fun c16 => absurd c16 (by decide)) (fun _ => ?_)
            refine lv_aload_n hx hb dX2_cameInside_19 rfl (lv_at hl 6 rfl) ?_
            refine lv_iload_n hx hb dX2_cameInside_20 rfl (lv_at hl 0 rfl) ?_
            have hPc := hP.sub (ws' := [(a0, .inr (2, [.ref a1, .ref a2, .ref a3, .ref a4, .ref a5, .ref a6, .ref a7, .ref a8, .ref a9, .ref a10, .ref a11, .int nh0, .int li])), (a1, .inl (cI, 3, .inl og)), (a2, .inl (cI, 3, .inl di)), (a3, .inl (cI, 3, .inl ar)), (a4, .inl (cI, 30, .inl ho)), (a5, .inl (cI, 30, .inl hx9)), (a6, .inl (cI, 30, .inl ha)), (a7, .inl (cI, 30, .inl hl9)), (a8, .inl (cI, 90, .inl hs)), (a9, .inr (1, [.int lb, .int la, .int lv, .int lw])), (a10, .inr (1, [.int nb9, .int na, .int nv, .int nw])), (a11, .inr (1, [.int tb, .int ta, .int tv, .int tw])), (b0, .inr (0, [.ref b1, .ref b2, .ref b3, .ref b4, .ref b5, .int cn])), (b1, .inl (cI, 60, .inl lo)), (b2, .inl (cI, 60, .inl hi)), (b3, .inl (cI, 20, .inl ki)), (b4, .inl (cI, 20, .inl sh)), (b5, .inl (cZ, 20, .inl of))]) [0, 1, 2, 3, 4, 5, 6, 7, 8, 9, 10, 11, 12, 13, 14, 15, 16, 17] rfl
            refine rq_call (va_runV (As := [.int 1]) (rest := []) ⟨hx, hb, hml, hown, hg⟩ (qX2_spotAtLatest l D cI cZ cJ a0 a1 a2 a3 a4 a5 a6 a7 a8 a9 a10 a11 b0 b1 b2 b3 b4 b5 og di ar ho hx9 ha hl9 hs lb la lv lw nb9 na nv nw tb ta tv tw nh0 li lo hi ki sh of cn 1 (by omega)) (cwV 1 hg (gw_V kw394 kw396 kw15 kw39 kw397) rfl rfl rfl (by decide +kernel) ⟨Nat.le_of_ble_eq_true rfl, Nat.le_of_ble_eq_true rfl⟩) (pq_preV hPc hK hZ (va_recv hK hPc (ci := 2) (q0 := 0) rfl rfl)) rfl rfl hl.1 rfl (lv_room (Nat.le_of_ble_eq_true rfl)) dX2_cameInside_21 ⟨Nat.le_of_ble_eq_true rfl, Nat.le_of_ble_eq_true rfl⟩) ?_
            refine lv_istore (lv' := [(4, .int (og 1 * lw + di 1 * lv)), (3, .int 1), (8, .int (bI (leB (og 0 * lw + di 0 * lv) ((hi (i * 3)) * lw) (ar 0)))), (7, .int (bI (geB (og 0 * lw + di 0 * lv) ((lo (i * 3)) * lw) (ar 0)))), (6, .int ((hi (i * 3)) * lw)), (5, .int ((lo (i * 3)) * lw)), (0, .ref a0), (1, .ref b0), (2, .int (nI i))]) hx hb dX2_cameInside_24 hl (by decide) rfl (fun ls hl => ?_)
            refine lv_aload_n hx hb dX2_cameInside_26 rfl (lv_at hl 7 rfl) ?_
            refine va_getN (D := D) (ci := 0) (v := .ref b1) (C := RX0) (T := TX0) (N := 6) hx hb hg iX0 hown hK hP 12 rfl rfl 0 (by decide) (va_Nw.use rfl (nzF_0 hZ)) (fun _ h9 => h9) rfl dX2_cameInside_27 ?_
            refine lv_iload_n hx hb dX2_cameInside_30 rfl (lv_at hl 8 rfl) ?_
            refine lv_iconst (v := 3) hx hb dX2_cameInside_31 (by decide) ?_
            refine lv_imul hx hb dX2_cameInside_32 ?_
            refine lv_iload_n hx hb dX2_cameInside_33 rfl (lv_at hl 1 rfl) ?_
            refine lv_iadd hx hb dX2_cameInside_34 ?_
            refine va_iald hx hb hK hP 13 0 rfl rfl (vin3 (k := 1) (by omega) (by decide)) dX2_cameInside_35 ?_
            refine tp_i (y := lo (i * 3 + 1)) (congrArg lo (vcl3 (k := 1) (by omega))) ?_
            refine lv_aload_n hx hb dX2_cameInside_36 rfl (lv_at hl 6 rfl) ?_
            refine va_get (D := D) (ci := 2) (v := .ref a9) (C := RX2) (T := TX2) (N := 13) hx hb hg iX2 hown hK hP 0 rfl rfl 8 (by decide) (hg _ kw143) (fun _ h9 => h9) rfl dX2_cameInside_37 ?_
            refine va_getN (D := D) (ci := 1) (v := .int lw) (C := RX1) (T := TX1) (N := 4) hx hb hg iX1 hown hK hP 9 rfl rfl 3 (by decide) (va_Nw.use rfl (nzF_13 hZ)) (fun _ h9 => h9) rfl dX2_cameInside_40 ?_
            refine lv_imul hx hb dX2_cameInside_43 ?_
            refine lv_istore (lv' := [(5, .int ((lo (i * 3 + 1)) * lw)), (4, .int (og 1 * lw + di 1 * lv)), (3, .int 1), (8, .int (bI (leB (og 0 * lw + di 0 * lv) ((hi (i * 3)) * lw) (ar 0)))), (7, .int (bI (geB (og 0 * lw + di 0 * lv) ((lo (i * 3)) * lw) (ar 0)))), (6, .int ((hi (i * 3)) * lw)), (0, .ref a0), (1, .ref b0), (2, .int (nI i))]) hx hb dX2_cameInside_44 hl (by decide) rfl (fun ls hl => ?_)
            refine lv_aload_n hx hb dX2_cameInside_46 rfl (lv_at hl 7 rfl) ?_
            refine va_getN (D := D) (ci := 0) (v := .ref b2) (C := RX0) (T := TX0) (N := 6) hx hb hg iX0 hown hK hP 12 rfl rfl 1 (by decide) (va_Nw.use rfl (nzF_1 hZ)) (fun _ h9 => h9) rfl dX2_cameInside_47 ?_
            refine lv_iload_n hx hb dX2_cameInside_50 rfl (lv_at hl 8 rfl) ?_
            refine lv_iconst (v := 3) hx hb dX2_cameInside_51 (by decide) ?_
            refine lv_imul hx hb dX2_cameInside_52 ?_
            refine lv_iload_n hx hb dX2_cameInside_53 rfl (lv_at hl 2 rfl) ?_
            refine lv_iadd hx hb dX2_cameInside_54 ?_
            refine va_iald hx hb hK hP 14 0 rfl rfl (vin3 (k := 1) (by omega) (by decide)) dX2_cameInside_55 ?_
            refine tp_i (y := hi (i * 3 + 1)) (congrArg hi (vcl3 (k := 1) (by omega))) ?_
            refine lv_aload_n hx hb dX2_cameInside_56 rfl (lv_at hl 6 rfl) ?_
            refine va_get (D := D) (ci := 2) (v := .ref a9) (C := RX2) (T := TX2) (N := 13) hx hb hg iX2 hown hK hP 0 rfl rfl 8 (by decide) (hg _ kw143) (fun _ h9 => h9) rfl dX2_cameInside_57 ?_
            refine va_getN (D := D) (ci := 1) (v := .int lw) (C := RX1) (T := TX1) (N := 4) hx hb hg iX1 hown hK hP 9 rfl rfl 3 (by decide) (va_Nw.use rfl (nzF_13 hZ)) (fun _ h9 => h9) rfl dX2_cameInside_60 ?_
            refine lv_imul hx hb dX2_cameInside_63 ?_
            refine lv_istore (lv' := [(6, .int ((hi (i * 3 + 1)) * lw)), (5, .int ((lo (i * 3 + 1)) * lw)), (4, .int (og 1 * lw + di 1 * lv)), (3, .int 1), (8, .int (bI (leB (og 0 * lw + di 0 * lv) ((hi (i * 3)) * lw) (ar 0)))), (7, .int (bI (geB (og 0 * lw + di 0 * lv) ((lo (i * 3)) * lw) (ar 0)))), (0, .ref a0), (1, .ref b0), (2, .int (nI i))]) hx hb dX2_cameInside_64 hl (by decide) rfl (fun ls hl => ?_)
            have J_7 : W p l e (headSpec (Cond.code yX2_cameInside cX2_cameInside 9 (some .boolean) :: gw) ({ frames := 1, cells := 0, slots := 0, locals := 21 })).room s m ([.ref a0, .ref b0, .int (nI i)] : List Value).toArray below meth c s.heap [] 0 0 (MQ below (QcRead (bI (cameB lo hi og di ar lv lw i))) ([.ref a0, .ref b0, .int (nI i)] : List Value).toArray s 0 0 (fun _ => False)) (F0 m 94 ls [.int (bI (geB (og 1 * lw + di 1 * lv) ((lo (i * 3 + 1)) * lw) (ar 1)))]) := by
              refine lv_istore (lv' := [(7, .int (bI (geB (og 1 * lw + di 1 * lv) ((lo (i * 3 + 1)) * lw) (ar 1)))), (6, .int ((hi (i * 3 + 1)) * lw)), (5, .int ((lo (i * 3 + 1)) * lw)), (4, .int (og 1 * lw + di 1 * lv)), (3, .int 1), (8, .int (bI (leB (og 0 * lw + di 0 * lv) ((hi (i * 3)) * lw) (ar 0)))), (0, .ref a0), (1, .ref b0), (2, .int (nI i))]) hx hb dX2_cameInside_94 hl (by decide) rfl (fun ls hl => ?_)
              have J_8 : W p l e (headSpec (Cond.code yX2_cameInside cX2_cameInside 9 (some .boolean) :: gw) ({ frames := 1, cells := 0, slots := 0, locals := 21 })).room s m ([.ref a0, .ref b0, .int (nI i)] : List Value).toArray below meth c s.heap [] 0 0 (MQ below (QcRead (bI (cameB lo hi og di ar lv lw i))) ([.ref a0, .ref b0, .int (nI i)] : List Value).toArray s 0 0 (fun _ => False)) (F0 m 124 ls [.int (bI (leB (og 1 * lw + di 1 * lv) ((hi (i * 3 + 1)) * lw) (ar 1)))]) := by
                refine lv_istore (lv' := [(8, .int (bI (leB (og 1 * lw + di 1 * lv) ((hi (i * 3 + 1)) * lw) (ar 1)))), (7, .int (bI (geB (og 1 * lw + di 1 * lv) ((lo (i * 3 + 1)) * lw) (ar 1)))), (6, .int ((hi (i * 3 + 1)) * lw)), (5, .int ((lo (i * 3 + 1)) * lw)), (4, .int (og 1 * lw + di 1 * lv)), (3, .int 1), (0, .ref a0), (1, .ref b0), (2, .int (nI i))]) hx hb dX2_cameInside_124 hl (by decide) rfl (fun ls hl => ?_)
                refine lv_iload hx hb dX2_cameInside_126 (lv_at hl 1 rfl) ?_
                refine lv_if_eq (tgt := 136) hx hb dX2_cameInside_128 (by decide) (fun c128_1 => ?_) (fun c128_1 => ?_)
                · replace c128_1 := bI_f c128_1
                  refine lv_iconst (v := 0) hx hb dX2_cameInside_136 (by decide) ?_
                  exact W.zret (v := 0) hx hb hr (by decide) (fun t ht hW => ⟨congrArg (fun z => Outcome.returned (some (Value.int z))) (by simp [bI, cameB, cameK, c7, c128, c133, c128_1]), ht⟩) (fun q hq => nomatch hq) dX2_cameInside_137
                · replace c128_1 := bI_t c128_1
                  refine lv_iload hx hb dX2_cameInside_131 (lv_at hl 0 rfl) ?_
                  refine lv_if_ne (tgt := 138) hx hb dX2_cameInside_133 (by decide) (fun c133_1 => ?_) (fun c133_1 => ?_)
                  · replace c133_1 := bI_t c133_1
                    refine lv_iinc (v := 2) (lv' := [(3, .int 2), (8, .int (bI (leB (og 1 * lw + di 1 * lv) ((hi (i * 3 + 1)) * lw) (ar 1)))), (7, .int (bI (geB (og 1 * lw + di 1 * lv) ((lo (i * 3 + 1)) * lw) (ar 1)))), (6, .int ((hi (i * 3 + 1)) * lw)), (5, .int ((lo (i * 3 + 1)) * lw)), (4, .int (og 1 * lw + di 1 * lv)), (0, .ref a0), (1, .ref b0), (2, .int (nI i))]) hx hb dX2_cameInside_138 hl (k := 5) rfl (by decide) (by decide) rfl (fun ls hl => ?_)
                    refine lv_goto (tgt := 14) hx hb dX2_cameInside_141 (by decide) ?_
                    refine lv_iload_n hx hb dX2_cameInside_14 rfl (lv_at hl 0 rfl) ?_
                    refine lv_iconst (v := 3) hx hb dX2_cameInside_15 (by decide) ?_
                    refine lv_icmp_ge (tgt := 144) hx hb dX2_cameInside_16 (by decide) (fun c16 => absurd c16 (by decide)) (fun _ => ?_)
                    refine lv_aload_n hx hb dX2_cameInside_19 rfl (lv_at hl 6 rfl) ?_
                    refine lv_iload_n hx hb dX2_cameInside_20 rfl (lv_at hl 0 rfl) ?_
                    have hPc := hP.sub (ws' := [(a0, .inr (2, [.ref a1, .ref a2, .ref a3, .ref a4, .ref a5, .ref a6, .ref a7, .ref a8, .ref a9, .ref a10, .ref a11, .int nh0, .int li])), (a1, .inl (cI, 3, .inl og)), (a2, .inl (cI, 3, .inl di)), (a3, .inl (cI, 3, .inl ar)), (a4, .inl (cI, 30, .inl ho)), (a5, .inl (cI, 30, .inl hx9)), (a6, .inl (cI, 30, .inl ha)), (a7, .inl (cI, 30, .inl hl9)), (a8, .inl (cI, 90, .inl hs)), (a9, .inr (1, [.int lb, .int la, .int lv, .int lw])), (a10, .inr (1, [.int nb9, .int na, .int nv, .int nw])), (a11, .inr (1, [.int tb, .int ta, .int tv, .int tw])), (b0, .inr (0, [.ref b1, .ref b2, .ref b3, .ref b4, .ref b5, .int cn])), (b1, .inl (cI, 60, .inl lo)), (b2, .inl (cI, 60, .inl hi)), (b3, .inl (cI, 20, .inl ki)), (b4, .inl (cI, 20, .inl sh)), (b5, .inl (cZ, 20, .inl of))]) [0, 1, 2, 3, 4, 5, 6, 7, 8, 9, 10, 11, 12, 13, 14, 15, 16, 17] rfl
                    refine rq_call (va_runV (As := [.int 2]) (rest := []) ⟨hx, hb, hml, hown, hg⟩ (qX2_spotAtLatest l D cI cZ cJ a0 a1 a2 a3 a4 a5 a6 a7 a8 a9 a10 a11 b0 b1 b2 b3 b4 b5 og di ar ho hx9 ha hl9 hs lb la lv lw nb9 na nv nw tb ta tv tw nh0 li lo hi ki sh of cn 2 (by omega)) (cwV 1 hg (gw_V kw394 kw396 kw15 kw39 kw397) rfl rfl rfl (by decide +kernel) ⟨Nat.le_of_ble_eq_true rfl, Nat.le_of_ble_eq_true rfl⟩) (pq_preV hPc hK hZ (va_recv hK hPc (ci := 2) (q0 := 0) rfl rfl)) rfl rfl hl.1 rfl (lv_room (Nat.le_of_ble_eq_true rfl)) dX2_cameInside_21 ⟨Nat.le_of_ble_eq_true rfl, Nat.le_of_ble_eq_true rfl⟩) ?_
                    refine lv_istore (lv' := [(4, .int (og 2 * lw + di 2 * lv)), (3, .int 2), (8, .int (bI (leB (og 1 * lw + di 1 * lv) ((hi (i * 3 + 1)) * lw) (ar 1)))), (7, .int (bI (geB (og 1 * lw + di 1 * lv) ((lo (i * 3 + 1)) * lw) (ar 1)))), (6, .int ((hi (i * 3 + 1)) * lw)), (5, .int ((lo (i * 3 + 1)) * lw)), (0, .ref a0), (1, .ref b0), (2, .int (nI i))]) hx hb dX2_cameInside_24 hl (by decide) rfl (fun ls hl => ?_)
                    refine lv_aload_n hx hb dX2_cameInside_26 rfl (lv_at hl 7 rfl) ?_
                    refine va_getN (D := D) (ci := 0) (v := .ref b1) (C := RX0) (T := TX0) (N := 6) hx hb hg iX0 hown hK hP 12 rfl rfl 0 (by decide) (va_Nw.use rfl (nzF_0 hZ)) (fun _ h9 => h9) rfl dX2_cameInside_27 ?_
                    refine lv_iload_n hx hb dX2_cameInside_30 rfl (lv_at hl 8 rfl) ?_
                    refine lv_iconst (v := 3) hx hb dX2_cameInside_31 (by decide) ?_
                    refine lv_imul hx hb dX2_cameInside_32 ?_
                    refine lv_iload_n hx hb dX2_cameInside_33 rfl (lv_at hl 1 rfl) ?_
                    refine lv_iadd hx hb dX2_cameInside_34 ?_
                    refine va_iald hx hb hK hP 13 0 rfl rfl (vin3 (k := 2) (by omega) (by decide)) dX2_cameInside_35 ?_
                    refine tp_i (y := lo (i * 3 + 2)) (congrArg lo (vcl3 (k := 2) (by omega))) ?_
                    refine lv_aload_n hx hb dX2_cameInside_36 rfl (lv_at hl 6 rfl) ?_
                    refine va_get (D := D) (ci := 2) (v := .ref a9) (C := RX2) (T := TX2) (N := 13) hx hb hg iX2 hown hK hP 0 rfl rfl 8 (by decide) (hg _ kw143) (fun _ h9 => h9) rfl dX2_cameInside_37 ?_
                    refine va_getN (D := D) (ci := 1) (v := .int lw) (C := RX1) (T := TX1) (N := 4) hx hb hg iX1 hown hK hP 9 rfl rfl 3 (by decide) (va_Nw.use rfl (nzF_13 hZ)) (fun _ h9 => h9) rfl dX2_cameInside_40 ?_
                    refine lv_imul hx hb dX2_cameInside_43 ?_
                    refine lv_istore (lv' := [(5, .int ((lo (i * 3 + 2)) * lw)), (4, .int (og 2 * lw + di 2 * lv)), (3, .int 2), (8, .int (bI (leB (og 1 * lw + di 1 * lv) ((hi (i * 3 + 1)) * lw) (ar 1)))), (7, .int (bI (geB (og 1 * lw + di 1 * lv) ((lo (i * 3 + 1)) * lw) (ar 1)))), (6, .int ((hi (i * 3 + 1)) * lw)), (0, .ref a0), (1, .ref b0), (2, .int (nI i))]) hx hb dX2_cameInside_44 hl (by decide) rfl (fun ls hl => ?_)
                    refine lv_aload_n hx hb dX2_cameInside_46 rfl (lv_at hl 7 rfl) ?_
                    refine va_getN (D := D) (ci := 0) (v := .ref b2) (C := RX0) (T := TX0) (N := 6) hx hb hg iX0 hown hK hP 12 rfl rfl 1 (by decide) (va_Nw.use rfl (nzF_1 hZ)) (fun _ h9 => h9) rfl dX2_cameInside_47 ?_
                    refine lv_iload_n hx hb dX2_cameInside_50 rfl (lv_at hl 8 rfl) ?_
                    refine lv_iconst (v := 3) hx hb dX2_cameInside_51 (by decide) ?_
                    refine lv_imul hx hb dX2_cameInside_52 ?_
                    refine lv_iload_n hx hb dX2_cameInside_53 rfl (lv_at hl 2 rfl) ?_
                    refine lv_iadd hx hb dX2_cameInside_54 ?_
                    refine va_iald hx hb hK hP 14 0 rfl rfl (vin3 (k := 2) (by omega) (by decide)) dX2_cameInside_55 ?_
                    refine tp_i (y := hi (i * 3 + 2)) (congrArg hi (vcl3 (k := 2) (by omega))) ?_
                    refine lv_aload_n hx hb dX2_cameInside_56 rfl (lv_at hl 6 rfl) ?_
                    refine va_get (D := D) (ci := 2) (v := .ref a9) (C := RX2) (T := TX2) (N := 13) hx hb hg iX2 hown hK hP 0 rfl rfl 8 (by decide) (hg _ kw143) (fun _ h9 => h9) rfl dX2_cameInside_57 ?_
                    refine va_getN (D := D) (ci := 1) (v := .int lw) (C := RX1) (T := TX1) (N := 4) hx hb hg iX1 hown hK hP 9 rfl rfl 3 (by decide) (va_Nw.use rfl (nzF_13 hZ)) (fun _ h9 => h9) rfl dX2_cameInside_60 ?_
                    refine lv_imul hx hb dX2_cameInside_63 ?_
                    refine lv_istore (lv' := [(6, .int ((hi (i * 3 + 2)) * lw)), (5, .int ((lo (i * 3 + 2)) * lw)), (4, .int (og 2 * lw + di 2 * lv)), (3, .int 2), (8, .int (bI (leB (og 1 * lw + di 1 * lv) ((hi (i * 3 + 1)) * lw) (ar 1)))), (7, .int (bI (geB (og 1 * lw + di 1 * lv) ((lo (i * 3 + 1)) * lw) (ar 1)))), (0, .ref a0), (1, .ref b0), (2, .int (nI i))]) hx hb dX2_cameInside_64 hl (by decide) rfl (fun ls hl => ?_)
                    have J_9 : W p l e (headSpec (Cond.code yX2_cameInside cX2_cameInside 9 (some .boolean) :: gw) ({ frames := 1, cells := 0, slots := 0, locals := 21 })).room s m ([.ref a0, .ref b0, .int (nI i)] : List Value).toArray below meth c s.heap [] 0 0 (MQ below (QcRead (bI (cameB lo hi og di ar lv lw i))) ([.ref a0, .ref b0, .int (nI i)] : List Value).toArray s 0 0 (fun _ => False)) (F0 m 94 ls [.int (bI (geB (og 2 * lw + di 2 * lv) ((lo (i * 3 + 2)) * lw) (ar 2)))]) := by
                      refine lv_istore (lv' := [(7, .int (bI (geB (og 2 * lw + di 2 * lv) ((lo (i * 3 + 2)) * lw) (ar 2)))), (6, .int ((hi (i * 3 + 2)) * lw)), (5, .int ((lo (i * 3 + 2)) * lw)), (4, .int (og 2 * lw + di 2 * lv)), (3, .int 2), (8, .int (bI (leB (og 1 * lw + di 1 * lv) ((hi (i * 3 + 1)) * lw) (ar 1)))), (0, .ref a0), (1, .ref b0), (2, .int (nI i))]) hx hb dX2_cameInside_94 hl (by decide) rfl (fun ls hl => ?_)
                      have J_10 : W p l e (headSpec (Cond.code yX2_cameInside cX2_cameInside 9 (some .boolean) :: gw) ({ frames := 1, cells := 0, slots := 0, locals := 21 })).room s m ([.ref a0, .ref b0, .int (nI i)] : List Value).toArray below meth c s.heap [] 0 0 (MQ below (QcRead (bI (cameB lo hi og di ar lv lw i))) ([.ref a0, .ref b0, .int (nI i)] : List Value).toArray s 0 0 (fun _ => False)) (F0 m 124 ls [.int (bI (leB (og 2 * lw + di 2 * lv) ((hi (i * 3 + 2)) * lw) (ar 2)))]) := by
                        refine lv_istore (lv' := [(8, .int (bI (leB (og 2 * lw + di 2 * lv) ((hi (i * 3 + 2)) * lw) (ar 2)))), (7, .int (bI (geB (og 2 * lw + di 2 * lv) ((lo (i * 3 + 2)) * lw) (ar 2)))), (6, .int ((hi (i * 3 + 2)) * lw)), (5, .int ((lo (i * 3 + 2)) * lw)), (4, .int (og 2 * lw + di 2 * lv)), (3, .int 2), (0, .ref a0), (1, .ref b0), (2, .int (nI i))]) hx hb dX2_cameInside_124 hl (by decide) rfl (fun ls hl => ?_)
                        refine lv_iload hx hb dX2_cameInside_126 (lv_at hl 1 rfl) ?_
                        refine lv_if_eq (tgt := 136) hx hb dX2_cameInside_128 (by decide) (fun c128_2 => ?_) (fun c128_2 => ?_)
                        · replace c128_2 := bI_f c128_2
                          refine lv_iconst (v := 0) hx hb dX2_cameInside_136 (by decide) ?_
                          exact W.zret (v := 0) hx hb hr (by decide) (fun t ht hW => ⟨congrArg (fun z => Outcome.returned (some (Value.int z))) (by simp [bI, cameB, cameK, c7, c128, c133, c128_1, c133_1, c128_2]), ht⟩) (fun q hq => nomatch hq) dX2_cameInside_137
                        · replace c128_2 := bI_t c128_2
                          refine lv_iload hx hb dX2_cameInside_131 (lv_at hl 0 rfl) ?_
                          refine lv_if_ne (tgt := 138) hx hb dX2_cameInside_133 (by decide) (fun c133_2 => ?_) (fun c133_2 => ?_)
                          · replace c133_2 := bI_t c133_2
                            refine lv_iinc (v := 3) (lv' := [(3, .int 3), (8, .int (bI (leB (og 2 * lw + di 2 * lv) ((hi (i * 3 + 2)) * lw) (ar 2)))), (7, .int (bI (geB (og 2 * lw + di 2 * lv) ((lo (i * 3 + 2)) * lw) (ar 2)))), (6, .int ((hi (i * 3 + 2)) * lw)), (5, .int ((lo (i * 3 + 2)) * lw)), (4, .int (og 2 * lw + di 2 * lv)), (0, .ref a0), (1, .ref b0), (2, .int (nI i))]) hx hb dX2_cameInside_138 hl (k := 5) rfl (by decide) (by decide) rfl (fun ls hl => ?_)
                            refine lv_goto (tgt := 14) hx hb dX2_cameInside_141 (by decide) ?_
                            refine lv_iload_n hx hb dX2_cameInside_14 rfl (lv_at hl 0 rfl) ?_
                            refine lv_iconst (v := 3) hx hb dX2_cameInside_15 (by decide) ?_
                            refine lv_icmp_ge (tgt := 144) hx hb dX2_cameInside_16 (by decide) (fun _ => ?_) (fun c16 => absurd (by decide) c16)
                            refine lv_iconst (v := 1) hx hb dX2_cameInside_144 (by decide) ?_
                            exact W.zret (v := 1) hx hb hr (by decide) (fun t ht hW => ⟨congrArg (fun z => Outcome.returned (some (Value.int z))) (by simp [bI, cameB, cameK, c7, c128, c133, c128_1, c133_1, c128_2, c133_2]), ht⟩) (fun q hq => nomatch hq) dX2_cameInside_145
                          · replace c133_2 := bI_f c133_2
                            refine lv_iconst (v := 0) hx hb dX2_cameInside_136 (by decide) ?_
                            exact W.zret (v := 0) hx hb hr (by decide) (fun t ht hW => ⟨congrArg (fun z => Outcome.returned (some (Value.int z))) (by simp [bI, cameB, cameK, c7, c128, c133, c128_1, c133_1, c128_2, c133_2]), ht⟩) (fun q hq => nomatch hq) dX2_cameInside_137
                      refine lv_iload hx hb dX2_cameInside_96 (lv_at hl 3 rfl) ?_
                      refine lv_iload hx hb dX2_cameInside_98 (lv_at hl 1 rfl) ?_
                      refine lv_icmp_lt (tgt := 119) hx hb dX2_cameInside_100 (by decide) (fun c100 => ?_) (fun c100 => ?_)
                      · have c100n := Int32.not_le.mpr c100
                        refine lv_iconst (v := 1) hx hb dX2_cameInside_119 (by decide) ?_
                        refine lv_goto (tgt := 124) hx hb dX2_cameInside_120 (by decide) ?_
                        refine tp_i (y := bI (leB (og 2 * lw + di 2 * lv) ((hi (i * 3 + 2)) * lw) (ar 2))) (by simp [bI, leB, c7, c128, c133, c128_1, c133_1, c100, c100n]) ?_
                        exact J_10
                      · have c100n := Int32.not_lt.mp c100
                        refine lv_iload hx hb dX2_cameInside_103 (lv_at hl 3 rfl) ?_
                        refine lv_iload hx hb dX2_cameInside_105 (lv_at hl 1 rfl) ?_
                        refine lv_icmp_ne (tgt := 123) hx hb dX2_cameInside_107 (by decide) (fun c107 => ?_) (fun c107 => ?_)
                        · refine lv_iconst (v := 0) hx hb dX2_cameInside_123 (by decide) ?_
                          refine tp_i (y := bI (leB (og 2 * lw + di 2 * lv) ((hi (i * 3 + 2)) * lw) (ar 2))) (by simp [bI, leB, c7, c128, c133, c128_1, c133_1, c100, c100n, c107]) ?_
                          exact J_10
                        · refine lv_aload_n hx hb dX2_cameInside_110 rfl (lv_at hl 6 rfl) ?_
                          refine va_get (D := D) (ci := 2) (v := .ref a3) (C := RX2) (T := TX2) (N := 13) hx hb hg iX2 hown hK hP 0 rfl rfl 2 (by decide) (hg _ kw132) (fun _ h9 => h9) rfl dX2_cameInside_111 ?_
                          refine lv_iload_n hx hb dX2_cameInside_114 rfl (lv_at hl 4 rfl) ?_
                          refine va_iald hx hb hK hP 3 0 rfl rfl (vp_in_nI (n := 2) (by decide) (by decide)) dX2_cameInside_115 ?_
                          refine tp_i (y := ar 2) (congrArg ar (rfl)) ?_
                          refine lv_if_le (tgt := 123) hx hb dX2_cameInside_116 (by decide) (fun c116 => ?_) (fun c116 => ?_)
                          · have c116n := Int32.not_lt.mpr c116
                            refine lv_iconst (v := 0) hx hb dX2_cameInside_123 (by decide) ?_
                            refine tp_i (y := bI (leB (og 2 * lw + di 2 * lv) ((hi (i * 3 + 2)) * lw) (ar 2))) (by simp [bI, leB, c7, c128, c133, c128_1, c133_1, c100, c100n, c107, c116, c116n]) ?_
                            exact J_10
                          · have c116n := Int32.not_le.mp c116
                            refine lv_iconst (v := 1) hx hb dX2_cameInside_119 (by decide) ?_
                            refine lv_goto (tgt := 124) hx hb dX2_cameInside_120 (by decide) ?_
                            refine tp_i (y := bI (leB (og 2 * lw + di 2 * lv) ((hi (i * 3 + 2)) * lw) (ar 2))) (by simp [bI, leB, c7, c128, c133, c128_1, c133_1, c100, c100n, c107, c116, c116n]) ?_
                            exact J_10
                    refine lv_iload hx hb dX2_cameInside_66 (lv_at hl 2 rfl) ?_
                    refine lv_iload hx hb dX2_cameInside_68 (lv_at hl 1 rfl) ?_
                    refine lv_icmp_gt (tgt := 89) hx hb dX2_cameInside_70 (by decide) (fun c70 => ?_) (fun c70 => ?_)
                    · have c70n := Int32.not_le.mpr c70
                      refine lv_iconst (v := 1) hx hb dX2_cameInside_89 (by decide) ?_
                      refine lv_goto (tgt := 94) hx hb dX2_cameInside_90 (by decide) ?_
                      refine tp_i (y := bI (geB (og 2 * lw + di 2 * lv) ((lo (i * 3 + 2)) * lw) (ar 2))) (by simp [bI, geB, c7, c128, c133, c128_1, c133_1, c70, c70n]) ?_
                      exact J_9
                    · have c70n := Int32.not_lt.mp c70
                      refine lv_iload hx hb dX2_cameInside_73 (lv_at hl 2 rfl) ?_
                      refine lv_iload hx hb dX2_cameInside_75 (lv_at hl 1 rfl) ?_
                      refine lv_icmp_ne (tgt := 93) hx hb dX2_cameInside_77 (by decide) (fun c77 => ?_) (fun c77 => ?_)
                      · refine lv_iconst (v := 0) hx hb dX2_cameInside_93 (by decide) ?_
                        refine tp_i (y := bI (geB (og 2 * lw + di 2 * lv) ((lo (i * 3 + 2)) * lw) (ar 2))) (by simp [bI, geB, c7, c128, c133, c128_1, c133_1, c70, c70n, c77]) ?_
                        exact J_9
                      · refine lv_aload_n hx hb dX2_cameInside_80 rfl (lv_at hl 6 rfl) ?_
                        refine va_get (D := D) (ci := 2) (v := .ref a3) (C := RX2) (T := TX2) (N := 13) hx hb hg iX2 hown hK hP 0 rfl rfl 2 (by decide) (hg _ kw132) (fun _ h9 => h9) rfl dX2_cameInside_81 ?_
                        refine lv_iload_n hx hb dX2_cameInside_84 rfl (lv_at hl 3 rfl) ?_
                        refine va_iald hx hb hK hP 3 0 rfl rfl (vp_in_nI (n := 2) (by decide) (by decide)) dX2_cameInside_85 ?_
                        refine tp_i (y := ar 2) (congrArg ar (rfl)) ?_
                        refine lv_if_ge (tgt := 93) hx hb dX2_cameInside_86 (by decide) (fun c86 => ?_) (fun c86 => ?_)
                        · have c86n := Int32.not_lt.mpr c86
                          refine lv_iconst (v := 0) hx hb dX2_cameInside_93 (by decide) ?_
                          refine tp_i (y := bI (geB (og 2 * lw + di 2 * lv) ((lo (i * 3 + 2)) * lw) (ar 2))) (by simp [bI, geB, c7, c128, c133, c128_1, c133_1, c70, c70n, c77, c86, c86n]) ?_
                          exact J_9
                        · have c86n := Int32.not_le.mp c86
                          refine lv_iconst (v := 1) hx hb dX2_cameInside_89 (by decide) ?_
                          refine lv_goto (tgt := 94) hx hb dX2_cameInside_90 (by decide) ?_
                          refine tp_i (y := bI (geB (og 2 * lw + di 2 * lv) ((lo (i * 3 + 2)) * lw) (ar 2))) (by simp [bI, geB, c7, c128, c133, c128_1, c133_1, c70, c70n, c77, c86, c86n]) ?_
                          exact J_9
                  · replace c133_1 := bI_f c133_1
                    refine lv_iconst (v := 0) hx hb dX2_cameInside_136 (by decide) ?_
                    exact W.zret (v := 0) hx hb hr (by decide) (fun t ht hW => ⟨congrArg (fun z => Outcome.returned (some (Value.int z))) (by simp [bI, cameB, cameK, c7, c128, c133, c128_1, c133_1]), ht⟩) (fun q hq => nomatch hq) dX2_cameInside_137
              refine lv_iload hx hb dX2_cameInside_96 (lv_at hl 3 rfl) ?_
              refine lv_iload hx hb dX2_cameInside_98 (lv_at hl 1 rfl) ?_
              refine lv_icmp_lt (tgt := 119) hx hb dX2_cameInside_100 (by decide) (fun c100 => ?_) (fun c100 => ?_)
              · have c100n := Int32.not_le.mpr c100
                refine lv_iconst (v := 1) hx hb dX2_cameInside_119 (by decide) ?_
                refine lv_goto (tgt := 124) hx hb dX2_cameInside_120 (by decide) ?_
                refine tp_i (y := bI (leB (og 1 * lw + di 1 * lv) ((hi (i * 3 + 1)) * lw) (ar 1))) (by simp [bI, leB, c7, c128, c133, c100, c100n]) ?_
                exact J_8
              · have c100n := Int32.not_lt.mp c100
                refine lv_iload hx hb dX2_cameInside_103 (lv_at hl 3 rfl) ?_
                refine lv_iload hx hb dX2_cameInside_105 (lv_at hl 1 rfl) ?_
                refine lv_icmp_ne (tgt := 123) hx hb dX2_cameInside_107 (by decide) (fun c107 => ?_) (fun c107 => ?_)
                · refine lv_iconst (v := 0) hx hb dX2_cameInside_123 (by decide) ?_
                  refine tp_i (y := bI (leB (og 1 * lw + di 1 * lv) ((hi (i * 3 + 1)) * lw) (ar 1))) (by simp [bI, leB, c7, c128, c133, c100, c100n, c107]) ?_
                  exact J_8
                · refine lv_aload_n hx hb dX2_cameInside_110 rfl (lv_at hl 6 rfl) ?_
                  refine va_get (D := D) (ci := 2) (v := .ref a3) (C := RX2) (T := TX2) (N := 13) hx hb hg iX2 hown hK hP 0 rfl rfl 2 (by decide) (hg _ kw132) (fun _ h9 => h9) rfl dX2_cameInside_111 ?_
                  refine lv_iload_n hx hb dX2_cameInside_114 rfl (lv_at hl 4 rfl) ?_
                  refine va_iald hx hb hK hP 3 0 rfl rfl (vp_in_nI (n := 1) (by decide) (by decide)) dX2_cameInside_115 ?_
                  refine tp_i (y := ar 1) (congrArg ar (rfl)) ?_
                  refine lv_if_le (tgt := 123) hx hb dX2_cameInside_116 (by decide) (fun c116 => ?_) (fun c116 => ?_)
                  · have c116n := Int32.not_lt.mpr c116
                    refine lv_iconst (v := 0) hx hb dX2_cameInside_123 (by decide) ?_
                    refine tp_i (y := bI (leB (og 1 * lw + di 1 * lv) ((hi (i * 3 + 1)) * lw) (ar 1))) (by simp [bI, leB, c7, c128, c133, c100, c100n, c107, c116, c116n]) ?_
                    exact J_8
                  · have c116n := Int32.not_le.mp c116
                    refine lv_iconst (v := 1) hx hb dX2_cameInside_119 (by decide) ?_
                    refine lv_goto (tgt := 124) hx hb dX2_cameInside_120 (by decide) ?_
                    refine tp_i (y := bI (leB (og 1 * lw + di 1 * lv) ((hi (i * 3 + 1)) * lw) (ar 1))) (by simp [bI, leB, c7, c128, c133, c100, c100n, c107, c116, c116n]) ?_
                    exact J_8
            refine lv_iload hx hb dX2_cameInside_66 (lv_at hl 2 rfl) ?_
            refine lv_iload hx hb dX2_cameInside_68 (lv_at hl 1 rfl) ?_
            refine lv_icmp_gt (tgt := 89) hx hb dX2_cameInside_70 (by decide) (fun c70 => ?_) (fun c70 => ?_)
            · have c70n := Int32.not_le.mpr c70
              refine lv_iconst (v := 1) hx hb dX2_cameInside_89 (by decide) ?_
              refine lv_goto (tgt := 94) hx hb dX2_cameInside_90 (by decide) ?_
              refine tp_i (y := bI (geB (og 1 * lw + di 1 * lv) ((lo (i * 3 + 1)) * lw) (ar 1))) (by simp [bI, geB, c7, c128, c133, c70, c70n]) ?_
              exact J_7
            · have c70n := Int32.not_lt.mp c70
              refine lv_iload hx hb dX2_cameInside_73 (lv_at hl 2 rfl) ?_
              refine lv_iload hx hb dX2_cameInside_75 (lv_at hl 1 rfl) ?_
              refine lv_icmp_ne (tgt := 93) hx hb dX2_cameInside_77 (by decide) (fun c77 => ?_) (fun c77 => ?_)
              · refine lv_iconst (v := 0) hx hb dX2_cameInside_93 (by decide) ?_
                refine tp_i (y := bI (geB (og 1 * lw + di 1 * lv) ((lo (i * 3 + 1)) * lw) (ar 1))) (by simp [bI, geB, c7, c128, c133, c70, c70n, c77]) ?_
                exact J_7
              · refine lv_aload_n hx hb dX2_cameInside_80 rfl (lv_at hl 6 rfl) ?_
                refine va_get (D := D) (ci := 2) (v := .ref a3) (C := RX2) (T := TX2) (N := 13) hx hb hg iX2 hown hK hP 0 rfl rfl 2 (by decide) (hg _ kw132) (fun _ h9 => h9) rfl dX2_cameInside_81 ?_
                refine lv_iload_n hx hb dX2_cameInside_84 rfl (lv_at hl 3 rfl) ?_
                refine va_iald hx hb hK hP 3 0 rfl rfl (vp_in_nI (n := 1) (by decide) (by decide)) dX2_cameInside_85 ?_
                refine tp_i (y := ar 1) (congrArg ar (rfl)) ?_
                refine lv_if_ge (tgt := 93) hx hb dX2_cameInside_86 (by decide) (fun c86 => ?_) (fun c86 => ?_)
                · have c86n := Int32.not_lt.mpr c86
                  refine lv_iconst (v := 0) hx hb dX2_cameInside_93 (by decide) ?_
                  refine tp_i (y := bI (geB (og 1 * lw + di 1 * lv) ((lo (i * 3 + 1)) * lw) (ar 1))) (by simp [bI, geB, c7, c128, c133, c70, c70n, c77, c86, c86n]) ?_
                  exact J_7
                · have c86n := Int32.not_le.mp c86
                  refine lv_iconst (v := 1) hx hb dX2_cameInside_89 (by decide) ?_
                  refine lv_goto (tgt := 94) hx hb dX2_cameInside_90 (by decide) ?_
                  refine tp_i (y := bI (geB (og 1 * lw + di 1 * lv) ((lo (i * 3 + 1)) * lw) (ar 1))) (by simp [bI, geB, c7, c128, c133, c70, c70n, c77, c86, c86n]) ?_
                  exact J_7
          · replace c133 := bI_f c133
            refine lv_iconst (v := 0) hx hb dX2_cameInside_136 (by decide) ?_
            exact W.zret (v := 0) hx hb hr (by decide) (fun t ht hW => ⟨congrArg (fun z => Outcome.returned (some (Value.int z))) (by simp [bI, cameB, cameK, c7, c128, c133]), ht⟩) (fun q hq => nomatch hq) dX2_cameInside_137
      refine lv_iload hx hb dX2_cameInside_96 (lv_at hl 3 rfl) ?_
      refine lv_iload hx hb dX2_cameInside_98 (lv_at hl 1 rfl) ?_
      refine lv_icmp_lt (tgt := 119) hx hb dX2_cameInside_100 (by decide) (fun c100 => ?_) (fun c100 => ?_)
      · have c100n := Int32.not_le.mpr c100
        refine lv_iconst (v := 1) hx hb dX2_cameInside_119 (by decide) ?_
        refine lv_goto (tgt := 124) hx hb dX2_cameInside_120 (by decide) ?_
        refine tp_i (y := bI (leB (og 0 * lw + di 0 * lv) ((hi (i * 3)) * lw) (ar 0))) (by simp [bI, leB, c7, c100, c100n]) ?_
        exact J_6
      · have c100n := Int32.not_lt.mp c100
        refine lv_iload hx hb dX2_cameInside_103 (lv_at hl 3 rfl) ?_
        refine lv_iload hx hb dX2_cameInside_105 (lv_at hl 1 rfl) ?_
        refine lv_icmp_ne (tgt := 123) hx hb dX2_cameInside_107 (by decide) (fun c107 => ?_) (fun c107 => ?_)
        · refine lv_iconst (v := 0) hx hb dX2_cameInside_123 (by decide) ?_
          refine tp_i (y := bI (leB (og 0 * lw + di 0 * lv) ((hi (i * 3)) * lw) (ar 0))) (by simp [bI, leB, c7, c100, c100n, c107]) ?_
          exact J_6
        · refine lv_aload_n hx hb dX2_cameInside_110 rfl (lv_at hl 5 rfl) ?_
          refine va_get (D := D) (ci := 2) (v := .ref a3) (C := RX2) (T := TX2) (N := 13) hx hb hg iX2 hown hK hP 0 rfl rfl 2 (by decide) (hg _ kw132) (fun _ h9 => h9) rfl dX2_cameInside_111 ?_
          refine lv_iload_n hx hb dX2_cameInside_114 rfl (lv_at hl 4 rfl) ?_
          refine va_iald hx hb hK hP 3 0 rfl rfl (vp_in_nI (n := 0) (by decide) (by decide)) dX2_cameInside_115 ?_
          refine tp_i (y := ar 0) (congrArg ar (rfl)) ?_
          refine lv_if_le (tgt := 123) hx hb dX2_cameInside_116 (by decide) (fun c116 => ?_) (fun c116 => ?_)
          · have c116n := Int32.not_lt.mpr c116
            refine lv_iconst (v := 0) hx hb dX2_cameInside_123 (by decide) ?_
            refine tp_i (y := bI (leB (og 0 * lw + di 0 * lv) ((hi (i * 3)) * lw) (ar 0))) (by simp [bI, leB, c7, c100, c100n, c107, c116, c116n]) ?_
            exact J_6
          · have c116n := Int32.not_le.mp c116
            refine lv_iconst (v := 1) hx hb dX2_cameInside_119 (by decide) ?_
            refine lv_goto (tgt := 124) hx hb dX2_cameInside_120 (by decide) ?_
            refine tp_i (y := bI (leB (og 0 * lw + di 0 * lv) ((hi (i * 3)) * lw) (ar 0))) (by simp [bI, leB, c7, c100, c100n, c107, c116, c116n]) ?_
            exact J_6
    refine lv_iload hx hb dX2_cameInside_66 (lv_at hl 2 rfl) ?_
    refine lv_iload hx hb dX2_cameInside_68 (lv_at hl 1 rfl) ?_
    refine lv_icmp_gt (tgt := 89) hx hb dX2_cameInside_70 (by decide) (fun c70 => ?_) (fun c70 => ?_)
    · have c70n := Int32.not_le.mpr c70
      refine lv_iconst (v := 1) hx hb dX2_cameInside_89 (by decide) ?_
      refine lv_goto (tgt := 94) hx hb dX2_cameInside_90 (by decide) ?_
      refine tp_i (y := bI (geB (og 0 * lw + di 0 * lv) ((lo (i * 3)) * lw) (ar 0))) (by simp [bI, geB, c7, c70, c70n]) ?_
      exact J_5
    · have c70n := Int32.not_lt.mp c70
      refine lv_iload hx hb dX2_cameInside_73 (lv_at hl 2 rfl) ?_
      refine lv_iload hx hb dX2_cameInside_75 (lv_at hl 1 rfl) ?_
      refine lv_icmp_ne (tgt := 93) hx hb dX2_cameInside_77 (by decide) (fun c77 => ?_) (fun c77 => ?_)
      · refine lv_iconst (v := 0) hx hb dX2_cameInside_93 (by decide) ?_
        refine tp_i (y := bI (geB (og 0 * lw + di 0 * lv) ((lo (i * 3)) * lw) (ar 0))) (by simp [bI, geB, c7, c70, c70n, c77]) ?_
        exact J_5
      · refine lv_aload_n hx hb dX2_cameInside_80 rfl (lv_at hl 4 rfl) ?_
        refine va_get (D := D) (ci := 2) (v := .ref a3) (C := RX2) (T := TX2) (N := 13) hx hb hg iX2 hown hK hP 0 rfl rfl 2 (by decide) (hg _ kw132) (fun _ h9 => h9) rfl dX2_cameInside_81 ?_
        refine lv_iload_n hx hb dX2_cameInside_84 rfl (lv_at hl 3 rfl) ?_
        refine va_iald hx hb hK hP 3 0 rfl rfl (vp_in_nI (n := 0) (by decide) (by decide)) dX2_cameInside_85 ?_
        refine tp_i (y := ar 0) (congrArg ar (rfl)) ?_
        refine lv_if_ge (tgt := 93) hx hb dX2_cameInside_86 (by decide) (fun c86 => ?_) (fun c86 => ?_)
        · have c86n := Int32.not_lt.mpr c86
          refine lv_iconst (v := 0) hx hb dX2_cameInside_93 (by decide) ?_
          refine tp_i (y := bI (geB (og 0 * lw + di 0 * lv) ((lo (i * 3)) * lw) (ar 0))) (by simp [bI, geB, c7, c70, c70n, c77, c86, c86n]) ?_
          exact J_5
        · have c86n := Int32.not_le.mp c86
          refine lv_iconst (v := 1) hx hb dX2_cameInside_89 (by decide) ?_
          refine lv_goto (tgt := 94) hx hb dX2_cameInside_90 (by decide) ?_
          refine tp_i (y := bI (geB (og 0 * lw + di 0 * lv) ((lo (i * 3)) * lw) (ar 0))) (by simp [bI, geB, c7, c70, c70n, c77, c86, c86n]) ?_
          exact J_5
  · refine lv_iconst (v := 0) hx hb dX2_cameInside_10 (by decide) ?_
    exact W.zret (v := 0) hx hb hr (by decide) (fun t ht hW => ⟨congrArg (fun z => Outcome.returned (some (Value.int z))) (by simp [bI, cameB, cameK, c7]), ht⟩) (fun q hq => nomatch hq) dX2_cameInside_11

