set_option maxHeartbeats 4000000 in
set_option maxRecDepth 100000 in
/-- Path.countsNow -/
theorem qX2_countsNow (l : Launch) (D : va_G) (cI cZ cJ : ClassId) (a0 a1 a2 a3 a4 a5 a6 a7 a8 a9 a10 a11 : Nat) (b0 b1 b2 b3 b4 b5 : Nat) (og di ar ho hx9 ha hl9 hs : Nat → Int32) (lb la lv lw nb9 na nv nw ta tv tw : Int32) (nh0 li : Int32) (lo hi ki sh of : Nat → Int32) (cn : Int32) (i : Nat) (hi2 : i < 20) : Met l yX2_countsNow (Cond.code yX2_countsNow cX2_countsNow 3 (some .boolean) :: gw) ({ frames := 2, cells := 0, slots := 0, locals := 49 }) (pq D [.ref a0, .ref b0] [(a0, .inr (2, [.ref a1, .ref a2, .ref a3, .ref a4, .ref a5, .ref a6, .ref a7, .ref a8, .ref a9, .ref a10, .ref a11, .int nh0, .int li])), (a1, .inl (cI, 3, .inl og)), (a2, .inl (cI, 3, .inl di)), (a3, .inl (cI, 3, .inl ar)), (a4, .inl (cI, 30, .inl ho)), (a5, .inl (cI, 30, .inl hx9)), (a6, .inl (cI, 30, .inl ha)), (a7, .inl (cI, 30, .inl hl9)), (a8, .inl (cI, 90, .inl hs)), (a9, .inr (1, [.int lb, .int la, .int lv, .int lw])), (a10, .inr (1, [.int nb9, .int na, .int nv, .int nw])), (a11, .inr (1, [.int (nI i), .int ta, .int tv, .int tw])), (b0, .inr (0, [.ref b1, .ref b2, .ref b3, .ref b4, .ref b5, .int cn])), (b1, .inl (cI, 60, .inl lo)), (b2, .inl (cI, 60, .inl hi)), (b3, .inl (cI, 20, .inl ki)), (b4, .inl (cI, 20, .inl sh)), (b5, .inl (cZ, 20, .inl of))] [(cI, .int), (cZ, .boolean), (cJ, .long)]) (QcRead (bI (countsB lo hi og di ar lb lv lw tv tw i))) 0 0 (fun _ => False) := by
  refine Met.ofW (cc := cX2_countsNow) (maxL := 3) (ret := (some .boolean)) (by decide) rfl ?_
  intro p e s m args below meth c s₁ B hml hv
  obtain ⟨rfl, hP, hK, hZ⟩ := hv
  have hx := B.exec
  have hb := B.bytes
  have hr := B.returns
  have hg : ∀ w ∈ gw, w.before _ s = true := fun w h => atoms_spec (ws := Cond.code yX2_countsNow cX2_countsNow 3 (some .boolean) :: gw) B.pre w (List.mem_cons_of_mem _ h)
  have hown : s.vm.findClass RX2 = some m.cls := findClass_of_methodNamed B.named
  have hlocks := B.notSynchronized
  have hP : va_P D vwCl [(a0, .inr (2, [.ref a1, .ref a2, .ref a3, .ref a4, .ref a5, .ref a6, .ref a7, .ref a8, .ref a9, .ref a10, .ref a11, .int nh0, .int li])), (a1, .inl (cI, 3, .inl og)), (a2, .inl (cI, 3, .inl di)), (a3, .inl (cI, 3, .inl ar)), (a4, .inl (cI, 30, .inl ho)), (a5, .inl (cI, 30, .inl hx9)), (a6, .inl (cI, 30, .inl ha)), (a7, .inl (cI, 30, .inl hl9)), (a8, .inl (cI, 90, .inl hs)), (a9, .inr (1, [.int lb, .int la, .int lv, .int lw])), (a10, .inr (1, [.int nb9, .int na, .int nv, .int nw])), (a11, .inr (1, [.int (nI i), .int ta, .int tv, .int tw])), (b0, .inr (0, [.ref b1, .ref b2, .ref b3, .ref b4, .ref b5, .int cn])), (b1, .inl (cI, 60, .inl lo)), (b2, .inl (cI, 60, .inl hi)), (b3, .inl (cI, 20, .inl ki)), (b4, .inl (cI, 20, .inl sh)), (b5, .inl (cZ, 20, .inl of))] s.heap := hP
  have hl := lv_entry ([.ref a0, .ref b0]) (n := 3) (Nat.le_of_ble_eq_true rfl)
  rw [lg_entry_eq]
  generalize (lg_sl ([.ref a0, .ref b0]) ++ List.replicate (3 - (lg_sl ([.ref a0, .ref b0])).length) Slot.unset).toArray = ls at hl ⊢
  have hl : lv_has ls 3 [(0, .ref a0), (1, .ref b0)] := hl
  refine lv_aload_n hx hb dX2_countsNow_0 rfl (lv_at hl 0 rfl) ?_
  refine va_get (D := D) (ci := 2) (v := .ref a11) (C := RX2) (T := TX2) (N := 13) hx hb hg iX2 hown hK hP 0 rfl rfl 10 (by decide) (hg _ kw145) (fun _ h9 => h9) rfl dX2_countsNow_1 ?_
  refine lv_aload_n hx hb dX2_countsNow_4 rfl (lv_at hl 0 rfl) ?_
  refine va_get (D := D) (ci := 2) (v := .ref a9) (C := RX2) (T := TX2) (N := 13) hx hb hg iX2 hown hK hP 0 rfl rfl 8 (by decide) (hg _ kw143) (fun _ h9 => h9) rfl dX2_countsNow_5 ?_
  have hPc := hP.sub (ws' := [(a11, .inr (1, [.int (nI i), .int ta, .int tv, .int tw])), (a9, .inr (1, [.int lb, .int la, .int lv, .int lw]))]) [11, 9] rfl
  refine rq_call (va_runVN (As := [.ref a9]) (rest := []) ⟨hx, hb, hml, hown, hg⟩ (qX1_compareTime l D cI cZ cJ a11 a9 (nI i) ta tv tw lb la lv lw) ⟨va_cnB 1 hg (gw_in kw386) rfl rfl rfl (nzM_9 hZ) (hg _ kw40) (by decide +kernel) ⟨Nat.le_of_ble_eq_true rfl, Nat.le_of_ble_eq_true rfl⟩, hg _ kw385, hg _ kw13⟩ (pq_preV hPc hK hZ (va_recv hK hPc (ci := 1) (q0 := 0) rfl rfl)) rfl rfl hl.1 rfl (lv_room (Nat.le_of_ble_eq_true rfl)) dX2_countsNow_8 ⟨Nat.le_of_ble_eq_true rfl, Nat.le_of_ble_eq_true rfl⟩) ?_
  refine lv_istore_n (lv' := [(2, .int (cmpI (tv * lw) (lv * tw))), (0, .ref a0), (1, .ref b0)]) hx hb dX2_countsNow_11 rfl hl (by decide) rfl (fun ls hl => ?_)
  refine lv_iload_n hx hb dX2_countsNow_12 rfl (lv_at hl 0 rfl) ?_
  refine lv_if_eq (tgt := 26) hx hb dX2_countsNow_13 (by decide) (fun c13 => ?_) (fun c13 => ?_)
  · refine lv_aload_n hx hb dX2_countsNow_26 rfl (lv_at hl 1 rfl) ?_
    refine va_get (D := D) (ci := 2) (v := .ref a11) (C := RX2) (T := TX2) (N := 13) hx hb hg iX2 hown hK hP 0 rfl rfl 10 (by decide) (hg _ kw145) (fun _ h9 => h9) rfl dX2_countsNow_27 ?_
    refine va_getN (D := D) (ci := 1) (v := .int (nI i)) (C := RX1) (T := TX1) (N := 4) hx hb hg iX1 hown hK hP 11 rfl rfl 0 (by decide) (va_Nw.use rfl (nzF_10 hZ)) (fun _ h9 => h9) rfl dX2_countsNow_30 ?_
    refine lv_aload_n hx hb dX2_countsNow_33 rfl (lv_at hl 1 rfl) ?_
    refine va_get (D := D) (ci := 2) (v := .ref a9) (C := RX2) (T := TX2) (N := 13) hx hb hg iX2 hown hK hP 0 rfl rfl 8 (by decide) (hg _ kw143) (fun _ h9 => h9) rfl dX2_countsNow_34 ?_
    refine va_getN (D := D) (ci := 1) (v := .int lb) (C := RX1) (T := TX1) (N := 4) hx hb hg iX1 hown hK hP 9 rfl rfl 0 (by decide) (va_Nw.use rfl (nzF_10 hZ)) (fun _ h9 => h9) rfl dX2_countsNow_37 ?_
    refine lv_icmp_le (tgt := 62) hx hb dX2_countsNow_40 (by decide) (fun c40 => ?_) (fun c40 => ?_)
    · have c40n := Int32.not_lt.mpr c40
      refine lv_iconst (v := 0) hx hb dX2_countsNow_62 (by decide) ?_
      exact W.zret (v := 0) hx hb hr (by decide) (fun t ht hW => ⟨congrArg (fun z => Outcome.returned (some (Value.int z))) (by simp [bI, countsB, c13, c40, c40n]), ht⟩) (fun q hq => nomatch hq) dX2_countsNow_63
    · have c40n := Int32.not_le.mp c40
      refine lv_aload_n hx hb dX2_countsNow_43 rfl (lv_at hl 1 rfl) ?_
      refine lv_aload_n hx hb dX2_countsNow_44 rfl (lv_at hl 2 rfl) ?_
      refine lv_aload_n hx hb dX2_countsNow_45 rfl (lv_at hl 1 rfl) ?_
      refine va_get (D := D) (ci := 2) (v := .ref a11) (C := RX2) (T := TX2) (N := 13) hx hb hg iX2 hown hK hP 0 rfl rfl 10 (by decide) (hg _ kw145) (fun _ h9 => h9) rfl dX2_countsNow_46 ?_
      refine va_getN (D := D) (ci := 1) (v := .int (nI i)) (C := RX1) (T := TX1) (N := 4) hx hb hg iX1 hown hK hP 11 rfl rfl 0 (by decide) (va_Nw.use rfl (nzF_10 hZ)) (fun _ h9 => h9) rfl dX2_countsNow_49 ?_
      have hPc := hP.sub (ws' := [(a0, .inr (2, [.ref a1, .ref a2, .ref a3, .ref a4, .ref a5, .ref a6, .ref a7, .ref a8, .ref a9, .ref a10, .ref a11, .int nh0, .int li])), (a1, .inl (cI, 3, .inl og)), (a2, .inl (cI, 3, .inl di)), (a3, .inl (cI, 3, .inl ar)), (a4, .inl (cI, 30, .inl ho)), (a5, .inl (cI, 30, .inl hx9)), (a6, .inl (cI, 30, .inl ha)), (a7, .inl (cI, 30, .inl hl9)), (a8, .inl (cI, 90, .inl hs)), (a9, .inr (1, [.int lb, .int la, .int lv, .int lw])), (a10, .inr (1, [.int nb9, .int na, .int nv, .int nw])), (a11, .inr (1, [.int (nI i), .int ta, .int tv, .int tw])), (b0, .inr (0, [.ref b1, .ref b2, .ref b3, .ref b4, .ref b5, .int cn])), (b1, .inl (cI, 60, .inl lo)), (b2, .inl (cI, 60, .inl hi)), (b3, .inl (cI, 20, .inl ki)), (b4, .inl (cI, 20, .inl sh)), (b5, .inl (cZ, 20, .inl of))]) [0, 1, 2, 3, 4, 5, 6, 7, 8, 9, 10, 11, 12, 13, 14, 15, 16, 17] rfl
      refine rq_call (va_runV (As := [.ref b0, .int (nI i)]) (rest := []) ⟨hx, hb, hml, hown, hg⟩ (qX2_cameInside l D cI cZ cJ a0 a1 a2 a3 a4 a5 a6 a7 a8 a9 a10 a11 b0 b1 b2 b3 b4 b5 og di ar ho hx9 ha hl9 hs lb la lv lw nb9 na nv nw (nI i) ta tv tw nh0 li lo hi ki sh of cn i hi2) (cwV 2 hg (gw_V kw390 kw392 kw14 kw39 kw393) rfl rfl rfl (by decide +kernel) ⟨Nat.le_of_ble_eq_true rfl, Nat.le_of_ble_eq_true rfl⟩) (pq_preV hPc hK hZ (va_recv hK hPc (ci := 2) (q0 := 0) rfl rfl)) rfl rfl hl.1 rfl (lv_room (Nat.le_of_ble_eq_true rfl)) dX2_countsNow_52 ⟨Nat.le_of_ble_eq_true rfl, Nat.le_of_ble_eq_true rfl⟩) ?_
      refine lv_if_ne (tgt := 62) hx hb dX2_countsNow_55 (by decide) (fun c55 => ?_) (fun c55 => ?_)
      · replace c55 := bI_t c55
        refine lv_iconst (v := 0) hx hb dX2_countsNow_62 (by decide) ?_
        exact W.zret (v := 0) hx hb hr (by decide) (fun t ht hW => ⟨congrArg (fun z => Outcome.returned (some (Value.int z))) (by simp [bI, countsB, c13, c40, c40n, c55]), ht⟩) (fun q hq => nomatch hq) dX2_countsNow_63
      · replace c55 := bI_f c55
        refine lv_iconst (v := 1) hx hb dX2_countsNow_58 (by decide) ?_
        refine lv_goto (tgt := 63) hx hb dX2_countsNow_59 (by decide) ?_
        exact W.zret (v := 1) hx hb hr (by decide) (fun t ht hW => ⟨congrArg (fun z => Outcome.returned (some (Value.int z))) (by simp [bI, countsB, c13, c40, c40n, c55]), ht⟩) (fun q hq => nomatch hq) dX2_countsNow_63
  · refine lv_iload_n hx hb dX2_countsNow_16 rfl (lv_at hl 0 rfl) ?_
    refine lv_if_le (tgt := 24) hx hb dX2_countsNow_17 (by decide) (fun c17 => ?_) (fun c17 => ?_)
    · have c17n := Int32.not_lt.mpr c17
      refine lv_iconst (v := 0) hx hb dX2_countsNow_24 (by decide) ?_
      exact W.zret (v := 0) hx hb hr (by decide) (fun t ht hW => ⟨congrArg (fun z => Outcome.returned (some (Value.int z))) (by simp [bI, countsB, c13, c17, c17n]), ht⟩) (fun q hq => nomatch hq) dX2_countsNow_25
    · have c17n := Int32.not_le.mp c17
      refine lv_iconst (v := 1) hx hb dX2_countsNow_20 (by decide) ?_
      refine lv_goto (tgt := 25) hx hb dX2_countsNow_21 (by decide) ?_
      exact W.zret (v := 1) hx hb hr (by decide) (fun t ht hW => ⟨congrArg (fun z => Outcome.returned (some (Value.int z))) (by simp [bI, countsB, c13, c17, c17n]), ht⟩) (fun q hq => nomatch hq) dX2_countsNow_25
