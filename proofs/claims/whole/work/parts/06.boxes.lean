/-! numbers of the class -/
theorem n3 (i k : Nat) : nI i * 3 + nI k = nI (i * 3 + k) := by rw [show (3 : Int32) = nI 3 from rfl, pk_mul, nI_add]
theorem vin3 {i k N : Nat} (h : i * 3 + k < N) (hN : N < 2 ^ 31) : vp_in (nI i * 3 + nI k) N := by rw [n3]; exact vp_in_nI h hN
theorem vcl3 {i k : Nat} (h : i * 3 + k < 2 ^ 31) : (nI i * 3 + nI k).toNatClampNeg = i * 3 + k := by rw [n3]; exact nI_clamp h
theorem vin30 {i N : Nat} (h : i * 3 < N) (hN : N < 2 ^ 31) : vp_in (nI i * 3) N := by rw [show (3 : Int32) = nI 3 from rfl, pk_mul]; exact vp_in_nI h hN
theorem vcl30 {i : Nat} (h : i * 3 < 2 ^ 31) : (nI i * 3).toNatClampNeg = i * 3 := by rw [show (3 : Int32) = nI 3 from rfl, pk_mul]; exact nI_clamp h
def bI (b : Bool) : Int32 := if b = true then 1 else 0
theorem bI_f {b : Bool} (h : bI b = 0) : b = false := by cases b <;> first | rfl | (revert h; decide)
theorem bI_t {b : Bool} (h : ¬ bI b = 0) : b = true := by cases b <;> first | rfl | (revert h; decide)
/-- a point lies inside the box i -/
def inB (lo hi pt : Nat → Int32) (i : Nat) : Bool := (!decide (pt 0 ≤ lo (i * 3)) && !decide (hi (i * 3) ≤ pt 0)) && ((!decide (pt 1 ≤ lo (i * 3 + 1)) && !decide (hi (i * 3 + 1) ≤ pt 1)) && (!decide (pt 2 ≤ lo (i * 3 + 2)) && !decide (hi (i * 3 + 2) ≤ pt 2)))
def solidB (lo hi ki of pt : Nat → Int32) (i : Nat) : Bool := decide (of i = 0) && (decide (ki i = 0) && inB lo hi pt i)
def anyB (lo hi ki of pt : Nat → Int32) : Nat → Nat → Bool
  | 0, _ => false
  | n + 1, i => solidB lo hi ki of pt i || anyB lo hi ki of pt n (i + 1)

set_option maxHeartbeats 4000000 in
set_option maxRecDepth 100000 in
/-- Boxes.isInside -/
theorem qX0_isInside (l : Launch) (D : va_G) (cI cZ cJ : ClassId) (b0 b1 b2 b3 b4 b5 : Nat) (a1 : Nat) (lo hi ki sh of : Nat → Int32) (cn : Int32) (pt : Nat → Int32) (i : Nat) (hi2 : i < 20) : Met l yX0_isInside (Cond.code yX0_isInside cX0_isInside 5 (some .boolean) :: gw) ({ frames := 0, cells := 0, slots := 0, locals := 0 }) (pq D [.ref b0, .int (nI i), .ref a1] [(b0, .inr (0, [.ref b1, .ref b2, .ref b3, .ref b4, .ref b5, .int cn])), (b1, .inl (cI, 60, .inl lo)), (b2, .inl (cI, 60, .inl hi)), (b3, .inl (cI, 20, .inl ki)), (b4, .inl (cI, 20, .inl sh)), (b5, .inl (cZ, 20, .inl of)), (a1, .inl (cI, 3, .inl pt))] [(cI, .int), (cZ, .boolean), (cJ, .long)]) (QcRead (bI (inB lo hi pt i))) 0 0 (fun _ => False) := by
  refine Met.ofW (cc := cX0_isInside) (maxL := 5) (ret := (some .boolean)) (by decide) rfl ?_
  intro p e s m args below meth c s₁ B hml hv
  obtain ⟨rfl, hP, hK, hZ⟩ := hv
  have hx := B.exec
  have hb := B.bytes
  have hr := B.returns
  have hg : ∀ w ∈ gw, w.before _ s = true := fun w h => atoms_spec (ws := Cond.code yX0_isInside cX0_isInside 5 (some .boolean) :: gw) B.pre w (List.mem_cons_of_mem _ h)
  have hown : s.vm.findClass RX0 = some m.cls := findClass_of_methodNamed B.named
  have hlocks := B.notSynchronized
  have hP : va_P D vwCl [(b0, .inr (0, [.ref b1, .ref b2, .ref b3, .ref b4, .ref b5, .int cn])), (b1, .inl (cI, 60, .inl lo)), (b2, .inl (cI, 60, .inl hi)), (b3, .inl (cI, 20, .inl ki)), (b4, .inl (cI, 20, .inl sh)), (b5, .inl (cZ, 20, .inl of)), (a1, .inl (cI, 3, .inl pt))] s.heap := hP
  have hl := lv_entry ([.ref b0, .int (nI i), .ref a1]) (n := 5) (Nat.le_of_ble_eq_true rfl)
  rw [lg_entry_eq]
  generalize (lg_sl ([.ref b0, .int (nI i), .ref a1]) ++ List.replicate (5 - (lg_sl ([.ref b0, .int (nI i), .ref a1])).length) Slot.unset).toArray = ls at hl ⊢
  have hl : lv_has ls 5 [(0, .ref b0), (1, .int (nI i)), (2, .ref a1)] := hl
  refine lv_iconst (v := 0) hx hb dX0_isInside_0 (by decide) ?_
  refine lv_istore_n (lv' := [(3, .int 0), (0, .ref b0), (1, .int (nI i)), (2, .ref a1)]) hx hb dX0_isInside_1 rfl hl (by decide) rfl (fun ls hl => ?_)
  refine lv_iload_n hx hb dX0_isInside_2 rfl (lv_at hl 0 rfl) ?_
  refine lv_iconst (v := 3) hx hb dX0_isInside_3 (by decide) ?_
  refine lv_icmp_ge (tgt := 50) hx hb dX0_isInside_4 (by decide) (fun c4 => absurd c4 (by decide)) (fun _ => ?_)
  refine lv_aload_n hx hb dX0_isInside_7 rfl (lv_at hl 3 rfl) ?_
  refine lv_iload_n hx hb dX0_isInside_8 rfl (lv_at hl 0 rfl) ?_
  refine va_iald hx hb hK hP 6 0 rfl rfl (vp_in_nI (n := 0) (by decide) (by decide)) dX0_isInside_9 ?_
  refine tp_i (y := pt 0) (congrArg pt (rfl)) ?_
  refine lv_istore (lv' := [(4, .int (pt 0)), (3, .int 0), (0, .ref b0), (1, .int (nI i)), (2, .ref a1)]) hx hb dX0_isInside_10 hl (by decide) rfl (fun ls hl => ?_)
  refine lv_iload hx hb dX0_isInside_12 (lv_at hl 0 rfl) ?_
  refine lv_aload_n hx hb dX0_isInside_14 rfl (lv_at hl 2 rfl) ?_
  refine va_get (D := D) (ci := 0) (v := .ref b1) (C := RX0) (T := TX0) (N := 6) hx hb hg iX0 hown hK hP 0 rfl rfl 0 (by decide) (hg _ kw69) (fun _ h9 => h9) rfl dX0_isInside_15 ?_
  refine lv_iload_n hx hb dX0_isInside_18 rfl (lv_at hl 3 rfl) ?_
  refine lv_iconst (v := 3) hx hb dX0_isInside_19 (by decide) ?_
  refine lv_imul hx hb dX0_isInside_20 ?_
  refine lv_iload_n hx hb dX0_isInside_21 rfl (lv_at hl 1 rfl) ?_
  refine lv_iadd hx hb dX0_isInside_22 ?_
  refine va_iald hx hb hK hP 1 0 rfl rfl (vin3 (k := 0) (by omega) (by decide)) dX0_isInside_23 ?_
  refine tp_i (y := lo (i * 3)) (congrArg lo (vcl3 (k := 0) (by omega))) ?_
  refine lv_icmp_le (tgt := 42) hx hb dX0_isInside_24 (by decide) (fun c24 => ?_) (fun c24 => ?_)
  · have c24n := Int32.not_lt.mpr c24
    refine lv_iconst (v := 0) hx hb dX0_isInside_42 (by decide) ?_
    exact W.zret (v := 0) hx hb hr (by decide) (fun t ht hW => ⟨congrArg (fun z => Outcome.returned (some (Value.int z))) (by simp [inB, bI, c24, c24n]), ht⟩) (fun q hq => nomatch hq) dX0_isInside_43
  · have c24n := Int32.not_le.mp c24
    refine lv_iload hx hb dX0_isInside_27 (lv_at hl 0 rfl) ?_
    refine lv_aload_n hx hb dX0_isInside_29 rfl (lv_at hl 2 rfl) ?_
    refine va_get (D := D) (ci := 0) (v := .ref b2) (C := RX0) (T := TX0) (N := 6) hx hb hg iX0 hown hK hP 0 rfl rfl 1 (by decide) (hg _ kw71) (fun _ h9 => h9) rfl dX0_isInside_30 ?_
    refine lv_iload_n hx hb dX0_isInside_33 rfl (lv_at hl 3 rfl) ?_
    refine lv_iconst (v := 3) hx hb dX0_isInside_34 (by decide) ?_
    refine lv_imul hx hb dX0_isInside_35 ?_
    refine lv_iload_n hx hb dX0_isInside_36 rfl (lv_at hl 1 rfl) ?_
    refine lv_iadd hx hb dX0_isInside_37 ?_
    refine va_iald hx hb hK hP 2 0 rfl rfl (vin3 (k := 0) (by omega) (by decide)) dX0_isInside_38 ?_
    refine tp_i (y := hi (i * 3)) (congrArg hi (vcl3 (k := 0) (by omega))) ?_
    refine lv_icmp_lt (tgt := 44) hx hb dX0_isInside_39 (by decide) (fun c39 => ?_) (fun c39 => ?_)
    · have c39n := Int32.not_le.mpr c39
      refine lv_iinc (v := 1) (lv' := [(3, .int 1), (4, .int (pt 0)), (0, .ref b0), (1, .int (nI i)), (2, .ref a1)]) hx hb dX0_isInside_44 hl (k := 1) rfl (by decide) (by decide) rfl (fun ls hl => ?_)
      refine lv_goto (tgt := 2) hx hb dX0_isInside_47 (by decide) ?_
      refine lv_iload_n hx hb dX0_isInside_2 rfl (lv_at hl 0 rfl) ?_
      refine lv_iconst (v := 3) hx hb dX0_isInside_3 (by decide) ?_
      refine lv_icmp_ge (tgt := 50) hx hb dX0_isInside_4 (by decide) (fun c4 => absurd c4 (by decide)) (fun _ => ?_)
      refine lv_aload_n hx hb dX0_isInside_7 rfl (lv_at hl 4 rfl) ?_
      refine lv_iload_n hx hb dX0_isInside_8 rfl (lv_at hl 0 rfl) ?_
      refine va_iald hx hb hK hP 6 0 rfl rfl (vp_in_nI (n := 1) (by decide) (by decide)) dX0_isInside_9 ?_
      refine tp_i (y := pt 1) (congrArg pt (rfl)) ?_
      refine lv_istore (lv' := [(4, .int (pt 1)), (3, .int 1), (0, .ref b0), (1, .int (nI i)), (2, .ref a1)]) hx hb dX0_isInside_10 hl (by decide) rfl (fun ls hl => ?_)
      refine lv_iload hx hb dX0_isInside_12 (lv_at hl 0 rfl) ?_
      refine lv_aload_n hx hb dX0_isInside_14 rfl (lv_at hl 2 rfl) ?_
      refine va_get (D := D) (ci := 0) (v := .ref b1) (C := RX0) (T := TX0) (N := 6) hx hb hg iX0 hown hK hP 0 rfl rfl 0 (by decide) (hg _ kw69) (fun _ h9 => h9) rfl dX0_isInside_15 ?_
      refine lv_iload_n hx hb dX0_isInside_18 rfl (lv_at hl 3 rfl) ?_
      refine lv_iconst (v := 3) hx hb dX0_isInside_19 (by decide) ?_
      refine lv_imul hx hb dX0_isInside_20 ?_
      refine lv_iload_n hx hb dX0_isInside_21 rfl (lv_at hl 1 rfl) ?_
      refine lv_iadd hx hb dX0_isInside_22 ?_
      refine va_iald hx hb hK hP 1 0 rfl rfl (vin3 (k := 1) (by omega) (by decide)) dX0_isInside_23 ?_
      refine tp_i (y := lo (i * 3 + 1)) (congrArg lo (vcl3 (k := 1) (by omega))) ?_
      refine lv_icmp_le (tgt := 42) hx hb dX0_isInside_24 (by decide) (fun c24_1 => ?_) (fun c24_1 => ?_)
      · have c24_1n := Int32.not_lt.mpr c24_1
        refine lv_iconst (v := 0) hx hb dX0_isInside_42 (by decide) ?_
        exact W.zret (v := 0) hx hb hr (by decide) (fun t ht hW => ⟨congrArg (fun z => Outcome.returned (some (Value.int z))) (by simp [inB, bI, c24, c24n, c39, c39n, c24_1, c24_1n]), ht⟩) (fun q hq => nomatch hq) dX0_isInside_43
      · have c24_1n := Int32.not_le.mp c24_1
        refine lv_iload hx hb dX0_isInside_27 (lv_at hl 0 rfl) ?_
        refine lv_aload_n hx hb dX0_isInside_29 rfl (lv_at hl 2 rfl) ?_
        refine va_get (D := D) (ci := 0) (v := .ref b2) (C := RX0) (T := TX0) (N := 6) hx hb hg iX0 hown hK hP 0 rfl rfl 1 (by decide) (hg _ kw71) (fun _ h9 => h9) rfl dX0_isInside_30 ?_
        refine lv_iload_n hx hb dX0_isInside_33 rfl (lv_at hl 3 rfl) ?_
        refine lv_iconst (v := 3) hx hb dX0_isInside_34 (by decide) ?_
        refine lv_imul hx hb dX0_isInside_35 ?_
        refine lv_iload_n hx hb dX0_isInside_36 rfl (lv_at hl 1 rfl) ?_
        refine lv_iadd hx hb dX0_isInside_37 ?_
        refine va_iald hx hb hK hP 2 0 rfl rfl (vin3 (k := 1) (by omega) (by decide)) dX0_isInside_38 ?_
        refine tp_i (y := hi (i * 3 + 1)) (congrArg hi (vcl3 (k := 1) (by omega))) ?_
        refine lv_icmp_lt (tgt := 44) hx hb dX0_isInside_39 (by decide) (fun c39_1 => ?_) (fun c39_1 => ?_)
        · have c39_1n := Int32.not_le.mpr c39_1
          refine lv_iinc (v := 2) (lv' := [(3, .int 2), (4, .int (pt 1)), (0, .ref b0), (1, .int (nI i)), (2, .ref a1)]) hx hb dX0_isInside_44 hl (k := 1) rfl (by decide) (by decide) rfl (fun ls hl => ?_)
          refine lv_goto (tgt := 2) hx hb dX0_isInside_47 (by decide) ?_
          refine lv_iload_n hx hb dX0_isInside_2 rfl (lv_at hl 0 rfl) ?_
          refine lv_iconst (v := 3) hx hb dX0_isInside_3 (by decide) ?_
          refine lv_icmp_ge (tgt := 50) hx hb dX0_isInside_4 (by decide) (fun c4 => absurd c4 (by decide)) (fun _ => ?_)
          refine lv_aload_n hx hb dX0_isInside_7 rfl (lv_at hl 4 rfl) ?_
          refine lv_iload_n hx hb dX0_isInside_8 rfl (lv_at hl 0 rfl) ?_
          refine va_iald hx hb hK hP 6 0 rfl rfl (vp_in_nI (n := 2) (by decide) (by decide)) dX0_isInside_9 ?_
          refine tp_i (y := pt 2) (congrArg pt (rfl)) ?_
          refine lv_istore (lv' := [(4, .int (pt 2)), (3, .int 2), (0, .ref b0), (1, .int (nI i)), (2, .ref a1)]) hx hb dX0_isInside_10 hl (by decide) rfl (fun ls hl => ?_)
          refine lv_iload hx hb dX0_isInside_12 (lv_at hl 0 rfl) ?_
          refine lv_aload_n hx hb dX0_isInside_14 rfl (lv_at hl 2 rfl) ?_
          refine va_get (D := D) (ci := 0) (v := .ref b1) (C := RX0) (T := TX0) (N := 6) hx hb hg iX0 hown hK hP 0 rfl rfl 0 (by decide) (hg _ kw69) (fun _ h9 => h9) rfl dX0_isInside_15 ?_
          refine lv_iload_n hx hb dX0_isInside_18 rfl (lv_at hl 3 rfl) ?_
          refine lv_iconst (v := 3) hx hb dX0_isInside_19 (by decide) ?_
          refine lv_imul hx hb dX0_isInside_20 ?_
          refine lv_iload_n hx hb dX0_isInside_21 rfl (lv_at hl 1 rfl) ?_
          refine lv_iadd hx hb dX0_isInside_22 ?_
          refine va_iald hx hb hK hP 1 0 rfl rfl (vin3 (k := 2) (by omega) (by decide)) dX0_isInside_23 ?_
          refine tp_i (y := lo (i * 3 + 2)) (congrArg lo (vcl3 (k := 2) (by omega))) ?_
          refine lv_icmp_le (tgt := 42) hx hb dX0_isInside_24 (by decide) (fun c24_2 => ?_) (fun c24_2 => ?_)
          · have c24_2n := Int32.not_lt.mpr c24_2
            refine lv_iconst (v := 0) hx hb dX0_isInside_42 (by decide) ?_
            exact W.zret (v := 0) hx hb hr (by decide) (fun t ht hW => ⟨congrArg (fun z => Outcome.returned (some (Value.int z))) (by simp [inB, bI, c24, c24n, c39, c39n, c24_1, c24_1n, c39_1, c39_1n, c24_2, c24_2n]), ht⟩) (fun q hq => nomatch hq) dX0_isInside_43
          · have c24_2n := Int32.not_le.mp c24_2
            refine lv_iload hx hb dX0_isInside_27 (lv_at hl 0 rfl) ?_
            refine lv_aload_n hx hb dX0_isInside_29 rfl (lv_at hl 2 rfl) ?_
            refine va_get (D := D) (ci := 0) (v := .ref b2) (C := RX0) (T := TX0) (N := 6) hx hb hg iX0 hown hK hP 0 rfl rfl 1 (by decide) (hg _ kw71) (fun _ h9 => h9) rfl dX0_isInside_30 ?_
            refine lv_iload_n hx hb dX0_isInside_33 rfl (lv_at hl 3 rfl) ?_
            refine lv_iconst (v := 3) hx hb dX0_isInside_34 (by decide) ?_
            refine lv_imul hx hb dX0_isInside_35 ?_
            refine lv_iload_n hx hb dX0_isInside_36 rfl (lv_at hl 1 rfl) ?_
            refine lv_iadd hx hb dX0_isInside_37 ?_
            refine va_iald hx hb hK hP 2 0 rfl rfl (vin3 (k := 2) (by omega) (by decide)) dX0_isInside_38 ?_
            refine tp_i (y := hi (i * 3 + 2)) (congrArg hi (vcl3 (k := 2) (by omega))) ?_
            refine lv_icmp_lt (tgt := 44) hx hb dX0_isInside_39 (by decide) (fun c39_2 => ?_) (fun c39_2 => ?_)
            · have c39_2n := Int32.not_le.mpr c39_2
              refine lv_iinc (v := 3) (lv' := [(3, .int 3), (4, .int (pt 2)), (0, .ref b0), (1, .int (nI i)), (2, .ref a1)]) hx hb dX0_isInside_44 hl (k := 1) rfl (by decide) (by decide) rfl (fun ls hl => ?_)
              refine lv_goto (tgt := 2) hx hb dX0_isInside_47 (by decide) ?_
              refine lv_iload_n hx hb dX0_isInside_2 rfl (lv_at hl 0 rfl) ?_
              refine lv_iconst (v := 3) hx hb dX0_isInside_3 (by decide) ?_
              refine lv_icmp_ge (tgt := 50) hx hb dX0_isInside_4 (by decide) (fun _ => ?_) (fun c4 => absurd (by decide) c4)
              refine lv_iconst (v := 1) hx hb dX0_isInside_50 (by decide) ?_
              exact W.zret (v := 1) hx hb hr (by decide) (fun t ht hW => ⟨congrArg (fun z => Outcome.returned (some (Value.int z))) (by simp [inB, bI, c24, c24n, c39, c39n, c24_1, c24_1n, c39_1, c39_1n, c24_2, c24_2n, c39_2, c39_2n]), ht⟩) (fun q hq => nomatch hq) dX0_isInside_51
            · have c39_2n := Int32.not_lt.mp c39_2
              refine lv_iconst (v := 0) hx hb dX0_isInside_42 (by decide) ?_
              exact W.zret (v := 0) hx hb hr (by decide) (fun t ht hW => ⟨congrArg (fun z => Outcome.returned (some (Value.int z))) (by simp [inB, bI, c24, c24n, c39, c39n, c24_1, c24_1n, c39_1, c39_1n, c24_2, c24_2n, c39_2, c39_2n]), ht⟩) (fun q hq => nomatch hq) dX0_isInside_43
        · have c39_1n := Int32.not_lt.mp c39_1
          refine lv_iconst (v := 0) hx hb dX0_isInside_42 (by decide) ?_
          exact W.zret (v := 0) hx hb hr (by decide) (fun t ht hW => ⟨congrArg (fun z => Outcome.returned (some (Value.int z))) (by simp [inB, bI, c24, c24n, c39, c39n, c24_1, c24_1n, c39_1, c39_1n]), ht⟩) (fun q hq => nomatch hq) dX0_isInside_43
    · have c39n := Int32.not_lt.mp c39
      refine lv_iconst (v := 0) hx hb dX0_isInside_42 (by decide) ?_
      exact W.zret (v := 0) hx hb hr (by decide) (fun t ht hW => ⟨congrArg (fun z => Outcome.returned (some (Value.int z))) (by simp [inB, bI, c24, c24n, c39, c39n]), ht⟩) (fun q hq => nomatch hq) dX0_isInside_43

set_option maxHeartbeats 4000000 in
set_option maxRecDepth 100000 in
/-- Boxes.anySolidRound -/
theorem qX0_anySolidRound (l : Launch) (D : va_G) (cI cZ cJ : ClassId) (b0 b1 b2 b3 b4 b5 : Nat) (a1 : Nat) (lo hi ki sh of : Nat → Int32) (nb : Nat) (pt : Nat → Int32) (hnb : nb ≤ 20) : Met l yX0_anySolidRound (Cond.code yX0_anySolidRound cX0_anySolidRound 3 (some .boolean) :: gw) ({ frames := 1, cells := 0, slots := 0, locals := 24 }) (pq D [.ref b0, .ref a1] [(b0, .inr (0, [.ref b1, .ref b2, .ref b3, .ref b4, .ref b5, .int (nI nb)])), (b1, .inl (cI, 60, .inl lo)), (b2, .inl (cI, 60, .inl hi)), (b3, .inl (cI, 20, .inl ki)), (b4, .inl (cI, 20, .inl sh)), (b5, .inl (cZ, 20, .inl of)), (a1, .inl (cI, 3, .inl pt))] [(cI, .int), (cZ, .boolean), (cJ, .long)]) (QcRead (bI (anyB lo hi ki of pt nb 0))) 0 0 (fun _ => False) := by
  refine Met.ofW (cc := cX0_anySolidRound) (maxL := 3) (ret := (some .boolean)) (by decide) rfl ?_
  intro p e s m args below meth c s₁ B hml hv
  obtain ⟨rfl, hP, hK, hZ⟩ := hv
  have hx := B.exec
  have hb := B.bytes
  have hr := B.returns
  have hg : ∀ w ∈ gw, w.before _ s = true := fun w h => atoms_spec (ws := Cond.code yX0_anySolidRound cX0_anySolidRound 3 (some .boolean) :: gw) B.pre w (List.mem_cons_of_mem _ h)
  have hown : s.vm.findClass RX0 = some m.cls := findClass_of_methodNamed B.named
  have hlocks := B.notSynchronized
  have hP : va_P D vwCl [(b0, .inr (0, [.ref b1, .ref b2, .ref b3, .ref b4, .ref b5, .int (nI nb)])), (b1, .inl (cI, 60, .inl lo)), (b2, .inl (cI, 60, .inl hi)), (b3, .inl (cI, 20, .inl ki)), (b4, .inl (cI, 20, .inl sh)), (b5, .inl (cZ, 20, .inl of)), (a1, .inl (cI, 3, .inl pt))] s.heap := hP
  have hl := lv_entry ([.ref b0, .ref a1]) (n := 3) (Nat.le_of_ble_eq_true rfl)
  rw [lg_entry_eq]
  generalize (lg_sl ([.ref b0, .ref a1]) ++ List.replicate (3 - (lg_sl ([.ref b0, .ref a1])).length) Slot.unset).toArray = ls at hl ⊢
  have hl : lv_has ls 3 [(0, .ref b0), (1, .ref a1)] := hl
  refine lv_iconst (v := 0) hx hb dX0_anySolidRound_0 (by decide) ?_
  refine lv_istore_n (lv' := [(2, .int 0), (0, .ref b0), (1, .ref a1)]) hx hb dX0_anySolidRound_1 rfl hl (by decide) rfl (fun ls hl => ?_)
  have loop : ∀ (n i : Nat), i + n = nb → ∀ ls : Array Slot, lv_has ls 3 [(0, .ref b0), (1, .ref a1), (2, .int (nI i))] → W p l e (headSpec (Cond.code yX0_anySolidRound cX0_anySolidRound 3 (some .boolean) :: gw) ({ frames := 1, cells := 0, slots := 0, locals := 24 })).room s m ([.ref b0, .ref a1] : List Value).toArray below meth c s.heap [] 0 0 (MQ below (QcRead (bI (anyB lo hi ki of pt n i))) ([.ref b0, .ref a1] : List Value).toArray s 0 0 (fun _ => False)) (F0 m 2 ls []) := by
    intro n
    induction n with
    | zero =>
      intro i hi2 ls hl
      refine lv_iload_n hx hb dX0_anySolidRound_2 rfl (lv_at hl 2 rfl) ?_
      refine lv_aload_n hx hb dX0_anySolidRound_3 rfl (lv_at hl 0 rfl) ?_
      refine va_get (D := D) (ci := 0) (v := .int (nI nb)) (C := RX0) (T := TX0) (N := 6) hx hb hg iX0 hown hK hP 0 rfl rfl 5 (by decide) (hg _ kw82) (fun _ h9 => h9) rfl dX0_anySolidRound_4 ?_
      refine lv_icmp_ge (tgt := 45) hx hb dX0_anySolidRound_7 (by decide) (fun _ => ?_) (fun c7 => absurd (nI_le (by omega) (by omega)) c7)
      refine lv_iconst (v := 0) hx hb dX0_anySolidRound_45 (by decide) ?_
      exact W.zret (v := 0) hx hb hr (by decide) (fun t ht hW => ⟨congrArg (fun z => Outcome.returned (some (Value.int z))) (rfl), ht⟩) (fun q hq => nomatch hq) dX0_anySolidRound_46
    | succ n ih =>
      intro i hi2 ls hl
      refine lv_iload_n hx hb dX0_anySolidRound_2 rfl (lv_at hl 2 rfl) ?_
      refine lv_aload_n hx hb dX0_anySolidRound_3 rfl (lv_at hl 0 rfl) ?_
      refine va_get (D := D) (ci := 0) (v := .int (nI nb)) (C := RX0) (T := TX0) (N := 6) hx hb hg iX0 hown hK hP 0 rfl rfl 5 (by decide) (hg _ kw82) (fun _ h9 => h9) rfl dX0_anySolidRound_4 ?_
      refine lv_icmp_ge (tgt := 45) hx hb dX0_anySolidRound_7 (by decide) (fun c7 => absurd c7 (nI_ge (by omega) (by omega))) (fun _ => ?_)
      refine lv_aload_n hx hb dX0_anySolidRound_10 rfl (lv_at hl 0 rfl) ?_
      refine va_get (D := D) (ci := 0) (v := .ref b5) (C := RX0) (T := TX0) (N := 6) hx hb hg iX0 hown hK hP 0 rfl rfl 4 (by decide) (hg _ kw79) (fun _ h9 => h9) rfl dX0_anySolidRound_11 ?_
      refine lv_iload_n hx hb dX0_anySolidRound_14 rfl (lv_at hl 2 rfl) ?_
      refine va_zald hx hb hK hP 5 1 rfl rfl (vp_in_nI (by omega) (by decide)) dX0_anySolidRound_15 ?_
      refine tp_i (y := of i) (congrArg of (nI_clamp (by omega))) ?_
      refine lv_if_ne (tgt := 39) hx hb dX0_anySolidRound_16 (by decide) (fun c16 => ?_) (fun c16 => ?_)
      · refine lv_iinc (v := nI (i + 1)) (lv' := [(2, .int (nI (i + 1))), (0, .ref b0), (1, .ref a1)]) hx hb dX0_anySolidRound_39 hl (k := 2) rfl (nI_1 _) (by decide) rfl (fun ls hl => ?_)
        refine lv_goto (tgt := 2) hx hb dX0_anySolidRound_42 (by decide) ?_
        rw [show anyB lo hi ki of pt (n + 1) i = anyB lo hi ki of pt n (i + 1) by simp [anyB, solidB, c16]]
        exact ih (i + 1) (by omega) ls (lv_sub hl [1, 2, 0] rfl)
      · refine lv_aload_n hx hb dX0_anySolidRound_19 rfl (lv_at hl 0 rfl) ?_
        refine va_get (D := D) (ci := 0) (v := .ref b3) (C := RX0) (T := TX0) (N := 6) hx hb hg iX0 hown hK hP 0 rfl rfl 2 (by decide) (hg _ kw73) (fun _ h9 => h9) rfl dX0_anySolidRound_20 ?_
        refine lv_iload_n hx hb dX0_anySolidRound_23 rfl (lv_at hl 2 rfl) ?_
        refine va_iald hx hb hK hP 3 0 rfl rfl (vp_in_nI (by omega) (by decide)) dX0_anySolidRound_24 ?_
        refine tp_i (y := ki i) (congrArg ki (nI_clamp (by omega))) ?_
        refine lv_if_ne (tgt := 39) hx hb dX0_anySolidRound_25 (by decide) (fun c25 => ?_) (fun c25 => ?_)
        · refine lv_iinc (v := nI (i + 1)) (lv' := [(2, .int (nI (i + 1))), (0, .ref b0), (1, .ref a1)]) hx hb dX0_anySolidRound_39 hl (k := 2) rfl (nI_1 _) (by decide) rfl (fun ls hl => ?_)
          refine lv_goto (tgt := 2) hx hb dX0_anySolidRound_42 (by decide) ?_
          rw [show anyB lo hi ki of pt (n + 1) i = anyB lo hi ki of pt n (i + 1) by simp [anyB, solidB, c16, c25]]
          exact ih (i + 1) (by omega) ls (lv_sub hl [1, 2, 0] rfl)
        · refine lv_aload_n hx hb dX0_anySolidRound_28 rfl (lv_at hl 0 rfl) ?_
          refine lv_iload_n hx hb dX0_anySolidRound_29 rfl (lv_at hl 2 rfl) ?_
          refine lv_aload_n hx hb dX0_anySolidRound_30 rfl (lv_at hl 1 rfl) ?_
          have hPc := hP.sub (ws' := [(b0, .inr (0, [.ref b1, .ref b2, .ref b3, .ref b4, .ref b5, .int (nI nb)])), (b1, .inl (cI, 60, .inl lo)), (b2, .inl (cI, 60, .inl hi)), (b3, .inl (cI, 20, .inl ki)), (b4, .inl (cI, 20, .inl sh)), (b5, .inl (cZ, 20, .inl of)), (a1, .inl (cI, 3, .inl pt))]) [0, 1, 2, 3, 4, 5, 6] rfl
          refine rq_call (va_runV (As := [.int (nI i), .ref a1]) (rest := []) ⟨hx, hb, hml, hown, hg⟩ (qX0_isInside l D cI cZ cJ b0 b1 b2 b3 b4 b5 a1 lo hi ki sh of (nI nb) pt i (by omega)) (cwV 2 hg (gw_V kw364 kw366 kw9 kw38 kw367) rfl rfl rfl (by decide +kernel) ⟨Nat.le_of_ble_eq_true rfl, Nat.le_of_ble_eq_true rfl⟩) (pq_preV hPc hK hZ (va_recv hK hPc (ci := 0) (q0 := 0) rfl rfl)) rfl rfl hl.1 rfl (lv_room (Nat.le_of_ble_eq_true rfl)) dX0_anySolidRound_31 ⟨Nat.le_of_ble_eq_true rfl, Nat.le_of_ble_eq_true rfl⟩) ?_
          refine lv_if_eq (tgt := 39) hx hb dX0_anySolidRound_34 (by decide) (fun c34 => ?_) (fun c34 => ?_)
          · replace c34 := bI_f c34
            refine lv_iinc (v := nI (i + 1)) (lv' := [(2, .int (nI (i + 1))), (0, .ref b0), (1, .ref a1)]) hx hb dX0_anySolidRound_39 hl (k := 2) rfl (nI_1 _) (by decide) rfl (fun ls hl => ?_)
            refine lv_goto (tgt := 2) hx hb dX0_anySolidRound_42 (by decide) ?_
            rw [show anyB lo hi ki of pt (n + 1) i = anyB lo hi ki of pt n (i + 1) by simp [anyB, solidB, c16, c25, c34]]
            exact ih (i + 1) (by omega) ls (lv_sub hl [1, 2, 0] rfl)
          · replace c34 := bI_t c34
            refine lv_iconst (v := 1) hx hb dX0_anySolidRound_37 (by decide) ?_
            exact W.zret (v := 1) hx hb hr (by decide) (fun t ht hW => ⟨congrArg (fun z => Outcome.returned (some (Value.int z))) (by simp [anyB, solidB, bI, c16, c25, c34]), ht⟩) (fun q hq => nomatch hq) dX0_anySolidRound_38
  exact loop nb 0 (by omega) ls (lv_sub hl [1, 2, 0] rfl)

set_option maxHeartbeats 4000000 in
set_option maxRecDepth 100000 in
/-- Boxes.add -/
theorem qX0_add (l : Launch) (D : va_G) (cI cZ cJ : ClassId) (b0 b1 b2 b3 b4 b5 : Nat) (lo hi ki sh of : Nat → Int32) (nb : Nat) (x0 y0 z0 x1 y1 z1 : Int32) (hnb : nb < 20) (sz : Nat) : Met l yX0_add (Cond.code yX0_add cX0_add 8 (some .int) :: gw) ({ frames := 0, cells := 0, slots := 0, locals := 0 }) (wq D [.ref b0, .int x0, .int y0, .int z0, .int x1, .int y1, .int z1] sz [(b0, .inr (0, [.ref b1, .ref b2, .ref b3, .ref b4, .ref b5, .int (nI nb)])), (b1, .inl (cI, 60, .inl lo)), (b2, .inl (cI, 60, .inl hi)), (b3, .inl (cI, 20, .inl ki)), (b4, .inl (cI, 20, .inl sh)), (b5, .inl (cZ, 20, .inl of))] [(cI, .int), (cZ, .boolean), (cJ, .long)]) (va_Qi (S := Unit) (fun r _ => r = nI nb) (fun u => bq D [(cI, .int), (cZ, .boolean), (cJ, .long)] (va_A [(b0, .inr (0, [.ref b1, .ref b2, .ref b3, .ref b4, .ref b5, .int (nI nb)])), (b1, .inl (cI, 60, .inl lo)), (b2, .inl (cI, 60, .inl hi)), (b3, .inl (cI, 20, .inl ki)), (b4, .inl (cI, 20, .inl sh)), (b5, .inl (cZ, 20, .inl of))] sz) ([(b0, .inr (0, [.ref b1, .ref b2, .ref b3, .ref b4, .ref b5, .int (nI (nb + 1))])), (b1, .inl (cI, 60, .inl (upd (upd (upd lo (nb * 3) x0) (nb * 3 + 1) y0) (nb * 3 + 2) z0))), (b2, .inl (cI, 60, .inl (upd (upd (upd hi (nb * 3) x1) (nb * 3 + 1) y1) (nb * 3 + 2) z1))), (b3, .inl (cI, 20, .inl (upd ki nb 0))), (b4, .inl (cI, 20, .inl (upd sh nb 1000))), (b5, .inl (cZ, 20, .inl (upd of nb 0)))])) (va_A [(b0, .inr (0, [.ref b1, .ref b2, .ref b3, .ref b4, .ref b5, .int (nI nb)])), (b1, .inl (cI, 60, .inl lo)), (b2, .inl (cI, 60, .inl hi)), (b3, .inl (cI, 20, .inl ki)), (b4, .inl (cI, 20, .inl sh)), (b5, .inl (cZ, 20, .inl of))] sz)) 0 0 (va_A [(b0, .inr (0, [.ref b1, .ref b2, .ref b3, .ref b4, .ref b5, .int (nI nb)])), (b1, .inl (cI, 60, .inl lo)), (b2, .inl (cI, 60, .inl hi)), (b3, .inl (cI, 20, .inl ki)), (b4, .inl (cI, 20, .inl sh)), (b5, .inl (cZ, 20, .inl of))] sz) := by
  refine Met.ofW (cc := cX0_add) (maxL := 8) (ret := (some .int)) (by decide) rfl ?_
  intro p e s m args below meth c s₁ B hml hv
  obtain ⟨rfl, hsz, hP, hK, hD0, hZ⟩ := hv
  have hx := B.exec
  have hb := B.bytes
  have hr := B.returns
  have hg : ∀ w ∈ gw, w.before _ s = true := fun w h => atoms_spec (ws := Cond.code yX0_add cX0_add 8 (some .int) :: gw) B.pre w (List.mem_cons_of_mem _ h)
  have hown : s.vm.findClass RX0 = some m.cls := findClass_of_methodNamed B.named
  have hlocks := B.notSynchronized
  subst hsz
  have hD := hD0.self (sz := s.heap.size)
  generalize hAe : va_A [(b0, .inr (0, [.ref b1, .ref b2, .ref b3, .ref b4, .ref b5, .int (nI nb)])), (b1, .inl (cI, 60, .inl lo)), (b2, .inl (cI, 60, .inl hi)), (b3, .inl (cI, 20, .inl ki)), (b4, .inl (cI, 20, .inl sh)), (b5, .inl (cZ, 20, .inl of))] s.heap.size = A at hD ⊢
  have hA : ∀ q : Nat, s.heap.size ≤ q → A q := fun q h => by rw [← hAe]; exact Or.inr h
  have hS : va_S A s.heap s.heap [] := va_S.rf
  have hP : va_P D vwCl [(b0, .inr (0, [.ref b1, .ref b2, .ref b3, .ref b4, .ref b5, .int (nI nb)])), (b1, .inl (cI, 60, .inl lo)), (b2, .inl (cI, 60, .inl hi)), (b3, .inl (cI, 20, .inl ki)), (b4, .inl (cI, 20, .inl sh)), (b5, .inl (cZ, 20, .inl of))] s.heap := hP
  have hl := lv_entry ([.ref b0, .int x0, .int y0, .int z0, .int x1, .int y1, .int z1]) (n := 8) (Nat.le_of_ble_eq_true rfl)
  rw [lg_entry_eq]
  generalize (lg_sl ([.ref b0, .int x0, .int y0, .int z0, .int x1, .int y1, .int z1]) ++ List.replicate (8 - (lg_sl ([.ref b0, .int x0, .int y0, .int z0, .int x1, .int y1, .int z1])).length) Slot.unset).toArray = ls at hl ⊢
  have hl : lv_has ls 8 [(0, .ref b0), (1, .int x0), (2, .int y0), (3, .int z0), (4, .int x1), (5, .int y1), (6, .int z1)] := hl
  refine lv_aload_n hx hb dX0_add_0 rfl (lv_at hl 0 rfl) ?_
  refine va_get (D := D) (ci := 0) (v := .int (nI nb)) (C := RX0) (T := TX0) (N := 6) hx hb hg iX0 hown hK hP 0 rfl rfl 5 (by decide) (hg _ kw82) (fun _ h9 => h9) rfl dX0_add_1 ?_
  refine lv_iconst (v := 3) hx hb dX0_add_4 (by decide) ?_
  refine lv_imul hx hb dX0_add_5 ?_
  refine lv_istore (lv' := [(7, .int ((nI nb) * 3)), (0, .ref b0), (1, .int x0), (2, .int y0), (3, .int z0), (4, .int x1), (5, .int y1), (6, .int z1)]) hx hb dX0_add_6 hl (by decide) rfl (fun ls hl => ?_)
  refine lv_aload_n hx hb dX0_add_8 rfl (lv_at hl 1 rfl) ?_
  refine va_get (D := D) (ci := 0) (v := .ref b1) (C := RX0) (T := TX0) (N := 6) hx hb hg iX0 hown hK hP 0 rfl rfl 0 (by decide) (hg _ kw69) (fun _ h9 => h9) rfl dX0_add_9 ?_
  refine lv_iload hx hb dX0_add_12 (lv_at hl 0 rfl) ?_
  refine lv_iload_n hx hb dX0_add_14 rfl (lv_at hl 2 rfl) ?_
  refine va_iast hx hb hK hP hD hS 1 0 rfl rfl (vin30 (by omega) (by decide)) dX0_add_15 (fun H locs hP hD hS => ?_)
  rw [show ((nI nb) * 3).toNatClampNeg = nb * 3 from vcl30 (by omega)] at hP hD
  have hP : va_P D vwCl [(b0, .inr (0, [.ref b1, .ref b2, .ref b3, .ref b4, .ref b5, .int (nI nb)])), (b1, .inl (cI, 60, .inl (upd lo (nb * 3) x0))), (b2, .inl (cI, 60, .inl hi)), (b3, .inl (cI, 20, .inl ki)), (b4, .inl (cI, 20, .inl sh)), (b5, .inl (cZ, 20, .inl of))] H := hP
  have hD : va_D A [(b0, .inr (0, [.ref b1, .ref b2, .ref b3, .ref b4, .ref b5, .int (nI nb)])), (b1, .inl (cI, 60, .inl (upd lo (nb * 3) x0))), (b2, .inl (cI, 60, .inl hi)), (b3, .inl (cI, 20, .inl ki)), (b4, .inl (cI, 20, .inl sh)), (b5, .inl (cZ, 20, .inl of))] := hD
  refine lv_aload_n hx hb dX0_add_16 rfl (lv_at hl 1 rfl) ?_
  refine va_get (D := D) (ci := 0) (v := .ref b1) (C := RX0) (T := TX0) (N := 6) hx hb hg iX0 hown hK hP 0 rfl rfl 0 (by decide) (hg _ kw69) (fun _ h9 => h9) rfl dX0_add_17 ?_
  refine lv_iload hx hb dX0_add_20 (lv_at hl 0 rfl) ?_
  refine lv_iconst (v := 1) hx hb dX0_add_22 (by decide) ?_
  refine lv_iadd hx hb dX0_add_23 ?_
  refine lv_iload_n hx hb dX0_add_24 rfl (lv_at hl 3 rfl) ?_
  refine va_iast hx hb hK hP hD hS 1 0 rfl rfl (vin3 (k := 1) (by omega) (by decide)) dX0_add_25 (fun H locs hP hD hS => ?_)
  rw [show (((nI nb) * 3) + 1).toNatClampNeg = nb * 3 + 1 from vcl3 (k := 1) (by omega)] at hP hD
  have hP : va_P D vwCl [(b0, .inr (0, [.ref b1, .ref b2, .ref b3, .ref b4, .ref b5, .int (nI nb)])), (b1, .inl (cI, 60, .inl (upd (upd lo (nb * 3) x0) (nb * 3 + 1) y0))), (b2, .inl (cI, 60, .inl hi)), (b3, .inl (cI, 20, .inl ki)), (b4, .inl (cI, 20, .inl sh)), (b5, .inl (cZ, 20, .inl of))] H := hP
  have hD : va_D A [(b0, .inr (0, [.ref b1, .ref b2, .ref b3, .ref b4, .ref b5, .int (nI nb)])), (b1, .inl (cI, 60, .inl (upd (upd lo (nb * 3) x0) (nb * 3 + 1) y0))), (b2, .inl (cI, 60, .inl hi)), (b3, .inl (cI, 20, .inl ki)), (b4, .inl (cI, 20, .inl sh)), (b5, .inl (cZ, 20, .inl of))] := hD
  refine lv_aload_n hx hb dX0_add_26 rfl (lv_at hl 1 rfl) ?_
  refine va_get (D := D) (ci := 0) (v := .ref b1) (C := RX0) (T := TX0) (N := 6) hx hb hg iX0 hown hK hP 0 rfl rfl 0 (by decide) (hg _ kw69) (fun _ h9 => h9) rfl dX0_add_27 ?_
  refine lv_iload hx hb dX0_add_30 (lv_at hl 0 rfl) ?_
  refine lv_iconst (v := 2) hx hb dX0_add_32 (by decide) ?_
  refine lv_iadd hx hb dX0_add_33 ?_
  refine lv_iload_n hx hb dX0_add_34 rfl (lv_at hl 4 rfl) ?_
  refine va_iast hx hb hK hP hD hS 1 0 rfl rfl (vin3 (k := 2) (by omega) (by decide)) dX0_add_35 (fun H locs hP hD hS => ?_)
  rw [show (((nI nb) * 3) + 2).toNatClampNeg = nb * 3 + 2 from vcl3 (k := 2) (by omega)] at hP hD
  have hP : va_P D vwCl [(b0, .inr (0, [.ref b1, .ref b2, .ref b3, .ref b4, .ref b5, .int (nI nb)])), (b1, .inl (cI, 60, .inl (upd (upd (upd lo (nb * 3) x0) (nb * 3 + 1) y0) (nb * 3 + 2) z0))), (b2, .inl (cI, 60, .inl hi)), (b3, .inl (cI, 20, .inl ki)), (b4, .inl (cI, 20, .inl sh)), (b5, .inl (cZ, 20, .inl of))] H := hP
  have hD : va_D A [(b0, .inr (0, [.ref b1, .ref b2, .ref b3, .ref b4, .ref b5, .int (nI nb)])), (b1, .inl (cI, 60, .inl (upd (upd (upd lo (nb * 3) x0) (nb * 3 + 1) y0) (nb * 3 + 2) z0))), (b2, .inl (cI, 60, .inl hi)), (b3, .inl (cI, 20, .inl ki)), (b4, .inl (cI, 20, .inl sh)), (b5, .inl (cZ, 20, .inl of))] := hD
  refine lv_aload_n hx hb dX0_add_36 rfl (lv_at hl 1 rfl) ?_
  refine va_get (D := D) (ci := 0) (v := .ref b2) (C := RX0) (T := TX0) (N := 6) hx hb hg iX0 hown hK hP 0 rfl rfl 1 (by decide) (hg _ kw71) (fun _ h9 => h9) rfl dX0_add_37 ?_
  refine lv_iload hx hb dX0_add_40 (lv_at hl 0 rfl) ?_
  refine lv_iload hx hb dX0_add_42 (lv_at hl 5 rfl) ?_
  refine va_iast hx hb hK hP hD hS 2 0 rfl rfl (vin30 (by omega) (by decide)) dX0_add_44 (fun H locs hP hD hS => ?_)
  rw [show ((nI nb) * 3).toNatClampNeg = nb * 3 from vcl30 (by omega)] at hP hD
  have hP : va_P D vwCl [(b0, .inr (0, [.ref b1, .ref b2, .ref b3, .ref b4, .ref b5, .int (nI nb)])), (b1, .inl (cI, 60, .inl (upd (upd (upd lo (nb * 3) x0) (nb * 3 + 1) y0) (nb * 3 + 2) z0))), (b2, .inl (cI, 60, .inl (upd hi (nb * 3) x1))), (b3, .inl (cI, 20, .inl ki)), (b4, .inl (cI, 20, .inl sh)), (b5, .inl (cZ, 20, .inl of))] H := hP
  have hD : va_D A [(b0, .inr (0, [.ref b1, .ref b2, .ref b3, .ref b4, .ref b5, .int (nI nb)])), (b1, .inl (cI, 60, .inl (upd (upd (upd lo (nb * 3) x0) (nb * 3 + 1) y0) (nb * 3 + 2) z0))), (b2, .inl (cI, 60, .inl (upd hi (nb * 3) x1))), (b3, .inl (cI, 20, .inl ki)), (b4, .inl (cI, 20, .inl sh)), (b5, .inl (cZ, 20, .inl of))] := hD
  refine lv_aload_n hx hb dX0_add_45 rfl (lv_at hl 1 rfl) ?_
  refine va_get (D := D) (ci := 0) (v := .ref b2) (C := RX0) (T := TX0) (N := 6) hx hb hg iX0 hown hK hP 0 rfl rfl 1 (by decide) (hg _ kw71) (fun _ h9 => h9) rfl dX0_add_46 ?_
  refine lv_iload hx hb dX0_add_49 (lv_at hl 0 rfl) ?_
  refine lv_iconst (v := 1) hx hb dX0_add_51 (by decide) ?_
  refine lv_iadd hx hb dX0_add_52 ?_
  refine lv_iload hx hb dX0_add_53 (lv_at hl 6 rfl) ?_
  refine va_iast hx hb hK hP hD hS 2 0 rfl rfl (vin3 (k := 1) (by omega) (by decide)) dX0_add_55 (fun H locs hP hD hS => ?_)
  rw [show (((nI nb) * 3) + 1).toNatClampNeg = nb * 3 + 1 from vcl3 (k := 1) (by omega)] at hP hD
  have hP : va_P D vwCl [(b0, .inr (0, [.ref b1, .ref b2, .ref b3, .ref b4, .ref b5, .int (nI nb)])), (b1, .inl (cI, 60, .inl (upd (upd (upd lo (nb * 3) x0) (nb * 3 + 1) y0) (nb * 3 + 2) z0))), (b2, .inl (cI, 60, .inl (upd (upd hi (nb * 3) x1) (nb * 3 + 1) y1))), (b3, .inl (cI, 20, .inl ki)), (b4, .inl (cI, 20, .inl sh)), (b5, .inl (cZ, 20, .inl of))] H := hP
  have hD : va_D A [(b0, .inr (0, [.ref b1, .ref b2, .ref b3, .ref b4, .ref b5, .int (nI nb)])), (b1, .inl (cI, 60, .inl (upd (upd (upd lo (nb * 3) x0) (nb * 3 + 1) y0) (nb * 3 + 2) z0))), (b2, .inl (cI, 60, .inl (upd (upd hi (nb * 3) x1) (nb * 3 + 1) y1))), (b3, .inl (cI, 20, .inl ki)), (b4, .inl (cI, 20, .inl sh)), (b5, .inl (cZ, 20, .inl of))] := hD
  refine lv_aload_n hx hb dX0_add_56 rfl (lv_at hl 1 rfl) ?_
  refine va_get (D := D) (ci := 0) (v := .ref b2) (C := RX0) (T := TX0) (N := 6) hx hb hg iX0 hown hK hP 0 rfl rfl 1 (by decide) (hg _ kw71) (fun _ h9 => h9) rfl dX0_add_57 ?_
  refine lv_iload hx hb dX0_add_60 (lv_at hl 0 rfl) ?_
  refine lv_iconst (v := 2) hx hb dX0_add_62 (by decide) ?_
  refine lv_iadd hx hb dX0_add_63 ?_
  refine lv_iload hx hb dX0_add_64 (lv_at hl 7 rfl) ?_
  refine va_iast hx hb hK hP hD hS 2 0 rfl rfl (vin3 (k := 2) (by omega) (by decide)) dX0_add_66 (fun H locs hP hD hS => ?_)
  rw [show (((nI nb) * 3) + 2).toNatClampNeg = nb * 3 + 2 from vcl3 (k := 2) (by omega)] at hP hD
  have hP : va_P D vwCl [(b0, .inr (0, [.ref b1, .ref b2, .ref b3, .ref b4, .ref b5, .int (nI nb)])), (b1, .inl (cI, 60, .inl (upd (upd (upd lo (nb * 3) x0) (nb * 3 + 1) y0) (nb * 3 + 2) z0))), (b2, .inl (cI, 60, .inl (upd (upd (upd hi (nb * 3) x1) (nb * 3 + 1) y1) (nb * 3 + 2) z1))), (b3, .inl (cI, 20, .inl ki)), (b4, .inl (cI, 20, .inl sh)), (b5, .inl (cZ, 20, .inl of))] H := hP
  have hD : va_D A [(b0, .inr (0, [.ref b1, .ref b2, .ref b3, .ref b4, .ref b5, .int (nI nb)])), (b1, .inl (cI, 60, .inl (upd (upd (upd lo (nb * 3) x0) (nb * 3 + 1) y0) (nb * 3 + 2) z0))), (b2, .inl (cI, 60, .inl (upd (upd (upd hi (nb * 3) x1) (nb * 3 + 1) y1) (nb * 3 + 2) z1))), (b3, .inl (cI, 20, .inl ki)), (b4, .inl (cI, 20, .inl sh)), (b5, .inl (cZ, 20, .inl of))] := hD
  refine lv_aload_n hx hb dX0_add_67 rfl (lv_at hl 1 rfl) ?_
  refine va_get (D := D) (ci := 0) (v := .ref b3) (C := RX0) (T := TX0) (N := 6) hx hb hg iX0 hown hK hP 0 rfl rfl 2 (by decide) (hg _ kw73) (fun _ h9 => h9) rfl dX0_add_68 ?_
  refine lv_aload_n hx hb dX0_add_71 rfl (lv_at hl 1 rfl) ?_
  refine va_get (D := D) (ci := 0) (v := .int (nI nb)) (C := RX0) (T := TX0) (N := 6) hx hb hg iX0 hown hK hP 0 rfl rfl 5 (by decide) (hg _ kw82) (fun _ h9 => h9) rfl dX0_add_72 ?_
  refine lv_iconst (v := 0) hx hb dX0_add_75 (by decide) ?_
  refine va_iast hx hb hK hP hD hS 3 0 rfl rfl (vp_in_nI (by omega) (by decide)) dX0_add_76 (fun H locs hP hD hS => ?_)
  rw [show (nI nb).toNatClampNeg = nb from nI_clamp (by omega)] at hP hD
  have hP : va_P D vwCl [(b0, .inr (0, [.ref b1, .ref b2, .ref b3, .ref b4, .ref b5, .int (nI nb)])), (b1, .inl (cI, 60, .inl (upd (upd (upd lo (nb * 3) x0) (nb * 3 + 1) y0) (nb * 3 + 2) z0))), (b2, .inl (cI, 60, .inl (upd (upd (upd hi (nb * 3) x1) (nb * 3 + 1) y1) (nb * 3 + 2) z1))), (b3, .inl (cI, 20, .inl (upd ki nb 0))), (b4, .inl (cI, 20, .inl sh)), (b5, .inl (cZ, 20, .inl of))] H := hP
  have hD : va_D A [(b0, .inr (0, [.ref b1, .ref b2, .ref b3, .ref b4, .ref b5, .int (nI nb)])), (b1, .inl (cI, 60, .inl (upd (upd (upd lo (nb * 3) x0) (nb * 3 + 1) y0) (nb * 3 + 2) z0))), (b2, .inl (cI, 60, .inl (upd (upd (upd hi (nb * 3) x1) (nb * 3 + 1) y1) (nb * 3 + 2) z1))), (b3, .inl (cI, 20, .inl (upd ki nb 0))), (b4, .inl (cI, 20, .inl sh)), (b5, .inl (cZ, 20, .inl of))] := hD
  refine lv_aload_n hx hb dX0_add_77 rfl (lv_at hl 1 rfl) ?_
  refine va_get (D := D) (ci := 0) (v := .ref b4) (C := RX0) (T := TX0) (N := 6) hx hb hg iX0 hown hK hP 0 rfl rfl 3 (by decide) (hg _ kw76) (fun _ h9 => h9) rfl dX0_add_78 ?_
  refine lv_aload_n hx hb dX0_add_81 rfl (lv_at hl 1 rfl) ?_
  refine va_get (D := D) (ci := 0) (v := .int (nI nb)) (C := RX0) (T := TX0) (N := 6) hx hb hg iX0 hown hK hP 0 rfl rfl 5 (by decide) (hg _ kw82) (fun _ h9 => h9) rfl dX0_add_82 ?_
  refine lv_sipush (v := 1000) hx hb dX0_add_85 (by decide) ?_
  refine va_iast hx hb hK hP hD hS 4 0 rfl rfl (vp_in_nI (by omega) (by decide)) dX0_add_88 (fun H locs hP hD hS => ?_)
  rw [show (nI nb).toNatClampNeg = nb from nI_clamp (by omega)] at hP hD
  have hP : va_P D vwCl [(b0, .inr (0, [.ref b1, .ref b2, .ref b3, .ref b4, .ref b5, .int (nI nb)])), (b1, .inl (cI, 60, .inl (upd (upd (upd lo (nb * 3) x0) (nb * 3 + 1) y0) (nb * 3 + 2) z0))), (b2, .inl (cI, 60, .inl (upd (upd (upd hi (nb * 3) x1) (nb * 3 + 1) y1) (nb * 3 + 2) z1))), (b3, .inl (cI, 20, .inl (upd ki nb 0))), (b4, .inl (cI, 20, .inl (upd sh nb 1000))), (b5, .inl (cZ, 20, .inl of))] H := hP
  have hD : va_D A [(b0, .inr (0, [.ref b1, .ref b2, .ref b3, .ref b4, .ref b5, .int (nI nb)])), (b1, .inl (cI, 60, .inl (upd (upd (upd lo (nb * 3) x0) (nb * 3 + 1) y0) (nb * 3 + 2) z0))), (b2, .inl (cI, 60, .inl (upd (upd (upd hi (nb * 3) x1) (nb * 3 + 1) y1) (nb * 3 + 2) z1))), (b3, .inl (cI, 20, .inl (upd ki nb 0))), (b4, .inl (cI, 20, .inl (upd sh nb 1000))), (b5, .inl (cZ, 20, .inl of))] := hD
  refine lv_aload_n hx hb dX0_add_89 rfl (lv_at hl 1 rfl) ?_
  refine va_get (D := D) (ci := 0) (v := .ref b5) (C := RX0) (T := TX0) (N := 6) hx hb hg iX0 hown hK hP 0 rfl rfl 4 (by decide) (hg _ kw79) (fun _ h9 => h9) rfl dX0_add_90 ?_
  refine lv_aload_n hx hb dX0_add_93 rfl (lv_at hl 1 rfl) ?_
  refine va_get (D := D) (ci := 0) (v := .int (nI nb)) (C := RX0) (T := TX0) (N := 6) hx hb hg iX0 hown hK hP 0 rfl rfl 5 (by decide) (hg _ kw82) (fun _ h9 => h9) rfl dX0_add_94 ?_
  refine lv_iconst (v := 0) hx hb dX0_add_97 (by decide) ?_
  refine va_zast hx hb hK hP hD hS 5 1 rfl rfl (vp_in_nI (by omega) (by decide)) dX0_add_98 (fun H locs hP hD hS => ?_)
  rw [show (nI nb).toNatClampNeg = nb from nI_clamp (by omega)] at hP hD
  rw [show vp_nar .boolean 0 = 0 from rfl] at hP hD
  have hP : va_P D vwCl [(b0, .inr (0, [.ref b1, .ref b2, .ref b3, .ref b4, .ref b5, .int (nI nb)])), (b1, .inl (cI, 60, .inl (upd (upd (upd lo (nb * 3) x0) (nb * 3 + 1) y0) (nb * 3 + 2) z0))), (b2, .inl (cI, 60, .inl (upd (upd (upd hi (nb * 3) x1) (nb * 3 + 1) y1) (nb * 3 + 2) z1))), (b3, .inl (cI, 20, .inl (upd ki nb 0))), (b4, .inl (cI, 20, .inl (upd sh nb 1000))), (b5, .inl (cZ, 20, .inl (upd of nb 0)))] H := hP
  have hD : va_D A [(b0, .inr (0, [.ref b1, .ref b2, .ref b3, .ref b4, .ref b5, .int (nI nb)])), (b1, .inl (cI, 60, .inl (upd (upd (upd lo (nb * 3) x0) (nb * 3 + 1) y0) (nb * 3 + 2) z0))), (b2, .inl (cI, 60, .inl (upd (upd (upd hi (nb * 3) x1) (nb * 3 + 1) y1) (nb * 3 + 2) z1))), (b3, .inl (cI, 20, .inl (upd ki nb 0))), (b4, .inl (cI, 20, .inl (upd sh nb 1000))), (b5, .inl (cZ, 20, .inl (upd of nb 0)))] := hD
  refine lv_aload_n hx hb dX0_add_99 rfl (lv_at hl 1 rfl) ?_
  refine lv_dup hx hb dX0_add_100 rfl ?_
  refine va_get (D := D) (ci := 0) (v := .int (nI nb)) (C := RX0) (T := TX0) (N := 6) hx hb hg iX0 hown hK hP 0 rfl rfl 5 (by decide) (hg _ kw82) (fun _ h9 => h9) rfl dX0_add_101 ?_
  refine lv_iconst (v := 1) hx hb dX0_add_104 (by decide) ?_
  refine lv_iadd hx hb dX0_add_105 ?_
  refine tp_i (y := nI (nb + 1)) (nI_1 nb) ?_
  refine va_put (D := D) (ci := 0) (v := .int (nI (nb + 1))) (ty := .int) (C := RX0) (T := TX0) (N := 6) hx hb hg iX0 tyX0 tyX0_ok nmX0 hown hK hP hD hS 0 rfl rfl 5 (by decide) (hg _ kw82) (fun _ h9 => h9) rfl (by decide +kernel) rfl rfl (Nat.le_of_ble_eq_true rfl) dX0_add_106 (fun H locs hP hD hS => ?_)
  have hP : va_P D vwCl [(b0, .inr (0, [.ref b1, .ref b2, .ref b3, .ref b4, .ref b5, .int (nI (nb + 1))])), (b1, .inl (cI, 60, .inl (upd (upd (upd lo (nb * 3) x0) (nb * 3 + 1) y0) (nb * 3 + 2) z0))), (b2, .inl (cI, 60, .inl (upd (upd (upd hi (nb * 3) x1) (nb * 3 + 1) y1) (nb * 3 + 2) z1))), (b3, .inl (cI, 20, .inl (upd ki nb 0))), (b4, .inl (cI, 20, .inl (upd sh nb 1000))), (b5, .inl (cZ, 20, .inl (upd of nb 0)))] H := hP
  have hD : va_D A [(b0, .inr (0, [.ref b1, .ref b2, .ref b3, .ref b4, .ref b5, .int (nI (nb + 1))])), (b1, .inl (cI, 60, .inl (upd (upd (upd lo (nb * 3) x0) (nb * 3 + 1) y0) (nb * 3 + 2) z0))), (b2, .inl (cI, 60, .inl (upd (upd (upd hi (nb * 3) x1) (nb * 3 + 1) y1) (nb * 3 + 2) z1))), (b3, .inl (cI, 20, .inl (upd ki nb 0))), (b4, .inl (cI, 20, .inl (upd sh nb 1000))), (b5, .inl (cZ, 20, .inl (upd of nb 0)))] := hD
  refine lv_aload_n hx hb dX0_add_109 rfl (lv_at hl 1 rfl) ?_
  refine va_get (D := D) (ci := 0) (v := .int (nI (nb + 1))) (C := RX0) (T := TX0) (N := 6) hx hb hg iX0 hown hK hP 0 rfl rfl 5 (by decide) (hg _ kw82) (fun _ h9 => h9) rfl dX0_add_110 ?_
  refine lv_iconst (v := 1) hx hb dX0_add_113 (by decide) ?_
  refine lv_isub hx hb dX0_add_114 ?_
  exact W.iret (v := (nI (nb + 1)) - 1) hx hb hr (fun t ht hW => ⟨⟨(nI (nb + 1)) - 1, (), rfl, nI_pred nb, bq_end hP hK hD ht hW⟩, hS.F ht⟩) hS.2.2 dX0_add_115
