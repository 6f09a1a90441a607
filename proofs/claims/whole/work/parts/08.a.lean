set_option maxHeartbeats 4000000 in
set_option maxRecDepth 100000 in
/-- Path.begin -/
theorem qX2_begin (l : Launch) (D : va_G) (cI cZ cJ : ClassId) (a0 a1 a2 a3 a4 a5 a6 a7 a8 a9 a10 a11 : Nat) (og : Nat → Int32) (lb la lv lw nh0 li x y z : Int32) (sz : Nat) : Met l yX2_begin (Cond.code yX2_begin cX2_begin 4 none :: gw) ({ frames := 1, cells := 0, slots := 0, locals := 24 }) (wq D [.ref a0, .int x, .int y, .int z] sz [(a0, .inr (2, [.ref a1, .ref a2, .ref a3, .ref a4, .ref a5, .ref a6, .ref a7, .ref a8, .ref a9, .ref a10, .ref a11, .int nh0, .int li])), (a1, .inl (cI, 3, .inl og)), (a9, .inr (1, [.int lb, .int la, .int lv, .int lw]))] [(cI, .int), (cZ, .boolean), (cJ, .long)]) (va_Qv (S := Unit) (fun _ => True) (fun u => bq D [(cI, .int), (cZ, .boolean), (cJ, .long)] (va_A [(a0, .inr (2, [.ref a1, .ref a2, .ref a3, .ref a4, .ref a5, .ref a6, .ref a7, .ref a8, .ref a9, .ref a10, .ref a11, .int nh0, .int li])), (a1, .inl (cI, 3, .inl og)), (a9, .inr (1, [.int lb, .int la, .int lv, .int lw]))] sz) ([(a0, .inr (2, [.ref a1, .ref a2, .ref a3, .ref a4, .ref a5, .ref a6, .ref a7, .ref a8, .ref a9, .ref a10, .ref a11, .int 0, .int 1000000])), (a1, .inl (cI, 3, .inl (upd (upd (upd og 0 x) 1 y) 2 z))), (a9, .inr (1, [.int (-1), .int (-1), .int 0, .int 1]))])) (va_A [(a0, .inr (2, [.ref a1, .ref a2, .ref a3, .ref a4, .ref a5, .ref a6, .ref a7, .ref a8, .ref a9, .ref a10, .ref a11, .int nh0, .int li])), (a1, .inl (cI, 3, .inl og)), (a9, .inr (1, [.int lb, .int la, .int lv, .int lw]))] sz)) 0 0 (va_A [(a0, .inr (2, [.ref a1, .ref a2, .ref a3, .ref a4, .ref a5, .ref a6, .ref a7, .ref a8, .ref a9, .ref a10, .ref a11, .int nh0, .int li])), (a1, .inl (cI, 3, .inl og)), (a9, .inr (1, [.int lb, .int la, .int lv, .int lw]))] sz) := by
  refine Met.ofW (cc := cX2_begin) (maxL := 4) (ret := none) (by decide) rfl ?_
  intro p e s m args below meth c s₁ B hml hv
  obtain ⟨rfl, hsz, hP, hK, hD0, hZ⟩ := hv
  have hx := B.exec
  have hb := B.bytes
  have hr := B.returns
  have hg : ∀ w ∈ gw, w.before _ s = true := fun w h => atoms_spec (ws := Cond.code yX2_begin cX2_begin 4 none :: gw) B.pre w (List.mem_cons_of_mem _ h)
  have hown : s.vm.findClass RX2 = some m.cls := findClass_of_methodNamed B.named
  have hlocks := B.notSynchronized
  subst hsz
  have hD := hD0.self (sz := s.heap.size)
  generalize hAe : va_A [(a0, .inr (2, [.ref a1, .ref a2, .ref a3, .ref a4, .ref a5, .ref a6, .ref a7, .ref a8, .ref a9, .ref a10, .ref a11, .int nh0, .int li])), (a1, .inl (cI, 3, .inl og)), (a9, .inr (1, [.int lb, .int la, .int lv, .int lw]))] s.heap.size = A at hD ⊢
  have hA : ∀ q : Nat, s.heap.size ≤ q → A q := fun q h => by rw [← hAe]; exact Or.inr h
  have hS : va_S A s.heap s.heap [] := va_S.rf
  have hP : va_P D vwCl [(a0, .inr (2, [.ref a1, .ref a2, .ref a3, .ref a4, .ref a5, .ref a6, .ref a7, .ref a8, .ref a9, .ref a10, .ref a11, .int nh0, .int li])), (a1, .inl (cI, 3, .inl og)), (a9, .inr (1, [.int lb, .int la, .int lv, .int lw]))] s.heap := hP
  have hl := lv_entry ([.ref a0, .int x, .int y, .int z]) (n := 4) (Nat.le_of_ble_eq_true rfl)
  rw [lg_entry_eq]
  generalize (lg_sl ([.ref a0, .int x, .int y, .int z]) ++ List.replicate (4 - (lg_sl ([.ref a0, .int x, .int y, .int z])).length) Slot.unset).toArray = ls at hl ⊢
  have hl : lv_has ls 4 [(0, .ref a0), (1, .int x), (2, .int y), (3, .int z)] := hl
  refine lv_aload_n hx hb dX2_begin_0 rfl (lv_at hl 0 rfl) ?_
  refine va_get (D := D) (ci := 2) (v := .ref a1) (C := RX2) (T := TX2) (N := 13) hx hb hg iX2 hown hK hP 0 rfl rfl 0 (by decide) (hg _ kw129) (fun _ h9 => h9) rfl dX2_begin_1 ?_
  refine lv_iconst (v := 0) hx hb dX2_begin_4 (by decide) ?_
  refine lv_iload_n hx hb dX2_begin_5 rfl (lv_at hl 1 rfl) ?_
  refine va_iast hx hb hK hP hD hS 1 0 rfl rfl (vp_in_nI (n := 0) (by decide) (by decide)) dX2_begin_6 (fun H locs hP hD hS => ?_)
  rw [show (0 : Int32).toNatClampNeg = 0 from rfl] at hP hD
  have hP : va_P D vwCl [(a0, .inr (2, [.ref a1, .ref a2, .ref a3, .ref a4, .ref a5, .ref a6, .ref a7, .ref a8, .ref a9, .ref a10, .ref a11, .int nh0, .int li])), (a1, .inl (cI, 3, .inl (upd og 0 x))), (a9, .inr (1, [.int lb, .int la, .int lv, .int lw]))] H := hP
  have hD : va_D A [(a0, .inr (2, [.ref a1, .ref a2, .ref a3, .ref a4, .ref a5, .ref a6, .ref a7, .ref a8, .ref a9, .ref a10, .ref a11, .int nh0, .int li])), (a1, .inl (cI, 3, .inl (upd og 0 x))), (a9, .inr (1, [.int lb, .int la, .int lv, .int lw]))] := hD
  refine lv_aload_n hx hb dX2_begin_7 rfl (lv_at hl 0 rfl) ?_
  refine va_get (D := D) (ci := 2) (v := .ref a1) (C := RX2) (T := TX2) (N := 13) hx hb hg iX2 hown hK hP 0 rfl rfl 0 (by decide) (hg _ kw129) (fun _ h9 => h9) rfl dX2_begin_8 ?_
  refine lv_iconst (v := 1) hx hb dX2_begin_11 (by decide) ?_
  refine lv_iload_n hx hb dX2_begin_12 rfl (lv_at hl 2 rfl) ?_
  refine va_iast hx hb hK hP hD hS 1 0 rfl rfl (vp_in_nI (n := 1) (by decide) (by decide)) dX2_begin_13 (fun H locs hP hD hS => ?_)
  rw [show (1 : Int32).toNatClampNeg = 1 from rfl] at hP hD
  have hP : va_P D vwCl [(a0, .inr (2, [.ref a1, .ref a2, .ref a3, .ref a4, .ref a5, .ref a6, .ref a7, .ref a8, .ref a9, .ref a10, .ref a11, .int nh0, .int li])), (a1, .inl (cI, 3, .inl (upd (upd og 0 x) 1 y))), (a9, .inr (1, [.int lb, .int la, .int lv, .int lw]))] H := hP
  have hD : va_D A [(a0, .inr (2, [.ref a1, .ref a2, .ref a3, .ref a4, .ref a5, .ref a6, .ref a7, .ref a8, .ref a9, .ref a10, .ref a11, .int nh0, .int li])), (a1, .inl (cI, 3, .inl (upd (upd og 0 x) 1 y))), (a9, .inr (1, [.int lb, .int la, .int lv, .int lw]))] := hD
  refine lv_aload_n hx hb dX2_begin_14 rfl (lv_at hl 0 rfl) ?_
  refine va_get (D := D) (ci := 2) (v := .ref a1) (C := RX2) (T := TX2) (N := 13) hx hb hg iX2 hown hK hP 0 rfl rfl 0 (by decide) (hg _ kw129) (fun _ h9 => h9) rfl dX2_begin_15 ?_
  refine lv_iconst (v := 2) hx hb dX2_begin_18 (by decide) ?_
  refine lv_iload_n hx hb dX2_begin_19 rfl (lv_at hl 3 rfl) ?_
  refine va_iast hx hb hK hP hD hS 1 0 rfl rfl (vp_in_nI (n := 2) (by decide) (by decide)) dX2_begin_20 (fun H locs hP hD hS => ?_)
  rw [show (2 : Int32).toNatClampNeg = 2 from rfl] at hP hD
  have hP : va_P D vwCl [(a0, .inr (2, [.ref a1, .ref a2, .ref a3, .ref a4, .ref a5, .ref a6, .ref a7, .ref a8, .ref a9, .ref a10, .ref a11, .int nh0, .int li])), (a1, .inl (cI, 3, .inl (upd (upd (upd og 0 x) 1 y) 2 z))), (a9, .inr (1, [.int lb, .int la, .int lv, .int lw]))] H := hP
  have hD : va_D A [(a0, .inr (2, [.ref a1, .ref a2, .ref a3, .ref a4, .ref a5, .ref a6, .ref a7, .ref a8, .ref a9, .ref a10, .ref a11, .int nh0, .int li])), (a1, .inl (cI, 3, .inl (upd (upd (upd og 0 x) 1 y) 2 z))), (a9, .inr (1, [.int lb, .int la, .int lv, .int lw]))] := hD
  refine lv_aload_n hx hb dX2_begin_21 rfl (lv_at hl 0 rfl) ?_
  refine lv_iconst (v := 0) hx hb dX2_begin_22 (by decide) ?_
  refine va_put (D := D) (ci := 2) (v := .int 0) (ty := .int) (C := RX2) (T := TX2) (N := 13) hx hb hg iX2 tyX2 tyX2_ok nmX2 hown hK hP hD hS 0 rfl rfl 11 (by decide) (hg _ kw146) (fun _ h9 => h9) rfl (by decide +kernel) rfl rfl (Nat.le_of_ble_eq_true rfl) dX2_begin_23 (fun H locs hP hD hS => ?_)
  have hP : va_P D vwCl [(a0, .inr (2, [.ref a1, .ref a2, .ref a3, .ref a4, .ref a5, .ref a6, .ref a7, .ref a8, .ref a9, .ref a10, .ref a11, .int 0, .int li])), (a1, .inl (cI, 3, .inl (upd (upd (upd og 0 x) 1 y) 2 z))), (a9, .inr (1, [.int lb, .int la, .int lv, .int lw]))] H := hP
  have hD : va_D A [(a0, .inr (2, [.ref a1, .ref a2, .ref a3, .ref a4, .ref a5, .ref a6, .ref a7, .ref a8, .ref a9, .ref a10, .ref a11, .int 0, .int li])), (a1, .inl (cI, 3, .inl (upd (upd (upd og 0 x) 1 y) 2 z))), (a9, .inr (1, [.int lb, .int la, .int lv, .int lw]))] := hD
  refine lv_aload_n hx hb dX2_begin_26 rfl (lv_at hl 0 rfl) ?_
  refine lv_ldc hx hb hown (hg _ kw347) dX2_begin_27 ?_
  refine va_put (D := D) (ci := 2) (v := .int 1000000) (ty := .int) (C := RX2) (T := TX2) (N := 13) hx hb hg iX2 tyX2 tyX2_ok nmX2 hown hK hP hD hS 0 rfl rfl 12 (by decide) (hg _ kw148) (fun _ h9 => h9) rfl (by decide +kernel) rfl rfl (Nat.le_of_ble_eq_true rfl) dX2_begin_29 (fun H locs hP hD hS => ?_)
  have hP : va_P D vwCl [(a0, .inr (2, [.ref a1, .ref a2, .ref a3, .ref a4, .ref a5, .ref a6, .ref a7, .ref a8, .ref a9, .ref a10, .ref a11, .int 0, .int 1000000])), (a1, .inl (cI, 3, .inl (upd (upd (upd og 0 x) 1 y) 2 z))), (a9, .inr (1, [.int lb, .int la, .int lv, .int lw]))] H := hP
  have hD : va_D A [(a0, .inr (2, [.ref a1, .ref a2, .ref a3, .ref a4, .ref a5, .ref a6, .ref a7, .ref a8, .ref a9, .ref a10, .ref a11, .int 0, .int 1000000])), (a1, .inl (cI, 3, .inl (upd (upd (upd og 0 x) 1 y) 2 z))), (a9, .inr (1, [.int lb, .int la, .int lv, .int lw]))] := hD
  refine lv_aload_n hx hb dX2_begin_32 rfl (lv_at hl 0 rfl) ?_
  refine va_get (D := D) (ci := 2) (v := .ref a9) (C := RX2) (T := TX2) (N := 13) hx hb hg iX2 hown hK hP 0 rfl rfl 8 (by decide) (hg _ kw143) (fun _ h9 => h9) rfl dX2_begin_33 ?_
  refine lv_iconst (v := (-1)) hx hb dX2_begin_36 (by decide) ?_
  refine lv_iconst (v := (-1)) hx hb dX2_begin_37 (by decide) ?_
  refine lv_iconst (v := 0) hx hb dX2_begin_38 (by decide) ?_
  refine lv_iconst (v := 1) hx hb dX2_begin_39 (by decide) ?_
  have hPc := hP.sub (ws' := [(a9, .inr (1, [.int lb, .int la, .int lv, .int lw]))]) [2] rfl
  have hDc := hD.sub (ws' := [(a9, .inr (1, [.int lb, .int la, .int lv, .int lw]))]) [2] (by decide) rfl
  have hFc := va_free (wc := [(a9, .inr (1, [.int lb, .int la, .int lv, .int lw]))]) hD hS hA [2] rfl
  refine va_callv (va_runVN (As := [.int (-1), .int (-1), .int 0, .int 1]) (rest := []) ⟨hx, hb, hml, hown, hg⟩ (qX1_set l D cI cZ cJ a9 lb la lv lw (-1) (-1) 0 1 H.size) ⟨va_cnB 4 hg (gw_in kw351) rfl rfl rfl (nzM_5 hZ) (hg _ kw40) (by decide +kernel) ⟨Nat.le_of_ble_eq_true rfl, Nat.le_of_ble_eq_true rfl⟩, hg _ kw350, hg _ kw5⟩ (wq_preV hPc hK hDc hZ (va_recv hK hPc (ci := 1) (q0 := 0) rfl rfl)) rfl rfl hl.1 rfl (lv_room (Nat.le_of_ble_eq_true rfl)) dX2_begin_40 ⟨Nat.le_of_ble_eq_true rfl, Nat.le_of_ble_eq_true rfl⟩) hS (fun q _ h => hFc q h) hFc (fun u t H locs ht hvm hw hB hz1 hk1 hS => ?_)
  obtain ⟨hP1, hK1, hD1⟩ := hB
  rw [ht] at hP1
  try dsimp only at hw hP1 hD1
  obtain ⟨hP, hD⟩ := va_join (wr := [(a0, .inr (2, [.ref a1, .ref a2, .ref a3, .ref a4, .ref a5, .ref a6, .ref a7, .ref a8, .ref a9, .ref a10, .ref a11, .int 0, .int 1000000])), (a1, .inl (cI, 3, .inl (upd (upd (upd og 0 x) 1 y) 2 z)))]) (w1 := [(a9, .inr (1, [.int (-1), .int (-1), .int 0, .int 1]))]) hP hD [2] [0, 1] rfl rfl (by decide) (by decide) hk1 hFc hP1 hD1
  replace hP := hP.sub (ws' := [(a0, .inr (2, [.ref a1, .ref a2, .ref a3, .ref a4, .ref a5, .ref a6, .ref a7, .ref a8, .ref a9, .ref a10, .ref a11, .int 0, .int 1000000])), (a1, .inl (cI, 3, .inl (upd (upd (upd og 0 x) 1 y) 2 z))), (a9, .inr (1, [.int (-1), .int (-1), .int 0, .int 1]))]) [0, 1, 2] rfl
  replace hD := hD.sub (ws' := [(a0, .inr (2, [.ref a1, .ref a2, .ref a3, .ref a4, .ref a5, .ref a6, .ref a7, .ref a8, .ref a9, .ref a10, .ref a11, .int 0, .int 1000000])), (a1, .inl (cI, 3, .inl (upd (upd (upd og 0 x) 1 y) 2 z))), (a9, .inr (1, [.int (-1), .int (-1), .int 0, .int 1]))]) [0, 1, 2] (by decide) rfl
  exact W.vret hx hb hr (fun t ht hW => ⟨⟨(), rfl, trivial, bq_end hP hK hD ht hW⟩, hS.F ht⟩) hS.2.2 dX2_begin_43

set_option maxHeartbeats 4000000 in
set_option maxRecDepth 100000 in
/-- Path.aim -/
theorem qX2_aim (l : Launch) (D : va_G) (cI cZ cJ : ClassId) (a0 a1 a2 a3 a4 a5 a6 a7 a8 a9 a10 a11 : Nat) (di : Nat → Int32) (nh0 li x y z : Int32) (sz : Nat) : Met l yX2_aim (Cond.code yX2_aim cX2_aim 4 none :: gw) ({ frames := 0, cells := 0, slots := 0, locals := 0 }) (wq D [.ref a0, .int x, .int y, .int z] sz [(a0, .inr (2, [.ref a1, .ref a2, .ref a3, .ref a4, .ref a5, .ref a6, .ref a7, .ref a8, .ref a9, .ref a10, .ref a11, .int nh0, .int li])), (a2, .inl (cI, 3, .inl di))] [(cI, .int), (cZ, .boolean), (cJ, .long)]) (va_Qv (S := Unit) (fun _ => True) (fun u => bq D [(cI, .int), (cZ, .boolean), (cJ, .long)] (va_A [(a0, .inr (2, [.ref a1, .ref a2, .ref a3, .ref a4, .ref a5, .ref a6, .ref a7, .ref a8, .ref a9, .ref a10, .ref a11, .int nh0, .int li])), (a2, .inl (cI, 3, .inl di))] sz) ([(a0, .inr (2, [.ref a1, .ref a2, .ref a3, .ref a4, .ref a5, .ref a6, .ref a7, .ref a8, .ref a9, .ref a10, .ref a11, .int nh0, .int li])), (a2, .inl (cI, 3, .inl (upd (upd (upd di 0 x) 1 y) 2 z)))])) (va_A [(a0, .inr (2, [.ref a1, .ref a2, .ref a3, .ref a4, .ref a5, .ref a6, .ref a7, .ref a8, .ref a9, .ref a10, .ref a11, .int nh0, .int li])), (a2, .inl (cI, 3, .inl di))] sz)) 0 0 (va_A [(a0, .inr (2, [.ref a1, .ref a2, .ref a3, .ref a4, .ref a5, .ref a6, .ref a7, .ref a8, .ref a9, .ref a10, .ref a11, .int nh0, .int li])), (a2, .inl (cI, 3, .inl di))] sz) := by
  refine Met.ofW (cc := cX2_aim) (maxL := 4) (ret := none) (by decide) rfl ?_
  intro p e s m args below meth c s₁ B hml hv
  obtain ⟨rfl, hsz, hP, hK, hD0, hZ⟩ := hv
  have hx := B.exec
  have hb := B.bytes
  have hr := B.returns
  have hg : ∀ w ∈ gw, w.before _ s = true := fun w h => atoms_spec (ws := Cond.code yX2_aim cX2_aim 4 none :: gw) B.pre w (List.mem_cons_of_mem _ h)
  have hown : s.vm.findClass RX2 = some m.cls := findClass_of_methodNamed B.named
  have hlocks := B.notSynchronized
  subst hsz
  have hD := hD0.self (sz := s.heap.size)
  generalize hAe : va_A [(a0, .inr (2, [.ref a1, .ref a2, .ref a3, .ref a4, .ref a5, .ref a6, .ref a7, .ref a8, .ref a9, .ref a10, .ref a11, .int nh0, .int li])), (a2, .inl (cI, 3, .inl di))] s.heap.size = A at hD ⊢
  have hA : ∀ q : Nat, s.heap.size ≤ q → A q := fun q h => by rw [← hAe]; exact Or.inr h
  have hS : va_S A s.heap s.heap [] := va_S.rf
  have hP : va_P D vwCl [(a0, .inr (2, [.ref a1, .ref a2, .ref a3, .ref a4, .ref a5, .ref a6, .ref a7, .ref a8, .ref a9, .ref a10, .ref a11, .int nh0, .int li])), (a2, .inl (cI, 3, .inl di))] s.heap := hP
  have hl := lv_entry ([.ref a0, .int x, .int y, .int z]) (n := 4) (Nat.le_of_ble_eq_true rfl)
  rw [lg_entry_eq]
  generalize (lg_sl ([.ref a0, .int x, .int y, .int z]) ++ List.replicate (4 - (lg_sl ([.ref a0, .int x, .int y, .int z])).length) Slot.unset).toArray = ls at hl ⊢
  have hl : lv_has ls 4 [(0, .ref a0), (1, .int x), (2, .int y), (3, .int z)] := hl
  refine lv_aload_n hx hb dX2_aim_0 rfl (lv_at hl 0 rfl) ?_
  refine va_get (D := D) (ci := 2) (v := .ref a2) (C := RX2) (T := TX2) (N := 13) hx hb hg iX2 hown hK hP 0 rfl rfl 1 (by decide) (hg _ kw130) (fun _ h9 => h9) rfl dX2_aim_1 ?_
  refine lv_iconst (v := 0) hx hb dX2_aim_4 (by decide) ?_
  refine lv_iload_n hx hb dX2_aim_5 rfl (lv_at hl 1 rfl) ?_
  refine va_iast hx hb hK hP hD hS 1 0 rfl rfl (vp_in_nI (n := 0) (by decide) (by decide)) dX2_aim_6 (fun H locs hP hD hS => ?_)
  rw [show (0 : Int32).toNatClampNeg = 0 from rfl] at hP hD
  have hP : va_P D vwCl [(a0, .inr (2, [.ref a1, .ref a2, .ref a3, .ref a4, .ref a5, .ref a6, .ref a7, .ref a8, .ref a9, .ref a10, .ref a11, .int nh0, .int li])), (a2, .inl (cI, 3, .inl (upd di 0 x)))] H := hP
  have hD : va_D A [(a0, .inr (2, [.ref a1, .ref a2, .ref a3, .ref a4, .ref a5, .ref a6, .ref a7, .ref a8, .ref a9, .ref a10, .ref a11, .int nh0, .int li])), (a2, .inl (cI, 3, .inl (upd di 0 x)))] := hD
  refine lv_aload_n hx hb dX2_aim_7 rfl (lv_at hl 0 rfl) ?_
  refine va_get (D := D) (ci := 2) (v := .ref a2) (C := RX2) (T := TX2) (N := 13) hx hb hg iX2 hown hK hP 0 rfl rfl 1 (by decide) (hg _ kw130) (fun _ h9 => h9) rfl dX2_aim_8 ?_
  refine lv_iconst (v := 1) hx hb dX2_aim_11 (by decide) ?_
  refine lv_iload_n hx hb dX2_aim_12 rfl (lv_at hl 2 rfl) ?_
  refine va_iast hx hb hK hP hD hS 1 0 rfl rfl (vp_in_nI (n := 1) (by decide) (by decide)) dX2_aim_13 (fun H locs hP hD hS => ?_)
  rw [show (1 : Int32).toNatClampNeg = 1 from rfl] at hP hD
  have hP : va_P D vwCl [(a0, .inr (2, [.ref a1, .ref a2, .ref a3, .ref a4, .ref a5, .ref a6, .ref a7, .ref a8, .ref a9, .ref a10, .ref a11, .int nh0, .int li])), (a2, .inl (cI, 3, .inl (upd (upd di 0 x) 1 y)))] H := hP
  have hD : va_D A [(a0, .inr (2, [.ref a1, .ref a2, .ref a3, .ref a4, .ref a5, .ref a6, .ref a7, .ref a8, .ref a9, .ref a10, .ref a11, .int nh0, .int li])), (a2, .inl (cI, 3, .inl (upd (upd di 0 x) 1 y)))] := hD
  refine lv_aload_n hx hb dX2_aim_14 rfl (lv_at hl 0 rfl) ?_
  refine va_get (D := D) (ci := 2) (v := .ref a2) (C := RX2) (T := TX2) (N := 13) hx hb hg iX2 hown hK hP 0 rfl rfl 1 (by decide) (hg _ kw130) (fun _ h9 => h9) rfl dX2_aim_15 ?_
  refine lv_iconst (v := 2) hx hb dX2_aim_18 (by decide) ?_
  refine lv_iload_n hx hb dX2_aim_19 rfl (lv_at hl 3 rfl) ?_
  refine va_iast hx hb hK hP hD hS 1 0 rfl rfl (vp_in_nI (n := 2) (by decide) (by decide)) dX2_aim_20 (fun H locs hP hD hS => ?_)
  rw [show (2 : Int32).toNatClampNeg = 2 from rfl] at hP hD
  have hP : va_P D vwCl [(a0, .inr (2, [.ref a1, .ref a2, .ref a3, .ref a4, .ref a5, .ref a6, .ref a7, .ref a8, .ref a9, .ref a10, .ref a11, .int nh0, .int li])), (a2, .inl (cI, 3, .inl (upd (upd (upd di 0 x) 1 y) 2 z)))] H := hP
  have hD : va_D A [(a0, .inr (2, [.ref a1, .ref a2, .ref a3, .ref a4, .ref a5, .ref a6, .ref a7, .ref a8, .ref a9, .ref a10, .ref a11, .int nh0, .int li])), (a2, .inl (cI, 3, .inl (upd (upd (upd di 0 x) 1 y) 2 z)))] := hD
  exact W.vret hx hb hr (fun t ht hW => ⟨⟨(), rfl, trivial, bq_end hP hK hD ht hW⟩, hS.F ht⟩) hS.2.2 dX2_aim_21

def mirF (lo hi di : Nat → Int32) (i k : Nat) : Int32 := if 0 < di k then lo (i * 3 + k) else hi (i * 3 + k)

set_option maxHeartbeats 4000000 in
set_option maxRecDepth 100000 in
/-- Path.turn -/
theorem qX2_turn (l : Launch) (D : va_G) (cI cZ cJ : ClassId) (a0 a1 a2 a3 a4 a5 a6 a7 a8 a9 a10 a11 : Nat) (b0 b1 b2 b3 b4 b5 : Nat) (og di lo hi : Nat → Int32) (lv lw nh0 li cn : Int32) (i k : Nat) (hi2 : i < 20) (hk : k < 3) (sz : Nat) : Met l yX2_turn (Cond.code yX2_turn cX2_turn 4 none :: gw) ({ frames := 0, cells := 0, slots := 0, locals := 0 }) (wq D [.ref a0, .ref b0] sz [(a0, .inr (2, [.ref a1, .ref a2, .ref a3, .ref a4, .ref a5, .ref a6, .ref a7, .ref a8, .ref a9, .ref a10, .ref a11, .int nh0, .int li])), (a1, .inl (cI, 3, .inl og)), (a2, .inl (cI, 3, .inl di)), (a9, .inr (1, [.int (nI i), .int (nI k), .int lv, .int lw])), (b0, .inr (0, [.ref b1, .ref b2, .ref b3, .ref b4, .ref b5, .int cn])), (b1, .inl (cI, 60, .inl lo)), (b2, .inl (cI, 60, .inl hi))] [(cI, .int), (cZ, .boolean), (cJ, .long)]) (va_Qv (S := Unit) (fun _ => True) (fun u => bq D [(cI, .int), (cZ, .boolean), (cJ, .long)] (va_A [(a0, .inr (2, [.ref a1, .ref a2, .ref a3, .ref a4, .ref a5, .ref a6, .ref a7, .ref a8, .ref a9, .ref a10, .ref a11, .int nh0, .int li])), (a1, .inl (cI, 3, .inl og)), (a2, .inl (cI, 3, .inl di)), (a9, .inr (1, [.int (nI i), .int (nI k), .int lv, .int lw])), (b0, .inr (0, [.ref b1, .ref b2, .ref b3, .ref b4, .ref b5, .int cn])), (b1, .inl (cI, 60, .inl lo)), (b2, .inl (cI, 60, .inl hi))] sz) ([(a0, .inr (2, [.ref a1, .ref a2, .ref a3, .ref a4, .ref a5, .ref a6, .ref a7, .ref a8, .ref a9, .ref a10, .ref a11, .int nh0, .int li])), (a1, .inl (cI, 3, .inl (upd og k (2 * mirF lo hi di i k - og k)))), (a2, .inl (cI, 3, .inl (upd di k (-(di k))))), (a9, .inr (1, [.int (nI i), .int (nI k), .int lv, .int lw])), (b0, .inr (0, [.ref b1, .ref b2, .ref b3, .ref b4, .ref b5, .int cn])), (b1, .inl (cI, 60, .inl lo)), (b2, .inl (cI, 60, .inl hi))])) (va_A [(a0, .inr (2, [.ref a1, .ref a2, .ref a3, .ref a4, .ref a5, .ref a6, .ref a7, .ref a8, .ref a9, .ref a10, .ref a11, .int nh0, .int li])), (a1, .inl (cI, 3, .inl og)), (a2, .inl (cI, 3, .inl di)), (a9, .inr (1, [.int (nI i), .int (nI k), .int lv, .int lw])), (b0, .inr (0, [.ref b1, .ref b2, .ref b3, .ref b4, .ref b5, .int cn])), (b1, .inl (cI, 60, .inl lo)), (b2, .inl (cI, 60, .inl hi))] sz)) 0 0 (va_A [(a0, .inr (2, [.ref a1, .ref a2, .ref a3, .ref a4, .ref a5, .ref a6, .ref a7, .ref a8, .ref a9, .ref a10, .ref a11, .int nh0, .int li])), (a1, .inl (cI, 3, .inl og)), (a2, .inl (cI, 3, .inl di)), (a9, .inr (1, [.int (nI i), .int (nI k), .int lv, .int lw])), (b0, .inr (0, [.ref b1, .ref b2, .ref b3, .ref b4, .ref b5, .int cn])), (b1, .inl (cI, 60, .inl lo)), (b2, .inl (cI, 60, .inl hi))] sz) := by
  refine Met.ofW (cc := cX2_turn) (maxL := 4) (ret := none) (by decide) rfl ?_
  intro p e s m args below meth c s₁ B hml hv
  obtain ⟨rfl, hsz, hP, hK, hD0, hZ⟩ := hv
  have hx := B.exec
  have hb := B.bytes
  have hr := B.returns
  have hg : ∀ w ∈ gw, w.before _ s = true := fun w h => atoms_spec (ws := Cond.code yX2_turn cX2_turn 4 none :: gw) B.pre w (List.mem_cons_of_mem _ h)
  have hown : s.vm.findClass RX2 = some m.cls := findClass_of_methodNamed B.named
  have hlocks := B.notSynchronized
  subst hsz
  have hD := hD0.self (sz := s.heap.size)
  generalize hAe : va_A [(a0, .inr (2, [.ref a1, .ref a2, .ref a3, .ref a4, .ref a5, .ref a6, .ref a7, .ref a8, .ref a9, .ref a10, .ref a11, .int nh0, .int li])), (a1, .inl (cI, 3, .inl og)), (a2, .inl (cI, 3, .inl di)), (a9, .inr (1, [.int (nI i), .int (nI k), .int lv, .int lw])), (b0, .inr (0, [.ref b1, .ref b2, .ref b3, .ref b4, .ref b5, .int cn])), (b1, .inl (cI, 60, .inl lo)), (b2, .inl (cI, 60, .inl hi))] s.heap.size = A at hD ⊢
  have hA : ∀ q : Nat, s.heap.size ≤ q → A q := fun q h => by rw [← hAe]; exact Or.inr h
  have hS : va_S A s.heap s.heap [] := va_S.rf
  have hP : va_P D vwCl [(a0, .inr (2, [.ref a1, .ref a2, .ref a3, .ref a4, .ref a5, .ref a6, .ref a7, .ref a8, .ref a9, .ref a10, .ref a11, .int nh0, .int li])), (a1, .inl (cI, 3, .inl og)), (a2, .inl (cI, 3, .inl di)), (a9, .inr (1, [.int (nI i), .int (nI k), .int lv, .int lw])), (b0, .inr (0, [.ref b1, .ref b2, .ref b3, .ref b4, .ref b5, .int cn])), (b1, .inl (cI, 60, .inl lo)), (b2, .inl (cI, 60, .inl hi))] s.heap := hP
  have hl := lv_entry ([.ref a0, .ref b0]) (n := 4) (Nat.le_of_ble_eq_true rfl)
  rw [lg_entry_eq]
  generalize (lg_sl ([.ref a0, .ref b0]) ++ List.replicate (4 - (lg_sl ([.ref a0, .ref b0])).length) Slot.unset).toArray = ls at hl ⊢
  have hl : lv_has ls 4 [(0, .ref a0), (1, .ref b0)] := hl
  refine lv_aload_n hx hb dX2_turn_0 rfl (lv_at hl 0 rfl) ?_
  refine va_get (D := D) (ci := 2) (v := .ref a9) (C := RX2) (T := TX2) (N := 13) hx hb hg iX2 hown hK hP 0 rfl rfl 8 (by decide) (hg _ kw143) (fun _ h9 => h9) rfl dX2_turn_1 ?_
  refine va_getN (D := D) (ci := 1) (v := .int (nI i)) (C := RX1) (T := TX1) (N := 4) hx hb hg iX1 hown hK hP 3 rfl rfl 0 (by decide) (va_Nw.use rfl (nzF_10 hZ)) (fun _ h9 => h9) rfl dX2_turn_4 ?_
  refine lv_iconst (v := 3) hx hb dX2_turn_7 (by decide) ?_
  refine lv_imul hx hb dX2_turn_8 ?_
  refine lv_aload_n hx hb dX2_turn_9 rfl (lv_at hl 0 rfl) ?_
  refine va_get (D := D) (ci := 2) (v := .ref a9) (C := RX2) (T := TX2) (N := 13) hx hb hg iX2 hown hK hP 0 rfl rfl 8 (by decide) (hg _ kw143) (fun _ h9 => h9) rfl dX2_turn_10 ?_
  refine va_getN (D := D) (ci := 1) (v := .int (nI k)) (C := RX1) (T := TX1) (N := 4) hx hb hg iX1 hown hK hP 3 rfl rfl 1 (by decide) (va_Nw.use rfl (nzF_11 hZ)) (fun _ h9 => h9) rfl dX2_turn_13 ?_
  refine lv_iadd hx hb dX2_turn_16 ?_
  refine lv_istore_n (lv' := [(2, .int (((nI i) * 3) + (nI k))), (0, .ref a0), (1, .ref b0)]) hx hb dX2_turn_17 rfl hl (by decide) rfl (fun ls hl => ?_)
  have J_1 : W p l e (headSpec (Cond.code yX2_turn cX2_turn 4 none :: gw) ({ frames := 0, cells := 0, slots := 0, locals := 0 })).room s m ([.ref a0, .ref b0] : List Value).toArray below meth c s.heap [] 0 0 (MQ below (va_Qv (S := Unit) (fun _ => True) (fun u => bq D [(cI, .int), (cZ, .boolean), (cJ, .long)] A ([(a0, .inr (2, [.ref a1, .ref a2, .ref a3, .ref a4, .ref a5, .ref a6, .ref a7, .ref a8, .ref a9, .ref a10, .ref a11, .int nh0, .int li])), (a1, .inl (cI, 3, .inl (upd og k (2 * mirF lo hi di i k - og k)))), (a2, .inl (cI, 3, .inl (upd di k (-(di k))))), (a9, .inr (1, [.int (nI i), .int (nI k), .int lv, .int lw])), (b0, .inr (0, [.ref b1, .ref b2, .ref b3, .ref b4, .ref b5, .int cn])), (b1, .inl (cI, 60, .inl lo)), (b2, .inl (cI, 60, .inl hi))])) A) ([.ref a0, .ref b0] : List Value).toArray s 0 0 A) (F0 m 48 ls [.int (mirF lo hi di i k)]) := by
    refine lv_istore_n (lv' := [(3, .int (mirF lo hi di i k)), (2, .int (((nI i) * 3) + (nI k))), (0, .ref a0), (1, .ref b0)]) hx hb dX2_turn_48 rfl hl (by decide) rfl (fun ls hl => ?_)
    refine lv_aload_n hx hb dX2_turn_49 rfl (lv_at hl 2 rfl) ?_
    refine va_get (D := D) (ci := 2) (v := .ref a1) (C := RX2) (T := TX2) (N := 13) hx hb hg iX2 hown hK hP 0 rfl rfl 0 (by decide) (hg _ kw129) (fun _ h9 => h9) rfl dX2_turn_50 ?_
    refine lv_aload_n hx hb dX2_turn_53 rfl (lv_at hl 2 rfl) ?_
    refine va_get (D := D) (ci := 2) (v := .ref a9) (C := RX2) (T := TX2) (N := 13) hx hb hg iX2 hown hK hP 0 rfl rfl 8 (by decide) (hg _ kw143) (fun _ h9 => h9) rfl dX2_turn_54 ?_
    refine va_getN (D := D) (ci := 1) (v := .int (nI k)) (C := RX1) (T := TX1) (N := 4) hx hb hg iX1 hown hK hP 3 rfl rfl 1 (by decide) (va_Nw.use rfl (nzF_11 hZ)) (fun _ h9 => h9) rfl dX2_turn_57 ?_
    refine lv_iconst (v := 2) hx hb dX2_turn_60 (by decide) ?_
    refine lv_iload_n hx hb dX2_turn_61 rfl (lv_at hl 0 rfl) ?_
    refine lv_imul hx hb dX2_turn_62 ?_
    refine lv_aload_n hx hb dX2_turn_63 rfl (lv_at hl 2 rfl) ?_
    refine va_get (D := D) (ci := 2) (v := .ref a1) (C := RX2) (T := TX2) (N := 13) hx hb hg iX2 hown hK hP 0 rfl rfl 0 (by decide) (hg _ kw129) (fun _ h9 => h9) rfl dX2_turn_64 ?_
    refine lv_aload_n hx hb dX2_turn_67 rfl (lv_at hl 2 rfl) ?_
    refine va_get (D := D) (ci := 2) (v := .ref a9) (C := RX2) (T := TX2) (N := 13) hx hb hg iX2 hown hK hP 0 rfl rfl 8 (by decide) (hg _ kw143) (fun _ h9 => h9) rfl dX2_turn_68 ?_
    refine va_getN (D := D) (ci := 1) (v := .int (nI k)) (C := RX1) (T := TX1) (N := 4) hx hb hg iX1 hown hK hP 3 rfl rfl 1 (by decide) (va_Nw.use rfl (nzF_11 hZ)) (fun _ h9 => h9) rfl dX2_turn_71 ?_
    refine va_iald hx hb hK hP 1 0 rfl rfl (vp_in_nI (by omega) (by decide)) dX2_turn_74 ?_
    refine tp_i (y := og k) (congrArg og (nI_clamp (by omega))) ?_
    refine lv_isub hx hb dX2_turn_75 ?_
    refine va_iast hx hb hK hP hD hS 1 0 rfl rfl (vp_in_nI (by omega) (by decide)) dX2_turn_76 (fun H locs hP hD hS => ?_)
    rw [show (nI k).toNatClampNeg = k from nI_clamp (by omega)] at hP hD
    have hP : va_P D vwCl [(a0, .inr (2, [.ref a1, .ref a2, .ref a3, .ref a4, .ref a5, .ref a6, .ref a7, .ref a8, .ref a9, .ref a10, .ref a11, .int nh0, .int li])), (a1, .inl (cI, 3, .inl (upd og k ((2 * (mirF lo hi di i k)) - (og k))))), (a2, .inl (cI, 3, .inl di)), (a9, .inr (1, [.int (nI i), .int (nI k), .int lv, .int lw])), (b0, .inr (0, [.ref b1, .ref b2, .ref b3, .ref b4, .ref b5, .int cn])), (b1, .inl (cI, 60, .inl lo)), (b2, .inl (cI, 60, .inl hi))] H := hP
    have hD : va_D A [(a0, .inr (2, [.ref a1, .ref a2, .ref a3, .ref a4, .ref a5, .ref a6, .ref a7, .ref a8, .ref a9, .ref a10, .ref a11, .int nh0, .int li])), (a1, .inl (cI, 3, .inl (upd og k ((2 * (mirF lo hi di i k)) - (og k))))), (a2, .inl (cI, 3, .inl di)), (a9, .inr (1, [.int (nI i), .int (nI k), .int lv, .int lw])), (b0, .inr (0, [.ref b1, .ref b2, .ref b3, .ref b4, .ref b5, .int cn])), (b1, .inl (cI, 60, .inl lo)), (b2, .inl (cI, 60, .inl hi))] := hD
    refine lv_aload_n hx hb dX2_turn_77 rfl (lv_at hl 2 rfl) ?_
    refine va_get (D := D) (ci := 2) (v := .ref a2) (C := RX2) (T := TX2) (N := 13) hx hb hg iX2 hown hK hP 0 rfl rfl 1 (by decide) (hg _ kw130) (fun _ h9 => h9) rfl dX2_turn_78 ?_
    refine lv_aload_n hx hb dX2_turn_81 rfl (lv_at hl 2 rfl) ?_
    refine va_get (D := D) (ci := 2) (v := .ref a9) (C := RX2) (T := TX2) (N := 13) hx hb hg iX2 hown hK hP 0 rfl rfl 8 (by decide) (hg _ kw143) (fun _ h9 => h9) rfl dX2_turn_82 ?_
    refine va_getN (D := D) (ci := 1) (v := .int (nI k)) (C := RX1) (T := TX1) (N := 4) hx hb hg iX1 hown hK hP 3 rfl rfl 1 (by decide) (va_Nw.use rfl (nzF_11 hZ)) (fun _ h9 => h9) rfl dX2_turn_85 ?_
    refine lv_aload_n hx hb dX2_turn_88 rfl (lv_at hl 2 rfl) ?_
    refine va_get (D := D) (ci := 2) (v := .ref a2) (C := RX2) (T := TX2) (N := 13) hx hb hg iX2 hown hK hP 0 rfl rfl 1 (by decide) (hg _ kw130) (fun _ h9 => h9) rfl dX2_turn_89 ?_
    refine lv_aload_n hx hb dX2_turn_92 rfl (lv_at hl 2 rfl) ?_
    refine va_get (D := D) (ci := 2) (v := .ref a9) (C := RX2) (T := TX2) (N := 13) hx hb hg iX2 hown hK hP 0 rfl rfl 8 (by decide) (hg _ kw143) (fun _ h9 => h9) rfl dX2_turn_93 ?_
    refine va_getN (D := D) (ci := 1) (v := .int (nI k)) (C := RX1) (T := TX1) (N := 4) hx hb hg iX1 hown hK hP 3 rfl rfl 1 (by decide) (va_Nw.use rfl (nzF_11 hZ)) (fun _ h9 => h9) rfl dX2_turn_96 ?_
    refine va_iald hx hb hK hP 2 0 rfl rfl (vp_in_nI (by omega) (by decide)) dX2_turn_99 ?_
    refine tp_i (y := di k) (congrArg di (nI_clamp (by omega))) ?_
    refine lv_ineg hx hb dX2_turn_100 ?_
    refine va_iast hx hb hK hP hD hS 2 0 rfl rfl (vp_in_nI (by omega) (by decide)) dX2_turn_101 (fun H locs hP hD hS => ?_)
    rw [show (nI k).toNatClampNeg = k from nI_clamp (by omega)] at hP hD
    have hP : va_P D vwCl [(a0, .inr (2, [.ref a1, .ref a2, .ref a3, .ref a4, .ref a5, .ref a6, .ref a7, .ref a8, .ref a9, .ref a10, .ref a11, .int nh0, .int li])), (a1, .inl (cI, 3, .inl (upd og k ((2 * (mirF lo hi di i k)) - (og k))))), (a2, .inl (cI, 3, .inl (upd di k (-(di k))))), (a9, .inr (1, [.int (nI i), .int (nI k), .int lv, .int lw])), (b0, .inr (0, [.ref b1, .ref b2, .ref b3, .ref b4, .ref b5, .int cn])), (b1, .inl (cI, 60, .inl lo)), (b2, .inl (cI, 60, .inl hi))] H := hP
    have hD : va_D A [(a0, .inr (2, [.ref a1, .ref a2, .ref a3, .ref a4, .ref a5, .ref a6, .ref a7, .ref a8, .ref a9, .ref a10, .ref a11, .int nh0, .int li])), (a1, .inl (cI, 3, .inl (upd og k ((2 * (mirF lo hi di i k)) - (og k))))), (a2, .inl (cI, 3, .inl (upd di k (-(di k))))), (a9, .inr (1, [.int (nI i), .int (nI k), .int lv, .int lw])), (b0, .inr (0, [.ref b1, .ref b2, .ref b3, .ref b4, .ref b5, .int cn])), (b1, .inl (cI, 60, .inl lo)), (b2, .inl (cI, 60, .inl hi))] := hD
    exact W.vret hx hb hr (fun t ht hW => ⟨⟨(), rfl, trivial, bq_end hP hK hD ht hW⟩, hS.F ht⟩) hS.2.2 dX2_turn_102
  refine lv_aload_n hx hb dX2_turn_18 rfl (lv_at hl 1 rfl) ?_
  refine va_get (D := D) (ci := 2) (v := .ref a2) (C := RX2) (T := TX2) (N := 13) hx hb hg iX2 hown hK hP 0 rfl rfl 1 (by decide) (hg _ kw130) (fun _ h9 => h9) rfl dX2_turn_19 ?_
  refine lv_aload_n hx hb dX2_turn_22 rfl (lv_at hl 1 rfl) ?_
  refine va_get (D := D) (ci := 2) (v := .ref a9) (C := RX2) (T := TX2) (N := 13) hx hb hg iX2 hown hK hP 0 rfl rfl 8 (by decide) (hg _ kw143) (fun _ h9 => h9) rfl dX2_turn_23 ?_
  refine va_getN (D := D) (ci := 1) (v := .int (nI k)) (C := RX1) (T := TX1) (N := 4) hx hb hg iX1 hown hK hP 3 rfl rfl 1 (by decide) (va_Nw.use rfl (nzF_11 hZ)) (fun _ h9 => h9) rfl dX2_turn_26 ?_
  refine va_iald hx hb hK hP 2 0 rfl rfl (vp_in_nI (by omega) (by decide)) dX2_turn_29 ?_
  refine tp_i (y := di k) (congrArg di (nI_clamp (by omega))) ?_
  refine lv_if_le (tgt := 42) hx hb dX2_turn_30 (by decide) (fun c30 => ?_) (fun c30 => ?_)
  · have c30n := Int32.not_lt.mpr c30
    refine lv_aload_n hx hb dX2_turn_42 rfl (lv_at hl 2 rfl) ?_
    refine va_getN (D := D) (ci := 0) (v := .ref b2) (C := RX0) (T := TX0) (N := 6) hx hb hg iX0 hown hK hP 4 rfl rfl 1 (by decide) (va_Nw.use rfl (nzF_1 hZ)) (fun _ h9 => h9) rfl dX2_turn_43 ?_
    refine lv_iload_n hx hb dX2_turn_46 rfl (lv_at hl 0 rfl) ?_
    refine va_iald hx hb hK hP 6 0 rfl rfl (vin3 (by omega) (by decide)) dX2_turn_47 ?_
    refine tp_i (y := hi (i * 3 + k)) (congrArg hi (vcl3 (by omega))) ?_
    refine tp_i (y := mirF lo hi di i k) (by simp [mirF, c30, c30n]) ?_
    exact J_1
  · have c30n := Int32.not_le.mp c30
    refine lv_aload_n hx hb dX2_turn_33 rfl (lv_at hl 2 rfl) ?_
    refine va_getN (D := D) (ci := 0) (v := .ref b1) (C := RX0) (T := TX0) (N := 6) hx hb hg iX0 hown hK hP 4 rfl rfl 0 (by decide) (va_Nw.use rfl (nzF_0 hZ)) (fun _ h9 => h9) rfl dX2_turn_34 ?_
    refine lv_iload_n hx hb dX2_turn_37 rfl (lv_at hl 0 rfl) ?_
    refine va_iald hx hb hK hP 5 0 rfl rfl (vin3 (by omega) (by decide)) dX2_turn_38 ?_
    refine tp_i (y := lo (i * 3 + k)) (congrArg lo (vcl3 (by omega))) ?_
    refine lv_goto (tgt := 48) hx hb dX2_turn_39 (by decide) ?_
    refine tp_i (y := mirF lo hi di i k) (by simp [mirF, c30, c30n]) ?_
    exact J_1

/-! a line and a box, axis by axis, as the class reckons it -/
def crE (d low high : Int32) : Int32 := if 0 < d then low else -high
def crL (d low high : Int32) : Int32 := if 0 < d then high else -low
def cr1 (a : Nat) (en sp ax ab be : Int32) : Int32 × Int32 × Int32 := if ax = -1 ∨ ¬ en * be ≤ ab * sp then (nI a, en, sp) else (ax, ab, be)
def cr2 (le sp la lb : Int32) : Int32 × Int32 := if lb = 0 ∨ ¬ la * sp ≤ le * lb then (le, sp) else (la, lb)
def crN (lo hi og di : Nat → Int32) (i : Nat) : Nat → Nat → Int32 → Int32 → Int32 → Int32 → Int32 → Option (Int32 × Int32 × Int32 × Int32 × Int32)
  | 0, _, ax, ab, be, la, lb => some (ax, ab, be, la, lb)
  | n + 1, a, ax, ab, be, la, lb =>
    if absI (di a) = 0 then (if 0 ≤ lo (i * 3 + a) - og a ∨ hi (i * 3 + a) - og a ≤ 0 then none else crN lo hi og di i n (a + 1) ax ab be la lb)
    else crN lo hi og di i n (a + 1) (cr1 a (crE (di a) (lo (i * 3 + a) - og a) (hi (i * 3 + a) - og a)) (absI (di a)) ax ab be).1 (cr1 a (crE (di a) (lo (i * 3 + a) - og a) (hi (i * 3 + a) - og a)) (absI (di a)) ax ab be).2.1 (cr1 a (crE (di a) (lo (i * 3 + a) - og a) (hi (i * 3 + a) - og a)) (absI (di a)) ax ab be).2.2 (cr2 (crL (di a) (lo (i * 3 + a) - og a) (hi (i * 3 + a) - og a)) (absI (di a)) la lb).1 (cr2 (crL (di a) (lo (i * 3 + a) - og a) (hi (i * 3 + a) - og a)) (absI (di a)) la lb).2
def crFin : Option (Int32 × Int32 × Int32 × Int32 × Int32) → Option (Int32 × Int32 × Int32)
  | none => none
  | some (ax, ab, be, la, lb) => if ax = -1 ∨ la * be ≤ ab * lb then none else some (ax, ab, be)
/-- how the line enters the box i, if it goes through its inside -/
def crO (lo hi og di : Nat → Int32) (i : Nat) : Option (Int32 × Int32 × Int32) := crFin (crN lo hi og di i 3 0 (-1) 0 1 0 0)

set_option maxHeartbeats 4000000 in
set_option maxRecDepth 100000 in
/-- Path.crosses -/
theorem qX2_crosses (l : Launch) (D : va_G) (cI cZ cJ : ClassId) (a0 a1 a2 a3 a4 a5 a6 a7 a8 a9 a10 a11 : Nat) (b0 b1 b2 b3 b4 b5 : Nat) (og di lo hi : Nat → Int32) (tb ta tv tw nh0 li cn : Int32) (i : Nat) (hi2 : i < 20) (sz : Nat) : Met l yX2_crosses (Cond.code yX2_crosses cX2_crosses 11 (some .boolean) :: gw) ({ frames := 1, cells := 0, slots := 0, locals := 24 }) (wq D [.ref a0, .ref b0, .int (nI i)] sz [(a0, .inr (2, [.ref a1, .ref a2, .ref a3, .ref a4, .ref a5, .ref a6, .ref a7, .ref a8, .ref a9, .ref a10, .ref a11, .int nh0, .int li])), (a1, .inl (cI, 3, .inl og)), (a2, .inl (cI, 3, .inl di)), (a11, .inr (1, [.int tb, .int ta, .int tv, .int tw])), (b0, .inr (0, [.ref b1, .ref b2, .ref b3, .ref b4, .ref b5, .int cn])), (b1, .inl (cI, 60, .inl lo)), (b2, .inl (cI, 60, .inl hi))] [(cI, .int), (cZ, .boolean), (cJ, .long)]) (va_Qi (S := Int32 × Int32 × Int32) (fun r u => r = bI ((crO lo hi og di i)).isSome ∧ ∀ z, (crO lo hi og di i) = some z → u = z) (fun u => bq D [(cI, .int), (cZ, .boolean), (cJ, .long)] (va_A [(a0, .inr (2, [.ref a1, .ref a2, .ref a3, .ref a4, .ref a5, .ref a6, .ref a7, .ref a8, .ref a9, .ref a10, .ref a11, .int nh0, .int li])), (a1, .inl (cI, 3, .inl og)), (a2, .inl (cI, 3, .inl di)), (a11, .inr (1, [.int tb, .int ta, .int tv, .int tw])), (b0, .inr (0, [.ref b1, .ref b2, .ref b3, .ref b4, .ref b5, .int cn])), (b1, .inl (cI, 60, .inl lo)), (b2, .inl (cI, 60, .inl hi))] sz) ([(a0, .inr (2, [.ref a1, .ref a2, .ref a3, .ref a4, .ref a5, .ref a6, .ref a7, .ref a8, .ref a9, .ref a10, .ref a11, .int nh0, .int li])), (a1, .inl (cI, 3, .inl og)), (a2, .inl (cI, 3, .inl di)), (a11, .inr (1, [.int (nI i), .int u.1, .int u.2.1, .int u.2.2])), (b0, .inr (0, [.ref b1, .ref b2, .ref b3, .ref b4, .ref b5, .int cn])), (b1, .inl (cI, 60, .inl lo)), (b2, .inl (cI, 60, .inl hi))])) (va_A [(a0, .inr (2, [.ref a1, .ref a2, .ref a3, .ref a4, .ref a5, .ref a6, .ref a7, .ref a8, .ref a9, .ref a10, .ref a11, .int nh0, .int li])), (a1, .inl (cI, 3, .inl og)), (a2, .inl (cI, 3, .inl di)), (a11, .inr (1, [.int tb, .int ta, .int tv, .int tw])), (b0, .inr (0, [.ref b1, .ref b2, .ref b3, .ref b4, .ref b5, .int cn])), (b1, .inl (cI, 60, .inl lo)), (b2, .inl (cI, 60, .inl hi))] sz)) 0 0 (va_A [(a0, .inr (2, [.ref a1, .ref a2, .ref a3, .ref a4, .ref a5, .ref a6, .ref a7, .ref a8, .ref a9, .ref a10, .ref a11, .int nh0, .int li])), (a1, .inl (cI, 3, .inl og)), (a2, .inl (cI, 3, .inl di)), (a11, .inr (1, [.int tb, .int ta, .int tv, .int tw])), (b0, .inr (0, [.ref b1, .ref b2, .ref b3, .ref b4, .ref b5, .int cn])), (b1, .inl (cI, 60, .inl lo)), (b2, .inl (cI, 60, .inl hi))] sz) := by
  refine Met.ofW (cc := cX2_crosses) (maxL := 11) (ret := (some .boolean)) (by decide) rfl ?_
  intro p e s m args below meth c s₁ B hml hv
  obtain ⟨rfl, hsz, hP, hK, hD0, hZ⟩ := hv
  have hx := B.exec
  have hb := B.bytes
  have hr := B.returns
  have hg : ∀ w ∈ gw, w.before _ s = true := fun w h => atoms_spec (ws := Cond.code yX2_crosses cX2_crosses 11 (some .boolean) :: gw) B.pre w (List.mem_cons_of_mem _ h)
  have hown : s.vm.findClass RX2 = some m.cls := findClass_of_methodNamed B.named
  have hlocks := B.notSynchronized
  subst hsz
  have hD := hD0.self (sz := s.heap.size)
  generalize hAe : va_A [(a0, .inr (2, [.ref a1, .ref a2, .ref a3, .ref a4, .ref a5, .ref a6, .ref a7, .ref a8, .ref a9, .ref a10, .ref a11, .int nh0, .int li])), (a1, .inl (cI, 3, .inl og)), (a2, .inl (cI, 3, .inl di)), (a11, .inr (1, [.int tb, .int ta, .int tv, .int tw])), (b0, .inr (0, [.ref b1, .ref b2, .ref b3, .ref b4, .ref b5, .int cn])), (b1, .inl (cI, 60, .inl lo)), (b2, .inl (cI, 60, .inl hi))] s.heap.size = A at hD ⊢
  have hA : ∀ q : Nat, s.heap.size ≤ q → A q := fun q h => by rw [← hAe]; exact Or.inr h
  have hS : va_S A s.heap s.heap [] := va_S.rf
  have hP : va_P D vwCl [(a0, .inr (2, [.ref a1, .ref a2, .ref a3, .ref a4, .ref a5, .ref a6, .ref a7, .ref a8, .ref a9, .ref a10, .ref a11, .int nh0, .int li])), (a1, .inl (cI, 3, .inl og)), (a2, .inl (cI, 3, .inl di)), (a11, .inr (1, [.int tb, .int ta, .int tv, .int tw])), (b0, .inr (0, [.ref b1, .ref b2, .ref b3, .ref b4, .ref b5, .int cn])), (b1, .inl (cI, 60, .inl lo)), (b2, .inl (cI, 60, .inl hi))] s.heap := hP
  have hl := lv_entry ([.ref a0, .ref b0, .int (nI i)]) (n := 11) (Nat.le_of_ble_eq_true rfl)
  rw [lg_entry_eq]
  generalize (lg_sl ([.ref a0, .ref b0, .int (nI i)]) ++ List.replicate (11 - (lg_sl ([.ref a0, .ref b0, .int (nI i)])).length) Slot.unset).toArray = ls at hl ⊢
  have hl : lv_has ls 11 [(0, .ref a0), (1, .ref b0), (2, .int (nI i))] := hl
  refine lv_iconst (v := 0) hx hb dX2_crosses_0 (by decide) ?_
  refine lv_istore_n (lv' := [(3, .int 0), (0, .ref a0), (1, .ref b0), (2, .int (nI i))]) hx hb dX2_crosses_1 rfl hl (by decide) rfl (fun ls hl => ?_)
  refine lv_iconst (v := 0) hx hb dX2_crosses_2 (by decide) ?_
  refine lv_istore (lv' := [(4, .int 0), (3, .int 0), (0, .ref a0), (1, .ref b0), (2, .int (nI i))]) hx hb dX2_crosses_3 hl (by decide) rfl (fun ls hl => ?_)
  refine lv_aload_n hx hb dX2_crosses_5 rfl (lv_at hl 2 rfl) ?_
  refine va_get (D := D) (ci := 2) (v := .ref a11) (C := RX2) (T := TX2) (N := 13) hx hb hg iX2 hown hK hP 0 rfl rfl 10 (by decide) (hg _ kw145) (fun _ h9 => h9) rfl dX2_crosses_6 ?_
  refine lv_iload_n hx hb dX2_crosses_9 rfl (lv_at hl 4 rfl) ?_
  refine lv_iconst (v := (-1)) hx hb dX2_crosses_10 (by decide) ?_
  refine lv_iconst (v := 0) hx hb dX2_crosses_11 (by decide) ?_
  refine lv_iconst (v := 1) hx hb dX2_crosses_12 (by decide) ?_
  have hPc := hP.sub (ws' := [(a11, .inr (1, [.int tb, .int ta, .int tv, .int tw]))]) [3] rfl
  have hDc := hD.sub (ws' := [(a11, .inr (1, [.int tb, .int ta, .int tv, .int tw]))]) [3] (by decide) rfl
  have hFc := va_free (wc := [(a11, .inr (1, [.int tb, .int ta, .int tv, .int tw]))]) hD hS hA [3] rfl
  refine va_callv (va_runVN (As := [.int (nI i), .int (-1), .int 0, .int 1]) (rest := []) ⟨hx, hb, hml, hown, hg⟩ (qX1_set l D cI cZ cJ a11 tb ta tv tw (nI i) (-1) 0 1 s.heap.size) ⟨va_cnB 4 hg (gw_in kw351) rfl rfl rfl (nzM_5 hZ) (hg _ kw40) (by decide +kernel) ⟨Nat.le_of_ble_eq_true rfl, Nat.le_of_ble_eq_true rfl⟩, hg _ kw350, hg _ kw5⟩ (wq_preV hPc hK hDc hZ (va_recv hK hPc (ci := 1) (q0 := 0) rfl rfl)) rfl rfl hl.1 rfl (lv_room (Nat.le_of_ble_eq_true rfl)) dX2_crosses_13 ⟨Nat.le_of_ble_eq_true rfl, Nat.le_of_ble_eq_true rfl⟩) hS (fun q _ h => hFc q h) hFc (fun u t H locs ht hvm hw hB hz1 hk1 hS => ?_)
  obtain ⟨hP1, hK1, hD1⟩ := hB
  rw [ht] at hP1
  try dsimp only at hw hP1 hD1
  obtain ⟨hP, hD⟩ := va_join (wr := [(a0, .inr (2, [.ref a1, .ref a2, .ref a3, .ref a4, .ref a5, .ref a6, .ref a7, .ref a8, .ref a9, .ref a10, .ref a11, .int nh0, .int li])), (a1, .inl (cI, 3, .inl og)), (a2, .inl (cI, 3, .inl di)), (b0, .inr (0, [.ref b1, .ref b2, .ref b3, .ref b4, .ref b5, .int cn])), (b1, .inl (cI, 60, .inl lo)), (b2, .inl (cI, 60, .inl hi))]) (w1 := [(a11, .inr (1, [.int (nI i), .int (-1), .int 0, .int 1]))]) hP hD [3] [0, 1, 2, 4, 5, 6] rfl rfl (by decide) (by decide) hk1 hFc hP1 hD1
  replace hP := hP.sub (ws' := [(a0, .inr (2, [.ref a1, .ref a2, .ref a3, .ref a4, .ref a5, .ref a6, .ref a7, .ref a8, .ref a9, .ref a10, .ref a11, .int nh0, .int li])), (a1, .inl (cI, 3, .inl og)), (a2, .inl (cI, 3, .inl di)), (a11, .inr (1, [.int (nI i), .int (-1), .int 0, .int 1])), (b0, .inr (0, [.ref b1, .ref b2, .ref b3, .ref b4, .ref b5, .int cn])), (b1, .inl (cI, 60, .inl lo)), (b2, .inl (cI, 60, .inl hi))]) [0, 1, 2, 6, 3, 4, 5] rfl
  replace hD := hD.sub (ws' := [(a0, .inr (2, [.ref a1, .ref a2, .ref a3, .ref a4, .ref a5, .ref a6, .ref a7, .ref a8, .ref a9, .ref a10, .ref a11, .int nh0, .int li])), (a1, .inl (cI, 3, .inl og)), (a2, .inl (cI, 3, .inl di)), (a11, .inr (1, [.int (nI i), .int (-1), .int 0, .int 1])), (b0, .inr (0, [.ref b1, .ref b2, .ref b3, .ref b4, .ref b5, .int cn])), (b1, .inl (cI, 60, .inl lo)), (b2, .inl (cI, 60, .inl hi))]) [0, 1, 2, 6, 3, 4, 5] (by decide) rfl
  refine lv_iconst (v := 0) hx hb dX2_crosses_16 (by decide) ?_
  refine lv_istore (lv' := [(5, .int 0), (4, .int 0), (3, .int 0), (0, .ref a0), (1, .ref b0), (2, .int (nI i))]) hx hb dX2_crosses_17 hl (by decide) rfl (fun ls hl => ?_)
  have loop_2 : ∀ (n : Nat) (a : Nat) (ax ab be la lb : Int32), a + n = 3 → ∀ (H : Heap) (locs : List Loc) (ls : Array Slot), va_P D vwCl [(a0, .inr (2, [.ref a1, .ref a2, .ref a3, .ref a4, .ref a5, .ref a6, .ref a7, .ref a8, .ref a9, .ref a10, .ref a11, .int nh0, .int li])), (a1, .inl (cI, 3, .inl og)), (a2, .inl (cI, 3, .inl di)), (a11, .inr (1, [.int (nI i), .int ax, .int ab, .int be])), (b0, .inr (0, [.ref b1, .ref b2, .ref b3, .ref b4, .ref b5, .int cn])), (b1, .inl (cI, 60, .inl lo)), (b2, .inl (cI, 60, .inl hi))] H → va_D A [(a0, .inr (2, [.ref a1, .ref a2, .ref a3, .ref a4, .ref a5, .ref a6, .ref a7, .ref a8, .ref a9, .ref a10, .ref a11, .int nh0, .int li])), (a1, .inl (cI, 3, .inl og)), (a2, .inl (cI, 3, .inl di)), (a11, .inr (1, [.int (nI i), .int ax, .int ab, .int be])), (b0, .inr (0, [.ref b1, .ref b2, .ref b3, .ref b4, .ref b5, .int cn])), (b1, .inl (cI, 60, .inl lo)), (b2, .inl (cI, 60, .inl hi))] → va_S A s.heap H locs → lv_has ls 11 [(0, .ref a0), (1, .ref b0), (2, .int (nI i)), (3, .int la), (4, .int lb), (5, .int (nI a))] → W p l e (headSpec (Cond.code yX2_crosses cX2_crosses 11 (some .boolean) :: gw) ({ frames := 1, cells := 0, slots := 0, locals := 24 })).room s m ([.ref a0, .ref b0, .int (nI i)] : List Value).toArray below meth c H locs 0 0 (MQ below (va_Qi (S := Int32 × Int32 × Int32) (fun r u => r = bI ((crFin (crN lo hi og di i n a ax ab be la lb))).isSome ∧ ∀ z, (crFin (crN lo hi og di i n a ax ab be la lb)) = some z → u = z) (fun u => bq D [(cI, .int), (cZ, .boolean), (cJ, .long)] A ([(a0, .inr (2, [.ref a1, .ref a2, .ref a3, .ref a4, .ref a5, .ref a6, .ref a7, .ref a8, .ref a9, .ref a10, .ref a11, .int nh0, .int li])), (a1, .inl (cI, 3, .inl og)), (a2, .inl (cI, 3, .inl di)), (a11, .inr (1, [.int (nI i), .int u.1, .int u.2.1, .int u.2.2])), (b0, .inr (0, [.ref b1, .ref b2, .ref b3, .ref b4, .ref b5, .int cn])), (b1, .inl (cI, 60, .inl lo)), (b2, .inl (cI, 60, .inl hi))])) A) ([.ref a0, .ref b0, .int (nI i)] : List Value).toArray s 0 0 A) (F0 m 19 ls []) := by
    intro n
    induction n with
    | zero =>
      intro a ax ab be la lb hlp H locs ls hP hD hS hl
      refine lv_iload hx hb dX2_crosses_19 (lv_at hl 5 rfl) ?_
      refine lv_iconst (v := 3) hx hb dX2_crosses_21 (by decide) ?_
      refine lv_icmp_ge (tgt := 214) hx hb dX2_crosses_22 (by decide) (fun _ => ?_) (fun c22 => absurd (nI_le (a := 3) (by omega) (by omega)) c22)
      refine lv_aload_n hx hb dX2_crosses_214 rfl (lv_at hl 0 rfl) ?_
      refine va_get (D := D) (ci := 2) (v := .ref a11) (C := RX2) (T := TX2) (N := 13) hx hb hg iX2 hown hK hP 0 rfl rfl 10 (by decide) (hg _ kw145) (fun _ h9 => h9) rfl dX2_crosses_215 ?_
      refine va_getN (D := D) (ci := 1) (v := .int ax) (C := RX1) (T := TX1) (N := 4) hx hb hg iX1 hown hK hP 3 rfl rfl 1 (by decide) (va_Nw.use rfl (nzF_11 hZ)) (fun _ h9 => h9) rfl dX2_crosses_218 ?_
      refine lv_iconst (v := (-1)) hx hb dX2_crosses_221 (by decide) ?_
      refine lv_icmp_eq (tgt := 251) hx hb dX2_crosses_222 (by decide) (fun c222 => ?_) (fun c222 => ?_)
      · refine lv_iconst (v := 0) hx hb dX2_crosses_251 (by decide) ?_
        exact W.zret (v := 0) hx hb hr (by decide) (fun t ht hW => ⟨⟨0, (ax, ab, be), rfl, ⟨by simp [crN, crFin, bI, c222], by simp [crN, crFin, c222]⟩, bq_end hP hK hD ht hW⟩, hS.F ht⟩) hS.2.2 dX2_crosses_252
      · refine lv_aload_n hx hb dX2_crosses_225 rfl (lv_at hl 0 rfl) ?_
        refine va_get (D := D) (ci := 2) (v := .ref a11) (C := RX2) (T := TX2) (N := 13) hx hb hg iX2 hown hK hP 0 rfl rfl 10 (by decide) (hg _ kw145) (fun _ h9 => h9) rfl dX2_crosses_226 ?_
        refine va_getN (D := D) (ci := 1) (v := .int ab) (C := RX1) (T := TX1) (N := 4) hx hb hg iX1 hown hK hP 3 rfl rfl 2 (by decide) (va_Nw.use rfl (nzF_12 hZ)) (fun _ h9 => h9) rfl dX2_crosses_229 ?_
        refine lv_iload hx hb dX2_crosses_232 (lv_at hl 4 rfl) ?_
        refine lv_imul hx hb dX2_crosses_234 ?_
        refine lv_iload_n hx hb dX2_crosses_235 rfl (lv_at hl 3 rfl) ?_
        refine lv_aload_n hx hb dX2_crosses_236 rfl (lv_at hl 0 rfl) ?_
        refine va_get (D := D) (ci := 2) (v := .ref a11) (C := RX2) (T := TX2) (N := 13) hx hb hg iX2 hown hK hP 0 rfl rfl 10 (by decide) (hg _ kw145) (fun _ h9 => h9) rfl dX2_crosses_237 ?_
        refine va_getN (D := D) (ci := 1) (v := .int be) (C := RX1) (T := TX1) (N := 4) hx hb hg iX1 hown hK hP 3 rfl rfl 3 (by decide) (va_Nw.use rfl (nzF_13 hZ)) (fun _ h9 => h9) rfl dX2_crosses_240 ?_
        refine lv_imul hx hb dX2_crosses_243 ?_
        refine lv_icmp_ge (tgt := 251) hx hb dX2_crosses_244 (by decide) (fun c244 => ?_) (fun c244 => ?_)
        · have c244n := Int32.not_lt.mpr c244
          refine lv_iconst (v := 0) hx hb dX2_crosses_251 (by decide) ?_
          exact W.zret (v := 0) hx hb hr (by decide) (fun t ht hW => ⟨⟨0, (ax, ab, be), rfl, ⟨by simp [crN, crFin, bI, c222, c244, c244n], by simp [crN, crFin, c222, c244, c244n]⟩, bq_end hP hK hD ht hW⟩, hS.F ht⟩) hS.2.2 dX2_crosses_252
        · have c244n := Int32.not_le.mp c244
          refine lv_iconst (v := 1) hx hb dX2_crosses_247 (by decide) ?_
          refine lv_goto (tgt := 252) hx hb dX2_crosses_248 (by decide) ?_
          exact W.zret (v := 1) hx hb hr (by decide) (fun t ht hW => ⟨⟨1, (ax, ab, be), rfl, ⟨by simp [crN, crFin, bI, c222, c244, c244n], by simp [crN, crFin, c222, c244, c244n]⟩, bq_end hP hK hD ht hW⟩, hS.F ht⟩) hS.2.2 dX2_crosses_252
    | succ n ih =>
      intro a ax ab be la lb hlp H locs ls hP hD hS hl
      refine lv_iload hx hb dX2_crosses_19 (lv_at hl 5 rfl) ?_
      refine lv_iconst (v := 3) hx hb dX2_crosses_21 (by decide) ?_
      refine lv_icmp_ge (tgt := 214) hx hb dX2_crosses_22 (by decide) (fun c22 => absurd c22 (nI_ge (b := 3) (by omega) (by omega))) (fun _ => ?_)
      refine lv_aload_n hx hb dX2_crosses_25 rfl (lv_at hl 1 rfl) ?_
      refine va_getN (D := D) (ci := 0) (v := .ref b1) (C := RX0) (T := TX0) (N := 6) hx hb hg iX0 hown hK hP 4 rfl rfl 0 (by decide) (va_Nw.use rfl (nzF_0 hZ)) (fun _ h9 => h9) rfl dX2_crosses_26 ?_
      refine lv_iload_n hx hb dX2_crosses_29 rfl (lv_at hl 2 rfl) ?_
      refine lv_iconst (v := 3) hx hb dX2_crosses_30 (by decide) ?_
      refine lv_imul hx hb dX2_crosses_31 ?_
      refine lv_iload hx hb dX2_crosses_32 (lv_at hl 5 rfl) ?_
      refine lv_iadd hx hb dX2_crosses_34 ?_
      refine va_iald hx hb hK hP 5 0 rfl rfl (vin3 (by omega) (by decide)) dX2_crosses_35 ?_
      refine tp_i (y := lo (i * 3 + a)) (congrArg lo (vcl3 (by omega))) ?_
      refine lv_aload_n hx hb dX2_crosses_36 rfl (lv_at hl 0 rfl) ?_
      refine va_get (D := D) (ci := 2) (v := .ref a1) (C := RX2) (T := TX2) (N := 13) hx hb hg iX2 hown hK hP 0 rfl rfl 0 (by decide) (hg _ kw129) (fun _ h9 => h9) rfl dX2_crosses_37 ?_
      refine lv_iload hx hb dX2_crosses_40 (lv_at hl 5 rfl) ?_
      refine va_iald hx hb hK hP 1 0 rfl rfl (vp_in_nI (by omega) (by decide)) dX2_crosses_42 ?_
      refine tp_i (y := og a) (congrArg og (nI_clamp (by omega))) ?_
      refine lv_isub hx hb dX2_crosses_43 ?_
      refine lv_istore (lv' := [(6, .int ((lo (i * 3 + a)) - (og a))), (0, .ref a0), (1, .ref b0), (2, .int (nI i)), (3, .int la), (4, .int lb), (5, .int (nI a))]) hx hb dX2_crosses_44 hl (by decide) rfl (fun ls hl => ?_)
      refine lv_aload_n hx hb dX2_crosses_46 rfl (lv_at hl 2 rfl) ?_
      refine va_getN (D := D) (ci := 0) (v := .ref b2) (C := RX0) (T := TX0) (N := 6) hx hb hg iX0 hown hK hP 4 rfl rfl 1 (by decide) (va_Nw.use rfl (nzF_1 hZ)) (fun _ h9 => h9) rfl dX2_crosses_47 ?_
      refine lv_iload_n hx hb dX2_crosses_50 rfl (lv_at hl 3 rfl) ?_
      refine lv_iconst (v := 3) hx hb dX2_crosses_51 (by decide) ?_
      refine lv_imul hx hb dX2_crosses_52 ?_
      refine lv_iload hx hb dX2_crosses_53 (lv_at hl 6 rfl) ?_
      refine lv_iadd hx hb dX2_crosses_55 ?_
      refine va_iald hx hb hK hP 6 0 rfl rfl (vin3 (by omega) (by decide)) dX2_crosses_56 ?_
      refine tp_i (y := hi (i * 3 + a)) (congrArg hi (vcl3 (by omega))) ?_
      refine lv_aload_n hx hb dX2_crosses_57 rfl (lv_at hl 1 rfl) ?_
      refine va_get (D := D) (ci := 2) (v := .ref a1) (C := RX2) (T := TX2) (N := 13) hx hb hg iX2 hown hK hP 0 rfl rfl 0 (by decide) (hg _ kw129) (fun _ h9 => h9) rfl dX2_crosses_58 ?_
      refine lv_iload hx hb dX2_crosses_61 (lv_at hl 6 rfl) ?_
      refine va_iald hx hb hK hP 1 0 rfl rfl (vp_in_nI (by omega) (by decide)) dX2_crosses_63 ?_
      refine tp_i (y := og a) (congrArg og (nI_clamp (by omega))) ?_
      refine lv_isub hx hb dX2_crosses_64 ?_
      refine lv_istore (lv' := [(7, .int ((hi (i * 3 + a)) - (og a))), (6, .int ((lo (i * 3 + a)) - (og a))), (0, .ref a0), (1, .ref b0), (2, .int (nI i)), (3, .int la), (4, .int lb), (5, .int (nI a))]) hx hb dX2_crosses_65 hl (by decide) rfl (fun ls hl => ?_)
      refine lv_aload_n hx hb dX2_crosses_67 rfl (lv_at hl 2 rfl) ?_
      refine va_get (D := D) (ci := 2) (v := .ref a2) (C := RX2) (T := TX2) (N := 13) hx hb hg iX2 hown hK hP 0 rfl rfl 1 (by decide) (hg _ kw130) (fun _ h9 => h9) rfl dX2_crosses_68 ?_
      refine lv_iload hx hb dX2_crosses_71 (lv_at hl 7 rfl) ?_
      refine va_iald hx hb hK hP 2 0 rfl rfl (vp_in_nI (by omega) (by decide)) dX2_crosses_73 ?_
      refine tp_i (y := di a) (congrArg di (nI_clamp (by omega))) ?_
      refine va_mabs hx hb (hml.trans hl.1.symm) hown (hg _ kw376) (hg _ kw377) (hg _ kw37) (hg _ kw378) (Nat.le_of_ble_eq_true rfl) (Nat.le_of_ble_eq_true rfl) (Nat.le_of_ble_eq_true rfl) (Nat.le_of_ble_eq_true rfl) dX2_crosses_74 ?_
      refine tp_i (y := absI (di a)) (rfl) ?_
      refine lv_istore (lv' := [(8, .int (absI (di a))), (7, .int ((hi (i * 3 + a)) - (og a))), (6, .int ((lo (i * 3 + a)) - (og a))), (0, .ref a0), (1, .ref b0), (2, .int (nI i)), (3, .int la), (4, .int lb), (5, .int (nI a))]) hx hb dX2_crosses_77 hl (by decide) rfl (fun ls hl => ?_)
      refine lv_iload hx hb dX2_crosses_79 (lv_at hl 0 rfl) ?_
      refine lv_if_ne (tgt := 96) hx hb dX2_crosses_81 (by decide) (fun c81 => ?_) (fun c81 => ?_)
      · have J_3 : W p l e (headSpec (Cond.code yX2_crosses cX2_crosses 11 (some .boolean) :: gw) ({ frames := 1, cells := 0, slots := 0, locals := 24 })).room s m ([.ref a0, .ref b0, .int (nI i)] : List Value).toArray below meth c H locs 0 0 (MQ below (va_Qi (S := Int32 × Int32 × Int32) (fun r u => r = bI ((crFin (crN lo hi og di i (n + 1) a ax ab be la lb))).isSome ∧ ∀ z, (crFin (crN lo hi og di i (n + 1) a ax ab be la lb)) = some z → u = z) (fun u => bq D [(cI, .int), (cZ, .boolean), (cJ, .long)] A ([(a0, .inr (2, [.ref a1, .ref a2, .ref a3, .ref a4, .ref a5, .ref a6, .ref a7, .ref a8, .ref a9, .ref a10, .ref a11, .int nh0, .int li])), (a1, .inl (cI, 3, .inl og)), (a2, .inl (cI, 3, .inl di)), (a11, .inr (1, [.int (nI i), .int u.1, .int u.2.1, .int u.2.2])), (b0, .inr (0, [.ref b1, .ref b2, .ref b3, .ref b4, .ref b5, .int cn])), (b1, .inl (cI, 60, .inl lo)), (b2, .inl (cI, 60, .inl hi))])) A) ([.ref a0, .ref b0, .int (nI i)] : List Value).toArray s 0 0 A) (F0 m 114 ls [.int (crE (di a) (lo (i * 3 + a) - og a) (hi (i * 3 + a) - og a))]) := by
          refine lv_istore (lv' := [(9, .int (crE (di a) (lo (i * 3 + a) - og a) (hi (i * 3 + a) - og a))), (8, .int (absI (di a))), (7, .int ((hi (i * 3 + a)) - (og a))), (6, .int ((lo (i * 3 + a)) - (og a))), (0, .ref a0), (1, .ref b0), (2, .int (nI i)), (3, .int la), (4, .int lb), (5, .int (nI a))]) hx hb dX2_crosses_114 hl (by decide) rfl (fun ls hl => ?_)
          have J_4 : W p l e (headSpec (Cond.code yX2_crosses cX2_crosses 11 (some .boolean) :: gw) ({ frames := 1, cells := 0, slots := 0, locals := 24 })).room s m ([.ref a0, .ref b0, .int (nI i)] : List Value).toArray below meth c H locs 0 0 (MQ below (va_Qi (S := Int32 × Int32 × Int32) (fun r u => r = bI ((crFin (crN lo hi og di i (n + 1) a ax ab be la lb))).isSome ∧ ∀ z, (crFin (crN lo hi og di i (n + 1) a ax ab be la lb)) = some z → u = z) (fun u => bq D [(cI, .int), (cZ, .boolean), (cJ, .long)] A ([(a0, .inr (2, [.ref a1, .ref a2, .ref a3, .ref a4, .ref a5, .ref a6, .ref a7, .ref a8, .ref a9, .ref a10, .ref a11, .int nh0, .int li])), (a1, .inl (cI, 3, .inl og)), (a2, .inl (cI, 3, .inl di)), (a11, .inr (1, [.int (nI i), .int u.1, .int u.2.1, .int u.2.2])), (b0, .inr (0, [.ref b1, .ref b2, .ref b3, .ref b4, .ref b5, .int cn])), (b1, .inl (cI, 60, .inl lo)), (b2, .inl (cI, 60, .inl hi))])) A) ([.ref a0, .ref b0, .int (nI i)] : List Value).toArray s 0 0 A) (F0 m 134 ls [.int (crL (di a) (lo (i * 3 + a) - og a) (hi (i * 3 + a) - og a))]) := by
            refine lv_istore (lv' := [(10, .int (crL (di a) (lo (i * 3 + a) - og a) (hi (i * 3 + a) - og a))), (9, .int (crE (di a) (lo (i * 3 + a) - og a) (hi (i * 3 + a) - og a))), (8, .int (absI (di a))), (7, .int ((hi (i * 3 + a)) - (og a))), (6, .int ((lo (i * 3 + a)) - (og a))), (0, .ref a0), (1, .ref b0), (2, .int (nI i)), (3, .int la), (4, .int lb), (5, .int (nI a))]) hx hb dX2_crosses_134 hl (by decide) rfl (fun ls hl => ?_)
            have K_5 : ∀ (ax1 ab1 be1 : Int32), ((ax1, ab1, be1) = cr1 a (crE (di a) (lo (i * 3 + a) - og a) (hi (i * 3 + a) - og a)) (absI (di a)) ax ab be) → ∀ (H : Heap) (locs : List Loc) (ls : Array Slot), va_P D vwCl [(a0, .inr (2, [.ref a1, .ref a2, .ref a3, .ref a4, .ref a5, .ref a6, .ref a7, .ref a8, .ref a9, .ref a10, .ref a11, .int nh0, .int li])), (a1, .inl (cI, 3, .inl og)), (a2, .inl (cI, 3, .inl di)), (a11, .inr (1, [.int (nI i), .int ax1, .int ab1, .int be1])), (b0, .inr (0, [.ref b1, .ref b2, .ref b3, .ref b4, .ref b5, .int cn])), (b1, .inl (cI, 60, .inl lo)), (b2, .inl (cI, 60, .inl hi))] H → va_D A [(a0, .inr (2, [.ref a1, .ref a2, .ref a3, .ref a4, .ref a5, .ref a6, .ref a7, .ref a8, .ref a9, .ref a10, .ref a11, .int nh0, .int li])), (a1, .inl (cI, 3, .inl og)), (a2, .inl (cI, 3, .inl di)), (a11, .inr (1, [.int (nI i), .int ax1, .int ab1, .int be1])), (b0, .inr (0, [.ref b1, .ref b2, .ref b3, .ref b4, .ref b5, .int cn])), (b1, .inl (cI, 60, .inl lo)), (b2, .inl (cI, 60, .inl hi))] → va_S A s.heap H locs → lv_has ls 11 [(10, .int (crL (di a) (lo (i * 3 + a) - og a) (hi (i * 3 + a) - og a))), (9, .int (crE (di a) (lo (i * 3 + a) - og a) (hi (i * 3 + a) - og a))), (8, .int (absI (di a))), (7, .int ((hi (i * 3 + a)) - (og a))), (6, .int ((lo (i * 3 + a)) - (og a))), (0, .ref a0), (1, .ref b0), (2, .int (nI i)), (3, .int la), (4, .int lb), (5, .int (nI a))] → W p l e (headSpec (Cond.code yX2_crosses cX2_crosses 11 (some .boolean) :: gw) ({ frames := 1, cells := 0, slots := 0, locals := 24 })).room s m ([.ref a0, .ref b0, .int (nI i)] : List Value).toArray below meth c H locs 0 0 (MQ below (va_Qi (S := Int32 × Int32 × Int32) (fun r u => r = bI ((crFin (crN lo hi og di i (n + 1) a ax ab be la lb))).isSome ∧ ∀ z, (crFin (crN lo hi og di i (n + 1) a ax ab be la lb)) = some z → u = z) (fun u => bq D [(cI, .int), (cZ, .boolean), (cJ, .long)] A ([(a0, .inr (2, [.ref a1, .ref a2, .ref a3, .ref a4, .ref a5, .ref a6, .ref a7, .ref a8, .ref a9, .ref a10, .ref a11, .int nh0, .int li])), (a1, .inl (cI, 3, .inl og)), (a2, .inl (cI, 3, .inl di)), (a11, .inr (1, [.int (nI i), .int u.1, .int u.2.1, .int u.2.2])), (b0, .inr (0, [.ref b1, .ref b2, .ref b3, .ref b4, .ref b5, .int cn])), (b1, .inl (cI, 60, .inl lo)), (b2, .inl (cI, 60, .inl hi))])) A) ([.ref a0, .ref b0, .int (nI i)] : List Value).toArray s 0 0 A) (F0 m 184 ls []) := by
              intro ax1 ab1 be1 hq H locs ls hP hD hS hl
              refine lv_iload hx hb dX2_crosses_184 (lv_at hl 9 rfl) ?_
              refine lv_if_eq (tgt := 201) hx hb dX2_crosses_186 (by decide) (fun c186 => ?_) (fun c186 => ?_)
              · refine lv_iload hx hb dX2_crosses_201 (lv_at hl 0 rfl) ?_
                refine lv_istore_n (lv' := [(3, .int (crL (di a) (lo (i * 3 + a) - og a) (hi (i * 3 + a) - og a))), (10, .int (crL (di a) (lo (i * 3 + a) - og a) (hi (i * 3 + a) - og a))), (9, .int (crE (di a) (lo (i * 3 + a) - og a) (hi (i * 3 + a) - og a))), (8, .int (absI (di a))), (7, .int ((hi (i * 3 + a)) - (og a))), (6, .int ((lo (i * 3 + a)) - (og a))), (0, .ref a0), (1, .ref b0), (2, .int (nI i)), (4, .int lb), (5, .int (nI a))]) hx hb dX2_crosses_203 rfl hl (by decide) rfl (fun ls hl => ?_)
                refine lv_iload hx hb dX2_crosses_204 (lv_at hl 3 rfl) ?_
                refine lv_istore (lv' := [(4, .int (absI (di a))), (3, .int (crL (di a) (lo (i * 3 + a) - og a) (hi (i * 3 + a) - og a))), (10, .int (crL (di a) (lo (i * 3 + a) - og a) (hi (i * 3 + a) - og a))), (9, .int (crE (di a) (lo (i * 3 + a) - og a) (hi (i * 3 + a) - og a))), (8, .int (absI (di a))), (7, .int ((hi (i * 3 + a)) - (og a))), (6, .int ((lo (i * 3 + a)) - (og a))), (0, .ref a0), (1, .ref b0), (2, .int (nI i)), (5, .int (nI a))]) hx hb dX2_crosses_206 hl (by decide) rfl (fun ls hl => ?_)
                refine lv_iinc (v := nI (a + 1)) (lv' := [(5, .int (nI (a + 1))), (4, .int (absI (di a))), (3, .int (crL (di a) (lo (i * 3 + a) - og a) (hi (i * 3 + a) - og a))), (10, .int (crL (di a) (lo (i * 3 + a) - og a) (hi (i * 3 + a) - og a))), (9, .int (crE (di a) (lo (i * 3 + a) - og a) (hi (i * 3 + a) - og a))), (8, .int (absI (di a))), (7, .int ((hi (i * 3 + a)) - (og a))), (6, .int ((lo (i * 3 + a)) - (og a))), (0, .ref a0), (1, .ref b0), (2, .int (nI i))]) hx hb dX2_crosses_208 hl (k := 10) rfl (nI_1 _) (by decide) rfl (fun ls hl => ?_)
                refine lv_goto (tgt := 19) hx hb dX2_crosses_211 (by decide) ?_
                rw [show crN lo hi og di i (n + 1) a ax ab be la lb = crN lo hi og di i n (a + 1) ax1 ab1 be1 (crL (di a) (lo (i * 3 + a) - og a) (hi (i * 3 + a) - og a)) (absI (di a)) from by simp [crN, cr2, ← hq, c81, c186]]
                exact ih (a + 1) ax1 ab1 be1 (crL (di a) (lo (i * 3 + a) - og a) (hi (i * 3 + a) - og a)) (absI (di a)) (by omega) H locs ls hP hD hS (lv_sub hl [8, 9, 10, 2, 1, 0] rfl)
              · refine lv_iload hx hb dX2_crosses_189 (lv_at hl 0 rfl) ?_
                refine lv_iload hx hb dX2_crosses_191 (lv_at hl 9 rfl) ?_
                refine lv_imul hx hb dX2_crosses_193 ?_
                refine lv_iload_n hx hb dX2_crosses_194 rfl (lv_at hl 8 rfl) ?_
                refine lv_iload hx hb dX2_crosses_195 (lv_at hl 2 rfl) ?_
                refine lv_imul hx hb dX2_crosses_197 ?_
                refine lv_icmp_ge (tgt := 208) hx hb dX2_crosses_198 (by decide) (fun c198 => ?_) (fun c198 => ?_)
                · have c198n := Int32.not_lt.mpr c198
                  refine lv_iinc (v := nI (a + 1)) (lv' := [(5, .int (nI (a + 1))), (10, .int (crL (di a) (lo (i * 3 + a) - og a) (hi (i * 3 + a) - og a))), (9, .int (crE (di a) (lo (i * 3 + a) - og a) (hi (i * 3 + a) - og a))), (8, .int (absI (di a))), (7, .int ((hi (i * 3 + a)) - (og a))), (6, .int ((lo (i * 3 + a)) - (og a))), (0, .ref a0), (1, .ref b0), (2, .int (nI i)), (3, .int la), (4, .int lb)]) hx hb dX2_crosses_208 hl (k := 10) rfl (nI_1 _) (by decide) rfl (fun ls hl => ?_)
                  refine lv_goto (tgt := 19) hx hb dX2_crosses_211 (by decide) ?_
                  rw [show crN lo hi og di i (n + 1) a ax ab be la lb = crN lo hi og di i n (a + 1) ax1 ab1 be1 la lb from by simp [crN, cr2, ← hq, c81, c186, c198, c198n]]
                  exact ih (a + 1) ax1 ab1 be1 la lb (by omega) H locs ls hP hD hS (lv_sub hl [6, 7, 8, 9, 10, 0] rfl)
                · have c198n := Int32.not_le.mp c198
                  refine lv_iload hx hb dX2_crosses_201 (lv_at hl 0 rfl) ?_
                  refine lv_istore_n (lv' := [(3, .int (crL (di a) (lo (i * 3 + a) - og a) (hi (i * 3 + a) - og a))), (10, .int (crL (di a) (lo (i * 3 + a) - og a) (hi (i * 3 + a) - og a))), (9, .int (crE (di a) (lo (i * 3 + a) - og a) (hi (i * 3 + a) - og a))), (8, .int (absI (di a))), (7, .int ((hi (i * 3 + a)) - (og a))), (6, .int ((lo (i * 3 + a)) - (og a))), (0, .ref a0), (1, .ref b0), (2, .int (nI i)), (4, .int lb), (5, .int (nI a))]) hx hb dX2_crosses_203 rfl hl (by decide) rfl (fun ls hl => ?_)
                  refine lv_iload hx hb dX2_crosses_204 (lv_at hl 3 rfl) ?_
                  refine lv_istore (lv' := [(4, .int (absI (di a))), (3, .int (crL (di a) (lo (i * 3 + a) - og a) (hi (i * 3 + a) - og a))), (10, .int (crL (di a) (lo (i * 3 + a) - og a) (hi (i * 3 + a) - og a))), (9, .int (crE (di a) (lo (i * 3 + a) - og a) (hi (i * 3 + a) - og a))), (8, .int (absI (di a))), (7, .int ((hi (i * 3 + a)) - (og a))), (6, .int ((lo (i * 3 + a)) - (og a))), (0, .ref a0), (1, .ref b0), (2, .int (nI i)), (5, .int (nI a))]) hx hb dX2_crosses_206 hl (by decide) rfl (fun ls hl => ?_)
                  refine lv_iinc (v := nI (a + 1)) (lv' := [(5, .int (nI (a + 1))), (4, .int (absI (di a))), (3, .int (crL (di a) (lo (i * 3 + a) - og a) (hi (i * 3 + a) - og a))), (10, .int (crL (di a) (lo (i * 3 + a) - og a) (hi (i * 3 + a) - og a))), (9, .int (crE (di a) (lo (i * 3 + a) - og a) (hi (i * 3 + a) - og a))), (8, .int (absI (di a))), (7, .int ((hi (i * 3 + a)) - (og a))), (6, .int ((lo (i * 3 + a)) - (og a))), (0, .ref a0), (1, .ref b0), (2, .int (nI i))]) hx hb dX2_crosses_208 hl (k := 10) rfl (nI_1 _) (by decide) rfl (fun ls hl => ?_)
                  refine lv_goto (tgt := 19) hx hb dX2_crosses_211 (by decide) ?_
                  rw [show crN lo hi og di i (n + 1) a ax ab be la lb = crN lo hi og di i n (a + 1) ax1 ab1 be1 (crL (di a) (lo (i * 3 + a) - og a) (hi (i * 3 + a) - og a)) (absI (di a)) from by simp [crN, cr2, ← hq, c81, c186, c198, c198n]]
                  exact ih (a + 1) ax1 ab1 be1 (crL (di a) (lo (i * 3 + a) - og a) (hi (i * 3 + a) - og a)) (absI (di a)) (by omega) H locs ls hP hD hS (lv_sub hl [8, 9, 10, 2, 1, 0] rfl)
            refine lv_aload_n hx hb dX2_crosses_136 rfl (lv_at hl 5 rfl) ?_
            refine va_get (D := D) (ci := 2) (v := .ref a11) (C := RX2) (T := TX2) (N := 13) hx hb hg iX2 hown hK hP 0 rfl rfl 10 (by decide) (hg _ kw145) (fun _ h9 => h9) rfl dX2_crosses_137 ?_
            refine va_getN (D := D) (ci := 1) (v := .int ax) (C := RX1) (T := TX1) (N := 4) hx hb hg iX1 hown hK hP 3 rfl rfl 1 (by decide) (va_Nw.use rfl (nzF_11 hZ)) (fun _ h9 => h9) rfl dX2_crosses_140 ?_
            refine lv_iconst (v := (-1)) hx hb dX2_crosses_143 (by decide) ?_
            refine lv_icmp_eq (tgt := 170) hx hb dX2_crosses_144 (by decide) (fun c144 => ?_) (fun c144 => ?_)
            · refine lv_aload_n hx hb dX2_crosses_170 rfl (lv_at hl 5 rfl) ?_
              refine va_get (D := D) (ci := 2) (v := .ref a11) (C := RX2) (T := TX2) (N := 13) hx hb hg iX2 hown hK hP 0 rfl rfl 10 (by decide) (hg _ kw145) (fun _ h9 => h9) rfl dX2_crosses_171 ?_
              refine lv_iload_n hx hb dX2_crosses_174 rfl (lv_at hl 7 rfl) ?_
              refine lv_iload hx hb dX2_crosses_175 (lv_at hl 10 rfl) ?_
              refine lv_iload hx hb dX2_crosses_177 (lv_at hl 1 rfl) ?_
              refine lv_iload hx hb dX2_crosses_179 (lv_at hl 2 rfl) ?_
              have hPc := hP.sub (ws' := [(a11, .inr (1, [.int (nI i), .int ax, .int ab, .int be]))]) [3] rfl
              have hDc := hD.sub (ws' := [(a11, .inr (1, [.int (nI i), .int ax, .int ab, .int be]))]) [3] (by decide) rfl
              have hFc := va_free (wc := [(a11, .inr (1, [.int (nI i), .int ax, .int ab, .int be]))]) hD hS hA [3] rfl
              refine va_callv (va_runVN (As := [.int (nI i), .int (nI a), .int (crE (di a) (lo (i * 3 + a) - og a) (hi (i * 3 + a) - og a)), .int (absI (di a))]) (rest := []) ⟨hx, hb, hml, hown, hg⟩ (qX1_set l D cI cZ cJ a11 (nI i) ax ab be (nI i) (nI a) (crE (di a) (lo (i * 3 + a) - og a) (hi (i * 3 + a) - og a)) (absI (di a)) H.size) ⟨va_cnB 4 hg (gw_in kw351) rfl rfl rfl (nzM_5 hZ) (hg _ kw40) (by decide +kernel) ⟨Nat.le_of_ble_eq_true rfl, Nat.le_of_ble_eq_true rfl⟩, hg _ kw350, hg _ kw5⟩ (wq_preV hPc hK hDc hZ (va_recv hK hPc (ci := 1) (q0 := 0) rfl rfl)) rfl rfl hl.1 rfl (lv_room (Nat.le_of_ble_eq_true rfl)) dX2_crosses_181 ⟨Nat.le_of_ble_eq_true rfl, Nat.le_of_ble_eq_true rfl⟩) hS (fun q _ h => hFc q h) hFc (fun u t H locs ht hvm hw hB hz1 hk1 hS => ?_)
              obtain ⟨hP1, hK1, hD1⟩ := hB
              rw [ht] at hP1
              try dsimp only at hw hP1 hD1
              obtain ⟨hP, hD⟩ := va_join (wr := [(a0, .inr (2, [.ref a1, .ref a2, .ref a3, .ref a4, .ref a5, .ref a6, .ref a7, .ref a8, .ref a9, .ref a10, .ref a11, .int nh0, .int li])), (a1, .inl (cI, 3, .inl og)), (a2, .inl (cI, 3, .inl di)), (b0, .inr (0, [.ref b1, .ref b2, .ref b3, .ref b4, .ref b5, .int cn])), (b1, .inl (cI, 60, .inl lo)), (b2, .inl (cI, 60, .inl hi))]) (w1 := [(a11, .inr (1, [.int (nI i), .int (nI a), .int (crE (di a) (lo (i * 3 + a) - og a) (hi (i * 3 + a) - og a)), .int (absI (di a))]))]) hP hD [3] [0, 1, 2, 4, 5, 6] rfl rfl (by decide) (by decide) hk1 hFc hP1 hD1
              replace hP := hP.sub (ws' := [(a0, .inr (2, [.ref a1, .ref a2, .ref a3, .ref a4, .ref a5, .ref a6, .ref a7, .ref a8, .ref a9, .ref a10, .ref a11, .int nh0, .int li])), (a1, .inl (cI, 3, .inl og)), (a2, .inl (cI, 3, .inl di)), (a11, .inr (1, [.int (nI i), .int (nI a), .int (crE (di a) (lo (i * 3 + a) - og a) (hi (i * 3 + a) - og a)), .int (absI (di a))])), (b0, .inr (0, [.ref b1, .ref b2, .ref b3, .ref b4, .ref b5, .int cn])), (b1, .inl (cI, 60, .inl lo)), (b2, .inl (cI, 60, .inl hi))]) [0, 1, 2, 6, 3, 4, 5] rfl
              replace hD := hD.sub (ws' := [(a0, .inr (2, [.ref a1, .ref a2, .ref a3, .ref a4, .ref a5, .ref a6, .ref a7, .ref a8, .ref a9, .ref a10, .ref a11, .int nh0, .int li])), (a1, .inl (cI, 3, .inl og)), (a2, .inl (cI, 3, .inl di)), (a11, .inr (1, [.int (nI i), .int (nI a), .int (crE (di a) (lo (i * 3 + a) - og a) (hi (i * 3 + a) - og a)), .int (absI (di a))])), (b0, .inr (0, [.ref b1, .ref b2, .ref b3, .ref b4, .ref b5, .int cn])), (b1, .inl (cI, 60, .inl lo)), (b2, .inl (cI, 60, .inl hi))]) [0, 1, 2, 6, 3, 4, 5] (by decide) rfl
              exact K_5 (nI a) (crE (di a) (lo (i * 3 + a) - og a) (hi (i * 3 + a) - og a)) (absI (di a)) (by simp [cr1, c81, c144]) H locs ls hP hD hS (lv_sub hl [0, 1, 2, 3, 4, 5, 6, 7, 8, 9, 10] rfl)
            · refine lv_iload hx hb dX2_crosses_147 (lv_at hl 1 rfl) ?_
              refine lv_aload_n hx hb dX2_crosses_149 rfl (lv_at hl 5 rfl) ?_
              refine va_get (D := D) (ci := 2) (v := .ref a11) (C := RX2) (T := TX2) (N := 13) hx hb hg iX2 hown hK hP 0 rfl rfl 10 (by decide) (hg _ kw145) (fun _ h9 => h9) rfl dX2_crosses_150 ?_
              refine va_getN (D := D) (ci := 1) (v := .int be) (C := RX1) (T := TX1) (N := 4) hx hb hg iX1 hown hK hP 3 rfl rfl 3 (by decide) (va_Nw.use rfl (nzF_13 hZ)) (fun _ h9 => h9) rfl dX2_crosses_153 ?_
              refine lv_imul hx hb dX2_crosses_156 ?_
              refine lv_aload_n hx hb dX2_crosses_157 rfl (lv_at hl 5 rfl) ?_
              refine va_get (D := D) (ci := 2) (v := .ref a11) (C := RX2) (T := TX2) (N := 13) hx hb hg iX2 hown hK hP 0 rfl rfl 10 (by decide) (hg _ kw145) (fun _ h9 => h9) rfl dX2_crosses_158 ?_
              refine va_getN (D := D) (ci := 1) (v := .int ab) (C := RX1) (T := TX1) (N := 4) hx hb hg iX1 hown hK hP 3 rfl rfl 2 (by decide) (va_Nw.use rfl (nzF_12 hZ)) (fun _ h9 => h9) rfl dX2_crosses_161 ?_
              refine lv_iload hx hb dX2_crosses_164 (lv_at hl 2 rfl) ?_
              refine lv_imul hx hb dX2_crosses_166 ?_
              refine lv_icmp_le (tgt := 184) hx hb dX2_crosses_167 (by decide) (fun c167 => ?_) (fun c167 => ?_)
              · have c167n := Int32.not_lt.mpr c167
                exact K_5 ax ab be (by simp [cr1, c81, c144, c167, c167n]) H locs ls hP hD hS (lv_sub hl [0, 1, 2, 3, 4, 5, 6, 7, 8, 9, 10] rfl)
              · have c167n := Int32.not_le.mp c167
                refine lv_aload_n hx hb dX2_crosses_170 rfl (lv_at hl 5 rfl) ?_
                refine va_get (D := D) (ci := 2) (v := .ref a11) (C := RX2) (T := TX2) (N := 13) hx hb hg iX2 hown hK hP 0 rfl rfl 10 (by decide) (hg _ kw145) (fun _ h9 => h9) rfl dX2_crosses_171 ?_
                refine lv_iload_n hx hb dX2_crosses_174 rfl (lv_at hl 7 rfl) ?_
                refine lv_iload hx hb dX2_crosses_175 (lv_at hl 10 rfl) ?_
                refine lv_iload hx hb dX2_crosses_177 (lv_at hl 1 rfl) ?_
                refine lv_iload hx hb dX2_crosses_179 (lv_at hl 2 rfl) ?_
                have hPc := hP.sub (ws' := [(a11, .inr (1, [.int (nI i), .int ax, .int ab, .int be]))]) [3] rfl
                have hDc := hD.sub (ws' := [(a11, .inr (1, [.int (nI i), .int ax, .int ab, .int be]))]) [3] (by decide) rfl
                have hFc := va_free (wc := [(a11, .inr (1, [.int (nI i), .int ax, .int ab, .int be]))]) hD hS hA [3] rfl
                refine va_callv (va_runVN (As := [.int (nI i), .int (nI a), .int (crE (di a) (lo (i * 3 + a) - og a) (hi (i * 3 + a) - og a)), .int (absI (di a))]) (rest := []) ⟨hx, hb, hml, hown, hg⟩ (qX1_set l D cI cZ cJ a11 (nI i) ax ab be (nI i) (nI a) (crE (di a) (lo (i * 3 + a) - og a) (hi (i * 3 + a) - og a)) (absI (di a)) H.size) ⟨va_cnB 4 hg (gw_in kw351) rfl rfl rfl (nzM_5 hZ) (hg _ kw40) (by decide +kernel) ⟨Nat.le_of_ble_eq_true rfl, Nat.le_of_ble_eq_true rfl⟩, hg _ kw350, hg _ kw5⟩ (wq_preV hPc hK hDc hZ (va_recv hK hPc (ci := 1) (q0 := 0) rfl rfl)) rfl rfl hl.1 rfl (lv_room (Nat.le_of_ble_eq_true rfl)) dX2_crosses_181 ⟨Nat.le_of_ble_eq_true rfl, Nat.le_of_ble_eq_true rfl⟩) hS (fun q _ h => hFc q h) hFc (fun u t H locs ht hvm hw hB hz1 hk1 hS => ?_)
                obtain ⟨hP1, hK1, hD1⟩ := hB
                rw [ht] at hP1
                try dsimp only at hw hP1 hD1
                obtain ⟨hP, hD⟩ := va_join (wr := [(a0, .inr (2, [.ref a1, .ref a2, .ref a3, .ref a4, .ref a5, .ref a6, .ref a7, .ref a8, .ref a9, .ref a10, .ref a11, .int nh0, .int li])), (a1, .inl (cI, 3, .inl og)), (a2, .inl (cI, 3, .inl di)), (b0, .inr (0, [.ref b1, .ref b2, .ref b3, .ref b4, .ref b5, .int cn])), (b1, .inl (cI, 60, .inl lo)), (b2, .inl (cI, 60, .inl hi))]) (w1 := [(a11, .inr (1, [.int (nI i), .int (nI a), .int (crE (di a) (lo (i * 3 + a) - og a) (hi (i * 3 + a) - og a)), .int (absI (di a))]))]) hP hD [3] [0, 1, 2, 4, 5, 6] rfl rfl (by decide) (by decide) hk1 hFc hP1 hD1
                replace hP := hP.sub (ws' := [(a0, .inr (2, [.ref a1, .ref a2, .ref a3, .ref a4, .ref a5, .ref a6, .ref a7, .ref a8, .ref a9, .ref a10, .ref a11, .int nh0, .int li])), (a1, .inl (cI, 3, .inl og)), (a2, .inl (cI, 3, .inl di)), (a11, .inr (1, [.int (nI i), .int (nI a), .int (crE (di a) (lo (i * 3 + a) - og a) (hi (i * 3 + a) - og a)), .int (absI (di a))])), (b0, .inr (0, [.ref b1, .ref b2, .ref b3, .ref b4, .ref b5, .int cn])), (b1, .inl (cI, 60, .inl lo)), (b2, .inl (cI, 60, .inl hi))]) [0, 1, 2, 6, 3, 4, 5] rfl
                replace hD := hD.sub (ws' := [(a0, .inr (2, [.ref a1, .ref a2, .ref a3, .ref a4, .ref a5, .ref a6, .ref a7, .ref a8, .ref a9, .ref a10, .ref a11, .int nh0, .int li])), (a1, .inl (cI, 3, .inl og)), (a2, .inl (cI, 3, .inl di)), (a11, .inr (1, [.int (nI i), .int (nI a), .int (crE (di a) (lo (i * 3 + a) - og a) (hi (i * 3 + a) - og a)), .int (absI (di a))])), (b0, .inr (0, [.ref b1, .ref b2, .ref b3, .ref b4, .ref b5, .int cn])), (b1, .inl (cI, 60, .inl lo)), (b2, .inl (cI, 60, .inl hi))]) [0, 1, 2, 6, 3, 4, 5] (by decide) rfl
                exact K_5 (nI a) (crE (di a) (lo (i * 3 + a) - og a) (hi (i * 3 + a) - og a)) (absI (di a)) (by simp [cr1, c81, c144, c167, c167n]) H locs ls hP hD hS (lv_sub hl [0, 1, 2, 3, 4, 5, 6, 7, 8, 9, 10] rfl)
          refine lv_aload_n hx hb dX2_crosses_116 rfl (lv_at hl 4 rfl) ?_
          refine va_get (D := D) (ci := 2) (v := .ref a2) (C := RX2) (T := TX2) (N := 13) hx hb hg iX2 hown hK hP 0 rfl rfl 1 (by decide) (hg _ kw130) (fun _ h9 => h9) rfl dX2_crosses_117 ?_
          refine lv_iload hx hb dX2_crosses_120 (lv_at hl 9 rfl) ?_
          refine va_iald hx hb hK hP 2 0 rfl rfl (vp_in_nI (by omega) (by decide)) dX2_crosses_122 ?_
          refine tp_i (y := di a) (congrArg di (nI_clamp (by omega))) ?_
          refine lv_if_le (tgt := 131) hx hb dX2_crosses_123 (by decide) (fun c123 => ?_) (fun c123 => ?_)
          · have c123n := Int32.not_lt.mpr c123
            refine lv_iload hx hb dX2_crosses_131 (lv_at hl 3 rfl) ?_
            refine lv_ineg hx hb dX2_crosses_133 ?_
            refine tp_i (y := crL (di a) (lo (i * 3 + a) - og a) (hi (i * 3 + a) - og a)) (by simp [crL, c81, c123, c123n]) ?_
            exact J_4
          · have c123n := Int32.not_le.mp c123
            refine lv_iload hx hb dX2_crosses_126 (lv_at hl 2 rfl) ?_
            refine lv_goto (tgt := 134) hx hb dX2_crosses_128 (by decide) ?_
            refine tp_i (y := crL (di a) (lo (i * 3 + a) - og a) (hi (i * 3 + a) - og a)) (by simp [crL, c81, c123, c123n]) ?_
            exact J_4
        refine lv_aload_n hx hb dX2_crosses_96 rfl (lv_at hl 3 rfl) ?_
        refine va_get (D := D) (ci := 2) (v := .ref a2) (C := RX2) (T := TX2) (N := 13) hx hb hg iX2 hown hK hP 0 rfl rfl 1 (by decide) (hg _ kw130) (fun _ h9 => h9) rfl dX2_crosses_97 ?_
        refine lv_iload hx hb dX2_crosses_100 (lv_at hl 8 rfl) ?_
        refine va_iald hx hb hK hP 2 0 rfl rfl (vp_in_nI (by omega) (by decide)) dX2_crosses_102 ?_
        refine tp_i (y := di a) (congrArg di (nI_clamp (by omega))) ?_
        refine lv_if_le (tgt := 111) hx hb dX2_crosses_103 (by decide) (fun c103 => ?_) (fun c103 => ?_)
        · have c103n := Int32.not_lt.mpr c103
          refine lv_iload hx hb dX2_crosses_111 (lv_at hl 1 rfl) ?_
          refine lv_ineg hx hb dX2_crosses_113 ?_
          refine tp_i (y := crE (di a) (lo (i * 3 + a) - og a) (hi (i * 3 + a) - og a)) (by simp [crE, c81, c103, c103n]) ?_
          exact J_3
        · have c103n := Int32.not_le.mp c103
          refine lv_iload hx hb dX2_crosses_106 (lv_at hl 2 rfl) ?_
          refine lv_goto (tgt := 114) hx hb dX2_crosses_108 (by decide) ?_
          refine tp_i (y := crE (di a) (lo (i * 3 + a) - og a) (hi (i * 3 + a) - og a)) (by simp [crE, c81, c103, c103n]) ?_
          exact J_3
      · refine lv_iload hx hb dX2_crosses_84 (lv_at hl 2 rfl) ?_
        refine lv_if_ge (tgt := 94) hx hb dX2_crosses_86 (by decide) (fun c86 => ?_) (fun c86 => ?_)
        · have c86n := Int32.not_lt.mpr c86
          refine lv_iconst (v := 0) hx hb dX2_crosses_94 (by decide) ?_
          exact W.zret (v := 0) hx hb hr (by decide) (fun t ht hW => ⟨⟨0, (ax, ab, be), rfl, ⟨by simp [crN, crFin, bI, c81, c86, c86n], by simp [crN, crFin, c81, c86, c86n]⟩, bq_end hP hK hD ht hW⟩, hS.F ht⟩) hS.2.2 dX2_crosses_95
        · have c86n := Int32.not_le.mp c86
          refine lv_iload hx hb dX2_crosses_89 (lv_at hl 1 rfl) ?_
          refine lv_if_gt (tgt := 208) hx hb dX2_crosses_91 (by decide) (fun c91 => ?_) (fun c91 => ?_)
          · have c91n := Int32.not_le.mpr c91
            refine lv_iinc (v := nI (a + 1)) (lv' := [(5, .int (nI (a + 1))), (8, .int (absI (di a))), (7, .int ((hi (i * 3 + a)) - (og a))), (6, .int ((lo (i * 3 + a)) - (og a))), (0, .ref a0), (1, .ref b0), (2, .int (nI i)), (3, .int la), (4, .int lb)]) hx hb dX2_crosses_208 hl (k := 8) rfl (nI_1 _) (by decide) rfl (fun ls hl => ?_)
            refine lv_goto (tgt := 19) hx hb dX2_crosses_211 (by decide) ?_
            rw [show crN lo hi og di i (n + 1) a ax ab be la lb = crN lo hi og di i n (a + 1) ax ab be la lb from by simp [crN, cr2, c81, c86, c86n, c91, c91n]]
            exact ih (a + 1) ax ab be la lb (by omega) H locs ls hP hD hS (lv_sub hl [4, 5, 6, 7, 8, 0] rfl)
          · have c91n := Int32.not_lt.mp c91
            refine lv_iconst (v := 0) hx hb dX2_crosses_94 (by decide) ?_
            exact W.zret (v := 0) hx hb hr (by decide) (fun t ht hW => ⟨⟨0, (ax, ab, be), rfl, ⟨by simp [crN, crFin, bI, c81, c86, c86n, c91, c91n], by simp [crN, crFin, c81, c86, c86n, c91, c91n]⟩, bq_end hP hK hD ht hW⟩, hS.F ht⟩) hS.2.2 dX2_crosses_95
  exact loop_2 3 0 (-1) 0 1 0 0 (by omega) H locs ls hP hD hS (lv_sub hl [3, 4, 5, 2, 1, 0] rfl)
