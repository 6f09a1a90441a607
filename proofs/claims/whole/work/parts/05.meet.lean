/-- Integer.compare -/
def cmpI (x y : Int32) : Int32 := if x < y then -1 else if x = y then 0 else 1

set_option maxHeartbeats 4000000 in
set_option maxRecDepth 100000 in
/-- Integer.compare(x, y) -/
theorem qJI_compare (l : Launch) (D : va_G) (cI cZ cJ : ClassId) (x y : Int32) : Met l yJI_compare (Cond.code yJI_compare cJI_compare 2 (some .int) :: gw) ({ frames := 0, cells := 0, slots := 0, locals := 0 }) (pq D [.int x, .int y] [] [(cI, .int), (cZ, .boolean), (cJ, .long)]) (QcRead (cmpI x y)) 0 0 (fun _ => False) := by
  refine Met.ofW (cc := cJI_compare) (maxL := 2) (ret := (some .int)) (by decide) rfl ?_
  intro p e s m args below meth c s₁ B hml hv
  obtain ⟨rfl, hP, hK, hZ⟩ := hv
  have hx := B.exec
  have hb := B.bytes
  have hr := B.returns
  have hg : ∀ w ∈ gw, w.before _ s = true := fun w h => atoms_spec (ws := Cond.code yJI_compare cJI_compare 2 (some .int) :: gw) B.pre w (List.mem_cons_of_mem _ h)
  have hown : s.vm.findClass RJI = some m.cls := findClass_of_methodNamed B.named
  have hlocks := B.notSynchronized
  have hP : va_P D vwCl [] s.heap := hP
  have hl := lv_entry ([.int x, .int y]) (n := 2) (Nat.le_of_ble_eq_true rfl)
  rw [lg_entry_eq]
  generalize (lg_sl ([.int x, .int y]) ++ List.replicate (2 - (lg_sl ([.int x, .int y])).length) Slot.unset).toArray = ls at hl ⊢
  have hl : lv_has ls 2 [(0, .int x), (1, .int y)] := hl
  refine lv_iload_n hx hb dJI_compare_0 rfl (lv_at hl 0 rfl) ?_
  refine lv_iload_n hx hb dJI_compare_1 rfl (lv_at hl 1 rfl) ?_
  refine lv_icmp_ge (tgt := 9) hx hb dJI_compare_2 (by decide) (fun c2 => ?_) (fun c2 => ?_)
  · have c2n := Int32.not_lt.mpr c2
    refine lv_iload_n hx hb dJI_compare_9 rfl (lv_at hl 0 rfl) ?_
    refine lv_iload_n hx hb dJI_compare_10 rfl (lv_at hl 1 rfl) ?_
    refine lv_icmp_ne (tgt := 18) hx hb dJI_compare_11 (by decide) (fun c11 => ?_) (fun c11 => ?_)
    · refine lv_iconst (v := 1) hx hb dJI_compare_18 (by decide) ?_
      exact W.iret (v := 1) hx hb hr (fun t ht hW => ⟨congrArg (fun z => Outcome.returned (some (Value.int z))) (by unfold cmpI; rw [if_neg (Int32.not_lt.mpr c2), if_neg c11]), ht⟩) (fun q hq => nomatch hq) dJI_compare_19
    · refine lv_iconst (v := 0) hx hb dJI_compare_14 (by decide) ?_
      refine lv_goto (tgt := 19) hx hb dJI_compare_15 (by decide) ?_
      exact W.iret (v := 0) hx hb hr (fun t ht hW => ⟨congrArg (fun z => Outcome.returned (some (Value.int z))) (by unfold cmpI; rw [if_neg (Int32.not_lt.mpr c2), if_pos c11]), ht⟩) (fun q hq => nomatch hq) dJI_compare_19
  · have c2n := Int32.not_le.mp c2
    refine lv_iconst (v := (-1)) hx hb dJI_compare_5 (by decide) ?_
    refine lv_goto (tgt := 19) hx hb dJI_compare_6 (by decide) ?_
    exact W.iret (v := (-1)) hx hb hr (fun t ht hW => ⟨congrArg (fun z => Outcome.returned (some (Value.int z))) (by unfold cmpI; rw [if_pos (Int32.not_le.mp c2)]), ht⟩) (fun q hq => nomatch hq) dJI_compare_19

set_option maxHeartbeats 4000000 in
set_option maxRecDepth 100000 in
/-- Meeting() -/
theorem qX1_init (l : Launch) (D : va_G) (cI cZ cJ : ClassId) (h0 : Nat) (sz : Nat) : Met l yX1_init (Cond.code yX1_init cX1_init 1 none :: gw) ({ frames := 1, cells := 0, slots := 0, locals := 12 }) (wq D [.ref h0] sz [(h0, .inr (1, [.int 0, .int 0, .int 0, .int 0]))] [(cI, .int), (cZ, .boolean), (cJ, .long)]) (va_Qv (S := Unit) (fun _ => True) (fun u => bq D [(cI, .int), (cZ, .boolean), (cJ, .long)] (va_A [(h0, .inr (1, [.int 0, .int 0, .int 0, .int 0]))] sz) ([(h0, .inr (1, [.int 0, .int 0, .int 0, .int 0]))])) (va_A [(h0, .inr (1, [.int 0, .int 0, .int 0, .int 0]))] sz)) 0 0 (va_A [(h0, .inr (1, [.int 0, .int 0, .int 0, .int 0]))] sz) := by
  refine Met.ofW (cc := cX1_init) (maxL := 1) (ret := none) (by decide) rfl ?_
  intro p e s m args below meth c s₁ B hml hv
  obtain ⟨rfl, hsz, hP, hK, hD0, hZ⟩ := hv
  have hx := B.exec
  have hb := B.bytes
  have hr := B.returns
  have hg : ∀ w ∈ gw, w.before _ s = true := fun w h => atoms_spec (ws := Cond.code yX1_init cX1_init 1 none :: gw) B.pre w (List.mem_cons_of_mem _ h)
  have hown : s.vm.findClass RX1 = some m.cls := findClass_of_methodNamed B.named
  have hlocks := B.notSynchronized
  have hin : meth.name = "<init>" := (name_of_methodNamed B.named B.method).1
  subst hsz
  have hD := hD0.self (sz := s.heap.size)
  generalize hAe : va_A [(h0, .inr (1, [.int 0, .int 0, .int 0, .int 0]))] s.heap.size = A at hD ⊢
  have hA : ∀ q : Nat, s.heap.size ≤ q → A q := fun q h => by rw [← hAe]; exact Or.inr h
  have hS : va_S A s.heap s.heap [] := va_S.rf
  have hP : va_P D vwCl [(h0, .inr (1, [.int 0, .int 0, .int 0, .int 0]))] s.heap := hP
  have hl := lv_entry ([.ref h0]) (n := 1) (Nat.le_of_ble_eq_true rfl)
  rw [lg_entry_eq]
  generalize (lg_sl ([.ref h0]) ++ List.replicate (1 - (lg_sl ([.ref h0])).length) Slot.unset).toArray = ls at hl ⊢
  have hl : lv_has ls 1 [(0, .ref h0)] := hl
  refine lv_aload_n hx hb dX1_init_0 rfl (lv_at hl 0 rfl) ?_
  refine W.objInit hx hb hown (hg _ kw111) (hg _ kw55) (hg _ kw56) rfl (by rw [hml]; exact hl.1) rfl dX1_init_1 (Nat.le_of_ble_eq_true rfl) (Nat.le_of_ble_eq_true rfl) ?_
  refine W.eq (g2 := F0 m 4 ls []) rfl ?_
  exact W.vret hx hb hr (fun t ht hW => ⟨⟨(), rfl, trivial, bq_end hP hK hD ht hW⟩, hS.F ht⟩) hS.2.2 dX1_init_4

set_option maxHeartbeats 4000000 in
set_option maxRecDepth 100000 in
/-- Meeting.set -/
theorem qX1_set (l : Launch) (D : va_G) (cI cZ cJ : ClassId) (h0 : Nat) (b a ab be b' a' ab' be' : Int32) (sz : Nat) : Met l yX1_set (Cond.code yX1_set cX1_set 5 none :: gw) ({ frames := 0, cells := 0, slots := 0, locals := 0 }) (wq D [.ref h0, .int b', .int a', .int ab', .int be'] sz [(h0, .inr (1, [.int b, .int a, .int ab, .int be]))] [(cI, .int), (cZ, .boolean), (cJ, .long)]) (va_Qv (S := Unit) (fun _ => True) (fun u => bq D [(cI, .int), (cZ, .boolean), (cJ, .long)] (va_A [(h0, .inr (1, [.int b, .int a, .int ab, .int be]))] sz) ([(h0, .inr (1, [.int b', .int a', .int ab', .int be']))])) (va_A [(h0, .inr (1, [.int b, .int a, .int ab, .int be]))] sz)) 0 0 (va_A [(h0, .inr (1, [.int b, .int a, .int ab, .int be]))] sz) := by
  refine Met.ofW (cc := cX1_set) (maxL := 5) (ret := none) (by decide) rfl ?_
  intro p e s m args below meth c s₁ B hml hv
  obtain ⟨rfl, hsz, hP, hK, hD0, hZ⟩ := hv
  have hx := B.exec
  have hb := B.bytes
  have hr := B.returns
  have hg : ∀ w ∈ gw, w.before _ s = true := fun w h => atoms_spec (ws := Cond.code yX1_set cX1_set 5 none :: gw) B.pre w (List.mem_cons_of_mem _ h)
  have hown : s.vm.findClass RX1 = some m.cls := findClass_of_methodNamed B.named
  have hlocks := B.notSynchronized
  subst hsz
  have hD := hD0.self (sz := s.heap.size)
  generalize hAe : va_A [(h0, .inr (1, [.int b, .int a, .int ab, .int be]))] s.heap.size = A at hD ⊢
  have hA : ∀ q : Nat, s.heap.size ≤ q → A q := fun q h => by rw [← hAe]; exact Or.inr h
  have hS : va_S A s.heap s.heap [] := va_S.rf
  have hP : va_P D vwCl [(h0, .inr (1, [.int b, .int a, .int ab, .int be]))] s.heap := hP
  have hl := lv_entry ([.ref h0, .int b', .int a', .int ab', .int be']) (n := 5) (Nat.le_of_ble_eq_true rfl)
  rw [lg_entry_eq]
  generalize (lg_sl ([.ref h0, .int b', .int a', .int ab', .int be']) ++ List.replicate (5 - (lg_sl ([.ref h0, .int b', .int a', .int ab', .int be'])).length) Slot.unset).toArray = ls at hl ⊢
  have hl : lv_has ls 5 [(0, .ref h0), (1, .int b'), (2, .int a'), (3, .int ab'), (4, .int be')] := hl
  refine lv_aload_n hx hb dX1_set_0 rfl (lv_at hl 0 rfl) ?_
  refine lv_iload_n hx hb dX1_set_1 rfl (lv_at hl 1 rfl) ?_
  refine va_put (D := D) (ci := 1) (v := .int b') (ty := .int) (C := RX1) (T := TX1) (N := 4) hx hb hg iX1 tyX1 tyX1_ok nmX1 hown hK hP hD hS 0 rfl rfl 0 (by decide) (hg _ kw112) (fun _ h9 => h9) rfl (by decide +kernel) rfl rfl (Nat.le_of_ble_eq_true rfl) dX1_set_2 (fun H locs hP hD hS => ?_)
  have hP : va_P D vwCl [(h0, .inr (1, [.int b', .int a, .int ab, .int be]))] H := hP
  have hD : va_D A [(h0, .inr (1, [.int b', .int a, .int ab, .int be]))] := hD
  refine lv_aload_n hx hb dX1_set_5 rfl (lv_at hl 0 rfl) ?_
  refine lv_iload_n hx hb dX1_set_6 rfl (lv_at hl 2 rfl) ?_
  refine va_put (D := D) (ci := 1) (v := .int a') (ty := .int) (C := RX1) (T := TX1) (N := 4) hx hb hg iX1 tyX1 tyX1_ok nmX1 hown hK hP hD hS 0 rfl rfl 1 (by decide) (hg _ kw114) (fun _ h9 => h9) rfl (by decide +kernel) rfl rfl (Nat.le_of_ble_eq_true rfl) dX1_set_7 (fun H locs hP hD hS => ?_)
  have hP : va_P D vwCl [(h0, .inr (1, [.int b', .int a', .int ab, .int be]))] H := hP
  have hD : va_D A [(h0, .inr (1, [.int b', .int a', .int ab, .int be]))] := hD
  refine lv_aload_n hx hb dX1_set_10 rfl (lv_at hl 0 rfl) ?_
  refine lv_iload_n hx hb dX1_set_11 rfl (lv_at hl 3 rfl) ?_
  refine va_put (D := D) (ci := 1) (v := .int ab') (ty := .int) (C := RX1) (T := TX1) (N := 4) hx hb hg iX1 tyX1 tyX1_ok nmX1 hown hK hP hD hS 0 rfl rfl 2 (by decide) (hg _ kw116) (fun _ h9 => h9) rfl (by decide +kernel) rfl rfl (Nat.le_of_ble_eq_true rfl) dX1_set_12 (fun H locs hP hD hS => ?_)
  have hP : va_P D vwCl [(h0, .inr (1, [.int b', .int a', .int ab', .int be]))] H := hP
  have hD : va_D A [(h0, .inr (1, [.int b', .int a', .int ab', .int be]))] := hD
  refine lv_aload_n hx hb dX1_set_15 rfl (lv_at hl 0 rfl) ?_
  refine lv_iload hx hb dX1_set_16 (lv_at hl 4 rfl) ?_
  refine va_put (D := D) (ci := 1) (v := .int be') (ty := .int) (C := RX1) (T := TX1) (N := 4) hx hb hg iX1 tyX1 tyX1_ok nmX1 hown hK hP hD hS 0 rfl rfl 3 (by decide) (hg _ kw118) (fun _ h9 => h9) rfl (by decide +kernel) rfl rfl (Nat.le_of_ble_eq_true rfl) dX1_set_18 (fun H locs hP hD hS => ?_)
  have hP : va_P D vwCl [(h0, .inr (1, [.int b', .int a', .int ab', .int be']))] H := hP
  have hD : va_D A [(h0, .inr (1, [.int b', .int a', .int ab', .int be']))] := hD
  exact W.vret hx hb hr (fun t ht hW => ⟨⟨(), rfl, trivial, bq_end hP hK hD ht hW⟩, hS.F ht⟩) hS.2.2 dX1_set_21

set_option maxHeartbeats 4000000 in
set_option maxRecDepth 100000 in
/-- Meeting.copy -/
theorem qX1_copy (l : Launch) (D : va_G) (cI cZ cJ : ClassId) (h0 h1 : Nat) (b a ab be b1 a1 ab1 be1 : Int32) (sz : Nat) : Met l yX1_copy (Cond.code yX1_copy cX1_copy 2 none :: gw) ({ frames := 1, cells := 0, slots := 0, locals := 24 }) (wq D [.ref h0, .ref h1] sz [(h0, .inr (1, [.int b, .int a, .int ab, .int be])), (h1, .inr (1, [.int b1, .int a1, .int ab1, .int be1]))] [(cI, .int), (cZ, .boolean), (cJ, .long)]) (va_Qv (S := Unit) (fun _ => True) (fun u => bq D [(cI, .int), (cZ, .boolean), (cJ, .long)] (va_A [(h0, .inr (1, [.int b, .int a, .int ab, .int be])), (h1, .inr (1, [.int b1, .int a1, .int ab1, .int be1]))] sz) ([(h0, .inr (1, [.int b1, .int a1, .int ab1, .int be1])), (h1, .inr (1, [.int b1, .int a1, .int ab1, .int be1]))])) (va_A [(h0, .inr (1, [.int b, .int a, .int ab, .int be])), (h1, .inr (1, [.int b1, .int a1, .int ab1, .int be1]))] sz)) 0 0 (va_A [(h0, .inr (1, [.int b, .int a, .int ab, .int be])), (h1, .inr (1, [.int b1, .int a1, .int ab1, .int be1]))] sz) := by
  refine Met.ofW (cc := cX1_copy) (maxL := 2) (ret := none) (by decide) rfl ?_
  intro p e s m args below meth c s₁ B hml hv
  obtain ⟨rfl, hsz, hP, hK, hD0, hZ⟩ := hv
  have hx := B.exec
  have hb := B.bytes
  have hr := B.returns
  have hg : ∀ w ∈ gw, w.before _ s = true := fun w h => atoms_spec (ws := Cond.code yX1_copy cX1_copy 2 none :: gw) B.pre w (List.mem_cons_of_mem _ h)
  have hown : s.vm.findClass RX1 = some m.cls := findClass_of_methodNamed B.named
  have hlocks := B.notSynchronized
  subst hsz
  have hD := hD0.self (sz := s.heap.size)
  generalize hAe : va_A [(h0, .inr (1, [.int b, .int a, .int ab, .int be])), (h1, .inr (1, [.int b1, .int a1, .int ab1, .int be1]))] s.heap.size = A at hD ⊢
  have hA : ∀ q : Nat, s.heap.size ≤ q → A q := fun q h => by rw [← hAe]; exact Or.inr h
  have hS : va_S A s.heap s.heap [] := va_S.rf
  have hP : va_P D vwCl [(h0, .inr (1, [.int b, .int a, .int ab, .int be])), (h1, .inr (1, [.int b1, .int a1, .int ab1, .int be1]))] s.heap := hP
  have hl := lv_entry ([.ref h0, .ref h1]) (n := 2) (Nat.le_of_ble_eq_true rfl)
  rw [lg_entry_eq]
  generalize (lg_sl ([.ref h0, .ref h1]) ++ List.replicate (2 - (lg_sl ([.ref h0, .ref h1])).length) Slot.unset).toArray = ls at hl ⊢
  have hl : lv_has ls 2 [(0, .ref h0), (1, .ref h1)] := hl
  refine lv_aload_n hx hb dX1_copy_0 rfl (lv_at hl 0 rfl) ?_
  refine lv_aload_n hx hb dX1_copy_1 rfl (lv_at hl 1 rfl) ?_
  refine va_get (D := D) (ci := 1) (v := .int b1) (C := RX1) (T := TX1) (N := 4) hx hb hg iX1 hown hK hP 1 rfl rfl 0 (by decide) (hg _ kw112) (fun _ h9 => h9) rfl dX1_copy_2 ?_
  refine lv_aload_n hx hb dX1_copy_5 rfl (lv_at hl 1 rfl) ?_
  refine va_get (D := D) (ci := 1) (v := .int a1) (C := RX1) (T := TX1) (N := 4) hx hb hg iX1 hown hK hP 1 rfl rfl 1 (by decide) (hg _ kw114) (fun _ h9 => h9) rfl dX1_copy_6 ?_
  refine lv_aload_n hx hb dX1_copy_9 rfl (lv_at hl 1 rfl) ?_
  refine va_get (D := D) (ci := 1) (v := .int ab1) (C := RX1) (T := TX1) (N := 4) hx hb hg iX1 hown hK hP 1 rfl rfl 2 (by decide) (hg _ kw116) (fun _ h9 => h9) rfl dX1_copy_10 ?_
  refine lv_aload_n hx hb dX1_copy_13 rfl (lv_at hl 1 rfl) ?_
  refine va_get (D := D) (ci := 1) (v := .int be1) (C := RX1) (T := TX1) (N := 4) hx hb hg iX1 hown hK hP 1 rfl rfl 3 (by decide) (hg _ kw118) (fun _ h9 => h9) rfl dX1_copy_14 ?_
  have hPc := hP.sub (ws' := [(h0, .inr (1, [.int b, .int a, .int ab, .int be]))]) [0] rfl
  have hDc := hD.sub (ws' := [(h0, .inr (1, [.int b, .int a, .int ab, .int be]))]) [0] (by decide) rfl
  have hFc := va_free (wc := [(h0, .inr (1, [.int b, .int a, .int ab, .int be]))]) hD hS hA [0] rfl
  refine va_callv (va_runV (As := [.int b1, .int a1, .int ab1, .int be1]) (rest := []) ⟨hx, hb, hml, hown, hg⟩ (qX1_set l D cI cZ cJ h0 b a ab be b1 a1 ab1 be1 s.heap.size) (cwV 4 hg (gw_V kw402 kw350 kw5 kw40 kw351) rfl rfl rfl (by decide +kernel) ⟨Nat.le_of_ble_eq_true rfl, Nat.le_of_ble_eq_true rfl⟩) (wq_preV hPc hK hDc hZ (va_recv hK hPc (ci := 1) (q0 := 0) rfl rfl)) rfl rfl hl.1 rfl (lv_room (Nat.le_of_ble_eq_true rfl)) dX1_copy_17 ⟨Nat.le_of_ble_eq_true rfl, Nat.le_of_ble_eq_true rfl⟩) hS (fun q _ h => hFc q h) hFc (fun u t H locs ht hvm hw hB hz1 hk1 hS => ?_)
  obtain ⟨hP1, hK1, hD1⟩ := hB
  rw [ht] at hP1
  try dsimp only at hw hP1 hD1
  obtain ⟨hP, hD⟩ := va_join (wr := [(h1, .inr (1, [.int b1, .int a1, .int ab1, .int be1]))]) (w1 := [(h0, .inr (1, [.int b1, .int a1, .int ab1, .int be1]))]) hP hD [0] [1] rfl rfl (by decide) (by decide) hk1 hFc hP1 hD1
  replace hP := hP.sub (ws' := [(h0, .inr (1, [.int b1, .int a1, .int ab1, .int be1])), (h1, .inr (1, [.int b1, .int a1, .int ab1, .int be1]))]) [1, 0] rfl
  replace hD := hD.sub (ws' := [(h0, .inr (1, [.int b1, .int a1, .int ab1, .int be1])), (h1, .inr (1, [.int b1, .int a1, .int ab1, .int be1]))]) [1, 0] (by decide) rfl
  exact W.vret hx hb hr (fun t ht hW => ⟨⟨(), rfl, trivial, bq_end hP hK hD ht hW⟩, hS.F ht⟩) hS.2.2 dX1_copy_20

set_option maxHeartbeats 4000000 in
set_option maxRecDepth 100000 in
/-- Meeting.compareTime -/
theorem qX1_compareTime (l : Launch) (D : va_G) (cI cZ cJ : ClassId) (h0 h1 : Nat) (b a ab be b1 a1 ab1 be1 : Int32) : Met l yX1_compareTime (Cond.code yX1_compareTime cX1_compareTime 2 (some .int) :: gw) ({ frames := 1, cells := 0, slots := 0, locals := 21 }) (pq D [.ref h0, .ref h1] [(h0, .inr (1, [.int b, .int a, .int ab, .int be])), (h1, .inr (1, [.int b1, .int a1, .int ab1, .int be1]))] [(cI, .int), (cZ, .boolean), (cJ, .long)]) (QcRead (cmpI (ab * be1) (ab1 * be))) 0 0 (fun _ => False) := by
  refine Met.ofW (cc := cX1_compareTime) (maxL := 2) (ret := (some .int)) (by decide) rfl ?_
  intro p e s m args below meth c s₁ B hml hv
  obtain ⟨rfl, hP, hK, hZ⟩ := hv
  have hx := B.exec
  have hb := B.bytes
  have hr := B.returns
  have hg : ∀ w ∈ gw, w.before _ s = true := fun w h => atoms_spec (ws := Cond.code yX1_compareTime cX1_compareTime 2 (some .int) :: gw) B.pre w (List.mem_cons_of_mem _ h)
  have hown : s.vm.findClass RX1 = some m.cls := findClass_of_methodNamed B.named
  have hlocks := B.notSynchronized
  have hP : va_P D vwCl [(h0, .inr (1, [.int b, .int a, .int ab, .int be])), (h1, .inr (1, [.int b1, .int a1, .int ab1, .int be1]))] s.heap := hP
  have hl := lv_entry ([.ref h0, .ref h1]) (n := 2) (Nat.le_of_ble_eq_true rfl)
  rw [lg_entry_eq]
  generalize (lg_sl ([.ref h0, .ref h1]) ++ List.replicate (2 - (lg_sl ([.ref h0, .ref h1])).length) Slot.unset).toArray = ls at hl ⊢
  have hl : lv_has ls 2 [(0, .ref h0), (1, .ref h1)] := hl
  refine lv_aload_n hx hb dX1_compareTime_0 rfl (lv_at hl 0 rfl) ?_
  refine va_get (D := D) (ci := 1) (v := .int ab) (C := RX1) (T := TX1) (N := 4) hx hb hg iX1 hown hK hP 0 rfl rfl 2 (by decide) (hg _ kw116) (fun _ h9 => h9) rfl dX1_compareTime_1 ?_
  refine lv_aload_n hx hb dX1_compareTime_4 rfl (lv_at hl 1 rfl) ?_
  refine va_get (D := D) (ci := 1) (v := .int be1) (C := RX1) (T := TX1) (N := 4) hx hb hg iX1 hown hK hP 1 rfl rfl 3 (by decide) (hg _ kw118) (fun _ h9 => h9) rfl dX1_compareTime_5 ?_
  refine lv_imul hx hb dX1_compareTime_8 ?_
  refine lv_aload_n hx hb dX1_compareTime_9 rfl (lv_at hl 1 rfl) ?_
  refine va_get (D := D) (ci := 1) (v := .int ab1) (C := RX1) (T := TX1) (N := 4) hx hb hg iX1 hown hK hP 1 rfl rfl 2 (by decide) (hg _ kw116) (fun _ h9 => h9) rfl dX1_compareTime_10 ?_
  refine lv_aload_n hx hb dX1_compareTime_13 rfl (lv_at hl 0 rfl) ?_
  refine va_get (D := D) (ci := 1) (v := .int be) (C := RX1) (T := TX1) (N := 4) hx hb hg iX1 hown hK hP 0 rfl rfl 3 (by decide) (hg _ kw118) (fun _ h9 => h9) rfl dX1_compareTime_14 ?_
  refine lv_imul hx hb dX1_compareTime_17 ?_
  have hPc := hP.sub (ws' := []) [] rfl
  refine rq_call (va_runS (As := [.int (ab * be1), .int (ab1 * be)]) (rest := []) ⟨hx, hb, hml, hown, hg⟩ (qJI_compare l D cI cZ cJ (ab * be1) (ab1 * be)) (va_cwS 2 hg (gw_S kw387 kw388 kw47 kw389) rfl rfl rfl (by decide +kernel) ⟨Nat.le_of_ble_eq_true rfl, Nat.le_of_ble_eq_true rfl⟩) (pq_pre hPc hK hZ) rfl rfl hl.1 rfl (lv_room (Nat.le_of_ble_eq_true rfl)) dX1_compareTime_18 ⟨Nat.le_of_ble_eq_true rfl, Nat.le_of_ble_eq_true rfl⟩) ?_
  exact W.iret (v := cmpI (ab * be1) (ab1 * be)) hx hb hr (fun t ht hW => ⟨congrArg (fun z => Outcome.returned (some (Value.int z))) (rfl), ht⟩) (fun q hq => nomatch hq) dX1_compareTime_21
