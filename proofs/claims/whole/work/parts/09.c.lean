def cx_R (C : Prop) (r : Int32) : Array Value → State → Outcome → State → Prop := fun _ st o t => C ∧ o = .returned (some (.int r)) ∧ t.heap = st.heap
def cx_RL (C : Prop) (r : Int64) : Array Value → State → Outcome → State → Prop := fun _ st o t => C ∧ o = .returned (some (.long r)) ∧ t.heap = st.heap
theorem vin_of {x : Int32} {n N : Nat} (h : 0 ≤ x ∧ x < nI n) (hn : n ≤ N) (hN : N < 2 ^ 31) : vp_in x N := by
  rw [vp_in_iff]
  have h1 := Int32.le_iff_toInt_le.mp h.1
  have h2 := Int32.lt_iff_toInt_lt.mp h.2
  rw [nI_toInt (by omega)] at h2
  rw [Int32.toInt_zero] at h1
  omega
theorem vin_R {x : Int32} {n N : Nat} (h : inR 0 x (nI n)) (hn : n < N) (hN : N < 2 ^ 31) : vp_in x N := by
  rw [vp_in_iff]
  have h1 := Int32.le_iff_toInt_le.mp h.1
  have h2 := Int32.le_iff_toInt_le.mp h.2
  rw [nI_toInt (by omega)] at h2
  rw [Int32.toInt_zero] at h1
  omega
theorem nar_bI (b : Bool) : vp_nar .boolean (bI b) = bI b := by cases b <;> rfl
theorem nar_01 {v : Int32} (h : v = 0 ∨ v = 1) : narrow .boolean (.int v) = .int v := by rcases h with rfl | rfl <;> rfl
/-- box's arguments are right -/
def bxR (sz0 x0 y0 z0 x1 y1 z1 : Int32) : Prop := ptR sz0 x0 y0 z0 ∧ ptR sz0 x1 y1 z1 ∧ x0 < x1 ∧ y0 < y1 ∧ z0 < z1

set_option maxHeartbeats 4000000 in
set_option maxRecDepth 100000 in
/-- box -/
theorem qX3_box (l : Launch) (hl0 : l.stackTraces = false) (D : va_G) (cI cZ cJ : ClassId) (a0 : Nat) (o0 c2 c3 e0 : Nat) (sz0 fc rw : Int32) (b0 b1 b2 b3 b4 b5 : Nat) (lo hi ki sh of : Nat → Int32) (nb : Nat) (hnb : nb ≤ 20) (x0 y0 z0 x1 y1 z1 : Int32) (sz : Nat) : vx_Met l yX3_box (Cond.code yX3_box cX3_box 7 (some .int) :: gw) ({ frames := 9, cells := 1, slots := 6, locals := 147 }) (uq D [.ref o0, .int x0, .int y0, .int z0, .int x1, .int y1, .int z1] sz [(o0, .inr (3, [.int sz0, .ref b0, .ref c2, .ref c3, .int fc, .ref a0, .int rw, .ref e0])), (b0, .inr (0, [.ref b1, .ref b2, .ref b3, .ref b4, .ref b5, .int (nI nb)])), (b1, .inl (cI, 60, .inl lo)), (b2, .inl (cI, 60, .inl hi)), (b3, .inl (cI, 20, .inl ki)), (b4, .inl (cI, 20, .inl sh)), (b5, .inl (cZ, 20, .inl of))] [(cI, .int), (cZ, .boolean), (cJ, .long)]) (fun z9 st o t => (bxR sz0 x0 y0 z0 x1 y1 z1 ∧ nb < 20) ∧ va_Qi (S := Unit) (fun r _ => r = nI nb) (fun u => bq D [(cI, .int), (cZ, .boolean), (cJ, .long)] (va_A [(o0, .inr (3, [.int sz0, .ref b0, .ref c2, .ref c3, .int fc, .ref a0, .int rw, .ref e0])), (b0, .inr (0, [.ref b1, .ref b2, .ref b3, .ref b4, .ref b5, .int (nI nb)])), (b1, .inl (cI, 60, .inl lo)), (b2, .inl (cI, 60, .inl hi)), (b3, .inl (cI, 20, .inl ki)), (b4, .inl (cI, 20, .inl sh)), (b5, .inl (cZ, 20, .inl of))] sz) ([(o0, .inr (3, [.int sz0, .ref b0, .ref c2, .ref c3, .int fc, .ref a0, .int rw, .ref e0])), (b0, .inr (0, [.ref b1, .ref b2, .ref b3, .ref b4, .ref b5, .int (nI (nb + 1))])), (b1, .inl (cI, 60, .inl (upd (upd (upd lo (nb * 3) x0) (nb * 3 + 1) y0) (nb * 3 + 2) z0))), (b2, .inl (cI, 60, .inl (upd (upd (upd hi (nb * 3) x1) (nb * 3 + 1) y1) (nb * 3 + 2) z1))), (b3, .inl (cI, 20, .inl (upd ki nb 0))), (b4, .inl (cI, 20, .inl (upd sh nb 1000))), (b5, .inl (cZ, 20, .inl (upd of nb 0)))])) (va_A [(o0, .inr (3, [.int sz0, .ref b0, .ref c2, .ref c3, .int fc, .ref a0, .int rw, .ref e0])), (b0, .inr (0, [.ref b1, .ref b2, .ref b3, .ref b4, .ref b5, .int (nI nb)])), (b1, .inl (cI, 60, .inl lo)), (b2, .inl (cI, 60, .inl hi)), (b3, .inl (cI, 20, .inl ki)), (b4, .inl (cI, 20, .inl sh)), (b5, .inl (cZ, 20, .inl of))] sz) z9 st o t) (cy_X (fun E => (¬ bxR sz0 x0 y0 z0 x1 y1 z1 ∧ E = sx_iae) ∨ (bxR sz0 x0 y0 z0 x1 y1 z1 ∧ nb = 20 ∧ E = sx_ise))) 1 6 (va_A [(o0, .inr (3, [.int sz0, .ref b0, .ref c2, .ref c3, .int fc, .ref a0, .int rw, .ref e0])), (b0, .inr (0, [.ref b1, .ref b2, .ref b3, .ref b4, .ref b5, .int (nI nb)])), (b1, .inl (cI, 60, .inl lo)), (b2, .inl (cI, 60, .inl hi)), (b3, .inl (cI, 20, .inl ki)), (b4, .inl (cI, 20, .inl sh)), (b5, .inl (cZ, 20, .inl of))] sz) := by
  refine vx_ofW (cc := cX3_box) (maxL := 7) (ret := (some .int)) (by decide) rfl ?_
  intro p e s m args below meth c s₁ B hml htab hv
  obtain ⟨rfl, hsz, hP, hK, hD0, hZ, hY⟩ := hv
  have hx := B.exec
  have hb := B.bytes
  have hr := B.returns
  have hg : ∀ w ∈ gw, w.before _ s = true := fun w h => atoms_spec (ws := Cond.code yX3_box cX3_box 7 (some .int) :: gw) B.pre w (List.mem_cons_of_mem _ h)
  have hown : s.vm.findClass RX3 = some m.cls := findClass_of_methodNamed B.named
  have hlocks := B.notSynchronized
  subst hsz
  have hD := hD0.self (sz := s.heap.size)
  generalize hAe : va_A [(o0, .inr (3, [.int sz0, .ref b0, .ref c2, .ref c3, .int fc, .ref a0, .int rw, .ref e0])), (b0, .inr (0, [.ref b1, .ref b2, .ref b3, .ref b4, .ref b5, .int (nI nb)])), (b1, .inl (cI, 60, .inl lo)), (b2, .inl (cI, 60, .inl hi)), (b3, .inl (cI, 20, .inl ki)), (b4, .inl (cI, 20, .inl sh)), (b5, .inl (cZ, 20, .inl of))] s.heap.size = A at hD ⊢
  have hA : ∀ q : Nat, s.heap.size ≤ q → A q := fun q h => by rw [← hAe]; exact Or.inr h
  have hS : va_S A s.heap s.heap [] := va_S.rf
  have hP : va_P D vwCl [(o0, .inr (3, [.int sz0, .ref b0, .ref c2, .ref c3, .int fc, .ref a0, .int rw, .ref e0])), (b0, .inr (0, [.ref b1, .ref b2, .ref b3, .ref b4, .ref b5, .int (nI nb)])), (b1, .inl (cI, 60, .inl lo)), (b2, .inl (cI, 60, .inl hi)), (b3, .inl (cI, 20, .inl ki)), (b4, .inl (cI, 20, .inl sh)), (b5, .inl (cZ, 20, .inl of))] s.heap := hP
  have hl := lv_entry ([.ref o0, .int x0, .int y0, .int z0, .int x1, .int y1, .int z1]) (n := 7) (Nat.le_of_ble_eq_true rfl)
  rw [lg_entry_eq]
  generalize (lg_sl ([.ref o0, .int x0, .int y0, .int z0, .int x1, .int y1, .int z1]) ++ List.replicate (7 - (lg_sl ([.ref o0, .int x0, .int y0, .int z0, .int x1, .int y1, .int z1])).length) Slot.unset).toArray = ls at hl ⊢
  have hl : lv_has ls 7 [(0, .ref o0), (1, .int x0), (2, .int y0), (3, .int z0), (4, .int x1), (5, .int y1), (6, .int z1)] := hl
  refine lv_aload_n hx hb dX3_box_0 rfl (lv_at hl 0 rfl) ?_
  refine lv_iload_n hx hb dX3_box_1 rfl (lv_at hl 1 rfl) ?_
  refine lv_iload_n hx hb dX3_box_2 rfl (lv_at hl 2 rfl) ?_
  refine lv_iload_n hx hb dX3_box_3 rfl (lv_at hl 3 rfl) ?_
  have hPc := hP.sub (ws' := [(o0, .inr (3, [.int sz0, .ref b0, .ref c2, .ref c3, .int fc, .ref a0, .int rw, .ref e0]))]) [0] rfl
  refine cx_pass (vx_runV (As := [.int x0, .int y0, .int z0]) (rest := []) ⟨hx, hb, hml, hown, hg⟩ (qX3_demandPoint l hl0 D cI cZ cJ o0 b0 c2 c3 a0 e0 sz0 fc rw x0 y0 z0) (cwV 3 hg (gw_V kw218 kw220 kw0 kw36 kw221) rfl rfl rfl (by decide +kernel) ⟨Nat.le_of_ble_eq_true rfl, Nat.le_of_ble_eq_true rfl⟩) (tq_preV hPc hK hZ hY (va_recv hK hPc (ci := 3) (q0 := 0) rfl rfl)) rfl rfl hl.1 rfl (lv_room (Nat.le_of_ble_eq_true rfl)) dX3_box_4 ⟨Nat.le_of_ble_eq_true rfl, Nat.le_of_ble_eq_true rfl⟩) htab hlocks (Nat.le_of_ble_eq_true rfl) (Nat.le_of_ble_eq_true rfl) (fun E h9 => Or.inl ⟨fun q => h9.1 q.1, h9.2⟩) (fun k_25 => ?_)
  refine lv_aload_n hx hb dX3_box_7 rfl (lv_at hl 0 rfl) ?_
  refine lv_iload hx hb dX3_box_8 (lv_at hl 4 rfl) ?_
  refine lv_iload hx hb dX3_box_10 (lv_at hl 5 rfl) ?_
  refine lv_iload hx hb dX3_box_12 (lv_at hl 6 rfl) ?_
  have hPc := hP.sub (ws' := [(o0, .inr (3, [.int sz0, .ref b0, .ref c2, .ref c3, .int fc, .ref a0, .int rw, .ref e0]))]) [0] rfl
  refine cx_pass (vx_runV (As := [.int x1, .int y1, .int z1]) (rest := []) ⟨hx, hb, hml, hown, hg⟩ (qX3_demandPoint l hl0 D cI cZ cJ o0 b0 c2 c3 a0 e0 sz0 fc rw x1 y1 z1) (cwV 3 hg (gw_V kw218 kw220 kw0 kw36 kw221) rfl rfl rfl (by decide +kernel) ⟨Nat.le_of_ble_eq_true rfl, Nat.le_of_ble_eq_true rfl⟩) (tq_preV hPc hK hZ hY (va_recv hK hPc (ci := 3) (q0 := 0) rfl rfl)) rfl rfl hl.1 rfl (lv_room (Nat.le_of_ble_eq_true rfl)) dX3_box_14 ⟨Nat.le_of_ble_eq_true rfl, Nat.le_of_ble_eq_true rfl⟩) htab hlocks (Nat.le_of_ble_eq_true rfl) (Nat.le_of_ble_eq_true rfl) (fun E h9 => Or.inl ⟨fun q => h9.1 q.2.1, h9.2⟩) (fun k_26 => ?_)
  have J_27 : W p l e (headSpec (Cond.code yX3_box cX3_box 7 (some .int) :: gw) ({ frames := 9, cells := 1, slots := 6, locals := 147 })).room s m ([.ref o0, .int x0, .int y0, .int z0, .int x1, .int y1, .int z1] : List Value).toArray below meth c s.heap [] 0 0 (vx_MQ below (fun z9 st o t => (bxR sz0 x0 y0 z0 x1 y1 z1 ∧ nb < 20) ∧ va_Qi (S := Unit) (fun r _ => r = nI nb) (fun u => bq D [(cI, .int), (cZ, .boolean), (cJ, .long)] A ([(o0, .inr (3, [.int sz0, .ref b0, .ref c2, .ref c3, .int fc, .ref a0, .int rw, .ref e0])), (b0, .inr (0, [.ref b1, .ref b2, .ref b3, .ref b4, .ref b5, .int (nI (nb + 1))])), (b1, .inl (cI, 60, .inl (upd (upd (upd lo (nb * 3) x0) (nb * 3 + 1) y0) (nb * 3 + 2) z0))), (b2, .inl (cI, 60, .inl (upd (upd (upd hi (nb * 3) x1) (nb * 3 + 1) y1) (nb * 3 + 2) z1))), (b3, .inl (cI, 20, .inl (upd ki nb 0))), (b4, .inl (cI, 20, .inl (upd sh nb 1000))), (b5, .inl (cZ, 20, .inl (upd of nb 0)))])) A z9 st o t) (cy_X (fun E => (¬ bxR sz0 x0 y0 z0 x1 y1 z1 ∧ E = sx_iae) ∨ (bxR sz0 x0 y0 z0 x1 y1 z1 ∧ nb = 20 ∧ E = sx_ise))) ([.ref o0, .int x0, .int y0, .int z0, .int x1, .int y1, .int z1] : List Value).toArray s 1 6 A) (F0 m 40 ls [.int (bI (decide (x0 < x1) && (decide (y0 < y1) && decide (z0 < z1))))]) := by
    have hPc := hP.sub (ws' := []) [] rfl
    refine cx_pass (vx_runS (As := [.int (bI (decide (x0 < x1) && (decide (y0 < y1) && decide (z0 < z1))))]) (rest := []) ⟨hx, hb, hml, hown, hg⟩ (qX3_demand l hl0 D cI cZ cJ (bI (decide (x0 < x1) && (decide (y0 < y1) && decide (z0 < z1))))) (va_cwS 1 hg (gw_S kw225 kw226 kw36 kw227) rfl rfl rfl (by decide +kernel) ⟨Nat.le_of_ble_eq_true rfl, Nat.le_of_ble_eq_true rfl⟩) (tq_pre hPc hK hZ hY) rfl rfl hl.1 rfl (lv_room (Nat.le_of_ble_eq_true rfl)) dX3_box_40 ⟨Nat.le_of_ble_eq_true rfl, Nat.le_of_ble_eq_true rfl⟩) htab hlocks (Nat.le_of_ble_eq_true rfl) (Nat.le_of_ble_eq_true rfl) (fun E h9 => Or.inl ⟨fun q => absurd (show (decide (x0 < x1) && (decide (y0 < y1) && decide (z0 < z1))) = true by simp [q.2.2.1, q.2.2.2.1, q.2.2.2.2]) (by rw [bI_f h9.1]; decide), h9.2⟩) (fun k_28 => ?_)
    replace k_28 := bI_t k_28
    refine lv_aload_n hx hb dX3_box_43 rfl (lv_at hl 0 rfl) ?_
    refine va_get (D := D) (ci := 3) (v := .ref b0) (C := RX3) (T := TX3) (N := 8) hx hb hg iX3 hown hK hP 0 rfl rfl 1 (by decide) (hg _ kw178) (fun _ h9 => h9) rfl dX3_box_44 ?_
    refine va_getN (D := D) (ci := 0) (v := .int (nI nb)) (C := RX0) (T := TX0) (N := 6) hx hb hg iX0 hown hK hP 1 rfl rfl 5 (by decide) (va_Nw.use rfl (nzF_8 hZ)) (fun _ h9 => h9) rfl dX3_box_47 ?_
    refine lv_bipush (v := 20) hx hb dX3_box_50 (by decide) ?_
    refine lv_icmp_lt (tgt := 65) hx hb dX3_box_52 (by decide) (fun c52 => ?_) (fun c52 => ?_)
    · have c52n := Int32.not_le.mpr c52
      have hn2 : nb < 20 := (nI_ltI (a := nb) (b := 20) (by omega) (by decide)).mp c52
      have hk3 : x0 < x1 ∧ y0 < y1 ∧ z0 < z1 := by have q := k_28; simpa using q
      refine lv_aload_n hx hb dX3_box_65 rfl (lv_at hl 0 rfl) ?_
      refine va_get (D := D) (ci := 3) (v := .ref b0) (C := RX3) (T := TX3) (N := 8) hx hb hg iX3 hown hK hP 0 rfl rfl 1 (by decide) (hg _ kw178) (fun _ h9 => h9) rfl dX3_box_66 ?_
      refine lv_iload_n hx hb dX3_box_69 rfl (lv_at hl 1 rfl) ?_
      refine lv_iload_n hx hb dX3_box_70 rfl (lv_at hl 2 rfl) ?_
      refine lv_iload_n hx hb dX3_box_71 rfl (lv_at hl 3 rfl) ?_
      refine lv_iload hx hb dX3_box_72 (lv_at hl 4 rfl) ?_
      refine lv_iload hx hb dX3_box_74 (lv_at hl 5 rfl) ?_
      refine lv_iload hx hb dX3_box_76 (lv_at hl 6 rfl) ?_
      have hPc := hP.sub (ws' := [(b0, .inr (0, [.ref b1, .ref b2, .ref b3, .ref b4, .ref b5, .int (nI nb)])), (b1, .inl (cI, 60, .inl lo)), (b2, .inl (cI, 60, .inl hi)), (b3, .inl (cI, 20, .inl ki)), (b4, .inl (cI, 20, .inl sh)), (b5, .inl (cZ, 20, .inl of))]) [1, 2, 3, 4, 5, 6] rfl
      have hDc := hD.sub (ws' := [(b0, .inr (0, [.ref b1, .ref b2, .ref b3, .ref b4, .ref b5, .int (nI nb)])), (b1, .inl (cI, 60, .inl lo)), (b2, .inl (cI, 60, .inl hi)), (b3, .inl (cI, 20, .inl ki)), (b4, .inl (cI, 20, .inl sh)), (b5, .inl (cZ, 20, .inl of))]) [1, 2, 3, 4, 5, 6] (by decide) rfl
      have hFc := va_free (wc := [(b0, .inr (0, [.ref b1, .ref b2, .ref b3, .ref b4, .ref b5, .int (nI nb)])), (b1, .inl (cI, 60, .inl lo)), (b2, .inl (cI, 60, .inl hi)), (b3, .inl (cI, 20, .inl ki)), (b4, .inl (cI, 20, .inl sh)), (b5, .inl (cZ, 20, .inl of))]) hD hS hA [1, 2, 3, 4, 5, 6] rfl
      refine va_calli (va_runVN (As := [.int x0, .int y0, .int z0, .int x1, .int y1, .int z1]) (rest := []) ⟨hx, hb, hml, hown, hg⟩ (qX0_add l D cI cZ cJ b0 b1 b2 b3 b4 b5 lo hi ki sh of nb x0 y0 z0 x1 y1 z1 hn2 s.heap.size) ⟨va_cnB 6 hg (gw_in kw314) rfl rfl rfl (nzM_3 hZ) (hg _ kw38) (by decide +kernel) ⟨Nat.le_of_ble_eq_true rfl, Nat.le_of_ble_eq_true rfl⟩, hg _ kw313, hg _ kw2⟩ (wq_preV hPc hK hDc hZ (va_recv hK hPc (ci := 0) (q0 := 0) rfl rfl)) rfl rfl hl.1 rfl (lv_room (Nat.le_of_ble_eq_true rfl)) dX3_box_78 ⟨Nat.le_of_ble_eq_true rfl, Nat.le_of_ble_eq_true rfl⟩) hS (fun q _ h => hFc q h) hFc (fun r_29 u t H locs ht hvm hw hB hz1 hk1 hS => ?_)
      obtain ⟨hP1, hK1, hD1⟩ := hB
      rw [ht] at hP1
      try dsimp only at hw hP1 hD1
      obtain ⟨hP, hD⟩ := va_join (wr := [(o0, .inr (3, [.int sz0, .ref b0, .ref c2, .ref c3, .int fc, .ref a0, .int rw, .ref e0]))]) (w1 := [(b0, .inr (0, [.ref b1, .ref b2, .ref b3, .ref b4, .ref b5, .int (nI (nb + 1))])), (b1, .inl (cI, 60, .inl (upd (upd (upd lo (nb * 3) x0) (nb * 3 + 1) y0) (nb * 3 + 2) z0))), (b2, .inl (cI, 60, .inl (upd (upd (upd hi (nb * 3) x1) (nb * 3 + 1) y1) (nb * 3 + 2) z1))), (b3, .inl (cI, 20, .inl (upd ki nb 0))), (b4, .inl (cI, 20, .inl (upd sh nb 1000))), (b5, .inl (cZ, 20, .inl (upd of nb 0)))]) hP hD [1, 2, 3, 4, 5, 6] [0] rfl rfl (by decide) (by decide) hk1 hFc hP1 hD1
      replace hP := hP.sub (ws' := [(o0, .inr (3, [.int sz0, .ref b0, .ref c2, .ref c3, .int fc, .ref a0, .int rw, .ref e0])), (b0, .inr (0, [.ref b1, .ref b2, .ref b3, .ref b4, .ref b5, .int (nI (nb + 1))])), (b1, .inl (cI, 60, .inl (upd (upd (upd lo (nb * 3) x0) (nb * 3 + 1) y0) (nb * 3 + 2) z0))), (b2, .inl (cI, 60, .inl (upd (upd (upd hi (nb * 3) x1) (nb * 3 + 1) y1) (nb * 3 + 2) z1))), (b3, .inl (cI, 20, .inl (upd ki nb 0))), (b4, .inl (cI, 20, .inl (upd sh nb 1000))), (b5, .inl (cZ, 20, .inl (upd of nb 0)))]) [0, 1, 2, 3, 4, 5, 6] rfl
      replace hD := hD.sub (ws' := [(o0, .inr (3, [.int sz0, .ref b0, .ref c2, .ref c3, .int fc, .ref a0, .int rw, .ref e0])), (b0, .inr (0, [.ref b1, .ref b2, .ref b3, .ref b4, .ref b5, .int (nI (nb + 1))])), (b1, .inl (cI, 60, .inl (upd (upd (upd lo (nb * 3) x0) (nb * 3 + 1) y0) (nb * 3 + 2) z0))), (b2, .inl (cI, 60, .inl (upd (upd (upd hi (nb * 3) x1) (nb * 3 + 1) y1) (nb * 3 + 2) z1))), (b3, .inl (cI, 20, .inl (upd ki nb 0))), (b4, .inl (cI, 20, .inl (upd sh nb 1000))), (b5, .inl (cZ, 20, .inl (upd of nb 0)))]) [0, 1, 2, 3, 4, 5, 6] (by decide) rfl
      refine vx_ret ?_
      refine W.widen (k := 1) (n := 6) (Nat.le_of_ble_eq_true rfl) (Nat.le_of_ble_eq_true rfl) ?_
      exact W.iret (v := r_29) hx hb hr (fun t ht hW => ⟨⟨⟨k_25, k_26, hk3⟩, hn2⟩, ⟨⟨r_29, (), rfl, hw, bq_end hP hK hD ht hW⟩, hS.F ht⟩⟩) hS.2.2 dX3_box_81
    · have c52n := Int32.not_lt.mp c52
      have hk3 : x0 < x1 ∧ y0 < y1 ∧ z0 < z1 := by have q := k_28; simpa using q
      exact th_ise hx hb hl0 hg hZ hY hZ.2.2.2.2.2.1 hown (hl.1.trans hml.symm) htab hlocks dX3_box_55 dX3_box_58 dX3_box_59 dX3_box_61 dX3_box_64 (Nat.le_of_ble_eq_true rfl) (Nat.le_of_ble_eq_true rfl) (Nat.le_of_ble_eq_true rfl) (Nat.le_of_ble_eq_true rfl) (Nat.le_of_ble_eq_true rfl) (Nat.le_of_ble_eq_true rfl) (Or.inr ⟨⟨k_25, k_26, hk3⟩, by rcases Nat.lt_or_ge nb 20 with h | h; exact absurd ((nI_ltI (a := nb) (b := 20) (by omega) (by decide)).mpr h) c52; omega, rfl⟩)
  refine lv_iload_n hx hb dX3_box_17 rfl (lv_at hl 1 rfl) ?_
  refine lv_iload hx hb dX3_box_18 (lv_at hl 4 rfl) ?_
  refine lv_icmp_ge (tgt := 39) hx hb dX3_box_20 (by decide) (fun c20 => ?_) (fun c20 => ?_)
  · have c20n := Int32.not_lt.mpr c20
    refine lv_iconst (v := 0) hx hb dX3_box_39 (by decide) ?_
    refine tp_i (y := bI (decide (x0 < x1) && (decide (y0 < y1) && decide (z0 < z1)))) (by simp [bI, c20, c20n]) ?_
    exact J_27
  · have c20n := Int32.not_le.mp c20
    refine lv_iload_n hx hb dX3_box_23 rfl (lv_at hl 2 rfl) ?_
    refine lv_iload hx hb dX3_box_24 (lv_at hl 5 rfl) ?_
    refine lv_icmp_ge (tgt := 39) hx hb dX3_box_26 (by decide) (fun c26 => ?_) (fun c26 => ?_)
    · have c26n := Int32.not_lt.mpr c26
      refine lv_iconst (v := 0) hx hb dX3_box_39 (by decide) ?_
      refine tp_i (y := bI (decide (x0 < x1) && (decide (y0 < y1) && decide (z0 < z1)))) (by simp [bI, c20, c20n, c26, c26n]) ?_
      exact J_27
    · have c26n := Int32.not_le.mp c26
      refine lv_iload_n hx hb dX3_box_29 rfl (lv_at hl 3 rfl) ?_
      refine lv_iload hx hb dX3_box_30 (lv_at hl 6 rfl) ?_
      refine lv_icmp_ge (tgt := 39) hx hb dX3_box_32 (by decide) (fun c32 => ?_) (fun c32 => ?_)
      · have c32n := Int32.not_lt.mpr c32
        refine lv_iconst (v := 0) hx hb dX3_box_39 (by decide) ?_
        refine tp_i (y := bI (decide (x0 < x1) && (decide (y0 < y1) && decide (z0 < z1)))) (by simp [bI, c20, c20n, c26, c26n, c32, c32n]) ?_
        exact J_27
      · have c32n := Int32.not_le.mp c32
        refine lv_iconst (v := 1) hx hb dX3_box_35 (by decide) ?_
        refine lv_goto (tgt := 40) hx hb dX3_box_36 (by decide) ?_
        refine tp_i (y := bI (decide (x0 < x1) && (decide (y0 < y1) && decide (z0 < z1)))) (by simp [bI, c20, c20n, c26, c26n, c32, c32n]) ?_
        exact J_27

set_option maxHeartbeats 4000000 in
set_option maxRecDepth 100000 in
/-- kind -/
theorem qX3_kind (l : Launch) (hl0 : l.stackTraces = false) (D : va_G) (cI cZ cJ : ClassId) (a0 : Nat) (o0 c2 c3 e0 : Nat) (sz0 fc rw : Int32) (b0 b1 b2 b3 b4 b5 : Nat) (ki sh : Nat → Int32) (nb : Nat) (hnb : nb ≤ 20) (x kd sr : Int32) (sz : Nat) : vx_Met l yX3_kind (Cond.code yX3_kind cX3_kind 5 (some .int) :: gw) ({ frames := 8, cells := 1, slots := 6, locals := 124 }) (uq D [.ref o0, .int x, .int kd, .int sr] sz [(o0, .inr (3, [.int sz0, .ref b0, .ref c2, .ref c3, .int fc, .ref a0, .int rw, .ref e0])), (b0, .inr (0, [.ref b1, .ref b2, .ref b3, .ref b4, .ref b5, .int (nI nb)])), (b3, .inl (cI, 20, .inl ki)), (b4, .inl (cI, 20, .inl sh))] [(cI, .int), (cZ, .boolean), (cJ, .long)]) (fun z9 st o t => ((0 ≤ x ∧ x < nI nb) ∧ inR 0 kd 2 ∧ inR 0 sr 1000) ∧ va_Qi (S := Unit) (fun r _ => r = ki x.toNatClampNeg) (fun u => bq D [(cI, .int), (cZ, .boolean), (cJ, .long)] (va_A [(o0, .inr (3, [.int sz0, .ref b0, .ref c2, .ref c3, .int fc, .ref a0, .int rw, .ref e0])), (b0, .inr (0, [.ref b1, .ref b2, .ref b3, .ref b4, .ref b5, .int (nI nb)])), (b3, .inl (cI, 20, .inl ki)), (b4, .inl (cI, 20, .inl sh))] sz) ([(o0, .inr (3, [.int sz0, .ref b0, .ref c2, .ref c3, .int fc, .ref a0, .int rw, .ref e0])), (b0, .inr (0, [.ref b1, .ref b2, .ref b3, .ref b4, .ref b5, .int (nI nb)])), (b3, .inl (cI, 20, .inl (upd ki x.toNatClampNeg kd))), (b4, .inl (cI, 20, .inl (upd sh x.toNatClampNeg sr)))])) (va_A [(o0, .inr (3, [.int sz0, .ref b0, .ref c2, .ref c3, .int fc, .ref a0, .int rw, .ref e0])), (b0, .inr (0, [.ref b1, .ref b2, .ref b3, .ref b4, .ref b5, .int (nI nb)])), (b3, .inl (cI, 20, .inl ki)), (b4, .inl (cI, 20, .inl sh))] sz) z9 st o t) (cy_X (fun E => ¬ ((0 ≤ x ∧ x < nI nb) ∧ inR 0 kd 2 ∧ inR 0 sr 1000) ∧ E = sx_iae)) 1 6 (va_A [(o0, .inr (3, [.int sz0, .ref b0, .ref c2, .ref c3, .int fc, .ref a0, .int rw, .ref e0])), (b0, .inr (0, [.ref b1, .ref b2, .ref b3, .ref b4, .ref b5, .int (nI nb)])), (b3, .inl (cI, 20, .inl ki)), (b4, .inl (cI, 20, .inl sh))] sz) := by
  refine vx_ofW (cc := cX3_kind) (maxL := 5) (ret := (some .int)) (by decide) rfl ?_
  intro p e s m args below meth c s₁ B hml htab hv
  obtain ⟨rfl, hsz, hP, hK, hD0, hZ, hY⟩ := hv
  have hx := B.exec
  have hb := B.bytes
  have hr := B.returns
  have hg : ∀ w ∈ gw, w.before _ s = true := fun w h => atoms_spec (ws := Cond.code yX3_kind cX3_kind 5 (some .int) :: gw) B.pre w (List.mem_cons_of_mem _ h)
  have hown : s.vm.findClass RX3 = some m.cls := findClass_of_methodNamed B.named
  have hlocks := B.notSynchronized
  subst hsz
  have hD := hD0.self (sz := s.heap.size)
  generalize hAe : va_A [(o0, .inr (3, [.int sz0, .ref b0, .ref c2, .ref c3, .int fc, .ref a0, .int rw, .ref e0])), (b0, .inr (0, [.ref b1, .ref b2, .ref b3, .ref b4, .ref b5, .int (nI nb)])), (b3, .inl (cI, 20, .inl ki)), (b4, .inl (cI, 20, .inl sh))] s.heap.size = A at hD ⊢
  have hA : ∀ q : Nat, s.heap.size ≤ q → A q := fun q h => by rw [← hAe]; exact Or.inr h
  have hS : va_S A s.heap s.heap [] := va_S.rf
  have hP : va_P D vwCl [(o0, .inr (3, [.int sz0, .ref b0, .ref c2, .ref c3, .int fc, .ref a0, .int rw, .ref e0])), (b0, .inr (0, [.ref b1, .ref b2, .ref b3, .ref b4, .ref b5, .int (nI nb)])), (b3, .inl (cI, 20, .inl ki)), (b4, .inl (cI, 20, .inl sh))] s.heap := hP
  have hl := lv_entry ([.ref o0, .int x, .int kd, .int sr]) (n := 5) (Nat.le_of_ble_eq_true rfl)
  rw [lg_entry_eq]
  generalize (lg_sl ([.ref o0, .int x, .int kd, .int sr]) ++ List.replicate (5 - (lg_sl ([.ref o0, .int x, .int kd, .int sr])).length) Slot.unset).toArray = ls at hl ⊢
  have hl : lv_has ls 5 [(0, .ref o0), (1, .int x), (2, .int kd), (3, .int sr)] := hl
  refine lv_aload_n hx hb dX3_kind_0 rfl (lv_at hl 0 rfl) ?_
  refine lv_iload_n hx hb dX3_kind_1 rfl (lv_at hl 1 rfl) ?_
  have hPc := hP.sub (ws' := [(o0, .inr (3, [.int sz0, .ref b0, .ref c2, .ref c3, .int fc, .ref a0, .int rw, .ref e0])), (b0, .inr (0, [.ref b1, .ref b2, .ref b3, .ref b4, .ref b5, .int (nI nb)]))]) [0, 1] rfl
  refine cx_pass (vx_runV (As := [.int x]) (rest := []) ⟨hx, hb, hml, hown, hg⟩ (qX3_demandBox l hl0 D cI cZ cJ o0 b0 c2 c3 a0 e0 sz0 fc rw b1 b2 b3 b4 b5 (nI nb) x) (cwV 1 hg (gw_V kw322 kw324 kw3 kw36 kw325) rfl rfl rfl (by decide +kernel) ⟨Nat.le_of_ble_eq_true rfl, Nat.le_of_ble_eq_true rfl⟩) (tq_preV hPc hK hZ hY (va_recv hK hPc (ci := 3) (q0 := 0) rfl rfl)) rfl rfl hl.1 rfl (lv_room (Nat.le_of_ble_eq_true rfl)) dX3_kind_2 ⟨Nat.le_of_ble_eq_true rfl, Nat.le_of_ble_eq_true rfl⟩) htab hlocks (Nat.le_of_ble_eq_true rfl) (Nat.le_of_ble_eq_true rfl) (fun E h9 => ⟨fun q => h9.1 q.1, h9.2⟩) (fun k_30 => ?_)
  refine lv_iload_n hx hb dX3_kind_5 rfl (lv_at hl 2 rfl) ?_
  refine lv_iconst (v := 0) hx hb dX3_kind_6 (by decide) ?_
  refine lv_iconst (v := 2) hx hb dX3_kind_7 (by decide) ?_
  have hPc := hP.sub (ws' := []) [] rfl
  refine cx_pass (vx_runS (As := [.int kd, .int 0, .int 2]) (rest := []) ⟨hx, hb, hml, hown, hg⟩ (qX3_demandWithin l hl0 D cI cZ cJ kd 0 2) (va_cwS 3 hg (gw_S kw222 kw223 kw36 kw224) rfl rfl rfl (by decide +kernel) ⟨Nat.le_of_ble_eq_true rfl, Nat.le_of_ble_eq_true rfl⟩) (tq_pre hPc hK hZ hY) rfl rfl hl.1 rfl (lv_room (Nat.le_of_ble_eq_true rfl)) dX3_kind_8 ⟨Nat.le_of_ble_eq_true rfl, Nat.le_of_ble_eq_true rfl⟩) htab hlocks (Nat.le_of_ble_eq_true rfl) (Nat.le_of_ble_eq_true rfl) (fun E h9 => ⟨fun q => h9.1 q.2.1, h9.2⟩) (fun k_31 => ?_)
  refine lv_iload_n hx hb dX3_kind_11 rfl (lv_at hl 3 rfl) ?_
  refine lv_iconst (v := 0) hx hb dX3_kind_12 (by decide) ?_
  refine lv_sipush (v := 1000) hx hb dX3_kind_13 (by decide) ?_
  have hPc := hP.sub (ws' := []) [] rfl
  refine cx_pass (vx_runS (As := [.int sr, .int 0, .int 1000]) (rest := []) ⟨hx, hb, hml, hown, hg⟩ (qX3_demandWithin l hl0 D cI cZ cJ sr 0 1000) (va_cwS 3 hg (gw_S kw222 kw223 kw36 kw224) rfl rfl rfl (by decide +kernel) ⟨Nat.le_of_ble_eq_true rfl, Nat.le_of_ble_eq_true rfl⟩) (tq_pre hPc hK hZ hY) rfl rfl hl.1 rfl (lv_room (Nat.le_of_ble_eq_true rfl)) dX3_kind_16 ⟨Nat.le_of_ble_eq_true rfl, Nat.le_of_ble_eq_true rfl⟩) htab hlocks (Nat.le_of_ble_eq_true rfl) (Nat.le_of_ble_eq_true rfl) (fun E h9 => ⟨fun q => h9.1 q.2.2, h9.2⟩) (fun k_32 => ?_)
  refine lv_aload_n hx hb dX3_kind_19 rfl (lv_at hl 0 rfl) ?_
  refine va_get (D := D) (ci := 3) (v := .ref b0) (C := RX3) (T := TX3) (N := 8) hx hb hg iX3 hown hK hP 0 rfl rfl 1 (by decide) (hg _ kw178) (fun _ h9 => h9) rfl dX3_kind_20 ?_
  refine va_getN (D := D) (ci := 0) (v := .ref b3) (C := RX0) (T := TX0) (N := 6) hx hb hg iX0 hown hK hP 1 rfl rfl 2 (by decide) (va_Nw.use rfl (nzF_2 hZ)) (fun _ h9 => h9) rfl dX3_kind_23 ?_
  refine lv_iload_n hx hb dX3_kind_26 rfl (lv_at hl 1 rfl) ?_
  refine va_iald hx hb hK hP 2 0 rfl rfl (vin_of k_30 hnb (by decide)) dX3_kind_27 ?_
  refine lv_istore (lv' := [(4, .int (ki x.toNatClampNeg)), (0, .ref o0), (1, .int x), (2, .int kd), (3, .int sr)]) hx hb dX3_kind_28 hl (by decide) rfl (fun ls hl => ?_)
  refine lv_aload_n hx hb dX3_kind_30 rfl (lv_at hl 1 rfl) ?_
  refine va_get (D := D) (ci := 3) (v := .ref b0) (C := RX3) (T := TX3) (N := 8) hx hb hg iX3 hown hK hP 0 rfl rfl 1 (by decide) (hg _ kw178) (fun _ h9 => h9) rfl dX3_kind_31 ?_
  refine va_getN (D := D) (ci := 0) (v := .ref b3) (C := RX0) (T := TX0) (N := 6) hx hb hg iX0 hown hK hP 1 rfl rfl 2 (by decide) (va_Nw.use rfl (nzF_2 hZ)) (fun _ h9 => h9) rfl dX3_kind_34 ?_
  refine lv_iload_n hx hb dX3_kind_37 rfl (lv_at hl 2 rfl) ?_
  refine lv_iload_n hx hb dX3_kind_38 rfl (lv_at hl 3 rfl) ?_
  refine va_iast hx hb hK hP hD hS 2 0 rfl rfl (vin_of k_30 hnb (by decide)) dX3_kind_39 (fun H locs hP hD hS => ?_)
  have hP : va_P D vwCl [(o0, .inr (3, [.int sz0, .ref b0, .ref c2, .ref c3, .int fc, .ref a0, .int rw, .ref e0])), (b0, .inr (0, [.ref b1, .ref b2, .ref b3, .ref b4, .ref b5, .int (nI nb)])), (b3, .inl (cI, 20, .inl (upd ki x.toNatClampNeg kd))), (b4, .inl (cI, 20, .inl sh))] H := hP
  have hD : va_D A [(o0, .inr (3, [.int sz0, .ref b0, .ref c2, .ref c3, .int fc, .ref a0, .int rw, .ref e0])), (b0, .inr (0, [.ref b1, .ref b2, .ref b3, .ref b4, .ref b5, .int (nI nb)])), (b3, .inl (cI, 20, .inl (upd ki x.toNatClampNeg kd))), (b4, .inl (cI, 20, .inl sh))] := hD
  refine lv_aload_n hx hb dX3_kind_40 rfl (lv_at hl 1 rfl) ?_
  refine va_get (D := D) (ci := 3) (v := .ref b0) (C := RX3) (T := TX3) (N := 8) hx hb hg iX3 hown hK hP 0 rfl rfl 1 (by decide) (hg _ kw178) (fun _ h9 => h9) rfl dX3_kind_41 ?_
  refine va_getN (D := D) (ci := 0) (v := .ref b4) (C := RX0) (T := TX0) (N := 6) hx hb hg iX0 hown hK hP 1 rfl rfl 3 (by decide) (va_Nw.use rfl (nzF_4 hZ)) (fun _ h9 => h9) rfl dX3_kind_44 ?_
  refine lv_iload_n hx hb dX3_kind_47 rfl (lv_at hl 2 rfl) ?_
  refine lv_iload_n hx hb dX3_kind_48 rfl (lv_at hl 4 rfl) ?_
  refine va_iast hx hb hK hP hD hS 3 0 rfl rfl (vin_of k_30 hnb (by decide)) dX3_kind_49 (fun H locs hP hD hS => ?_)
  have hP : va_P D vwCl [(o0, .inr (3, [.int sz0, .ref b0, .ref c2, .ref c3, .int fc, .ref a0, .int rw, .ref e0])), (b0, .inr (0, [.ref b1, .ref b2, .ref b3, .ref b4, .ref b5, .int (nI nb)])), (b3, .inl (cI, 20, .inl (upd ki x.toNatClampNeg kd))), (b4, .inl (cI, 20, .inl (upd sh x.toNatClampNeg sr)))] H := hP
  have hD : va_D A [(o0, .inr (3, [.int sz0, .ref b0, .ref c2, .ref c3, .int fc, .ref a0, .int rw, .ref e0])), (b0, .inr (0, [.ref b1, .ref b2, .ref b3, .ref b4, .ref b5, .int (nI nb)])), (b3, .inl (cI, 20, .inl (upd ki x.toNatClampNeg kd))), (b4, .inl (cI, 20, .inl (upd sh x.toNatClampNeg sr)))] := hD
  refine lv_iload hx hb dX3_kind_50 (lv_at hl 0 rfl) ?_
  refine vx_ret ?_
  refine W.widen (k := 1) (n := 6) (Nat.le_of_ble_eq_true rfl) (Nat.le_of_ble_eq_true rfl) ?_
  exact W.iret (v := ki x.toNatClampNeg) hx hb hr (fun t ht hW => ⟨⟨k_30, k_31, k_32⟩, ⟨⟨ki x.toNatClampNeg, (), rfl, rfl, bq_end hP hK hD ht hW⟩, hS.F ht⟩⟩) hS.2.2 dX3_kind_52

set_option maxHeartbeats 4000000 in
set_option maxRecDepth 100000 in
/-- off -/
theorem qX3_off (l : Launch) (hl0 : l.stackTraces = false) (D : va_G) (cI cZ cJ : ClassId) (a0 : Nat) (o0 c2 c3 e0 : Nat) (sz0 fc rw : Int32) (b0 b1 b2 b3 b4 b5 : Nat) (of : Nat → Int32) (hof : ∀ j, of j = 0 ∨ of j = 1) (nb : Nat) (hnb : nb ≤ 20) (x : Int32) (bv : Bool) (sz : Nat) : vx_Met l yX3_off (Cond.code yX3_off cX3_off 4 (some .boolean) :: gw) ({ frames := 8, cells := 1, slots := 6, locals := 123 }) (uq D [.ref o0, .int x, .int (bI bv)] sz [(o0, .inr (3, [.int sz0, .ref b0, .ref c2, .ref c3, .int fc, .ref a0, .int rw, .ref e0])), (b0, .inr (0, [.ref b1, .ref b2, .ref b3, .ref b4, .ref b5, .int (nI nb)])), (b5, .inl (cZ, 20, .inl of))] [(cI, .int), (cZ, .boolean), (cJ, .long)]) (fun z9 st o t => (0 ≤ x ∧ x < nI nb) ∧ va_Qi (S := Unit) (fun r _ => r = of x.toNatClampNeg) (fun u => bq D [(cI, .int), (cZ, .boolean), (cJ, .long)] (va_A [(o0, .inr (3, [.int sz0, .ref b0, .ref c2, .ref c3, .int fc, .ref a0, .int rw, .ref e0])), (b0, .inr (0, [.ref b1, .ref b2, .ref b3, .ref b4, .ref b5, .int (nI nb)])), (b5, .inl (cZ, 20, .inl of))] sz) ([(o0, .inr (3, [.int sz0, .ref b0, .ref c2, .ref c3, .int fc, .ref a0, .int rw, .ref e0])), (b0, .inr (0, [.ref b1, .ref b2, .ref b3, .ref b4, .ref b5, .int (nI nb)])), (b5, .inl (cZ, 20, .inl (upd of x.toNatClampNeg (bI bv))))])) (va_A [(o0, .inr (3, [.int sz0, .ref b0, .ref c2, .ref c3, .int fc, .ref a0, .int rw, .ref e0])), (b0, .inr (0, [.ref b1, .ref b2, .ref b3, .ref b4, .ref b5, .int (nI nb)])), (b5, .inl (cZ, 20, .inl of))] sz) z9 st o t) (cy_X (fun E => ¬ (0 ≤ x ∧ x < nI nb) ∧ E = sx_iae)) 1 6 (va_A [(o0, .inr (3, [.int sz0, .ref b0, .ref c2, .ref c3, .int fc, .ref a0, .int rw, .ref e0])), (b0, .inr (0, [.ref b1, .ref b2, .ref b3, .ref b4, .ref b5, .int (nI nb)])), (b5, .inl (cZ, 20, .inl of))] sz) := by
  refine vx_ofW (cc := cX3_off) (maxL := 4) (ret := (some .boolean)) (by decide) rfl ?_
  intro p e s m args below meth c s₁ B hml htab hv
  obtain ⟨rfl, hsz, hP, hK, hD0, hZ, hY⟩ := hv
  have hx := B.exec
  have hb := B.bytes
  have hr := B.returns
  have hg : ∀ w ∈ gw, w.before _ s = true := fun w h => atoms_spec (ws := Cond.code yX3_off cX3_off 4 (some .boolean) :: gw) B.pre w (List.mem_cons_of_mem _ h)
  have hown : s.vm.findClass RX3 = some m.cls := findClass_of_methodNamed B.named
  have hlocks := B.notSynchronized
  subst hsz
  have hD := hD0.self (sz := s.heap.size)
  generalize hAe : va_A [(o0, .inr (3, [.int sz0, .ref b0, .ref c2, .ref c3, .int fc, .ref a0, .int rw, .ref e0])), (b0, .inr (0, [.ref b1, .ref b2, .ref b3, .ref b4, .ref b5, .int (nI nb)])), (b5, .inl (cZ, 20, .inl of))] s.heap.size = A at hD ⊢
  have hA : ∀ q : Nat, s.heap.size ≤ q → A q := fun q h => by rw [← hAe]; exact Or.inr h
  have hS : va_S A s.heap s.heap [] := va_S.rf
  have hP : va_P D vwCl [(o0, .inr (3, [.int sz0, .ref b0, .ref c2, .ref c3, .int fc, .ref a0, .int rw, .ref e0])), (b0, .inr (0, [.ref b1, .ref b2, .ref b3, .ref b4, .ref b5, .int (nI nb)])), (b5, .inl (cZ, 20, .inl of))] s.heap := hP
  have hl := lv_entry ([.ref o0, .int x, .int (bI bv)]) (n := 4) (Nat.le_of_ble_eq_true rfl)
  rw [lg_entry_eq]
  generalize (lg_sl ([.ref o0, .int x, .int (bI bv)]) ++ List.replicate (4 - (lg_sl ([.ref o0, .int x, .int (bI bv)])).length) Slot.unset).toArray = ls at hl ⊢
  have hl : lv_has ls 4 [(0, .ref o0), (1, .int x), (2, .int (bI bv))] := hl
  refine lv_aload_n hx hb dX3_off_0 rfl (lv_at hl 0 rfl) ?_
  refine lv_iload_n hx hb dX3_off_1 rfl (lv_at hl 1 rfl) ?_
  have hPc := hP.sub (ws' := [(o0, .inr (3, [.int sz0, .ref b0, .ref c2, .ref c3, .int fc, .ref a0, .int rw, .ref e0])), (b0, .inr (0, [.ref b1, .ref b2, .ref b3, .ref b4, .ref b5, .int (nI nb)]))]) [0, 1] rfl
  refine cx_pass (vx_runV (As := [.int x]) (rest := []) ⟨hx, hb, hml, hown, hg⟩ (qX3_demandBox l hl0 D cI cZ cJ o0 b0 c2 c3 a0 e0 sz0 fc rw b1 b2 b3 b4 b5 (nI nb) x) (cwV 1 hg (gw_V kw322 kw324 kw3 kw36 kw325) rfl rfl rfl (by decide +kernel) ⟨Nat.le_of_ble_eq_true rfl, Nat.le_of_ble_eq_true rfl⟩) (tq_preV hPc hK hZ hY (va_recv hK hPc (ci := 3) (q0 := 0) rfl rfl)) rfl rfl hl.1 rfl (lv_room (Nat.le_of_ble_eq_true rfl)) dX3_off_2 ⟨Nat.le_of_ble_eq_true rfl, Nat.le_of_ble_eq_true rfl⟩) htab hlocks (Nat.le_of_ble_eq_true rfl) (Nat.le_of_ble_eq_true rfl) (fun E h9 => ⟨fun q => h9.1 q, h9.2⟩) (fun k_33 => ?_)
  refine lv_aload_n hx hb dX3_off_5 rfl (lv_at hl 0 rfl) ?_
  refine va_get (D := D) (ci := 3) (v := .ref b0) (C := RX3) (T := TX3) (N := 8) hx hb hg iX3 hown hK hP 0 rfl rfl 1 (by decide) (hg _ kw178) (fun _ h9 => h9) rfl dX3_off_6 ?_
  refine va_getN (D := D) (ci := 0) (v := .ref b5) (C := RX0) (T := TX0) (N := 6) hx hb hg iX0 hown hK hP 1 rfl rfl 4 (by decide) (va_Nw.use rfl (nzF_6 hZ)) (fun _ h9 => h9) rfl dX3_off_9 ?_
  refine lv_iload_n hx hb dX3_off_12 rfl (lv_at hl 1 rfl) ?_
  refine va_zald hx hb hK hP 2 1 rfl rfl (vin_of k_33 hnb (by decide)) dX3_off_13 ?_
  refine lv_istore_n (lv' := [(3, .int (of x.toNatClampNeg)), (0, .ref o0), (1, .int x), (2, .int (bI bv))]) hx hb dX3_off_14 rfl hl (by decide) rfl (fun ls hl => ?_)
  refine lv_aload_n hx hb dX3_off_15 rfl (lv_at hl 1 rfl) ?_
  refine va_get (D := D) (ci := 3) (v := .ref b0) (C := RX3) (T := TX3) (N := 8) hx hb hg iX3 hown hK hP 0 rfl rfl 1 (by decide) (hg _ kw178) (fun _ h9 => h9) rfl dX3_off_16 ?_
  refine va_getN (D := D) (ci := 0) (v := .ref b5) (C := RX0) (T := TX0) (N := 6) hx hb hg iX0 hown hK hP 1 rfl rfl 4 (by decide) (va_Nw.use rfl (nzF_6 hZ)) (fun _ h9 => h9) rfl dX3_off_19 ?_
  refine lv_iload_n hx hb dX3_off_22 rfl (lv_at hl 2 rfl) ?_
  refine lv_iload_n hx hb dX3_off_23 rfl (lv_at hl 3 rfl) ?_
  refine va_zast hx hb hK hP hD hS 2 1 rfl rfl (vin_of k_33 hnb (by decide)) dX3_off_24 (fun H locs hP hD hS => ?_)
  rw [show vp_nar .boolean (bI bv) = bI bv from nar_bI bv] at hP hD
  have hP : va_P D vwCl [(o0, .inr (3, [.int sz0, .ref b0, .ref c2, .ref c3, .int fc, .ref a0, .int rw, .ref e0])), (b0, .inr (0, [.ref b1, .ref b2, .ref b3, .ref b4, .ref b5, .int (nI nb)])), (b5, .inl (cZ, 20, .inl (upd of x.toNatClampNeg (bI bv))))] H := hP
  have hD : va_D A [(o0, .inr (3, [.int sz0, .ref b0, .ref c2, .ref c3, .int fc, .ref a0, .int rw, .ref e0])), (b0, .inr (0, [.ref b1, .ref b2, .ref b3, .ref b4, .ref b5, .int (nI nb)])), (b5, .inl (cZ, 20, .inl (upd of x.toNatClampNeg (bI bv))))] := hD
  refine lv_iload_n hx hb dX3_off_25 rfl (lv_at hl 0 rfl) ?_
  refine vx_ret ?_
  refine W.widen (k := 1) (n := 6) (Nat.le_of_ble_eq_true rfl) (Nat.le_of_ble_eq_true rfl) ?_
  exact W.zret (v := of x.toNatClampNeg) hx hb hr (nar_01 (hof _)) (fun t ht hW => ⟨k_33, ⟨⟨of x.toNatClampNeg, (), rfl, rfl, bq_end hP hK hD ht hW⟩, hS.F ht⟩⟩) hS.2.2 dX3_off_26

set_option maxHeartbeats 4000000 in
set_option maxRecDepth 100000 in
/-- sky -/
theorem qX3_sky (l : Launch) (hl0 : l.stackTraces = false) (D : va_G) (cI cZ cJ : ClassId) (a0 b0 : Nat) (o0 c2 c3 e0 : Nat) (sz0 fc rw : Int32) (br : Nat → Int32) (oc v : Int32) (sz : Nat) : vx_Met l yX3_sky (Cond.code yX3_sky cX3_sky 4 (some .int) :: gw) ({ frames := 8, cells := 1, slots := 6, locals := 124 }) (uq D [.ref o0, .int oc, .int v] sz [(o0, .inr (3, [.int sz0, .ref b0, .ref c2, .ref c3, .int fc, .ref a0, .int rw, .ref e0])), (c2, .inl (cI, 8, .inl br))] [(cI, .int), (cZ, .boolean), (cJ, .long)]) (fun z9 st o t => (inR 0 oc 7 ∧ inR 0 v 1000) ∧ va_Qi (S := Unit) (fun r _ => r = br oc.toNatClampNeg) (fun u => bq D [(cI, .int), (cZ, .boolean), (cJ, .long)] (va_A [(o0, .inr (3, [.int sz0, .ref b0, .ref c2, .ref c3, .int fc, .ref a0, .int rw, .ref e0])), (c2, .inl (cI, 8, .inl br))] sz) ([(o0, .inr (3, [.int sz0, .ref b0, .ref c2, .ref c3, .int fc, .ref a0, .int rw, .ref e0])), (c2, .inl (cI, 8, .inl (upd br oc.toNatClampNeg v)))])) (va_A [(o0, .inr (3, [.int sz0, .ref b0, .ref c2, .ref c3, .int fc, .ref a0, .int rw, .ref e0])), (c2, .inl (cI, 8, .inl br))] sz) z9 st o t) (cy_X (fun E => ¬ (inR 0 oc 7 ∧ inR 0 v 1000) ∧ E = sx_iae)) 1 6 (va_A [(o0, .inr (3, [.int sz0, .ref b0, .ref c2, .ref c3, .int fc, .ref a0, .int rw, .ref e0])), (c2, .inl (cI, 8, .inl br))] sz) := by
  refine vx_ofW (cc := cX3_sky) (maxL := 4) (ret := (some .int)) (by decide) rfl ?_
  intro p e s m args below meth c s₁ B hml htab hv
  obtain ⟨rfl, hsz, hP, hK, hD0, hZ, hY⟩ := hv
  have hx := B.exec
  have hb := B.bytes
  have hr := B.returns
  have hg : ∀ w ∈ gw, w.before _ s = true := fun w h => atoms_spec (ws := Cond.code yX3_sky cX3_sky 4 (some .int) :: gw) B.pre w (List.mem_cons_of_mem _ h)
  have hown : s.vm.findClass RX3 = some m.cls := findClass_of_methodNamed B.named
  have hlocks := B.notSynchronized
  subst hsz
  have hD := hD0.self (sz := s.heap.size)
  generalize hAe : va_A [(o0, .inr (3, [.int sz0, .ref b0, .ref c2, .ref c3, .int fc, .ref a0, .int rw, .ref e0])), (c2, .inl (cI, 8, .inl br))] s.heap.size = A at hD ⊢
  have hA : ∀ q : Nat, s.heap.size ≤ q → A q := fun q h => by rw [← hAe]; exact Or.inr h
  have hS : va_S A s.heap s.heap [] := va_S.rf
  have hP : va_P D vwCl [(o0, .inr (3, [.int sz0, .ref b0, .ref c2, .ref c3, .int fc, .ref a0, .int rw, .ref e0])), (c2, .inl (cI, 8, .inl br))] s.heap := hP
  have hl := lv_entry ([.ref o0, .int oc, .int v]) (n := 4) (Nat.le_of_ble_eq_true rfl)
  rw [lg_entry_eq]
  generalize (lg_sl ([.ref o0, .int oc, .int v]) ++ List.replicate (4 - (lg_sl ([.ref o0, .int oc, .int v])).length) Slot.unset).toArray = ls at hl ⊢
  have hl : lv_has ls 4 [(0, .ref o0), (1, .int oc), (2, .int v)] := hl
  refine lv_iload_n hx hb dX3_sky_0 rfl (lv_at hl 1 rfl) ?_
  refine lv_iconst (v := 0) hx hb dX3_sky_1 (by decide) ?_
  refine lv_bipush (v := 7) hx hb dX3_sky_2 (by decide) ?_
  have hPc := hP.sub (ws' := []) [] rfl
  refine cx_pass (vx_runS (As := [.int oc, .int 0, .int 7]) (rest := []) ⟨hx, hb, hml, hown, hg⟩ (qX3_demandWithin l hl0 D cI cZ cJ oc 0 7) (va_cwS 3 hg (gw_S kw222 kw223 kw36 kw224) rfl rfl rfl (by decide +kernel) ⟨Nat.le_of_ble_eq_true rfl, Nat.le_of_ble_eq_true rfl⟩) (tq_pre hPc hK hZ hY) rfl rfl hl.1 rfl (lv_room (Nat.le_of_ble_eq_true rfl)) dX3_sky_4 ⟨Nat.le_of_ble_eq_true rfl, Nat.le_of_ble_eq_true rfl⟩) htab hlocks (Nat.le_of_ble_eq_true rfl) (Nat.le_of_ble_eq_true rfl) (fun E h9 => ⟨fun q => h9.1 q.1, h9.2⟩) (fun k_34 => ?_)
  refine lv_iload_n hx hb dX3_sky_7 rfl (lv_at hl 2 rfl) ?_
  refine lv_iconst (v := 0) hx hb dX3_sky_8 (by decide) ?_
  refine lv_sipush (v := 1000) hx hb dX3_sky_9 (by decide) ?_
  have hPc := hP.sub (ws' := []) [] rfl
  refine cx_pass (vx_runS (As := [.int v, .int 0, .int 1000]) (rest := []) ⟨hx, hb, hml, hown, hg⟩ (qX3_demandWithin l hl0 D cI cZ cJ v 0 1000) (va_cwS 3 hg (gw_S kw222 kw223 kw36 kw224) rfl rfl rfl (by decide +kernel) ⟨Nat.le_of_ble_eq_true rfl, Nat.le_of_ble_eq_true rfl⟩) (tq_pre hPc hK hZ hY) rfl rfl hl.1 rfl (lv_room (Nat.le_of_ble_eq_true rfl)) dX3_sky_12 ⟨Nat.le_of_ble_eq_true rfl, Nat.le_of_ble_eq_true rfl⟩) htab hlocks (Nat.le_of_ble_eq_true rfl) (Nat.le_of_ble_eq_true rfl) (fun E h9 => ⟨fun q => h9.1 q.2, h9.2⟩) (fun k_35 => ?_)
  refine lv_aload_n hx hb dX3_sky_15 rfl (lv_at hl 0 rfl) ?_
  refine va_get (D := D) (ci := 3) (v := .ref c2) (C := RX3) (T := TX3) (N := 8) hx hb hg iX3 hown hK hP 0 rfl rfl 2 (by decide) (hg _ kw179) (fun _ h9 => h9) rfl dX3_sky_16 ?_
  refine lv_iload_n hx hb dX3_sky_19 rfl (lv_at hl 1 rfl) ?_
  refine va_iald hx hb hK hP 1 0 rfl rfl (vin_R (n := 7) k_34 (by decide) (by decide)) dX3_sky_20 ?_
  refine lv_istore_n (lv' := [(3, .int (br oc.toNatClampNeg)), (0, .ref o0), (1, .int oc), (2, .int v)]) hx hb dX3_sky_21 rfl hl (by decide) rfl (fun ls hl => ?_)
  refine lv_aload_n hx hb dX3_sky_22 rfl (lv_at hl 1 rfl) ?_
  refine va_get (D := D) (ci := 3) (v := .ref c2) (C := RX3) (T := TX3) (N := 8) hx hb hg iX3 hown hK hP 0 rfl rfl 2 (by decide) (hg _ kw179) (fun _ h9 => h9) rfl dX3_sky_23 ?_
  refine lv_iload_n hx hb dX3_sky_26 rfl (lv_at hl 2 rfl) ?_
  refine lv_iload_n hx hb dX3_sky_27 rfl (lv_at hl 3 rfl) ?_
  refine va_iast hx hb hK hP hD hS 1 0 rfl rfl (vin_R (n := 7) k_34 (by decide) (by decide)) dX3_sky_28 (fun H locs hP hD hS => ?_)
  have hP : va_P D vwCl [(o0, .inr (3, [.int sz0, .ref b0, .ref c2, .ref c3, .int fc, .ref a0, .int rw, .ref e0])), (c2, .inl (cI, 8, .inl (upd br oc.toNatClampNeg v)))] H := hP
  have hD : va_D A [(o0, .inr (3, [.int sz0, .ref b0, .ref c2, .ref c3, .int fc, .ref a0, .int rw, .ref e0])), (c2, .inl (cI, 8, .inl (upd br oc.toNatClampNeg v)))] := hD
  refine lv_iload_n hx hb dX3_sky_29 rfl (lv_at hl 0 rfl) ?_
  refine vx_ret ?_
  refine W.widen (k := 1) (n := 6) (Nat.le_of_ble_eq_true rfl) (Nat.le_of_ble_eq_true rfl) ?_
  exact W.iret (v := br oc.toNatClampNeg) hx hb hr (fun t ht hW => ⟨⟨k_34, k_35⟩, ⟨⟨br oc.toNatClampNeg, (), rfl, rfl, bq_end hP hK hD ht hW⟩, hS.F ht⟩⟩) hS.2.2 dX3_sky_30

set_option maxHeartbeats 4000000 in
set_option maxRecDepth 100000 in
/-- fan -/
theorem qX3_fan (l : Launch) (hl0 : l.stackTraces = false) (D : va_G) (cI cZ cJ : ClassId) (a0 b0 o0 c2 c3 e0 : Nat) (sz0 rw : Int32) (fd : Nat → Int32) (nf : Nat) (hnf : nf ≤ 40) (x y z : Int32) (sz : Nat) : vx_Met l yX3_fan (Cond.code yX3_fan cX3_fan 5 (some .int) :: gw) ({ frames := 9, cells := 1, slots := 6, locals := 146 }) (uq D [.ref o0, .int x, .int y, .int z] sz [(o0, .inr (3, [.int sz0, .ref b0, .ref c2, .ref c3, .int (nI nf), .ref a0, .int rw, .ref e0])), (c3, .inl (cI, 120, .inl fd))] [(cI, .int), (cZ, .boolean), (cJ, .long)]) (fun z9 st o t => (dirR x y z ∧ nf < 40) ∧ va_Qi (S := Unit) (fun r _ => r = nI (nf + 1)) (fun u => bq D [(cI, .int), (cZ, .boolean), (cJ, .long)] (va_A [(o0, .inr (3, [.int sz0, .ref b0, .ref c2, .ref c3, .int (nI nf), .ref a0, .int rw, .ref e0])), (c3, .inl (cI, 120, .inl fd))] sz) ([(o0, .inr (3, [.int sz0, .ref b0, .ref c2, .ref c3, .int (nI (nf + 1)), .ref a0, .int rw, .ref e0])), (c3, .inl (cI, 120, .inl (upd (upd (upd fd (nf * 3) x) (nf * 3 + 1) y) (nf * 3 + 2) z)))])) (va_A [(o0, .inr (3, [.int sz0, .ref b0, .ref c2, .ref c3, .int (nI nf), .ref a0, .int rw, .ref e0])), (c3, .inl (cI, 120, .inl fd))] sz) z9 st o t) (cy_X (fun E => (¬ dirR x y z ∧ E = sx_iae) ∨ (dirR x y z ∧ nf = 40 ∧ E = sx_ise))) 1 6 (va_A [(o0, .inr (3, [.int sz0, .ref b0, .ref c2, .ref c3, .int (nI nf), .ref a0, .int rw, .ref e0])), (c3, .inl (cI, 120, .inl fd))] sz) := by
  refine vx_ofW (cc := cX3_fan) (maxL := 5) (ret := (some .int)) (by decide) rfl ?_
  intro p e s m args below meth c s₁ B hml htab hv
  obtain ⟨rfl, hsz, hP, hK, hD0, hZ, hY⟩ := hv
  have hx := B.exec
  have hb := B.bytes
  have hr := B.returns
  have hg : ∀ w ∈ gw, w.before _ s = true := fun w h => atoms_spec (ws := Cond.code yX3_fan cX3_fan 5 (some .int) :: gw) B.pre w (List.mem_cons_of_mem _ h)
  have hown : s.vm.findClass RX3 = some m.cls := findClass_of_methodNamed B.named
  have hlocks := B.notSynchronized
  subst hsz
  have hD := hD0.self (sz := s.heap.size)
  generalize hAe : va_A [(o0, .inr (3, [.int sz0, .ref b0, .ref c2, .ref c3, .int (nI nf), .ref a0, .int rw, .ref e0])), (c3, .inl (cI, 120, .inl fd))] s.heap.size = A at hD ⊢
  have hA : ∀ q : Nat, s.heap.size ≤ q → A q := fun q h => by rw [← hAe]; exact Or.inr h
  have hS : va_S A s.heap s.heap [] := va_S.rf
  have hP : va_P D vwCl [(o0, .inr (3, [.int sz0, .ref b0, .ref c2, .ref c3, .int (nI nf), .ref a0, .int rw, .ref e0])), (c3, .inl (cI, 120, .inl fd))] s.heap := hP
  have hl := lv_entry ([.ref o0, .int x, .int y, .int z]) (n := 5) (Nat.le_of_ble_eq_true rfl)
  rw [lg_entry_eq]
  generalize (lg_sl ([.ref o0, .int x, .int y, .int z]) ++ List.replicate (5 - (lg_sl ([.ref o0, .int x, .int y, .int z])).length) Slot.unset).toArray = ls at hl ⊢
  have hl : lv_has ls 5 [(0, .ref o0), (1, .int x), (2, .int y), (3, .int z)] := hl
  refine lv_iload_n hx hb dX3_fan_0 rfl (lv_at hl 1 rfl) ?_
  refine lv_iload_n hx hb dX3_fan_1 rfl (lv_at hl 2 rfl) ?_
  refine lv_iload_n hx hb dX3_fan_2 rfl (lv_at hl 3 rfl) ?_
  have hPc := hP.sub (ws' := []) [] rfl
  refine cx_pass (vx_runS (As := [.int x, .int y, .int z]) (rest := []) ⟨hx, hb, hml, hown, hg⟩ (qX3_demandDirection l hl0 D cI cZ cJ x y z) (va_cwS 3 hg (gw_S kw340 kw341 kw36 kw342) rfl rfl rfl (by decide +kernel) ⟨Nat.le_of_ble_eq_true rfl, Nat.le_of_ble_eq_true rfl⟩) (tq_pre hPc hK hZ hY) rfl rfl hl.1 rfl (lv_room (Nat.le_of_ble_eq_true rfl)) dX3_fan_3 ⟨Nat.le_of_ble_eq_true rfl, Nat.le_of_ble_eq_true rfl⟩) htab hlocks (Nat.le_of_ble_eq_true rfl) (Nat.le_of_ble_eq_true rfl) (fun E h9 => Or.inl ⟨h9.1, h9.2⟩) (fun k_36 => ?_)
  refine lv_aload_n hx hb dX3_fan_6 rfl (lv_at hl 0 rfl) ?_
  refine va_get (D := D) (ci := 3) (v := .int (nI nf)) (C := RX3) (T := TX3) (N := 8) hx hb hg iX3 hown hK hP 0 rfl rfl 4 (by decide) (hg _ kw181) (fun _ h9 => h9) rfl dX3_fan_7 ?_
  refine lv_bipush (v := 40) hx hb dX3_fan_10 (by decide) ?_
  refine lv_icmp_lt (tgt := 25) hx hb dX3_fan_12 (by decide) (fun c12 => ?_) (fun c12 => ?_)
  · have c12n := Int32.not_le.mpr c12
    have hn2 : nf < 40 := (nI_ltI (a := nf) (b := 40) (by omega) (by decide)).mp c12
    refine lv_aload_n hx hb dX3_fan_25 rfl (lv_at hl 0 rfl) ?_
    refine va_get (D := D) (ci := 3) (v := .int (nI nf)) (C := RX3) (T := TX3) (N := 8) hx hb hg iX3 hown hK hP 0 rfl rfl 4 (by decide) (hg _ kw181) (fun _ h9 => h9) rfl dX3_fan_26 ?_
    refine lv_iconst (v := 3) hx hb dX3_fan_29 (by decide) ?_
    refine lv_imul hx hb dX3_fan_30 ?_
    refine lv_istore (lv' := [(4, .int ((nI nf) * 3)), (0, .ref o0), (1, .int x), (2, .int y), (3, .int z)]) hx hb dX3_fan_31 hl (by decide) rfl (fun ls hl => ?_)
    refine lv_aload_n hx hb dX3_fan_33 rfl (lv_at hl 1 rfl) ?_
    refine va_get (D := D) (ci := 3) (v := .ref c3) (C := RX3) (T := TX3) (N := 8) hx hb hg iX3 hown hK hP 0 rfl rfl 3 (by decide) (hg _ kw180) (fun _ h9 => h9) rfl dX3_fan_34 ?_
    refine lv_iload hx hb dX3_fan_37 (lv_at hl 0 rfl) ?_
    refine lv_iload_n hx hb dX3_fan_39 rfl (lv_at hl 2 rfl) ?_
    refine va_iast hx hb hK hP hD hS 1 0 rfl rfl (vin30 (by omega) (by decide)) dX3_fan_40 (fun H locs hP hD hS => ?_)
    rw [show ((nI nf) * 3).toNatClampNeg = nf * 3 from vcl30 (by omega)] at hP hD
    have hP : va_P D vwCl [(o0, .inr (3, [.int sz0, .ref b0, .ref c2, .ref c3, .int (nI nf), .ref a0, .int rw, .ref e0])), (c3, .inl (cI, 120, .inl (upd fd (nf * 3) x)))] H := hP
    have hD : va_D A [(o0, .inr (3, [.int sz0, .ref b0, .ref c2, .ref c3, .int (nI nf), .ref a0, .int rw, .ref e0])), (c3, .inl (cI, 120, .inl (upd fd (nf * 3) x)))] := hD
    refine lv_aload_n hx hb dX3_fan_41 rfl (lv_at hl 1 rfl) ?_
    refine va_get (D := D) (ci := 3) (v := .ref c3) (C := RX3) (T := TX3) (N := 8) hx hb hg iX3 hown hK hP 0 rfl rfl 3 (by decide) (hg _ kw180) (fun _ h9 => h9) rfl dX3_fan_42 ?_
    refine lv_iload hx hb dX3_fan_45 (lv_at hl 0 rfl) ?_
    refine lv_iconst (v := 1) hx hb dX3_fan_47 (by decide) ?_
    refine lv_iadd hx hb dX3_fan_48 ?_
    refine lv_iload_n hx hb dX3_fan_49 rfl (lv_at hl 3 rfl) ?_
    refine va_iast hx hb hK hP hD hS 1 0 rfl rfl (vin3 (k := 1) (by omega) (by decide)) dX3_fan_50 (fun H locs hP hD hS => ?_)
    rw [show (((nI nf) * 3) + 1).toNatClampNeg = nf * 3 + 1 from vcl3 (k := 1) (by omega)] at hP hD
    have hP : va_P D vwCl [(o0, .inr (3, [.int sz0, .ref b0, .ref c2, .ref c3, .int (nI nf), .ref a0, .int rw, .ref e0])), (c3, .inl (cI, 120, .inl (upd (upd fd (nf * 3) x) (nf * 3 + 1) y)))] H := hP
    have hD : va_D A [(o0, .inr (3, [.int sz0, .ref b0, .ref c2, .ref c3, .int (nI nf), .ref a0, .int rw, .ref e0])), (c3, .inl (cI, 120, .inl (upd (upd fd (nf * 3) x) (nf * 3 + 1) y)))] := hD
    refine lv_aload_n hx hb dX3_fan_51 rfl (lv_at hl 1 rfl) ?_
    refine va_get (D := D) (ci := 3) (v := .ref c3) (C := RX3) (T := TX3) (N := 8) hx hb hg iX3 hown hK hP 0 rfl rfl 3 (by decide) (hg _ kw180) (fun _ h9 => h9) rfl dX3_fan_52 ?_
    refine lv_iload hx hb dX3_fan_55 (lv_at hl 0 rfl) ?_
    refine lv_iconst (v := 2) hx hb dX3_fan_57 (by decide) ?_
    refine lv_iadd hx hb dX3_fan_58 ?_
    refine lv_iload_n hx hb dX3_fan_59 rfl (lv_at hl 4 rfl) ?_
    refine va_iast hx hb hK hP hD hS 1 0 rfl rfl (vin3 (k := 2) (by omega) (by decide)) dX3_fan_60 (fun H locs hP hD hS => ?_)
    rw [show (((nI nf) * 3) + 2).toNatClampNeg = nf * 3 + 2 from vcl3 (k := 2) (by omega)] at hP hD
    have hP : va_P D vwCl [(o0, .inr (3, [.int sz0, .ref b0, .ref c2, .ref c3, .int (nI nf), .ref a0, .int rw, .ref e0])), (c3, .inl (cI, 120, .inl (upd (upd (upd fd (nf * 3) x) (nf * 3 + 1) y) (nf * 3 + 2) z)))] H := hP
    have hD : va_D A [(o0, .inr (3, [.int sz0, .ref b0, .ref c2, .ref c3, .int (nI nf), .ref a0, .int rw, .ref e0])), (c3, .inl (cI, 120, .inl (upd (upd (upd fd (nf * 3) x) (nf * 3 + 1) y) (nf * 3 + 2) z)))] := hD
    refine lv_aload_n hx hb dX3_fan_61 rfl (lv_at hl 1 rfl) ?_
    refine lv_dup hx hb dX3_fan_62 rfl ?_
    refine va_get (D := D) (ci := 3) (v := .int (nI nf)) (C := RX3) (T := TX3) (N := 8) hx hb hg iX3 hown hK hP 0 rfl rfl 4 (by decide) (hg _ kw181) (fun _ h9 => h9) rfl dX3_fan_63 ?_
    refine lv_iconst (v := 1) hx hb dX3_fan_66 (by decide) ?_
    refine lv_iadd hx hb dX3_fan_67 ?_
    refine tp_i (y := nI (nf + 1)) (nI_1 nf) ?_
    refine va_put (D := D) (ci := 3) (v := .int (nI (nf + 1))) (ty := .int) (C := RX3) (T := TX3) (N := 8) hx hb hg iX3 tyX3 tyX3_ok nmX3 hown hK hP hD hS 0 rfl rfl 4 (by decide) (hg _ kw181) (fun _ h9 => h9) rfl (by decide +kernel) rfl rfl (Nat.le_of_ble_eq_true rfl) dX3_fan_68 (fun H locs hP hD hS => ?_)
    have hP : va_P D vwCl [(o0, .inr (3, [.int sz0, .ref b0, .ref c2, .ref c3, .int (nI (nf + 1)), .ref a0, .int rw, .ref e0])), (c3, .inl (cI, 120, .inl (upd (upd (upd fd (nf * 3) x) (nf * 3 + 1) y) (nf * 3 + 2) z)))] H := hP
    have hD : va_D A [(o0, .inr (3, [.int sz0, .ref b0, .ref c2, .ref c3, .int (nI (nf + 1)), .ref a0, .int rw, .ref e0])), (c3, .inl (cI, 120, .inl (upd (upd (upd fd (nf * 3) x) (nf * 3 + 1) y) (nf * 3 + 2) z)))] := hD
    refine lv_aload_n hx hb dX3_fan_71 rfl (lv_at hl 1 rfl) ?_
    refine va_get (D := D) (ci := 3) (v := .int (nI (nf + 1))) (C := RX3) (T := TX3) (N := 8) hx hb hg iX3 hown hK hP 0 rfl rfl 4 (by decide) (hg _ kw181) (fun _ h9 => h9) rfl dX3_fan_72 ?_
    refine vx_ret ?_
    refine W.widen (k := 1) (n := 6) (Nat.le_of_ble_eq_true rfl) (Nat.le_of_ble_eq_true rfl) ?_
    exact W.iret (v := nI (nf + 1)) hx hb hr (fun t ht hW => ⟨⟨k_36, hn2⟩, ⟨⟨nI (nf + 1), (), rfl, rfl, bq_end hP hK hD ht hW⟩, hS.F ht⟩⟩) hS.2.2 dX3_fan_75
  · have c12n := Int32.not_lt.mp c12
    exact th_ise hx hb hl0 hg hZ hY hZ.2.2.2.2.2.2.2 hown (hl.1.trans hml.symm) htab hlocks dX3_fan_15 dX3_fan_18 dX3_fan_19 dX3_fan_21 dX3_fan_24 (Nat.le_of_ble_eq_true rfl) (Nat.le_of_ble_eq_true rfl) (Nat.le_of_ble_eq_true rfl) (Nat.le_of_ble_eq_true rfl) (Nat.le_of_ble_eq_true rfl) (Nat.le_of_ble_eq_true rfl) (Or.inr ⟨k_36, by rcases Nat.lt_or_ge nf 40 with h | h; exact absurd ((nI_ltI (a := nf) (b := 40) (by omega) (by decide)).mpr h) c12; omega, rfl⟩)

set_option maxHeartbeats 4000000 in
set_option maxRecDepth 100000 in
/-- noFan -/
theorem qX3_noFan (l : Launch) (D : va_G) (cI cZ cJ : ClassId) (a0 b0 : Nat) (o0 c2 c3 e0 : Nat) (sz0 fc rw : Int32) (sz : Nat) : Met l yX3_noFan (Cond.code yX3_noFan cX3_noFan 2 (some .int) :: gw) ({ frames := 0, cells := 0, slots := 0, locals := 0 }) (wq D [.ref o0] sz [(o0, .inr (3, [.int sz0, .ref b0, .ref c2, .ref c3, .int fc, .ref a0, .int rw, .ref e0]))] [(cI, .int), (cZ, .boolean), (cJ, .long)]) (va_Qi (S := Unit) (fun r _ => r = fc) (fun u => bq D [(cI, .int), (cZ, .boolean), (cJ, .long)] (va_A [(o0, .inr (3, [.int sz0, .ref b0, .ref c2, .ref c3, .int fc, .ref a0, .int rw, .ref e0]))] sz) ([(o0, .inr (3, [.int sz0, .ref b0, .ref c2, .ref c3, .int 0, .ref a0, .int rw, .ref e0]))])) (va_A [(o0, .inr (3, [.int sz0, .ref b0, .ref c2, .ref c3, .int fc, .ref a0, .int rw, .ref e0]))] sz)) 0 0 (va_A [(o0, .inr (3, [.int sz0, .ref b0, .ref c2, .ref c3, .int fc, .ref a0, .int rw, .ref e0]))] sz) := by
  refine Met.ofW (cc := cX3_noFan) (maxL := 2) (ret := (some .int)) (by decide) rfl ?_
  intro p e s m args below meth c s₁ B hml hv
  obtain ⟨rfl, hsz, hP, hK, hD0, hZ⟩ := hv
  have hx := B.exec
  have hb := B.bytes
  have hr := B.returns
  have hg : ∀ w ∈ gw, w.before _ s = true := fun w h => atoms_spec (ws := Cond.code yX3_noFan cX3_noFan 2 (some .int) :: gw) B.pre w (List.mem_cons_of_mem _ h)
  have hown : s.vm.findClass RX3 = some m.cls := findClass_of_methodNamed B.named
  have hlocks := B.notSynchronized
  subst hsz
  have hD := hD0.self (sz := s.heap.size)
  generalize hAe : va_A [(o0, .inr (3, [.int sz0, .ref b0, .ref c2, .ref c3, .int fc, .ref a0, .int rw, .ref e0]))] s.heap.size = A at hD ⊢
  have hA : ∀ q : Nat, s.heap.size ≤ q → A q := fun q h => by rw [← hAe]; exact Or.inr h
  have hS : va_S A s.heap s.heap [] := va_S.rf
  have hP : va_P D vwCl [(o0, .inr (3, [.int sz0, .ref b0, .ref c2, .ref c3, .int fc, .ref a0, .int rw, .ref e0]))] s.heap := hP
  have hl := lv_entry ([.ref o0]) (n := 2) (Nat.le_of_ble_eq_true rfl)
  rw [lg_entry_eq]
  generalize (lg_sl ([.ref o0]) ++ List.replicate (2 - (lg_sl ([.ref o0])).length) Slot.unset).toArray = ls at hl ⊢
  have hl : lv_has ls 2 [(0, .ref o0)] := hl
  refine lv_aload_n hx hb dX3_noFan_0 rfl (lv_at hl 0 rfl) ?_
  refine va_get (D := D) (ci := 3) (v := .int fc) (C := RX3) (T := TX3) (N := 8) hx hb hg iX3 hown hK hP 0 rfl rfl 4 (by decide) (hg _ kw181) (fun _ h9 => h9) rfl dX3_noFan_1 ?_
  refine lv_istore_n (lv' := [(1, .int fc), (0, .ref o0)]) hx hb dX3_noFan_4 rfl hl (by decide) rfl (fun ls hl => ?_)
  refine lv_aload_n hx hb dX3_noFan_5 rfl (lv_at hl 1 rfl) ?_
  refine lv_iconst (v := 0) hx hb dX3_noFan_6 (by decide) ?_
  refine va_put (D := D) (ci := 3) (v := .int 0) (ty := .int) (C := RX3) (T := TX3) (N := 8) hx hb hg iX3 tyX3 tyX3_ok nmX3 hown hK hP hD hS 0 rfl rfl 4 (by decide) (hg _ kw181) (fun _ h9 => h9) rfl (by decide +kernel) rfl rfl (Nat.le_of_ble_eq_true rfl) dX3_noFan_7 (fun H locs hP hD hS => ?_)
  have hP : va_P D vwCl [(o0, .inr (3, [.int sz0, .ref b0, .ref c2, .ref c3, .int 0, .ref a0, .int rw, .ref e0]))] H := hP
  have hD : va_D A [(o0, .inr (3, [.int sz0, .ref b0, .ref c2, .ref c3, .int 0, .ref a0, .int rw, .ref e0]))] := hD
  refine lv_iload_n hx hb dX3_noFan_10 rfl (lv_at hl 0 rfl) ?_
  exact W.iret (v := fc) hx hb hr (fun t ht hW => ⟨⟨fc, (), rfl, rfl, bq_end hP hK hD ht hW⟩, hS.F ht⟩) hS.2.2 dX3_noFan_11
