/-! the reference's calls -/
theorem bI_nz {b : Bool} (h : b = true) : ¬ bI b = 0 := by rw [h]; decide

def absL (a : Int64) : Int64 := if 0 ≤ a then a else -a
def cmL : Nat → Int64 → Int64 → Int64
  | 0, x, _ => x
  | n + 1, x, y => if y = 0 then x else cmL n y (x - x / y * y)
theorem l_rem {x y : Int64} (hx : 0 ≤ x.toInt) (hy : 0 < y.toInt) : (x - x / y * y).toInt = x.toInt % y.toInt := by
  have h1 := x.toInt_lt
  have h2 := y.toInt_lt
  have h3 : 0 ≤ x.toInt / y.toInt := Int.ediv_nonneg hx (by omega)
  have h4 : x.toInt / y.toInt ≤ x.toInt := Int.ediv_le_self _ hx
  have h5 : x.toInt / y.toInt * y.toInt ≤ x.toInt := Int.ediv_mul_le _ (by omega)
  have h6 : 0 ≤ x.toInt / y.toInt * y.toInt := Int.mul_nonneg h3 (by omega)
  have e1 : (x / y).toInt = x.toInt / y.toInt := by
    rw [Int64.toInt_div, Int.tdiv_eq_ediv_of_nonneg hx, Int.bmod_eq_of_le (by omega) (by omega)]
  have e2 : (x / y * y).toInt = x.toInt / y.toInt * y.toInt := by
    rw [Int64.toInt_mul, e1, Int.bmod_eq_of_le (by omega) (by omega)]
  have e3 := Int.mul_ediv_add_emod x.toInt y.toInt
  have e4 := Int.emod_nonneg x.toInt (show y.toInt ≠ 0 by omega)
  have e5 := Int.mul_comm (x.toInt / y.toInt) y.toInt
  rw [Int64.toInt_sub, e2, Int.bmod_eq_of_le (by omega) (by omega)]
  omega
theorem gcd_step {x y : Int} (hx : 0 ≤ x) (hy : 0 ≤ y) : Int.gcd y (x % y) = Int.gcd x y := by
  obtain ⟨a, rfl⟩ := Int.eq_ofNat_of_zero_le hx
  obtain ⟨b, rfl⟩ := Int.eq_ofNat_of_zero_le hy
  rw [← Int.natCast_emod]
  show Nat.gcd b (a % b) = Nat.gcd a b
  rw [Nat.gcd_comm b, ← Nat.gcd_rec, Nat.gcd_comm]
theorem cmL_eq : ∀ (n : Nat) (x y : Int64), 0 ≤ x.toInt → 0 ≤ y.toInt → y.toInt ≤ n → (cmL n x y).toInt = Int.gcd x.toInt y.toInt := by
  intro n
  induction n with
  | zero =>
    intro x y hx hy hn
    rw [cmL, show y.toInt = 0 by omega, Int.gcd_zero_right]
    omega
  | succ n ih =>
    intro x y hx hy hn
    rw [cmL]
    split
    · rename_i h
      rw [h, Int64.toInt_zero, Int.gcd_zero_right]
      omega
    · rename_i h
      have hy0 : y.toInt ≠ 0 := fun e => h (Int64.toInt_inj.mp (by rw [e]; rfl))
      have hr := l_rem hx (show 0 < y.toInt by omega)
      have h7 := Int.emod_nonneg x.toInt hy0
      have h8 := Int.emod_lt_of_pos x.toInt (show 0 < y.toInt by omega)
      rw [ih y _ (by omega) (by omega) (by omega), hr, gcd_step hx hy]
theorem absL_int {a : Int64} (h : -(2 ^ 62) < a.toInt) (h2 : a.toInt < 2 ^ 62) : (absL a).toInt = a.toInt.natAbs := by
  unfold absL
  split
  · rename_i h3
    have h4 := Int64.le_iff_toInt_le.mp h3
    rw [Int64.toInt_zero] at h4
    omega
  · rename_i h3
    have h4 := mt Int64.le_iff_toInt_le.mpr h3
    rw [Int64.toInt_zero] at h4
    rw [Int64.toInt_neg, Int.bmod_eq_of_le (by omega) (by omega)]
    omega
theorem cmA_eq {a b : Int64} (h : -(2 ^ 62) < a.toInt) (h2 : a.toInt < 2 ^ 62) (hb : 0 ≤ b.toInt) (hb2 : b.toInt ≤ 100) : (cmL 100 (absL a) b).toInt = Int.gcd a.toInt b.toInt := by
  have e := absL_int h h2
  rw [cmL_eq 100 _ _ (by omega) hb (by omega), e]
  rw [Int.gcd, Int.gcd, Int.natAbs_natCast]
theorem cm_ne {a b : Int64} (h : -(2 ^ 62) < a.toInt) (h2 : a.toInt < 2 ^ 62) (hb : 0 < b.toInt) (hb2 : b.toInt ≤ 100) : ¬ cmL 100 (absL a) b = 0 := by
  intro e
  have h3 := cmA_eq h h2 (by omega) hb2
  rw [e, Int64.toInt_zero] at h3
  have := Int.gcd_eq_zero_iff.mp (show Int.gcd a.toInt b.toInt = 0 by omega)
  omega

theorem nI_ne20 {i : Nat} (h : i < 20) : ¬ nI i = 20 := fun e => absurd (show nI 20 ≤ nI i by rw [e]; decide) (nI_ge h (by decide))
theorem nI_ne40 {i : Nat} (h : i < 40) : ¬ nI i = 40 := fun e => absurd (show nI 40 ≤ nI i by rw [e]; decide) (nI_ge h (by decide))

set_option maxHeartbeats 4000000 in
set_option maxRecDepth 100000 in
/-- box -/
theorem qX4_box_ok (l : Launch) (D : va_G) (cI cZ cJ : ClassId) (m0 m1 m2 m3 m4 m5 m6 m7 m8 m9 m10 m11 m12 m13 m14 m15 m16 m17 m18 m19 m20 m21 : Nat) (th msz li nht lx ix hry rh rl fc : Int32) (la lb ia ib oa ob : Int64) (cs : Nat → Int32) (sh : Nat → Int32) (nb : Nat) (hn : nb < 20) (x0 y0 z0 x1 y1 z1 : Int32) (hR : ptB msz x0 y0 z0 = true ∧ ptB msz x1 y1 z1 = true ∧ x0 < x1 ∧ y0 < y1 ∧ z0 < z1) (sz : Nat) : Met l yX4_box (Cond.code yX4_box cX4_box 9 (some .int) :: gw) ({ frames := 3, cells := 0, slots := 0, locals := 66 }) (wq D [.ref m0, .int x0, .int y0, .int z0, .int x1, .int y1, .int z1] sz [(m0, .inr (4, [.int th, .int msz, .int (nI nb), .ref m1, .ref m2, .ref m3, .ref m4, .ref m5, .ref m6, .ref m7, .ref m8, .int li, .int nht, .long la, .long lb, .int lx, .long ia, .long ib, .int ix, .long oa, .long ob, .ref m9, .ref m10, .ref m11, .ref m12, .ref m13, .int hry, .int rh, .int rl, .ref m14, .ref m15, .ref m16, .ref m17, .ref m18, .ref m19, .ref m20, .int fc, .ref m21])), (m1, .inl (cI, 120, .inl cs)), (m3, .inl (cI, 20, .inl sh))] [(cI, .int), (cZ, .boolean), (cJ, .long)]) (va_Qi (S := Unit) (fun r _ => r = nI nb) (fun u => bq D [(cI, .int), (cZ, .boolean), (cJ, .long)] (va_A [(m0, .inr (4, [.int th, .int msz, .int (nI nb), .ref m1, .ref m2, .ref m3, .ref m4, .ref m5, .ref m6, .ref m7, .ref m8, .int li, .int nht, .long la, .long lb, .int lx, .long ia, .long ib, .int ix, .long oa, .long ob, .ref m9, .ref m10, .ref m11, .ref m12, .ref m13, .int hry, .int rh, .int rl, .ref m14, .ref m15, .ref m16, .ref m17, .ref m18, .ref m19, .ref m20, .int fc, .ref m21])), (m1, .inl (cI, 120, .inl cs)), (m3, .inl (cI, 20, .inl sh))] sz) ([(m0, .inr (4, [.int 0, .int msz, .int (nI (nb + 1)), .ref m1, .ref m2, .ref m3, .ref m4, .ref m5, .ref m6, .ref m7, .ref m8, .int li, .int nht, .long la, .long lb, .int lx, .long ia, .long ib, .int ix, .long oa, .long ob, .ref m9, .ref m10, .ref m11, .ref m12, .ref m13, .int hry, .int rh, .int rl, .ref m14, .ref m15, .ref m16, .ref m17, .ref m18, .ref m19, .ref m20, .int fc, .ref m21])), (m1, .inl (cI, 120, .inl (upd (upd (upd (upd (upd (upd cs (6 * nb) x0) (6 * nb + 1) y0) (6 * nb + 2) z0) (6 * nb + 3) x1) (6 * nb + 4) y1) (6 * nb + 5) z1))), (m3, .inl (cI, 20, .inl (upd sh nb 1000)))])) (va_A [(m0, .inr (4, [.int th, .int msz, .int (nI nb), .ref m1, .ref m2, .ref m3, .ref m4, .ref m5, .ref m6, .ref m7, .ref m8, .int li, .int nht, .long la, .long lb, .int lx, .long ia, .long ib, .int ix, .long oa, .long ob, .ref m9, .ref m10, .ref m11, .ref m12, .ref m13, .int hry, .int rh, .int rl, .ref m14, .ref m15, .ref m16, .ref m17, .ref m18, .ref m19, .ref m20, .int fc, .ref m21])), (m1, .inl (cI, 120, .inl cs)), (m3, .inl (cI, 20, .inl sh))] sz)) 0 0 (va_A [(m0, .inr (4, [.int th, .int msz, .int (nI nb), .ref m1, .ref m2, .ref m3, .ref m4, .ref m5, .ref m6, .ref m7, .ref m8, .int li, .int nht, .long la, .long lb, .int lx, .long ia, .long ib, .int ix, .long oa, .long ob, .ref m9, .ref m10, .ref m11, .ref m12, .ref m13, .int hry, .int rh, .int rl, .ref m14, .ref m15, .ref m16, .ref m17, .ref m18, .ref m19, .ref m20, .int fc, .ref m21])), (m1, .inl (cI, 120, .inl cs)), (m3, .inl (cI, 20, .inl sh))] sz) := by
  refine Met.ofW (cc := cX4_box) (maxL := 9) (ret := (some .int)) (by decide) rfl ?_
  intro p e s m args below meth c s₁ B hml hv
  obtain ⟨rfl, hsz, hP, hK, hD0, hZ⟩ := hv
  have hx := B.exec
  have hb := B.bytes
  have hr := B.returns
  have hg : ∀ w ∈ gw, w.before _ s = true := fun w h => atoms_spec (ws := Cond.code yX4_box cX4_box 9 (some .int) :: gw) B.pre w (List.mem_cons_of_mem _ h)
  have hown : s.vm.findClass RX4 = some m.cls := findClass_of_methodNamed B.named
  have hlocks := B.notSynchronized
  subst hsz
  have hD := hD0.self (sz := s.heap.size)
  generalize hAe : va_A [(m0, .inr (4, [.int th, .int msz, .int (nI nb), .ref m1, .ref m2, .ref m3, .ref m4, .ref m5, .ref m6, .ref m7, .ref m8, .int li, .int nht, .long la, .long lb, .int lx, .long ia, .long ib, .int ix, .long oa, .long ob, .ref m9, .ref m10, .ref m11, .ref m12, .ref m13, .int hry, .int rh, .int rl, .ref m14, .ref m15, .ref m16, .ref m17, .ref m18, .ref m19, .ref m20, .int fc, .ref m21])), (m1, .inl (cI, 120, .inl cs)), (m3, .inl (cI, 20, .inl sh))] s.heap.size = A at hD ⊢
  have hA : ∀ q : Nat, s.heap.size ≤ q → A q := fun q h => by rw [← hAe]; exact Or.inr h
  have hS : va_S A s.heap s.heap [] := va_S.rf
  have hP : va_P D vwCl [(m0, .inr (4, [.int th, .int msz, .int (nI nb), .ref m1, .ref m2, .ref m3, .ref m4, .ref m5, .ref m6, .ref m7, .ref m8, .int li, .int nht, .long la, .long lb, .int lx, .long ia, .long ib, .int ix, .long oa, .long ob, .ref m9, .ref m10, .ref m11, .ref m12, .ref m13, .int hry, .int rh, .int rl, .ref m14, .ref m15, .ref m16, .ref m17, .ref m18, .ref m19, .ref m20, .int fc, .ref m21])), (m1, .inl (cI, 120, .inl cs)), (m3, .inl (cI, 20, .inl sh))] s.heap := hP
  have hl := lv_entry ([.ref m0, .int x0, .int y0, .int z0, .int x1, .int y1, .int z1]) (n := 9) (Nat.le_of_ble_eq_true rfl)
  rw [lg_entry_eq]
  generalize (lg_sl ([.ref m0, .int x0, .int y0, .int z0, .int x1, .int y1, .int z1]) ++ List.replicate (9 - (lg_sl ([.ref m0, .int x0, .int y0, .int z0, .int x1, .int y1, .int z1])).length) Slot.unset).toArray = ls at hl ⊢
  have hl : lv_has ls 9 [(0, .ref m0), (1, .int x0), (2, .int y0), (3, .int z0), (4, .int x1), (5, .int y1), (6, .int z1)] := hl
  refine lv_aload_n hx hb dX4_box_0 rfl (lv_at hl 0 rfl) ?_
  refine lv_iload_n hx hb dX4_box_1 rfl (lv_at hl 1 rfl) ?_
  refine lv_iload_n hx hb dX4_box_2 rfl (lv_at hl 2 rfl) ?_
  refine lv_iload_n hx hb dX4_box_3 rfl (lv_at hl 3 rfl) ?_
  have hPc := hP.sub (ws' := [(m0, .inr (4, [.int th, .int msz, .int (nI nb), .ref m1, .ref m2, .ref m3, .ref m4, .ref m5, .ref m6, .ref m7, .ref m8, .int li, .int nht, .long la, .long lb, .int lx, .long ia, .long ib, .int ix, .long oa, .long ob, .ref m9, .ref m10, .ref m11, .ref m12, .ref m13, .int hry, .int rh, .int rl, .ref m14, .ref m15, .ref m16, .ref m17, .ref m18, .ref m19, .ref m20, .int fc, .ref m21]))]) [0] rfl
  refine rq_call (va_runV (As := [.int x0, .int y0, .int z0]) (rest := []) ⟨hx, hb, hml, hown, hg⟩ (qX4_arePlaces l D cI cZ cJ m0 m1 m2 m3 m4 m5 m6 m7 m8 m9 m10 m11 m12 m13 m14 m15 m16 m17 m18 m19 m20 m21 th msz (nI nb) li nht lx ix hry rh rl fc la lb ia ib oa ob x0 y0 z0) (cwV 3 hg (gw_V kw617 kw619 kw23 kw41 kw620) rfl rfl rfl (by decide +kernel) ⟨Nat.le_of_ble_eq_true rfl, Nat.le_of_ble_eq_true rfl⟩) (pq_preV hPc hK hZ (va_recv hK hPc (ci := 4) (q0 := 0) rfl rfl)) rfl rfl hl.1 rfl (lv_room (Nat.le_of_ble_eq_true rfl)) dX4_box_4 ⟨Nat.le_of_ble_eq_true rfl, Nat.le_of_ble_eq_true rfl⟩) ?_
  refine lv_if_eq (tgt := 45) hx hb dX4_box_7 (by decide) (fun c7 => absurd c7 (bI_nz hR.1)) (fun _ => ?_)
  refine lv_aload_n hx hb dX4_box_10 rfl (lv_at hl 0 rfl) ?_
  refine lv_iload hx hb dX4_box_11 (lv_at hl 4 rfl) ?_
  refine lv_iload hx hb dX4_box_13 (lv_at hl 5 rfl) ?_
  refine lv_iload hx hb dX4_box_15 (lv_at hl 6 rfl) ?_
  have hPc := hP.sub (ws' := [(m0, .inr (4, [.int th, .int msz, .int (nI nb), .ref m1, .ref m2, .ref m3, .ref m4, .ref m5, .ref m6, .ref m7, .ref m8, .int li, .int nht, .long la, .long lb, .int lx, .long ia, .long ib, .int ix, .long oa, .long ob, .ref m9, .ref m10, .ref m11, .ref m12, .ref m13, .int hry, .int rh, .int rl, .ref m14, .ref m15, .ref m16, .ref m17, .ref m18, .ref m19, .ref m20, .int fc, .ref m21]))]) [0] rfl
  refine rq_call (va_runV (As := [.int x1, .int y1, .int z1]) (rest := []) ⟨hx, hb, hml, hown, hg⟩ (qX4_arePlaces l D cI cZ cJ m0 m1 m2 m3 m4 m5 m6 m7 m8 m9 m10 m11 m12 m13 m14 m15 m16 m17 m18 m19 m20 m21 th msz (nI nb) li nht lx ix hry rh rl fc la lb ia ib oa ob x1 y1 z1) (cwV 3 hg (gw_V kw617 kw619 kw23 kw41 kw620) rfl rfl rfl (by decide +kernel) ⟨Nat.le_of_ble_eq_true rfl, Nat.le_of_ble_eq_true rfl⟩) (pq_preV hPc hK hZ (va_recv hK hPc (ci := 4) (q0 := 0) rfl rfl)) rfl rfl hl.1 rfl (lv_room (Nat.le_of_ble_eq_true rfl)) dX4_box_17 ⟨Nat.le_of_ble_eq_true rfl, Nat.le_of_ble_eq_true rfl⟩) ?_
  refine lv_if_eq (tgt := 45) hx hb dX4_box_20 (by decide) (fun c20 => absurd c20 (bI_nz hR.2.1)) (fun _ => ?_)
  refine lv_iload_n hx hb dX4_box_23 rfl (lv_at hl 1 rfl) ?_
  refine lv_iload hx hb dX4_box_24 (lv_at hl 4 rfl) ?_
  refine lv_icmp_ge (tgt := 45) hx hb dX4_box_26 (by decide) (fun c26 => absurd c26 (Int32.not_le.mpr hR.2.2.1)) (fun _ => ?_)
  refine lv_iload_n hx hb dX4_box_29 rfl (lv_at hl 2 rfl) ?_
  refine lv_iload hx hb dX4_box_30 (lv_at hl 5 rfl) ?_
  refine lv_icmp_ge (tgt := 45) hx hb dX4_box_32 (by decide) (fun c32 => absurd c32 (Int32.not_le.mpr hR.2.2.2.1)) (fun _ => ?_)
  refine lv_iload_n hx hb dX4_box_35 rfl (lv_at hl 3 rfl) ?_
  refine lv_iload hx hb dX4_box_36 (lv_at hl 6 rfl) ?_
  refine lv_icmp_ge (tgt := 45) hx hb dX4_box_38 (by decide) (fun c38 => absurd c38 (Int32.not_le.mpr hR.2.2.2.2)) (fun _ => ?_)
  refine lv_iconst (v := 1) hx hb dX4_box_41 (by decide) ?_
  refine lv_goto (tgt := 46) hx hb dX4_box_42 (by decide) ?_
  refine lv_istore (lv' := [(7, .int 1), (0, .ref m0), (1, .int x0), (2, .int y0), (3, .int z0), (4, .int x1), (5, .int y1), (6, .int z1)]) hx hb dX4_box_46 hl (by decide) rfl (fun ls hl => ?_)
  refine lv_aload_n hx hb dX4_box_48 rfl (lv_at hl 1 rfl) ?_
  refine lv_iload hx hb dX4_box_49 (lv_at hl 0 rfl) ?_
  refine lv_if_ne (tgt := 58) hx hb dX4_box_51 (by decide) (fun _ => ?_) (fun c51 => absurd c51 (by decide))
  refine lv_aload_n hx hb dX4_box_58 rfl (lv_at hl 1 rfl) ?_
  refine va_get (D := D) (ci := 4) (v := .int (nI nb)) (C := RX4) (T := TX4) (N := 38) hx hb hg iX4 hown hK hP 0 rfl rfl 2 (by decide) (hg _ kw495) (fun _ h9 => h9) rfl dX4_box_59 ?_
  refine lv_bipush (v := 20) hx hb dX4_box_62 (by decide) ?_
  refine lv_icmp_ne (tgt := 71) hx hb dX4_box_64 (by decide) (fun _ => ?_) (fun c64 => absurd c64 (nI_ne20 hn))
  refine lv_iconst (v := 0) hx hb dX4_box_71 (by decide) ?_
  refine va_put (D := D) (ci := 4) (v := .int 0) (ty := .int) (C := RX4) (T := TX4) (N := 38) hx hb hg iX4 tyX4 tyX4_ok nmX4 hown hK hP hD hS 0 rfl rfl 0 (by decide) (hg _ kw493) (fun _ h9 => h9) rfl (by decide +kernel) rfl rfl (Nat.le_of_ble_eq_true rfl) dX4_box_72 (fun H locs hP hD hS => ?_)
  have hP : va_P D vwCl [(m0, .inr (4, [.int 0, .int msz, .int (nI nb), .ref m1, .ref m2, .ref m3, .ref m4, .ref m5, .ref m6, .ref m7, .ref m8, .int li, .int nht, .long la, .long lb, .int lx, .long ia, .long ib, .int ix, .long oa, .long ob, .ref m9, .ref m10, .ref m11, .ref m12, .ref m13, .int hry, .int rh, .int rl, .ref m14, .ref m15, .ref m16, .ref m17, .ref m18, .ref m19, .ref m20, .int fc, .ref m21])), (m1, .inl (cI, 120, .inl cs)), (m3, .inl (cI, 20, .inl sh))] H := hP
  have hD : va_D A [(m0, .inr (4, [.int 0, .int msz, .int (nI nb), .ref m1, .ref m2, .ref m3, .ref m4, .ref m5, .ref m6, .ref m7, .ref m8, .int li, .int nht, .long la, .long lb, .int lx, .long ia, .long ib, .int ix, .long oa, .long ob, .ref m9, .ref m10, .ref m11, .ref m12, .ref m13, .int hry, .int rh, .int rl, .ref m14, .ref m15, .ref m16, .ref m17, .ref m18, .ref m19, .ref m20, .int fc, .ref m21])), (m1, .inl (cI, 120, .inl cs)), (m3, .inl (cI, 20, .inl sh))] := hD
  refine lv_aload_n hx hb dX4_box_75 rfl (lv_at hl 1 rfl) ?_
  refine va_get (D := D) (ci := 4) (v := .int 0) (C := RX4) (T := TX4) (N := 38) hx hb hg iX4 hown hK hP 0 rfl rfl 0 (by decide) (hg _ kw493) (fun _ h9 => h9) rfl dX4_box_76 ?_
  refine lv_if_le (tgt := 84) hx hb dX4_box_79 (by decide) (fun _ => ?_) (fun c79 => absurd (by decide) c79)
  refine lv_bipush (v := 6) hx hb dX4_box_84 (by decide) ?_
  refine lv_aload_n hx hb dX4_box_86 rfl (lv_at hl 1 rfl) ?_
  refine va_get (D := D) (ci := 4) (v := .int (nI nb)) (C := RX4) (T := TX4) (N := 38) hx hb hg iX4 hown hK hP 0 rfl rfl 2 (by decide) (hg _ kw495) (fun _ h9 => h9) rfl dX4_box_87 ?_
  refine lv_imul hx hb dX4_box_90 ?_
  refine lv_istore (lv' := [(8, .int (6 * (nI nb))), (7, .int 1), (0, .ref m0), (1, .int x0), (2, .int y0), (3, .int z0), (4, .int x1), (5, .int y1), (6, .int z1)]) hx hb dX4_box_91 hl (by decide) rfl (fun ls hl => ?_)
  refine lv_aload_n hx hb dX4_box_93 rfl (lv_at hl 2 rfl) ?_
  refine va_get (D := D) (ci := 4) (v := .ref m1) (C := RX4) (T := TX4) (N := 38) hx hb hg iX4 hown hK hP 0 rfl rfl 3 (by decide) (hg _ kw496) (fun _ h9 => h9) rfl dX4_box_94 ?_
  refine lv_iload hx hb dX4_box_97 (lv_at hl 0 rfl) ?_
  refine lv_iload_n hx hb dX4_box_99 rfl (lv_at hl 3 rfl) ?_
  refine va_iast hx hb hK hP hD hS 1 0 rfl rfl (vin60 (by omega) (by decide)) dX4_box_100 (fun H locs hP hD hS => ?_)
  rw [show (6 * (nI nb)).toNatClampNeg = 6 * nb from vcl60 (by omega)] at hP hD
  have hP : va_P D vwCl [(m0, .inr (4, [.int 0, .int msz, .int (nI nb), .ref m1, .ref m2, .ref m3, .ref m4, .ref m5, .ref m6, .ref m7, .ref m8, .int li, .int nht, .long la, .long lb, .int lx, .long ia, .long ib, .int ix, .long oa, .long ob, .ref m9, .ref m10, .ref m11, .ref m12, .ref m13, .int hry, .int rh, .int rl, .ref m14, .ref m15, .ref m16, .ref m17, .ref m18, .ref m19, .ref m20, .int fc, .ref m21])), (m1, .inl (cI, 120, .inl (upd cs (6 * nb) x0))), (m3, .inl (cI, 20, .inl sh))] H := hP
  have hD : va_D A [(m0, .inr (4, [.int 0, .int msz, .int (nI nb), .ref m1, .ref m2, .ref m3, .ref m4, .ref m5, .ref m6, .ref m7, .ref m8, .int li, .int nht, .long la, .long lb, .int lx, .long ia, .long ib, .int ix, .long oa, .long ob, .ref m9, .ref m10, .ref m11, .ref m12, .ref m13, .int hry, .int rh, .int rl, .ref m14, .ref m15, .ref m16, .ref m17, .ref m18, .ref m19, .ref m20, .int fc, .ref m21])), (m1, .inl (cI, 120, .inl (upd cs (6 * nb) x0))), (m3, .inl (cI, 20, .inl sh))] := hD
  refine lv_aload_n hx hb dX4_box_101 rfl (lv_at hl 2 rfl) ?_
  refine va_get (D := D) (ci := 4) (v := .ref m1) (C := RX4) (T := TX4) (N := 38) hx hb hg iX4 hown hK hP 0 rfl rfl 3 (by decide) (hg _ kw496) (fun _ h9 => h9) rfl dX4_box_102 ?_
  refine lv_iload hx hb dX4_box_105 (lv_at hl 0 rfl) ?_
  refine lv_iconst (v := 1) hx hb dX4_box_107 (by decide) ?_
  refine lv_iadd hx hb dX4_box_108 ?_
  refine lv_iload_n hx hb dX4_box_109 rfl (lv_at hl 4 rfl) ?_
  refine va_iast hx hb hK hP hD hS 1 0 rfl rfl (vin6 (k := 1) (by omega) (by decide)) dX4_box_110 (fun H locs hP hD hS => ?_)
  rw [show ((6 * (nI nb)) + 1).toNatClampNeg = 6 * nb + 1 from vcl6 (k := 1) (by omega)] at hP hD
  have hP : va_P D vwCl [(m0, .inr (4, [.int 0, .int msz, .int (nI nb), .ref m1, .ref m2, .ref m3, .ref m4, .ref m5, .ref m6, .ref m7, .ref m8, .int li, .int nht, .long la, .long lb, .int lx, .long ia, .long ib, .int ix, .long oa, .long ob, .ref m9, .ref m10, .ref m11, .ref m12, .ref m13, .int hry, .int rh, .int rl, .ref m14, .ref m15, .ref m16, .ref m17, .ref m18, .ref m19, .ref m20, .int fc, .ref m21])), (m1, .inl (cI, 120, .inl (upd (upd cs (6 * nb) x0) (6 * nb + 1) y0))), (m3, .inl (cI, 20, .inl sh))] H := hP
  have hD : va_D A [(m0, .inr (4, [.int 0, .int msz, .int (nI nb), .ref m1, .ref m2, .ref m3, .ref m4, .ref m5, .ref m6, .ref m7, .ref m8, .int li, .int nht, .long la, .long lb, .int lx, .long ia, .long ib, .int ix, .long oa, .long ob, .ref m9, .ref m10, .ref m11, .ref m12, .ref m13, .int hry, .int rh, .int rl, .ref m14, .ref m15, .ref m16, .ref m17, .ref m18, .ref m19, .ref m20, .int fc, .ref m21])), (m1, .inl (cI, 120, .inl (upd (upd cs (6 * nb) x0) (6 * nb + 1) y0))), (m3, .inl (cI, 20, .inl sh))] := hD
  refine lv_aload_n hx hb dX4_box_111 rfl (lv_at hl 2 rfl) ?_
  refine va_get (D := D) (ci := 4) (v := .ref m1) (C := RX4) (T := TX4) (N := 38) hx hb hg iX4 hown hK hP 0 rfl rfl 3 (by decide) (hg _ kw496) (fun _ h9 => h9) rfl dX4_box_112 ?_
  refine lv_iload hx hb dX4_box_115 (lv_at hl 0 rfl) ?_
  refine lv_iconst (v := 2) hx hb dX4_box_117 (by decide) ?_
  refine lv_iadd hx hb dX4_box_118 ?_
  refine lv_iload_n hx hb dX4_box_119 rfl (lv_at hl 5 rfl) ?_
  refine va_iast hx hb hK hP hD hS 1 0 rfl rfl (vin6 (k := 2) (by omega) (by decide)) dX4_box_120 (fun H locs hP hD hS => ?_)
  rw [show ((6 * (nI nb)) + 2).toNatClampNeg = 6 * nb + 2 from vcl6 (k := 2) (by omega)] at hP hD
  have hP : va_P D vwCl [(m0, .inr (4, [.int 0, .int msz, .int (nI nb), .ref m1, .ref m2, .ref m3, .ref m4, .ref m5, .ref m6, .ref m7, .ref m8, .int li, .int nht, .long la, .long lb, .int lx, .long ia, .long ib, .int ix, .long oa, .long ob, .ref m9, .ref m10, .ref m11, .ref m12, .ref m13, .int hry, .int rh, .int rl, .ref m14, .ref m15, .ref m16, .ref m17, .ref m18, .ref m19, .ref m20, .int fc, .ref m21])), (m1, .inl (cI, 120, .inl (upd (upd (upd cs (6 * nb) x0) (6 * nb + 1) y0) (6 * nb + 2) z0))), (m3, .inl (cI, 20, .inl sh))] H := hP
  have hD : va_D A [(m0, .inr (4, [.int 0, .int msz, .int (nI nb), .ref m1, .ref m2, .ref m3, .ref m4, .ref m5, .ref m6, .ref m7, .ref m8, .int li, .int nht, .long la, .long lb, .int lx, .long ia, .long ib, .int ix, .long oa, .long ob, .ref m9, .ref m10, .ref m11, .ref m12, .ref m13, .int hry, .int rh, .int rl, .ref m14, .ref m15, .ref m16, .ref m17, .ref m18, .ref m19, .ref m20, .int fc, .ref m21])), (m1, .inl (cI, 120, .inl (upd (upd (upd cs (6 * nb) x0) (6 * nb + 1) y0) (6 * nb + 2) z0))), (m3, .inl (cI, 20, .inl sh))] := hD
  refine lv_aload_n hx hb dX4_box_121 rfl (lv_at hl 2 rfl) ?_
  refine va_get (D := D) (ci := 4) (v := .ref m1) (C := RX4) (T := TX4) (N := 38) hx hb hg iX4 hown hK hP 0 rfl rfl 3 (by decide) (hg _ kw496) (fun _ h9 => h9) rfl dX4_box_122 ?_
  refine lv_iload hx hb dX4_box_125 (lv_at hl 0 rfl) ?_
  refine lv_iconst (v := 3) hx hb dX4_box_127 (by decide) ?_
  refine lv_iadd hx hb dX4_box_128 ?_
  refine lv_iload hx hb dX4_box_129 (lv_at hl 6 rfl) ?_
  refine va_iast hx hb hK hP hD hS 1 0 rfl rfl (vin6 (k := 3) (by omega) (by decide)) dX4_box_131 (fun H locs hP hD hS => ?_)
  rw [show ((6 * (nI nb)) + 3).toNatClampNeg = 6 * nb + 3 from vcl6 (k := 3) (by omega)] at hP hD
  have hP : va_P D vwCl [(m0, .inr (4, [.int 0, .int msz, .int (nI nb), .ref m1, .ref m2, .ref m3, .ref m4, .ref m5, .ref m6, .ref m7, .ref m8, .int li, .int nht, .long la, .long lb, .int lx, .long ia, .long ib, .int ix, .long oa, .long ob, .ref m9, .ref m10, .ref m11, .ref m12, .ref m13, .int hry, .int rh, .int rl, .ref m14, .ref m15, .ref m16, .ref m17, .ref m18, .ref m19, .ref m20, .int fc, .ref m21])), (m1, .inl (cI, 120, .inl (upd (upd (upd (upd cs (6 * nb) x0) (6 * nb + 1) y0) (6 * nb + 2) z0) (6 * nb + 3) x1))), (m3, .inl (cI, 20, .inl sh))] H := hP
  have hD : va_D A [(m0, .inr (4, [.int 0, .int msz, .int (nI nb), .ref m1, .ref m2, .ref m3, .ref m4, .ref m5, .ref m6, .ref m7, .ref m8, .int li, .int nht, .long la, .long lb, .int lx, .long ia, .long ib, .int ix, .long oa, .long ob, .ref m9, .ref m10, .ref m11, .ref m12, .ref m13, .int hry, .int rh, .int rl, .ref m14, .ref m15, .ref m16, .ref m17, .ref m18, .ref m19, .ref m20, .int fc, .ref m21])), (m1, .inl (cI, 120, .inl (upd (upd (upd (upd cs (6 * nb) x0) (6 * nb + 1) y0) (6 * nb + 2) z0) (6 * nb + 3) x1))), (m3, .inl (cI, 20, .inl sh))] := hD
  refine lv_aload_n hx hb dX4_box_132 rfl (lv_at hl 2 rfl) ?_
  refine va_get (D := D) (ci := 4) (v := .ref m1) (C := RX4) (T := TX4) (N := 38) hx hb hg iX4 hown hK hP 0 rfl rfl 3 (by decide) (hg _ kw496) (fun _ h9 => h9) rfl dX4_box_133 ?_
  refine lv_iload hx hb dX4_box_136 (lv_at hl 0 rfl) ?_
  refine lv_iconst (v := 4) hx hb dX4_box_138 (by decide) ?_
  refine lv_iadd hx hb dX4_box_139 ?_
  refine lv_iload hx hb dX4_box_140 (lv_at hl 7 rfl) ?_
  refine va_iast hx hb hK hP hD hS 1 0 rfl rfl (vin6 (k := 4) (by omega) (by decide)) dX4_box_142 (fun H locs hP hD hS => ?_)
  rw [show ((6 * (nI nb)) + 4).toNatClampNeg = 6 * nb + 4 from vcl6 (k := 4) (by omega)] at hP hD
  have hP : va_P D vwCl [(m0, .inr (4, [.int 0, .int msz, .int (nI nb), .ref m1, .ref m2, .ref m3, .ref m4, .ref m5, .ref m6, .ref m7, .ref m8, .int li, .int nht, .long la, .long lb, .int lx, .long ia, .long ib, .int ix, .long oa, .long ob, .ref m9, .ref m10, .ref m11, .ref m12, .ref m13, .int hry, .int rh, .int rl, .ref m14, .ref m15, .ref m16, .ref m17, .ref m18, .ref m19, .ref m20, .int fc, .ref m21])), (m1, .inl (cI, 120, .inl (upd (upd (upd (upd (upd cs (6 * nb) x0) (6 * nb + 1) y0) (6 * nb + 2) z0) (6 * nb + 3) x1) (6 * nb + 4) y1))), (m3, .inl (cI, 20, .inl sh))] H := hP
  have hD : va_D A [(m0, .inr (4, [.int 0, .int msz, .int (nI nb), .ref m1, .ref m2, .ref m3, .ref m4, .ref m5, .ref m6, .ref m7, .ref m8, .int li, .int nht, .long la, .long lb, .int lx, .long ia, .long ib, .int ix, .long oa, .long ob, .ref m9, .ref m10, .ref m11, .ref m12, .ref m13, .int hry, .int rh, .int rl, .ref m14, .ref m15, .ref m16, .ref m17, .ref m18, .ref m19, .ref m20, .int fc, .ref m21])), (m1, .inl (cI, 120, .inl (upd (upd (upd (upd (upd cs (6 * nb) x0) (6 * nb + 1) y0) (6 * nb + 2) z0) (6 * nb + 3) x1) (6 * nb + 4) y1))), (m3, .inl (cI, 20, .inl sh))] := hD
  refine lv_aload_n hx hb dX4_box_143 rfl (lv_at hl 2 rfl) ?_
  refine va_get (D := D) (ci := 4) (v := .ref m1) (C := RX4) (T := TX4) (N := 38) hx hb hg iX4 hown hK hP 0 rfl rfl 3 (by decide) (hg _ kw496) (fun _ h9 => h9) rfl dX4_box_144 ?_
  refine lv_iload hx hb dX4_box_147 (lv_at hl 0 rfl) ?_
  refine lv_iconst (v := 5) hx hb dX4_box_149 (by decide) ?_
  refine lv_iadd hx hb dX4_box_150 ?_
  refine lv_iload hx hb dX4_box_151 (lv_at hl 8 rfl) ?_
  refine va_iast hx hb hK hP hD hS 1 0 rfl rfl (vin6 (k := 5) (by omega) (by decide)) dX4_box_153 (fun H locs hP hD hS => ?_)
  rw [show ((6 * (nI nb)) + 5).toNatClampNeg = 6 * nb + 5 from vcl6 (k := 5) (by omega)] at hP hD
  have hP : va_P D vwCl [(m0, .inr (4, [.int 0, .int msz, .int (nI nb), .ref m1, .ref m2, .ref m3, .ref m4, .ref m5, .ref m6, .ref m7, .ref m8, .int li, .int nht, .long la, .long lb, .int lx, .long ia, .long ib, .int ix, .long oa, .long ob, .ref m9, .ref m10, .ref m11, .ref m12, .ref m13, .int hry, .int rh, .int rl, .ref m14, .ref m15, .ref m16, .ref m17, .ref m18, .ref m19, .ref m20, .int fc, .ref m21])), (m1, .inl (cI, 120, .inl (upd (upd (upd (upd (upd (upd cs (6 * nb) x0) (6 * nb + 1) y0) (6 * nb + 2) z0) (6 * nb + 3) x1) (6 * nb + 4) y1) (6 * nb + 5) z1))), (m3, .inl (cI, 20, .inl sh))] H := hP
  have hD : va_D A [(m0, .inr (4, [.int 0, .int msz, .int (nI nb), .ref m1, .ref m2, .ref m3, .ref m4, .ref m5, .ref m6, .ref m7, .ref m8, .int li, .int nht, .long la, .long lb, .int lx, .long ia, .long ib, .int ix, .long oa, .long ob, .ref m9, .ref m10, .ref m11, .ref m12, .ref m13, .int hry, .int rh, .int rl, .ref m14, .ref m15, .ref m16, .ref m17, .ref m18, .ref m19, .ref m20, .int fc, .ref m21])), (m1, .inl (cI, 120, .inl (upd (upd (upd (upd (upd (upd cs (6 * nb) x0) (6 * nb + 1) y0) (6 * nb + 2) z0) (6 * nb + 3) x1) (6 * nb + 4) y1) (6 * nb + 5) z1))), (m3, .inl (cI, 20, .inl sh))] := hD
  refine lv_aload_n hx hb dX4_box_154 rfl (lv_at hl 2 rfl) ?_
  refine va_get (D := D) (ci := 4) (v := .ref m3) (C := RX4) (T := TX4) (N := 38) hx hb hg iX4 hown hK hP 0 rfl rfl 5 (by decide) (hg _ kw498) (fun _ h9 => h9) rfl dX4_box_155 ?_
  refine lv_aload_n hx hb dX4_box_158 rfl (lv_at hl 2 rfl) ?_
  refine va_get (D := D) (ci := 4) (v := .int (nI nb)) (C := RX4) (T := TX4) (N := 38) hx hb hg iX4 hown hK hP 0 rfl rfl 2 (by decide) (hg _ kw495) (fun _ h9 => h9) rfl dX4_box_159 ?_
  refine lv_sipush (v := 1000) hx hb dX4_box_162 (by decide) ?_
  refine va_iast hx hb hK hP hD hS 2 0 rfl rfl (vp_in_nI (by omega) (by decide)) dX4_box_165 (fun H locs hP hD hS => ?_)
  rw [show (nI nb).toNatClampNeg = nb from nI_clamp (by omega)] at hP hD
  have hP : va_P D vwCl [(m0, .inr (4, [.int 0, .int msz, .int (nI nb), .ref m1, .ref m2, .ref m3, .ref m4, .ref m5, .ref m6, .ref m7, .ref m8, .int li, .int nht, .long la, .long lb, .int lx, .long ia, .long ib, .int ix, .long oa, .long ob, .ref m9, .ref m10, .ref m11, .ref m12, .ref m13, .int hry, .int rh, .int rl, .ref m14, .ref m15, .ref m16, .ref m17, .ref m18, .ref m19, .ref m20, .int fc, .ref m21])), (m1, .inl (cI, 120, .inl (upd (upd (upd (upd (upd (upd cs (6 * nb) x0) (6 * nb + 1) y0) (6 * nb + 2) z0) (6 * nb + 3) x1) (6 * nb + 4) y1) (6 * nb + 5) z1))), (m3, .inl (cI, 20, .inl (upd sh nb 1000)))] H := hP
  have hD : va_D A [(m0, .inr (4, [.int 0, .int msz, .int (nI nb), .ref m1, .ref m2, .ref m3, .ref m4, .ref m5, .ref m6, .ref m7, .ref m8, .int li, .int nht, .long la, .long lb, .int lx, .long ia, .long ib, .int ix, .long oa, .long ob, .ref m9, .ref m10, .ref m11, .ref m12, .ref m13, .int hry, .int rh, .int rl, .ref m14, .ref m15, .ref m16, .ref m17, .ref m18, .ref m19, .ref m20, .int fc, .ref m21])), (m1, .inl (cI, 120, .inl (upd (upd (upd (upd (upd (upd cs (6 * nb) x0) (6 * nb + 1) y0) (6 * nb + 2) z0) (6 * nb + 3) x1) (6 * nb + 4) y1) (6 * nb + 5) z1))), (m3, .inl (cI, 20, .inl (upd sh nb 1000)))] := hD
  refine lv_aload_n hx hb dX4_box_166 rfl (lv_at hl 2 rfl) ?_
  refine lv_dup hx hb dX4_box_167 rfl ?_
  refine va_get (D := D) (ci := 4) (v := .int (nI nb)) (C := RX4) (T := TX4) (N := 38) hx hb hg iX4 hown hK hP 0 rfl rfl 2 (by decide) (hg _ kw495) (fun _ h9 => h9) rfl dX4_box_168 ?_
  refine lv_iconst (v := 1) hx hb dX4_box_171 (by decide) ?_
  refine lv_iadd hx hb dX4_box_172 ?_
  refine tp_i (y := nI (nb + 1)) (nI_1 nb) ?_
  refine va_put (D := D) (ci := 4) (v := .int (nI (nb + 1))) (ty := .int) (C := RX4) (T := TX4) (N := 38) hx hb hg iX4 tyX4 tyX4_ok nmX4 hown hK hP hD hS 0 rfl rfl 2 (by decide) (hg _ kw495) (fun _ h9 => h9) rfl (by decide +kernel) rfl rfl (Nat.le_of_ble_eq_true rfl) dX4_box_173 (fun H locs hP hD hS => ?_)
  have hP : va_P D vwCl [(m0, .inr (4, [.int 0, .int msz, .int (nI (nb + 1)), .ref m1, .ref m2, .ref m3, .ref m4, .ref m5, .ref m6, .ref m7, .ref m8, .int li, .int nht, .long la, .long lb, .int lx, .long ia, .long ib, .int ix, .long oa, .long ob, .ref m9, .ref m10, .ref m11, .ref m12, .ref m13, .int hry, .int rh, .int rl, .ref m14, .ref m15, .ref m16, .ref m17, .ref m18, .ref m19, .ref m20, .int fc, .ref m21])), (m1, .inl (cI, 120, .inl (upd (upd (upd (upd (upd (upd cs (6 * nb) x0) (6 * nb + 1) y0) (6 * nb + 2) z0) (6 * nb + 3) x1) (6 * nb + 4) y1) (6 * nb + 5) z1))), (m3, .inl (cI, 20, .inl (upd sh nb 1000)))] H := hP
  have hD : va_D A [(m0, .inr (4, [.int 0, .int msz, .int (nI (nb + 1)), .ref m1, .ref m2, .ref m3, .ref m4, .ref m5, .ref m6, .ref m7, .ref m8, .int li, .int nht, .long la, .long lb, .int lx, .long ia, .long ib, .int ix, .long oa, .long ob, .ref m9, .ref m10, .ref m11, .ref m12, .ref m13, .int hry, .int rh, .int rl, .ref m14, .ref m15, .ref m16, .ref m17, .ref m18, .ref m19, .ref m20, .int fc, .ref m21])), (m1, .inl (cI, 120, .inl (upd (upd (upd (upd (upd (upd cs (6 * nb) x0) (6 * nb + 1) y0) (6 * nb + 2) z0) (6 * nb + 3) x1) (6 * nb + 4) y1) (6 * nb + 5) z1))), (m3, .inl (cI, 20, .inl (upd sh nb 1000)))] := hD
  refine lv_aload_n hx hb dX4_box_176 rfl (lv_at hl 2 rfl) ?_
  refine va_get (D := D) (ci := 4) (v := .int (nI (nb + 1))) (C := RX4) (T := TX4) (N := 38) hx hb hg iX4 hown hK hP 0 rfl rfl 2 (by decide) (hg _ kw495) (fun _ h9 => h9) rfl dX4_box_177 ?_
  refine lv_iconst (v := 1) hx hb dX4_box_180 (by decide) ?_
  refine lv_isub hx hb dX4_box_181 ?_
  exact W.iret (v := (nI (nb + 1)) - 1) hx hb hr (fun t ht hW => ⟨⟨(nI (nb + 1)) - 1, (), rfl, nI_pred nb, bq_end hP hK hD ht hW⟩, hS.F ht⟩) hS.2.2 dX4_box_182

set_option maxHeartbeats 4000000 in
set_option maxRecDepth 100000 in
theorem qX4_box_no1 (l : Launch) (D : va_G) (cI cZ cJ : ClassId) (m0 m1 m2 m3 m4 m5 m6 m7 m8 m9 m10 m11 m12 m13 m14 m15 m16 m17 m18 m19 m20 m21 : Nat) (th msz cn li nht lx ix hry rh rl fc : Int32) (la lb ia ib oa ob : Int64) (x0 y0 z0 x1 y1 z1 : Int32) (hR : ¬ (ptB msz x0 y0 z0 = true ∧ ptB msz x1 y1 z1 = true ∧ x0 < x1 ∧ y0 < y1 ∧ z0 < z1)) (sz : Nat) : Met l yX4_box (Cond.code yX4_box cX4_box 9 (some .int) :: gw) ({ frames := 3, cells := 0, slots := 0, locals := 66 }) (wq D [.ref m0, .int x0, .int y0, .int z0, .int x1, .int y1, .int z1] sz [(m0, .inr (4, [.int th, .int msz, .int cn, .ref m1, .ref m2, .ref m3, .ref m4, .ref m5, .ref m6, .ref m7, .ref m8, .int li, .int nht, .long la, .long lb, .int lx, .long ia, .long ib, .int ix, .long oa, .long ob, .ref m9, .ref m10, .ref m11, .ref m12, .ref m13, .int hry, .int rh, .int rl, .ref m14, .ref m15, .ref m16, .ref m17, .ref m18, .ref m19, .ref m20, .int fc, .ref m21]))] [(cI, .int), (cZ, .boolean), (cJ, .long)]) (va_Qi (S := Unit) (fun _ _ => True) (fun u => bq D [(cI, .int), (cZ, .boolean), (cJ, .long)] (va_A [(m0, .inr (4, [.int th, .int msz, .int cn, .ref m1, .ref m2, .ref m3, .ref m4, .ref m5, .ref m6, .ref m7, .ref m8, .int li, .int nht, .long la, .long lb, .int lx, .long ia, .long ib, .int ix, .long oa, .long ob, .ref m9, .ref m10, .ref m11, .ref m12, .ref m13, .int hry, .int rh, .int rl, .ref m14, .ref m15, .ref m16, .ref m17, .ref m18, .ref m19, .ref m20, .int fc, .ref m21]))] sz) ([(m0, .inr (4, [.int 1, .int msz, .int cn, .ref m1, .ref m2, .ref m3, .ref m4, .ref m5, .ref m6, .ref m7, .ref m8, .int li, .int nht, .long la, .long lb, .int lx, .long ia, .long ib, .int ix, .long oa, .long ob, .ref m9, .ref m10, .ref m11, .ref m12, .ref m13, .int hry, .int rh, .int rl, .ref m14, .ref m15, .ref m16, .ref m17, .ref m18, .ref m19, .ref m20, .int fc, .ref m21]))])) (va_A [(m0, .inr (4, [.int th, .int msz, .int cn, .ref m1, .ref m2, .ref m3, .ref m4, .ref m5, .ref m6, .ref m7, .ref m8, .int li, .int nht, .long la, .long lb, .int lx, .long ia, .long ib, .int ix, .long oa, .long ob, .ref m9, .ref m10, .ref m11, .ref m12, .ref m13, .int hry, .int rh, .int rl, .ref m14, .ref m15, .ref m16, .ref m17, .ref m18, .ref m19, .ref m20, .int fc, .ref m21]))] sz)) 0 0 (va_A [(m0, .inr (4, [.int th, .int msz, .int cn, .ref m1, .ref m2, .ref m3, .ref m4, .ref m5, .ref m6, .ref m7, .ref m8, .int li, .int nht, .long la, .long lb, .int lx, .long ia, .long ib, .int ix, .long oa, .long ob, .ref m9, .ref m10, .ref m11, .ref m12, .ref m13, .int hry, .int rh, .int rl, .ref m14, .ref m15, .ref m16, .ref m17, .ref m18, .ref m19, .ref m20, .int fc, .ref m21]))] sz) := by
  refine Met.ofW (cc := cX4_box) (maxL := 9) (ret := (some .int)) (by decide) rfl ?_
  intro p e s m args below meth c s₁ B hml hv
  obtain ⟨rfl, hsz, hP, hK, hD0, hZ⟩ := hv
  have hx := B.exec
  have hb := B.bytes
  have hr := B.returns
  have hg : ∀ w ∈ gw, w.before _ s = true := fun w h => atoms_spec (ws := Cond.code yX4_box cX4_box 9 (some .int) :: gw) B.pre w (List.mem_cons_of_mem _ h)
  have hown : s.vm.findClass RX4 = some m.cls := findClass_of_methodNamed B.named
  have hlocks := B.notSynchronized
  subst hsz
  have hD := hD0.self (sz := s.heap.size)
  generalize hAe : va_A [(m0, .inr (4, [.int th, .int msz, .int cn, .ref m1, .ref m2, .ref m3, .ref m4, .ref m5, .ref m6, .ref m7, .ref m8, .int li, .int nht, .long la, .long lb, .int lx, .long ia, .long ib, .int ix, .long oa, .long ob, .ref m9, .ref m10, .ref m11, .ref m12, .ref m13, .int hry, .int rh, .int rl, .ref m14, .ref m15, .ref m16, .ref m17, .ref m18, .ref m19, .ref m20, .int fc, .ref m21]))] s.heap.size = A at hD ⊢
  have hA : ∀ q : Nat, s.heap.size ≤ q → A q := fun q h => by rw [← hAe]; exact Or.inr h
  have hS : va_S A s.heap s.heap [] := va_S.rf
  have hP : va_P D vwCl [(m0, .inr (4, [.int th, .int msz, .int cn, .ref m1, .ref m2, .ref m3, .ref m4, .ref m5, .ref m6, .ref m7, .ref m8, .int li, .int nht, .long la, .long lb, .int lx, .long ia, .long ib, .int ix, .long oa, .long ob, .ref m9, .ref m10, .ref m11, .ref m12, .ref m13, .int hry, .int rh, .int rl, .ref m14, .ref m15, .ref m16, .ref m17, .ref m18, .ref m19, .ref m20, .int fc, .ref m21]))] s.heap := hP
  have hl := lv_entry ([.ref m0, .int x0, .int y0, .int z0, .int x1, .int y1, .int z1]) (n := 9) (Nat.le_of_ble_eq_true rfl)
  rw [lg_entry_eq]
  generalize (lg_sl ([.ref m0, .int x0, .int y0, .int z0, .int x1, .int y1, .int z1]) ++ List.replicate (9 - (lg_sl ([.ref m0, .int x0, .int y0, .int z0, .int x1, .int y1, .int z1])).length) Slot.unset).toArray = ls at hl ⊢
  have hl : lv_has ls 9 [(0, .ref m0), (1, .int x0), (2, .int y0), (3, .int z0), (4, .int x1), (5, .int y1), (6, .int z1)] := hl
  refine lv_aload_n hx hb dX4_box_0 rfl (lv_at hl 0 rfl) ?_
  refine lv_iload_n hx hb dX4_box_1 rfl (lv_at hl 1 rfl) ?_
  refine lv_iload_n hx hb dX4_box_2 rfl (lv_at hl 2 rfl) ?_
  refine lv_iload_n hx hb dX4_box_3 rfl (lv_at hl 3 rfl) ?_
  have hPc := hP.sub (ws' := [(m0, .inr (4, [.int th, .int msz, .int cn, .ref m1, .ref m2, .ref m3, .ref m4, .ref m5, .ref m6, .ref m7, .ref m8, .int li, .int nht, .long la, .long lb, .int lx, .long ia, .long ib, .int ix, .long oa, .long ob, .ref m9, .ref m10, .ref m11, .ref m12, .ref m13, .int hry, .int rh, .int rl, .ref m14, .ref m15, .ref m16, .ref m17, .ref m18, .ref m19, .ref m20, .int fc, .ref m21]))]) [0] rfl
  refine rq_call (va_runV (As := [.int x0, .int y0, .int z0]) (rest := []) ⟨hx, hb, hml, hown, hg⟩ (qX4_arePlaces l D cI cZ cJ m0 m1 m2 m3 m4 m5 m6 m7 m8 m9 m10 m11 m12 m13 m14 m15 m16 m17 m18 m19 m20 m21 th msz cn li nht lx ix hry rh rl fc la lb ia ib oa ob x0 y0 z0) (cwV 3 hg (gw_V kw617 kw619 kw23 kw41 kw620) rfl rfl rfl (by decide +kernel) ⟨Nat.le_of_ble_eq_true rfl, Nat.le_of_ble_eq_true rfl⟩) (pq_preV hPc hK hZ (va_recv hK hPc (ci := 4) (q0 := 0) rfl rfl)) rfl rfl hl.1 rfl (lv_room (Nat.le_of_ble_eq_true rfl)) dX4_box_4 ⟨Nat.le_of_ble_eq_true rfl, Nat.le_of_ble_eq_true rfl⟩) ?_
  refine lv_if_eq (tgt := 45) hx hb dX4_box_7 (by decide) (fun c7 => ?_) (fun c7 => ?_)
  · replace c7 := bI_f c7
    refine lv_iconst (v := 0) hx hb dX4_box_45 (by decide) ?_
    refine lv_istore (lv' := [(7, .int 0), (0, .ref m0), (1, .int x0), (2, .int y0), (3, .int z0), (4, .int x1), (5, .int y1), (6, .int z1)]) hx hb dX4_box_46 hl (by decide) rfl (fun ls hl => ?_)
    refine lv_aload_n hx hb dX4_box_48 rfl (lv_at hl 1 rfl) ?_
    refine lv_iload hx hb dX4_box_49 (lv_at hl 0 rfl) ?_
    refine lv_if_ne (tgt := 58) hx hb dX4_box_51 (by decide) (fun c51 => absurd (by decide) c51) (fun _ => ?_)
    refine lv_iconst (v := 1) hx hb dX4_box_54 (by decide) ?_
    refine lv_goto (tgt := 72) hx hb dX4_box_55 (by decide) ?_
    refine va_put (D := D) (ci := 4) (v := .int 1) (ty := .int) (C := RX4) (T := TX4) (N := 38) hx hb hg iX4 tyX4 tyX4_ok nmX4 hown hK hP hD hS 0 rfl rfl 0 (by decide) (hg _ kw493) (fun _ h9 => h9) rfl (by decide +kernel) rfl rfl (Nat.le_of_ble_eq_true rfl) dX4_box_72 (fun H locs hP hD hS => ?_)
    have hP : va_P D vwCl [(m0, .inr (4, [.int 1, .int msz, .int cn, .ref m1, .ref m2, .ref m3, .ref m4, .ref m5, .ref m6, .ref m7, .ref m8, .int li, .int nht, .long la, .long lb, .int lx, .long ia, .long ib, .int ix, .long oa, .long ob, .ref m9, .ref m10, .ref m11, .ref m12, .ref m13, .int hry, .int rh, .int rl, .ref m14, .ref m15, .ref m16, .ref m17, .ref m18, .ref m19, .ref m20, .int fc, .ref m21]))] H := hP
    have hD : va_D A [(m0, .inr (4, [.int 1, .int msz, .int cn, .ref m1, .ref m2, .ref m3, .ref m4, .ref m5, .ref m6, .ref m7, .ref m8, .int li, .int nht, .long la, .long lb, .int lx, .long ia, .long ib, .int ix, .long oa, .long ob, .ref m9, .ref m10, .ref m11, .ref m12, .ref m13, .int hry, .int rh, .int rl, .ref m14, .ref m15, .ref m16, .ref m17, .ref m18, .ref m19, .ref m20, .int fc, .ref m21]))] := hD
    refine lv_aload_n hx hb dX4_box_75 rfl (lv_at hl 1 rfl) ?_
    refine va_get (D := D) (ci := 4) (v := .int 1) (C := RX4) (T := TX4) (N := 38) hx hb hg iX4 hown hK hP 0 rfl rfl 0 (by decide) (hg _ kw493) (fun _ h9 => h9) rfl dX4_box_76 ?_
    refine lv_if_le (tgt := 84) hx hb dX4_box_79 (by decide) (fun c79 => absurd c79 (by decide)) (fun _ => ?_)
    refine lv_iconst (v := 0) hx hb dX4_box_82 (by decide) ?_
    exact W.iret (v := 0) hx hb hr (fun t ht hW => ⟨⟨0, (), rfl, trivial, bq_end hP hK hD ht hW⟩, hS.F ht⟩) hS.2.2 dX4_box_83
  · replace c7 := bI_t c7
    refine lv_aload_n hx hb dX4_box_10 rfl (lv_at hl 0 rfl) ?_
    refine lv_iload hx hb dX4_box_11 (lv_at hl 4 rfl) ?_
    refine lv_iload hx hb dX4_box_13 (lv_at hl 5 rfl) ?_
    refine lv_iload hx hb dX4_box_15 (lv_at hl 6 rfl) ?_
    have hPc := hP.sub (ws' := [(m0, .inr (4, [.int th, .int msz, .int cn, .ref m1, .ref m2, .ref m3, .ref m4, .ref m5, .ref m6, .ref m7, .ref m8, .int li, .int nht, .long la, .long lb, .int lx, .long ia, .long ib, .int ix, .long oa, .long ob, .ref m9, .ref m10, .ref m11, .ref m12, .ref m13, .int hry, .int rh, .int rl, .ref m14, .ref m15, .ref m16, .ref m17, .ref m18, .ref m19, .ref m20, .int fc, .ref m21]))]) [0] rfl
    refine rq_call (va_runV (As := [.int x1, .int y1, .int z1]) (rest := []) ⟨hx, hb, hml, hown, hg⟩ (qX4_arePlaces l D cI cZ cJ m0 m1 m2 m3 m4 m5 m6 m7 m8 m9 m10 m11 m12 m13 m14 m15 m16 m17 m18 m19 m20 m21 th msz cn li nht lx ix hry rh rl fc la lb ia ib oa ob x1 y1 z1) (cwV 3 hg (gw_V kw617 kw619 kw23 kw41 kw620) rfl rfl rfl (by decide +kernel) ⟨Nat.le_of_ble_eq_true rfl, Nat.le_of_ble_eq_true rfl⟩) (pq_preV hPc hK hZ (va_recv hK hPc (ci := 4) (q0 := 0) rfl rfl)) rfl rfl hl.1 rfl (lv_room (Nat.le_of_ble_eq_true rfl)) dX4_box_17 ⟨Nat.le_of_ble_eq_true rfl, Nat.le_of_ble_eq_true rfl⟩) ?_
    refine lv_if_eq (tgt := 45) hx hb dX4_box_20 (by decide) (fun c20 => ?_) (fun c20 => ?_)
    · replace c20 := bI_f c20
      refine lv_iconst (v := 0) hx hb dX4_box_45 (by decide) ?_
      refine lv_istore (lv' := [(7, .int 0), (0, .ref m0), (1, .int x0), (2, .int y0), (3, .int z0), (4, .int x1), (5, .int y1), (6, .int z1)]) hx hb dX4_box_46 hl (by decide) rfl (fun ls hl => ?_)
      refine lv_aload_n hx hb dX4_box_48 rfl (lv_at hl 1 rfl) ?_
      refine lv_iload hx hb dX4_box_49 (lv_at hl 0 rfl) ?_
      refine lv_if_ne (tgt := 58) hx hb dX4_box_51 (by decide) (fun c51 => absurd (by decide) c51) (fun _ => ?_)
      refine lv_iconst (v := 1) hx hb dX4_box_54 (by decide) ?_
      refine lv_goto (tgt := 72) hx hb dX4_box_55 (by decide) ?_
      refine va_put (D := D) (ci := 4) (v := .int 1) (ty := .int) (C := RX4) (T := TX4) (N := 38) hx hb hg iX4 tyX4 tyX4_ok nmX4 hown hK hP hD hS 0 rfl rfl 0 (by decide) (hg _ kw493) (fun _ h9 => h9) rfl (by decide +kernel) rfl rfl (Nat.le_of_ble_eq_true rfl) dX4_box_72 (fun H locs hP hD hS => ?_)
      have hP : va_P D vwCl [(m0, .inr (4, [.int 1, .int msz, .int cn, .ref m1, .ref m2, .ref m3, .ref m4, .ref m5, .ref m6, .ref m7, .ref m8, .int li, .int nht, .long la, .long lb, .int lx, .long ia, .long ib, .int ix, .long oa, .long ob, .ref m9, .ref m10, .ref m11, .ref m12, .ref m13, .int hry, .int rh, .int rl, .ref m14, .ref m15, .ref m16, .ref m17, .ref m18, .ref m19, .ref m20, .int fc, .ref m21]))] H := hP
      have hD : va_D A [(m0, .inr (4, [.int 1, .int msz, .int cn, .ref m1, .ref m2, .ref m3, .ref m4, .ref m5, .ref m6, .ref m7, .ref m8, .int li, .int nht, .long la, .long lb, .int lx, .long ia, .long ib, .int ix, .long oa, .long ob, .ref m9, .ref m10, .ref m11, .ref m12, .ref m13, .int hry, .int rh, .int rl, .ref m14, .ref m15, .ref m16, .ref m17, .ref m18, .ref m19, .ref m20, .int fc, .ref m21]))] := hD
      refine lv_aload_n hx hb dX4_box_75 rfl (lv_at hl 1 rfl) ?_
      refine va_get (D := D) (ci := 4) (v := .int 1) (C := RX4) (T := TX4) (N := 38) hx hb hg iX4 hown hK hP 0 rfl rfl 0 (by decide) (hg _ kw493) (fun _ h9 => h9) rfl dX4_box_76 ?_
      refine lv_if_le (tgt := 84) hx hb dX4_box_79 (by decide) (fun c79 => absurd c79 (by decide)) (fun _ => ?_)
      refine lv_iconst (v := 0) hx hb dX4_box_82 (by decide) ?_
      exact W.iret (v := 0) hx hb hr (fun t ht hW => ⟨⟨0, (), rfl, trivial, bq_end hP hK hD ht hW⟩, hS.F ht⟩) hS.2.2 dX4_box_83
    · replace c20 := bI_t c20
      refine lv_iload_n hx hb dX4_box_23 rfl (lv_at hl 1 rfl) ?_
      refine lv_iload hx hb dX4_box_24 (lv_at hl 4 rfl) ?_
      refine lv_icmp_ge (tgt := 45) hx hb dX4_box_26 (by decide) (fun c26 => ?_) (fun c26 => ?_)
      · have c26n := Int32.not_lt.mpr c26
        refine lv_iconst (v := 0) hx hb dX4_box_45 (by decide) ?_
        refine lv_istore (lv' := [(7, .int 0), (0, .ref m0), (1, .int x0), (2, .int y0), (3, .int z0), (4, .int x1), (5, .int y1), (6, .int z1)]) hx hb dX4_box_46 hl (by decide) rfl (fun ls hl => ?_)
        refine lv_aload_n hx hb dX4_box_48 rfl (lv_at hl 1 rfl) ?_
        refine lv_iload hx hb dX4_box_49 (lv_at hl 0 rfl) ?_
        refine lv_if_ne (tgt := 58) hx hb dX4_box_51 (by decide) (fun c51 => absurd (by decide) c51) (fun _ => ?_)
        refine lv_iconst (v := 1) hx hb dX4_box_54 (by decide) ?_
        refine lv_goto (tgt := 72) hx hb dX4_box_55 (by decide) ?_
        refine va_put (D := D) (ci := 4) (v := .int 1) (ty := .int) (C := RX4) (T := TX4) (N := 38) hx hb hg iX4 tyX4 tyX4_ok nmX4 hown hK hP hD hS 0 rfl rfl 0 (by decide) (hg _ kw493) (fun _ h9 => h9) rfl (by decide +kernel) rfl rfl (Nat.le_of_ble_eq_true rfl) dX4_box_72 (fun H locs hP hD hS => ?_)
        have hP : va_P D vwCl [(m0, .inr (4, [.int 1, .int msz, .int cn, .ref m1, .ref m2, .ref m3, .ref m4, .ref m5, .ref m6, .ref m7, .ref m8, .int li, .int nht, .long la, .long lb, .int lx, .long ia, .long ib, .int ix, .long oa, .long ob, .ref m9, .ref m10, .ref m11, .ref m12, .ref m13, .int hry, .int rh, .int rl, .ref m14, .ref m15, .ref m16, .ref m17, .ref m18, .ref m19, .ref m20, .int fc, .ref m21]))] H := hP
        have hD : va_D A [(m0, .inr (4, [.int 1, .int msz, .int cn, .ref m1, .ref m2, .ref m3, .ref m4, .ref m5, .ref m6, .ref m7, .ref m8, .int li, .int nht, .long la, .long lb, .int lx, .long ia, .long ib, .int ix, .long oa, .long ob, .ref m9, .ref m10, .ref m11, .ref m12, .ref m13, .int hry, .int rh, .int rl, .ref m14, .ref m15, .ref m16, .ref m17, .ref m18, .ref m19, .ref m20, .int fc, .ref m21]))] := hD
        refine lv_aload_n hx hb dX4_box_75 rfl (lv_at hl 1 rfl) ?_
        refine va_get (D := D) (ci := 4) (v := .int 1) (C := RX4) (T := TX4) (N := 38) hx hb hg iX4 hown hK hP 0 rfl rfl 0 (by decide) (hg _ kw493) (fun _ h9 => h9) rfl dX4_box_76 ?_
        refine lv_if_le (tgt := 84) hx hb dX4_box_79 (by decide) (fun c79 => absurd c79 (by decide)) (fun _ => ?_)
        refine lv_iconst (v := 0) hx hb dX4_box_82 (by decide) ?_
        exact W.iret (v := 0) hx hb hr (fun t ht hW => ⟨⟨0, (), rfl, trivial, bq_end hP hK hD ht hW⟩, hS.F ht⟩) hS.2.2 dX4_box_83
      · have c26n := Int32.not_le.mp c26
        refine lv_iload_n hx hb dX4_box_29 rfl (lv_at hl 2 rfl) ?_
        refine lv_iload hx hb dX4_box_30 (lv_at hl 5 rfl) ?_
        refine lv_icmp_ge (tgt := 45) hx hb dX4_box_32 (by decide) (fun c32 => ?_) (fun c32 => ?_)
        · have c32n := Int32.not_lt.mpr c32
          refine lv_iconst (v := 0) hx hb dX4_box_45 (by decide) ?_
          refine lv_istore (lv' := [(7, .int 0), (0, .ref m0), (1, .int x0), (2, .int y0), (3, .int z0), (4, .int x1), (5, .int y1), (6, .int z1)]) hx hb dX4_box_46 hl (by decide) rfl (fun ls hl => ?_)
          refine lv_aload_n hx hb dX4_box_48 rfl (lv_at hl 1 rfl) ?_
          refine lv_iload hx hb dX4_box_49 (lv_at hl 0 rfl) ?_
          refine lv_if_ne (tgt := 58) hx hb dX4_box_51 (by decide) (fun c51 => absurd (by decide) c51) (fun _ => ?_)
          refine lv_iconst (v := 1) hx hb dX4_box_54 (by decide) ?_
          refine lv_goto (tgt := 72) hx hb dX4_box_55 (by decide) ?_
          refine va_put (D := D) (ci := 4) (v := .int 1) (ty := .int) (C := RX4) (T := TX4) (N := 38) hx hb hg iX4 tyX4 tyX4_ok nmX4 hown hK hP hD hS 0 rfl rfl 0 (by decide) (hg _ kw493) (fun _ h9 => h9) rfl (by decide +kernel) rfl rfl (Nat.le_of_ble_eq_true rfl) dX4_box_72 (fun H locs hP hD hS => ?_)
          have hP : va_P D vwCl [(m0, .inr (4, [.int 1, .int msz, .int cn, .ref m1, .ref m2, .ref m3, .ref m4, .ref m5, .ref m6, .ref m7, .ref m8, .int li, .int nht, .long la, .long lb, .int lx, .long ia, .long ib, .int ix, .long oa, .long ob, .ref m9, .ref m10, .ref m11, .ref m12, .ref m13, .int hry, .int rh, .int rl, .ref m14, .ref m15, .ref m16, .ref m17, .ref m18, .ref m19, .ref m20, .int fc, .ref m21]))] H := hP
          have hD : va_D A [(m0, .inr (4, [.int 1, .int msz, .int cn, .ref m1, .ref m2, .ref m3, .ref m4, .ref m5, .ref m6, .ref m7, .ref m8, .int li, .int nht, .long la, .long lb, .int lx, .long ia, .long ib, .int ix, .long oa, .long ob, .ref m9, .ref m10, .ref m11, .ref m12, .ref m13, .int hry, .int rh, .int rl, .ref m14, .ref m15, .ref m16, .ref m17, .ref m18, .ref m19, .ref m20, .int fc, .ref m21]))] := hD
          refine lv_aload_n hx hb dX4_box_75 rfl (lv_at hl 1 rfl) ?_
          refine va_get (D := D) (ci := 4) (v := .int 1) (C := RX4) (T := TX4) (N := 38) hx hb hg iX4 hown hK hP 0 rfl rfl 0 (by decide) (hg _ kw493) (fun _ h9 => h9) rfl dX4_box_76 ?_
          refine lv_if_le (tgt := 84) hx hb dX4_box_79 (by decide) (fun c79 => absurd c79 (by decide)) (fun _ => ?_)
          refine lv_iconst (v := 0) hx hb dX4_box_82 (by decide) ?_
          exact W.iret (v := 0) hx hb hr (fun t ht hW => ⟨⟨0, (), rfl, trivial, bq_end hP hK hD ht hW⟩, hS.F ht⟩) hS.2.2 dX4_box_83
        · have c32n := Int32.not_le.mp c32
          refine lv_iload_n hx hb dX4_box_35 rfl (lv_at hl 3 rfl) ?_
          refine lv_iload hx hb dX4_box_36 (lv_at hl 6 rfl) ?_
          refine lv_icmp_ge (tgt := 45) hx hb dX4_box_38 (by decide) (fun c38 => ?_) (fun c38 => ?_)
          · have c38n := Int32.not_lt.mpr c38
            refine lv_iconst (v := 0) hx hb dX4_box_45 (by decide) ?_
            refine lv_istore (lv' := [(7, .int 0), (0, .ref m0), (1, .int x0), (2, .int y0), (3, .int z0), (4, .int x1), (5, .int y1), (6, .int z1)]) hx hb dX4_box_46 hl (by decide) rfl (fun ls hl => ?_)
            refine lv_aload_n hx hb dX4_box_48 rfl (lv_at hl 1 rfl) ?_
            refine lv_iload hx hb dX4_box_49 (lv_at hl 0 rfl) ?_
            refine lv_if_ne (tgt := 58) hx hb dX4_box_51 (by decide) (fun c51 => absurd (by decide) c51) (fun _ => ?_)
            refine lv_iconst (v := 1) hx hb dX4_box_54 (by decide) ?_
            refine lv_goto (tgt := 72) hx hb dX4_box_55 (by decide) ?_
            refine va_put (D := D) (ci := 4) (v := .int 1) (ty := .int) (C := RX4) (T := TX4) (N := 38) hx hb hg iX4 tyX4 tyX4_ok nmX4 hown hK hP hD hS 0 rfl rfl 0 (by decide) (hg _ kw493) (fun _ h9 => h9) rfl (by decide +kernel) rfl rfl (Nat.le_of_ble_eq_true rfl) dX4_box_72 (fun H locs hP hD hS => ?_)
            have hP : va_P D vwCl [(m0, .inr (4, [.int 1, .int msz, .int cn, .ref m1, .ref m2, .ref m3, .ref m4, .ref m5, .ref m6, .ref m7, .ref m8, .int li, .int nht, .long la, .long lb, .int lx, .long ia, .long ib, .int ix, .long oa, .long ob, .ref m9, .ref m10, .ref m11, .ref m12, .ref m13, .int hry, .int rh, .int rl, .ref m14, .ref m15, .ref m16, .ref m17, .ref m18, .ref m19, .ref m20, .int fc, .ref m21]))] H := hP
            have hD : va_D A [(m0, .inr (4, [.int 1, .int msz, .int cn, .ref m1, .ref m2, .ref m3, .ref m4, .ref m5, .ref m6, .ref m7, .ref m8, .int li, .int nht, .long la, .long lb, .int lx, .long ia, .long ib, .int ix, .long oa, .long ob, .ref m9, .ref m10, .ref m11, .ref m12, .ref m13, .int hry, .int rh, .int rl, .ref m14, .ref m15, .ref m16, .ref m17, .ref m18, .ref m19, .ref m20, .int fc, .ref m21]))] := hD
            refine lv_aload_n hx hb dX4_box_75 rfl (lv_at hl 1 rfl) ?_
            refine va_get (D := D) (ci := 4) (v := .int 1) (C := RX4) (T := TX4) (N := 38) hx hb hg iX4 hown hK hP 0 rfl rfl 0 (by decide) (hg _ kw493) (fun _ h9 => h9) rfl dX4_box_76 ?_
            refine lv_if_le (tgt := 84) hx hb dX4_box_79 (by decide) (fun c79 => absurd c79 (by decide)) (fun _ => ?_)
            refine lv_iconst (v := 0) hx hb dX4_box_82 (by decide) ?_
            exact W.iret (v := 0) hx hb hr (fun t ht hW => ⟨⟨0, (), rfl, trivial, bq_end hP hK hD ht hW⟩, hS.F ht⟩) hS.2.2 dX4_box_83
          · have c38n := Int32.not_le.mp c38
            refine lv_iconst (v := 1) hx hb dX4_box_41 (by decide) ?_
            refine lv_goto (tgt := 46) hx hb dX4_box_42 (by decide) ?_
            exact absurd ⟨c7, c20, c26n, c32n, c38n⟩ hR

set_option maxHeartbeats 4000000 in
set_option maxRecDepth 100000 in
theorem qX4_box_no2 (l : Launch) (D : va_G) (cI cZ cJ : ClassId) (m0 m1 m2 m3 m4 m5 m6 m7 m8 m9 m10 m11 m12 m13 m14 m15 m16 m17 m18 m19 m20 m21 : Nat) (th msz li nht lx ix hry rh rl fc : Int32) (la lb ia ib oa ob : Int64) (x0 y0 z0 x1 y1 z1 : Int32) (hR : ptB msz x0 y0 z0 = true ∧ ptB msz x1 y1 z1 = true ∧ x0 < x1 ∧ y0 < y1 ∧ z0 < z1) (sz : Nat) : Met l yX4_box (Cond.code yX4_box cX4_box 9 (some .int) :: gw) ({ frames := 3, cells := 0, slots := 0, locals := 66 }) (wq D [.ref m0, .int x0, .int y0, .int z0, .int x1, .int y1, .int z1] sz [(m0, .inr (4, [.int th, .int msz, .int (nI 20), .ref m1, .ref m2, .ref m3, .ref m4, .ref m5, .ref m6, .ref m7, .ref m8, .int li, .int nht, .long la, .long lb, .int lx, .long ia, .long ib, .int ix, .long oa, .long ob, .ref m9, .ref m10, .ref m11, .ref m12, .ref m13, .int hry, .int rh, .int rl, .ref m14, .ref m15, .ref m16, .ref m17, .ref m18, .ref m19, .ref m20, .int fc, .ref m21]))] [(cI, .int), (cZ, .boolean), (cJ, .long)]) (va_Qi (S := Unit) (fun _ _ => True) (fun u => bq D [(cI, .int), (cZ, .boolean), (cJ, .long)] (va_A [(m0, .inr (4, [.int th, .int msz, .int (nI 20), .ref m1, .ref m2, .ref m3, .ref m4, .ref m5, .ref m6, .ref m7, .ref m8, .int li, .int nht, .long la, .long lb, .int lx, .long ia, .long ib, .int ix, .long oa, .long ob, .ref m9, .ref m10, .ref m11, .ref m12, .ref m13, .int hry, .int rh, .int rl, .ref m14, .ref m15, .ref m16, .ref m17, .ref m18, .ref m19, .ref m20, .int fc, .ref m21]))] sz) ([(m0, .inr (4, [.int 2, .int msz, .int (nI 20), .ref m1, .ref m2, .ref m3, .ref m4, .ref m5, .ref m6, .ref m7, .ref m8, .int li, .int nht, .long la, .long lb, .int lx, .long ia, .long ib, .int ix, .long oa, .long ob, .ref m9, .ref m10, .ref m11, .ref m12, .ref m13, .int hry, .int rh, .int rl, .ref m14, .ref m15, .ref m16, .ref m17, .ref m18, .ref m19, .ref m20, .int fc, .ref m21]))])) (va_A [(m0, .inr (4, [.int th, .int msz, .int (nI 20), .ref m1, .ref m2, .ref m3, .ref m4, .ref m5, .ref m6, .ref m7, .ref m8, .int li, .int nht, .long la, .long lb, .int lx, .long ia, .long ib, .int ix, .long oa, .long ob, .ref m9, .ref m10, .ref m11, .ref m12, .ref m13, .int hry, .int rh, .int rl, .ref m14, .ref m15, .ref m16, .ref m17, .ref m18, .ref m19, .ref m20, .int fc, .ref m21]))] sz)) 0 0 (va_A [(m0, .inr (4, [.int th, .int msz, .int (nI 20), .ref m1, .ref m2, .ref m3, .ref m4, .ref m5, .ref m6, .ref m7, .ref m8, .int li, .int nht, .long la, .long lb, .int lx, .long ia, .long ib, .int ix, .long oa, .long ob, .ref m9, .ref m10, .ref m11, .ref m12, .ref m13, .int hry, .int rh, .int rl, .ref m14, .ref m15, .ref m16, .ref m17, .ref m18, .ref m19, .ref m20, .int fc, .ref m21]))] sz) := by
  refine Met.ofW (cc := cX4_box) (maxL := 9) (ret := (some .int)) (by decide) rfl ?_
  intro p e s m args below meth c s₁ B hml hv
  obtain ⟨rfl, hsz, hP, hK, hD0, hZ⟩ := hv
  have hx := B.exec
  have hb := B.bytes
  have hr := B.returns
  have hg : ∀ w ∈ gw, w.before _ s = true := fun w h => atoms_spec (ws := Cond.code yX4_box cX4_box 9 (some .int) :: gw) B.pre w (List.mem_cons_of_mem _ h)
  have hown : s.vm.findClass RX4 = some m.cls := findClass_of_methodNamed B.named
  have hlocks := B.notSynchronized
  subst hsz
  have hD := hD0.self (sz := s.heap.size)
  generalize hAe : va_A [(m0, .inr (4, [.int th, .int msz, .int (nI 20), .ref m1, .ref m2, .ref m3, .ref m4, .ref m5, .ref m6, .ref m7, .ref m8, .int li, .int nht, .long la, .long lb, .int lx, .long ia, .long ib, .int ix, .long oa, .long ob, .ref m9, .ref m10, .ref m11, .ref m12, .ref m13, .int hry, .int rh, .int rl, .ref m14, .ref m15, .ref m16, .ref m17, .ref m18, .ref m19, .ref m20, .int fc, .ref m21]))] s.heap.size = A at hD ⊢
  have hA : ∀ q : Nat, s.heap.size ≤ q → A q := fun q h => by rw [← hAe]; exact Or.inr h
  have hS : va_S A s.heap s.heap [] := va_S.rf
  have hP : va_P D vwCl [(m0, .inr (4, [.int th, .int msz, .int (nI 20), .ref m1, .ref m2, .ref m3, .ref m4, .ref m5, .ref m6, .ref m7, .ref m8, .int li, .int nht, .long la, .long lb, .int lx, .long ia, .long ib, .int ix, .long oa, .long ob, .ref m9, .ref m10, .ref m11, .ref m12, .ref m13, .int hry, .int rh, .int rl, .ref m14, .ref m15, .ref m16, .ref m17, .ref m18, .ref m19, .ref m20, .int fc, .ref m21]))] s.heap := hP
  have hl := lv_entry ([.ref m0, .int x0, .int y0, .int z0, .int x1, .int y1, .int z1]) (n := 9) (Nat.le_of_ble_eq_true rfl)
  rw [lg_entry_eq]
  generalize (lg_sl ([.ref m0, .int x0, .int y0, .int z0, .int x1, .int y1, .int z1]) ++ List.replicate (9 - (lg_sl ([.ref m0, .int x0, .int y0, .int z0, .int x1, .int y1, .int z1])).length) Slot.unset).toArray = ls at hl ⊢
  have hl : lv_has ls 9 [(0, .ref m0), (1, .int x0), (2, .int y0), (3, .int z0), (4, .int x1), (5, .int y1), (6, .int z1)] := hl
  refine lv_aload_n hx hb dX4_box_0 rfl (lv_at hl 0 rfl) ?_
  refine lv_iload_n hx hb dX4_box_1 rfl (lv_at hl 1 rfl) ?_
  refine lv_iload_n hx hb dX4_box_2 rfl (lv_at hl 2 rfl) ?_
  refine lv_iload_n hx hb dX4_box_3 rfl (lv_at hl 3 rfl) ?_
  have hPc := hP.sub (ws' := [(m0, .inr (4, [.int th, .int msz, .int (nI 20), .ref m1, .ref m2, .ref m3, .ref m4, .ref m5, .ref m6, .ref m7, .ref m8, .int li, .int nht, .long la, .long lb, .int lx, .long ia, .long ib, .int ix, .long oa, .long ob, .ref m9, .ref m10, .ref m11, .ref m12, .ref m13, .int hry, .int rh, .int rl, .ref m14, .ref m15, .ref m16, .ref m17, .ref m18, .ref m19, .ref m20, .int fc, .ref m21]))]) [0] rfl
  refine rq_call (va_runV (As := [.int x0, .int y0, .int z0]) (rest := []) ⟨hx, hb, hml, hown, hg⟩ (qX4_arePlaces l D cI cZ cJ m0 m1 m2 m3 m4 m5 m6 m7 m8 m9 m10 m11 m12 m13 m14 m15 m16 m17 m18 m19 m20 m21 th msz (nI 20) li nht lx ix hry rh rl fc la lb ia ib oa ob x0 y0 z0) (cwV 3 hg (gw_V kw617 kw619 kw23 kw41 kw620) rfl rfl rfl (by decide +kernel) ⟨Nat.le_of_ble_eq_true rfl, Nat.le_of_ble_eq_true rfl⟩) (pq_preV hPc hK hZ (va_recv hK hPc (ci := 4) (q0 := 0) rfl rfl)) rfl rfl hl.1 rfl (lv_room (Nat.le_of_ble_eq_true rfl)) dX4_box_4 ⟨Nat.le_of_ble_eq_true rfl, Nat.le_of_ble_eq_true rfl⟩) ?_
  refine lv_if_eq (tgt := 45) hx hb dX4_box_7 (by decide) (fun c7 => absurd c7 (bI_nz hR.1)) (fun _ => ?_)
  refine lv_aload_n hx hb dX4_box_10 rfl (lv_at hl 0 rfl) ?_
  refine lv_iload hx hb dX4_box_11 (lv_at hl 4 rfl) ?_
  refine lv_iload hx hb dX4_box_13 (lv_at hl 5 rfl) ?_
  refine lv_iload hx hb dX4_box_15 (lv_at hl 6 rfl) ?_
  have hPc := hP.sub (ws' := [(m0, .inr (4, [.int th, .int msz, .int (nI 20), .ref m1, .ref m2, .ref m3, .ref m4, .ref m5, .ref m6, .ref m7, .ref m8, .int li, .int nht, .long la, .long lb, .int lx, .long ia, .long ib, .int ix, .long oa, .long ob, .ref m9, .ref m10, .ref m11, .ref m12, .ref m13, .int hry, .int rh, .int rl, .ref m14, .ref m15, .ref m16, .ref m17, .ref m18, .ref m19, .ref m20, .int fc, .ref m21]))]) [0] rfl
  refine rq_call (va_runV (As := [.int x1, .int y1, .int z1]) (rest := []) ⟨hx, hb, hml, hown, hg⟩ (qX4_arePlaces l D cI cZ cJ m0 m1 m2 m3 m4 m5 m6 m7 m8 m9 m10 m11 m12 m13 m14 m15 m16 m17 m18 m19 m20 m21 th msz (nI 20) li nht lx ix hry rh rl fc la lb ia ib oa ob x1 y1 z1) (cwV 3 hg (gw_V kw617 kw619 kw23 kw41 kw620) rfl rfl rfl (by decide +kernel) ⟨Nat.le_of_ble_eq_true rfl, Nat.le_of_ble_eq_true rfl⟩) (pq_preV hPc hK hZ (va_recv hK hPc (ci := 4) (q0 := 0) rfl rfl)) rfl rfl hl.1 rfl (lv_room (Nat.le_of_ble_eq_true rfl)) dX4_box_17 ⟨Nat.le_of_ble_eq_true rfl, Nat.le_of_ble_eq_true rfl⟩) ?_
  refine lv_if_eq (tgt := 45) hx hb dX4_box_20 (by decide) (fun c20 => absurd c20 (bI_nz hR.2.1)) (fun _ => ?_)
  refine lv_iload_n hx hb dX4_box_23 rfl (lv_at hl 1 rfl) ?_
  refine lv_iload hx hb dX4_box_24 (lv_at hl 4 rfl) ?_
  refine lv_icmp_ge (tgt := 45) hx hb dX4_box_26 (by decide) (fun c26 => absurd c26 (Int32.not_le.mpr hR.2.2.1)) (fun _ => ?_)
  refine lv_iload_n hx hb dX4_box_29 rfl (lv_at hl 2 rfl) ?_
  refine lv_iload hx hb dX4_box_30 (lv_at hl 5 rfl) ?_
  refine lv_icmp_ge (tgt := 45) hx hb dX4_box_32 (by decide) (fun c32 => absurd c32 (Int32.not_le.mpr hR.2.2.2.1)) (fun _ => ?_)
  refine lv_iload_n hx hb dX4_box_35 rfl (lv_at hl 3 rfl) ?_
  refine lv_iload hx hb dX4_box_36 (lv_at hl 6 rfl) ?_
  refine lv_icmp_ge (tgt := 45) hx hb dX4_box_38 (by decide) (fun c38 => absurd c38 (Int32.not_le.mpr hR.2.2.2.2)) (fun _ => ?_)
  refine lv_iconst (v := 1) hx hb dX4_box_41 (by decide) ?_
  refine lv_goto (tgt := 46) hx hb dX4_box_42 (by decide) ?_
  refine lv_istore (lv' := [(7, .int 1), (0, .ref m0), (1, .int x0), (2, .int y0), (3, .int z0), (4, .int x1), (5, .int y1), (6, .int z1)]) hx hb dX4_box_46 hl (by decide) rfl (fun ls hl => ?_)
  refine lv_aload_n hx hb dX4_box_48 rfl (lv_at hl 1 rfl) ?_
  refine lv_iload hx hb dX4_box_49 (lv_at hl 0 rfl) ?_
  refine lv_if_ne (tgt := 58) hx hb dX4_box_51 (by decide) (fun _ => ?_) (fun c51 => absurd c51 (by decide))
  refine lv_aload_n hx hb dX4_box_58 rfl (lv_at hl 1 rfl) ?_
  refine va_get (D := D) (ci := 4) (v := .int (nI 20)) (C := RX4) (T := TX4) (N := 38) hx hb hg iX4 hown hK hP 0 rfl rfl 2 (by decide) (hg _ kw495) (fun _ h9 => h9) rfl dX4_box_59 ?_
  refine lv_bipush (v := 20) hx hb dX4_box_62 (by decide) ?_
  refine lv_icmp_ne (tgt := 71) hx hb dX4_box_64 (by decide) (fun c64 => absurd (rfl) c64) (fun _ => ?_)
  refine lv_iconst (v := 2) hx hb dX4_box_67 (by decide) ?_
  refine lv_goto (tgt := 72) hx hb dX4_box_68 (by decide) ?_
  refine va_put (D := D) (ci := 4) (v := .int 2) (ty := .int) (C := RX4) (T := TX4) (N := 38) hx hb hg iX4 tyX4 tyX4_ok nmX4 hown hK hP hD hS 0 rfl rfl 0 (by decide) (hg _ kw493) (fun _ h9 => h9) rfl (by decide +kernel) rfl rfl (Nat.le_of_ble_eq_true rfl) dX4_box_72 (fun H locs hP hD hS => ?_)
  have hP : va_P D vwCl [(m0, .inr (4, [.int 2, .int msz, .int (nI 20), .ref m1, .ref m2, .ref m3, .ref m4, .ref m5, .ref m6, .ref m7, .ref m8, .int li, .int nht, .long la, .long lb, .int lx, .long ia, .long ib, .int ix, .long oa, .long ob, .ref m9, .ref m10, .ref m11, .ref m12, .ref m13, .int hry, .int rh, .int rl, .ref m14, .ref m15, .ref m16, .ref m17, .ref m18, .ref m19, .ref m20, .int fc, .ref m21]))] H := hP
  have hD : va_D A [(m0, .inr (4, [.int 2, .int msz, .int (nI 20), .ref m1, .ref m2, .ref m3, .ref m4, .ref m5, .ref m6, .ref m7, .ref m8, .int li, .int nht, .long la, .long lb, .int lx, .long ia, .long ib, .int ix, .long oa, .long ob, .ref m9, .ref m10, .ref m11, .ref m12, .ref m13, .int hry, .int rh, .int rl, .ref m14, .ref m15, .ref m16, .ref m17, .ref m18, .ref m19, .ref m20, .int fc, .ref m21]))] := hD
  refine lv_aload_n hx hb dX4_box_75 rfl (lv_at hl 1 rfl) ?_
  refine va_get (D := D) (ci := 4) (v := .int 2) (C := RX4) (T := TX4) (N := 38) hx hb hg iX4 hown hK hP 0 rfl rfl 0 (by decide) (hg _ kw493) (fun _ h9 => h9) rfl dX4_box_76 ?_
  refine lv_if_le (tgt := 84) hx hb dX4_box_79 (by decide) (fun c79 => absurd c79 (by decide)) (fun _ => ?_)
  refine lv_iconst (v := 0) hx hb dX4_box_82 (by decide) ?_
  exact W.iret (v := 0) hx hb hr (fun t ht hW => ⟨⟨0, (), rfl, trivial, bq_end hP hK hD ht hW⟩, hS.F ht⟩) hS.2.2 dX4_box_83

set_option maxHeartbeats 4000000 in
set_option maxRecDepth 100000 in
/-- kind -/
theorem qX4_kind_ok (l : Launch) (D : va_G) (cI cZ cJ : ClassId) (m0 m1 m2 m3 m4 m5 m6 m7 m8 m9 m10 m11 m12 m13 m14 m15 m16 m17 m18 m19 m20 m21 : Nat) (th msz li nht lx ix hry rh rl fc : Int32) (la lb ia ib oa ob : Int64) (ki : Nat → Int32) (sh : Nat → Int32) (nb : Nat) (hnb : nb ≤ 20) (x kd sr : Int32) (hR : inBl 0 x (nI nb - 1) = true ∧ inBl 0 kd 2 = true ∧ inBl 0 sr 1000 = true) (sz : Nat) : Met l yX4_kind (Cond.code yX4_kind cX4_kind 5 (some .int) :: gw) ({ frames := 2, cells := 0, slots := 0, locals := 43 }) (wq D [.ref m0, .int x, .int kd, .int sr] sz [(m0, .inr (4, [.int th, .int msz, .int (nI nb), .ref m1, .ref m2, .ref m3, .ref m4, .ref m5, .ref m6, .ref m7, .ref m8, .int li, .int nht, .long la, .long lb, .int lx, .long ia, .long ib, .int ix, .long oa, .long ob, .ref m9, .ref m10, .ref m11, .ref m12, .ref m13, .int hry, .int rh, .int rl, .ref m14, .ref m15, .ref m16, .ref m17, .ref m18, .ref m19, .ref m20, .int fc, .ref m21])), (m2, .inl (cI, 20, .inl ki)), (m3, .inl (cI, 20, .inl sh))] [(cI, .int), (cZ, .boolean), (cJ, .long)]) (va_Qi (S := Unit) (fun r _ => r = ki x.toNatClampNeg) (fun u => bq D [(cI, .int), (cZ, .boolean), (cJ, .long)] (va_A [(m0, .inr (4, [.int th, .int msz, .int (nI nb), .ref m1, .ref m2, .ref m3, .ref m4, .ref m5, .ref m6, .ref m7, .ref m8, .int li, .int nht, .long la, .long lb, .int lx, .long ia, .long ib, .int ix, .long oa, .long ob, .ref m9, .ref m10, .ref m11, .ref m12, .ref m13, .int hry, .int rh, .int rl, .ref m14, .ref m15, .ref m16, .ref m17, .ref m18, .ref m19, .ref m20, .int fc, .ref m21])), (m2, .inl (cI, 20, .inl ki)), (m3, .inl (cI, 20, .inl sh))] sz) ([(m0, .inr (4, [.int 0, .int msz, .int (nI nb), .ref m1, .ref m2, .ref m3, .ref m4, .ref m5, .ref m6, .ref m7, .ref m8, .int li, .int nht, .long la, .long lb, .int lx, .long ia, .long ib, .int ix, .long oa, .long ob, .ref m9, .ref m10, .ref m11, .ref m12, .ref m13, .int hry, .int rh, .int rl, .ref m14, .ref m15, .ref m16, .ref m17, .ref m18, .ref m19, .ref m20, .int fc, .ref m21])), (m2, .inl (cI, 20, .inl (upd ki x.toNatClampNeg kd))), (m3, .inl (cI, 20, .inl (upd sh x.toNatClampNeg sr)))])) (va_A [(m0, .inr (4, [.int th, .int msz, .int (nI nb), .ref m1, .ref m2, .ref m3, .ref m4, .ref m5, .ref m6, .ref m7, .ref m8, .int li, .int nht, .long la, .long lb, .int lx, .long ia, .long ib, .int ix, .long oa, .long ob, .ref m9, .ref m10, .ref m11, .ref m12, .ref m13, .int hry, .int rh, .int rl, .ref m14, .ref m15, .ref m16, .ref m17, .ref m18, .ref m19, .ref m20, .int fc, .ref m21])), (m2, .inl (cI, 20, .inl ki)), (m3, .inl (cI, 20, .inl sh))] sz)) 0 0 (va_A [(m0, .inr (4, [.int th, .int msz, .int (nI nb), .ref m1, .ref m2, .ref m3, .ref m4, .ref m5, .ref m6, .ref m7, .ref m8, .int li, .int nht, .long la, .long lb, .int lx, .long ia, .long ib, .int ix, .long oa, .long ob, .ref m9, .ref m10, .ref m11, .ref m12, .ref m13, .int hry, .int rh, .int rl, .ref m14, .ref m15, .ref m16, .ref m17, .ref m18, .ref m19, .ref m20, .int fc, .ref m21])), (m2, .inl (cI, 20, .inl ki)), (m3, .inl (cI, 20, .inl sh))] sz) := by
  refine Met.ofW (cc := cX4_kind) (maxL := 5) (ret := (some .int)) (by decide) rfl ?_
  intro p e s m args below meth c s₁ B hml hv
  obtain ⟨rfl, hsz, hP, hK, hD0, hZ⟩ := hv
  have hx := B.exec
  have hb := B.bytes
  have hr := B.returns
  have hg : ∀ w ∈ gw, w.before _ s = true := fun w h => atoms_spec (ws := Cond.code yX4_kind cX4_kind 5 (some .int) :: gw) B.pre w (List.mem_cons_of_mem _ h)
  have hown : s.vm.findClass RX4 = some m.cls := findClass_of_methodNamed B.named
  have hlocks := B.notSynchronized
  subst hsz
  have hD := hD0.self (sz := s.heap.size)
  generalize hAe : va_A [(m0, .inr (4, [.int th, .int msz, .int (nI nb), .ref m1, .ref m2, .ref m3, .ref m4, .ref m5, .ref m6, .ref m7, .ref m8, .int li, .int nht, .long la, .long lb, .int lx, .long ia, .long ib, .int ix, .long oa, .long ob, .ref m9, .ref m10, .ref m11, .ref m12, .ref m13, .int hry, .int rh, .int rl, .ref m14, .ref m15, .ref m16, .ref m17, .ref m18, .ref m19, .ref m20, .int fc, .ref m21])), (m2, .inl (cI, 20, .inl ki)), (m3, .inl (cI, 20, .inl sh))] s.heap.size = A at hD ⊢
  have hA : ∀ q : Nat, s.heap.size ≤ q → A q := fun q h => by rw [← hAe]; exact Or.inr h
  have hS : va_S A s.heap s.heap [] := va_S.rf
  have hP : va_P D vwCl [(m0, .inr (4, [.int th, .int msz, .int (nI nb), .ref m1, .ref m2, .ref m3, .ref m4, .ref m5, .ref m6, .ref m7, .ref m8, .int li, .int nht, .long la, .long lb, .int lx, .long ia, .long ib, .int ix, .long oa, .long ob, .ref m9, .ref m10, .ref m11, .ref m12, .ref m13, .int hry, .int rh, .int rl, .ref m14, .ref m15, .ref m16, .ref m17, .ref m18, .ref m19, .ref m20, .int fc, .ref m21])), (m2, .inl (cI, 20, .inl ki)), (m3, .inl (cI, 20, .inl sh))] s.heap := hP
  have hl := lv_entry ([.ref m0, .int x, .int kd, .int sr]) (n := 5) (Nat.le_of_ble_eq_true rfl)
  rw [lg_entry_eq]
  generalize (lg_sl ([.ref m0, .int x, .int kd, .int sr]) ++ List.replicate (5 - (lg_sl ([.ref m0, .int x, .int kd, .int sr])).length) Slot.unset).toArray = ls at hl ⊢
  have hl : lv_has ls 5 [(0, .ref m0), (1, .int x), (2, .int kd), (3, .int sr)] := hl
  refine lv_aload_n hx hb dX4_kind_0 rfl (lv_at hl 0 rfl) ?_
  refine lv_aload_n hx hb dX4_kind_1 rfl (lv_at hl 0 rfl) ?_
  refine lv_iload_n hx hb dX4_kind_2 rfl (lv_at hl 1 rfl) ?_
  have hPc := hP.sub (ws' := [(m0, .inr (4, [.int th, .int msz, .int (nI nb), .ref m1, .ref m2, .ref m3, .ref m4, .ref m5, .ref m6, .ref m7, .ref m8, .int li, .int nht, .long la, .long lb, .int lx, .long ia, .long ib, .int ix, .long oa, .long ob, .ref m9, .ref m10, .ref m11, .ref m12, .ref m13, .int hry, .int rh, .int rl, .ref m14, .ref m15, .ref m16, .ref m17, .ref m18, .ref m19, .ref m20, .int fc, .ref m21]))]) [0] rfl
  refine rq_call (va_runV (As := [.int x]) (rest := [.ref m0]) ⟨hx, hb, hml, hown, hg⟩ (qX4_isBox l D cI cZ cJ m0 m1 m2 m3 m4 m5 m6 m7 m8 m9 m10 m11 m12 m13 m14 m15 m16 m17 m18 m19 m20 m21 th msz (nI nb) li nht lx ix hry rh rl fc la lb ia ib oa ob x) (cwV 1 hg (gw_V kw632 kw634 kw25 kw41 kw635) rfl rfl rfl (by decide +kernel) ⟨Nat.le_of_ble_eq_true rfl, Nat.le_of_ble_eq_true rfl⟩) (pq_preV hPc hK hZ (va_recv hK hPc (ci := 4) (q0 := 0) rfl rfl)) rfl rfl hl.1 rfl (lv_room (Nat.le_of_ble_eq_true rfl)) dX4_kind_3 ⟨Nat.le_of_ble_eq_true rfl, Nat.le_of_ble_eq_true rfl⟩) ?_
  refine lv_if_eq (tgt := 33) hx hb dX4_kind_6 (by decide) (fun c6 => absurd c6 (bI_nz hR.1)) (fun _ => ?_)
  refine lv_iload_n hx hb dX4_kind_9 rfl (lv_at hl 2 rfl) ?_
  refine lv_iconst (v := 0) hx hb dX4_kind_10 (by decide) ?_
  refine lv_iconst (v := 2) hx hb dX4_kind_11 (by decide) ?_
  have hPc := hP.sub (ws' := []) [] rfl
  refine rq_call (va_runS (As := [.int kd, .int 0, .int 2]) (rest := [.ref m0]) ⟨hx, hb, hml, hown, hg⟩ (qX4_in l D cI cZ cJ kd 0 2) (va_cwS 3 hg (gw_S kw625 kw626 kw41 kw627) rfl rfl rfl (by decide +kernel) ⟨Nat.le_of_ble_eq_true rfl, Nat.le_of_ble_eq_true rfl⟩) (pq_pre hPc hK hZ) rfl rfl hl.1 rfl (lv_room (Nat.le_of_ble_eq_true rfl)) dX4_kind_12 ⟨Nat.le_of_ble_eq_true rfl, Nat.le_of_ble_eq_true rfl⟩) ?_
  refine lv_if_eq (tgt := 33) hx hb dX4_kind_15 (by decide) (fun c15 => absurd c15 (bI_nz hR.2.1)) (fun _ => ?_)
  refine lv_iload_n hx hb dX4_kind_18 rfl (lv_at hl 3 rfl) ?_
  refine lv_iconst (v := 0) hx hb dX4_kind_19 (by decide) ?_
  refine lv_sipush (v := 1000) hx hb dX4_kind_20 (by decide) ?_
  have hPc := hP.sub (ws' := []) [] rfl
  refine rq_call (va_runS (As := [.int sr, .int 0, .int 1000]) (rest := [.ref m0]) ⟨hx, hb, hml, hown, hg⟩ (qX4_in l D cI cZ cJ sr 0 1000) (va_cwS 3 hg (gw_S kw625 kw626 kw41 kw627) rfl rfl rfl (by decide +kernel) ⟨Nat.le_of_ble_eq_true rfl, Nat.le_of_ble_eq_true rfl⟩) (pq_pre hPc hK hZ) rfl rfl hl.1 rfl (lv_room (Nat.le_of_ble_eq_true rfl)) dX4_kind_23 ⟨Nat.le_of_ble_eq_true rfl, Nat.le_of_ble_eq_true rfl⟩) ?_
  refine lv_if_eq (tgt := 33) hx hb dX4_kind_26 (by decide) (fun c26 => absurd c26 (bI_nz hR.2.2)) (fun _ => ?_)
  refine lv_iconst (v := 0) hx hb dX4_kind_29 (by decide) ?_
  refine lv_goto (tgt := 34) hx hb dX4_kind_30 (by decide) ?_
  refine va_put (D := D) (ci := 4) (v := .int 0) (ty := .int) (C := RX4) (T := TX4) (N := 38) hx hb hg iX4 tyX4 tyX4_ok nmX4 hown hK hP hD hS 0 rfl rfl 0 (by decide) (hg _ kw493) (fun _ h9 => h9) rfl (by decide +kernel) rfl rfl (Nat.le_of_ble_eq_true rfl) dX4_kind_34 (fun H locs hP hD hS => ?_)
  have hP : va_P D vwCl [(m0, .inr (4, [.int 0, .int msz, .int (nI nb), .ref m1, .ref m2, .ref m3, .ref m4, .ref m5, .ref m6, .ref m7, .ref m8, .int li, .int nht, .long la, .long lb, .int lx, .long ia, .long ib, .int ix, .long oa, .long ob, .ref m9, .ref m10, .ref m11, .ref m12, .ref m13, .int hry, .int rh, .int rl, .ref m14, .ref m15, .ref m16, .ref m17, .ref m18, .ref m19, .ref m20, .int fc, .ref m21])), (m2, .inl (cI, 20, .inl ki)), (m3, .inl (cI, 20, .inl sh))] H := hP
  have hD : va_D A [(m0, .inr (4, [.int 0, .int msz, .int (nI nb), .ref m1, .ref m2, .ref m3, .ref m4, .ref m5, .ref m6, .ref m7, .ref m8, .int li, .int nht, .long la, .long lb, .int lx, .long ia, .long ib, .int ix, .long oa, .long ob, .ref m9, .ref m10, .ref m11, .ref m12, .ref m13, .int hry, .int rh, .int rl, .ref m14, .ref m15, .ref m16, .ref m17, .ref m18, .ref m19, .ref m20, .int fc, .ref m21])), (m2, .inl (cI, 20, .inl ki)), (m3, .inl (cI, 20, .inl sh))] := hD
  refine lv_aload_n hx hb dX4_kind_37 rfl (lv_at hl 0 rfl) ?_
  refine va_get (D := D) (ci := 4) (v := .int 0) (C := RX4) (T := TX4) (N := 38) hx hb hg iX4 hown hK hP 0 rfl rfl 0 (by decide) (hg _ kw493) (fun _ h9 => h9) rfl dX4_kind_38 ?_
  refine lv_if_le (tgt := 46) hx hb dX4_kind_41 (by decide) (fun _ => ?_) (fun c41 => absurd (by decide) c41)
  refine lv_aload_n hx hb dX4_kind_46 rfl (lv_at hl 0 rfl) ?_
  refine va_get (D := D) (ci := 4) (v := .ref m2) (C := RX4) (T := TX4) (N := 38) hx hb hg iX4 hown hK hP 0 rfl rfl 4 (by decide) (hg _ kw497) (fun _ h9 => h9) rfl dX4_kind_47 ?_
  refine lv_iload_n hx hb dX4_kind_50 rfl (lv_at hl 1 rfl) ?_
  refine va_iald hx hb hK hP 1 0 rfl rfl (vin_of ((bx_iff hnb).mp hR.1) hnb (by decide)) dX4_kind_51 ?_
  refine lv_istore (lv' := [(4, .int (ki x.toNatClampNeg)), (0, .ref m0), (1, .int x), (2, .int kd), (3, .int sr)]) hx hb dX4_kind_52 hl (by decide) rfl (fun ls hl => ?_)
  refine lv_aload_n hx hb dX4_kind_54 rfl (lv_at hl 1 rfl) ?_
  refine va_get (D := D) (ci := 4) (v := .ref m2) (C := RX4) (T := TX4) (N := 38) hx hb hg iX4 hown hK hP 0 rfl rfl 4 (by decide) (hg _ kw497) (fun _ h9 => h9) rfl dX4_kind_55 ?_
  refine lv_iload_n hx hb dX4_kind_58 rfl (lv_at hl 2 rfl) ?_
  refine lv_iload_n hx hb dX4_kind_59 rfl (lv_at hl 3 rfl) ?_
  refine va_iast hx hb hK hP hD hS 1 0 rfl rfl (vin_of ((bx_iff hnb).mp hR.1) hnb (by decide)) dX4_kind_60 (fun H locs hP hD hS => ?_)
  have hP : va_P D vwCl [(m0, .inr (4, [.int 0, .int msz, .int (nI nb), .ref m1, .ref m2, .ref m3, .ref m4, .ref m5, .ref m6, .ref m7, .ref m8, .int li, .int nht, .long la, .long lb, .int lx, .long ia, .long ib, .int ix, .long oa, .long ob, .ref m9, .ref m10, .ref m11, .ref m12, .ref m13, .int hry, .int rh, .int rl, .ref m14, .ref m15, .ref m16, .ref m17, .ref m18, .ref m19, .ref m20, .int fc, .ref m21])), (m2, .inl (cI, 20, .inl (upd ki x.toNatClampNeg kd))), (m3, .inl (cI, 20, .inl sh))] H := hP
  have hD : va_D A [(m0, .inr (4, [.int 0, .int msz, .int (nI nb), .ref m1, .ref m2, .ref m3, .ref m4, .ref m5, .ref m6, .ref m7, .ref m8, .int li, .int nht, .long la, .long lb, .int lx, .long ia, .long ib, .int ix, .long oa, .long ob, .ref m9, .ref m10, .ref m11, .ref m12, .ref m13, .int hry, .int rh, .int rl, .ref m14, .ref m15, .ref m16, .ref m17, .ref m18, .ref m19, .ref m20, .int fc, .ref m21])), (m2, .inl (cI, 20, .inl (upd ki x.toNatClampNeg kd))), (m3, .inl (cI, 20, .inl sh))] := hD
  refine lv_aload_n hx hb dX4_kind_61 rfl (lv_at hl 1 rfl) ?_
  refine va_get (D := D) (ci := 4) (v := .ref m3) (C := RX4) (T := TX4) (N := 38) hx hb hg iX4 hown hK hP 0 rfl rfl 5 (by decide) (hg _ kw498) (fun _ h9 => h9) rfl dX4_kind_62 ?_
  refine lv_iload_n hx hb dX4_kind_65 rfl (lv_at hl 2 rfl) ?_
  refine lv_iload_n hx hb dX4_kind_66 rfl (lv_at hl 4 rfl) ?_
  refine va_iast hx hb hK hP hD hS 2 0 rfl rfl (vin_of ((bx_iff hnb).mp hR.1) hnb (by decide)) dX4_kind_67 (fun H locs hP hD hS => ?_)
  have hP : va_P D vwCl [(m0, .inr (4, [.int 0, .int msz, .int (nI nb), .ref m1, .ref m2, .ref m3, .ref m4, .ref m5, .ref m6, .ref m7, .ref m8, .int li, .int nht, .long la, .long lb, .int lx, .long ia, .long ib, .int ix, .long oa, .long ob, .ref m9, .ref m10, .ref m11, .ref m12, .ref m13, .int hry, .int rh, .int rl, .ref m14, .ref m15, .ref m16, .ref m17, .ref m18, .ref m19, .ref m20, .int fc, .ref m21])), (m2, .inl (cI, 20, .inl (upd ki x.toNatClampNeg kd))), (m3, .inl (cI, 20, .inl (upd sh x.toNatClampNeg sr)))] H := hP
  have hD : va_D A [(m0, .inr (4, [.int 0, .int msz, .int (nI nb), .ref m1, .ref m2, .ref m3, .ref m4, .ref m5, .ref m6, .ref m7, .ref m8, .int li, .int nht, .long la, .long lb, .int lx, .long ia, .long ib, .int ix, .long oa, .long ob, .ref m9, .ref m10, .ref m11, .ref m12, .ref m13, .int hry, .int rh, .int rl, .ref m14, .ref m15, .ref m16, .ref m17, .ref m18, .ref m19, .ref m20, .int fc, .ref m21])), (m2, .inl (cI, 20, .inl (upd ki x.toNatClampNeg kd))), (m3, .inl (cI, 20, .inl (upd sh x.toNatClampNeg sr)))] := hD
  refine lv_iload hx hb dX4_kind_68 (lv_at hl 0 rfl) ?_
  exact W.iret (v := ki x.toNatClampNeg) hx hb hr (fun t ht hW => ⟨⟨ki x.toNatClampNeg, (), rfl, rfl, bq_end hP hK hD ht hW⟩, hS.F ht⟩) hS.2.2 dX4_kind_70

set_option maxHeartbeats 4000000 in
set_option maxRecDepth 100000 in
theorem qX4_kind_no (l : Launch) (D : va_G) (cI cZ cJ : ClassId) (m0 m1 m2 m3 m4 m5 m6 m7 m8 m9 m10 m11 m12 m13 m14 m15 m16 m17 m18 m19 m20 m21 : Nat) (th msz li nht lx ix hry rh rl fc : Int32) (la lb ia ib oa ob : Int64) (nb : Nat) (x kd sr : Int32) (hR : ¬ (inBl 0 x (nI nb - 1) = true ∧ inBl 0 kd 2 = true ∧ inBl 0 sr 1000 = true)) (sz : Nat) : Met l yX4_kind (Cond.code yX4_kind cX4_kind 5 (some .int) :: gw) ({ frames := 2, cells := 0, slots := 0, locals := 43 }) (wq D [.ref m0, .int x, .int kd, .int sr] sz [(m0, .inr (4, [.int th, .int msz, .int (nI nb), .ref m1, .ref m2, .ref m3, .ref m4, .ref m5, .ref m6, .ref m7, .ref m8, .int li, .int nht, .long la, .long lb, .int lx, .long ia, .long ib, .int ix, .long oa, .long ob, .ref m9, .ref m10, .ref m11, .ref m12, .ref m13, .int hry, .int rh, .int rl, .ref m14, .ref m15, .ref m16, .ref m17, .ref m18, .ref m19, .ref m20, .int fc, .ref m21]))] [(cI, .int), (cZ, .boolean), (cJ, .long)]) (va_Qi (S := Unit) (fun _ _ => True) (fun u => bq D [(cI, .int), (cZ, .boolean), (cJ, .long)] (va_A [(m0, .inr (4, [.int th, .int msz, .int (nI nb), .ref m1, .ref m2, .ref m3, .ref m4, .ref m5, .ref m6, .ref m7, .ref m8, .int li, .int nht, .long la, .long lb, .int lx, .long ia, .long ib, .int ix, .long oa, .long ob, .ref m9, .ref m10, .ref m11, .ref m12, .ref m13, .int hry, .int rh, .int rl, .ref m14, .ref m15, .ref m16, .ref m17, .ref m18, .ref m19, .ref m20, .int fc, .ref m21]))] sz) ([(m0, .inr (4, [.int 1, .int msz, .int (nI nb), .ref m1, .ref m2, .ref m3, .ref m4, .ref m5, .ref m6, .ref m7, .ref m8, .int li, .int nht, .long la, .long lb, .int lx, .long ia, .long ib, .int ix, .long oa, .long ob, .ref m9, .ref m10, .ref m11, .ref m12, .ref m13, .int hry, .int rh, .int rl, .ref m14, .ref m15, .ref m16, .ref m17, .ref m18, .ref m19, .ref m20, .int fc, .ref m21]))])) (va_A [(m0, .inr (4, [.int th, .int msz, .int (nI nb), .ref m1, .ref m2, .ref m3, .ref m4, .ref m5, .ref m6, .ref m7, .ref m8, .int li, .int nht, .long la, .long lb, .int lx, .long ia, .long ib, .int ix, .long oa, .long ob, .ref m9, .ref m10, .ref m11, .ref m12, .ref m13, .int hry, .int rh, .int rl, .ref m14, .ref m15, .ref m16, .ref m17, .ref m18, .ref m19, .ref m20, .int fc, .ref m21]))] sz)) 0 0 (va_A [(m0, .inr (4, [.int th, .int msz, .int (nI nb), .ref m1, .ref m2, .ref m3, .ref m4, .ref m5, .ref m6, .ref m7, .ref m8, .int li, .int nht, .long la, .long lb, .int lx, .long ia, .long ib, .int ix, .long oa, .long ob, .ref m9, .ref m10, .ref m11, .ref m12, .ref m13, .int hry, .int rh, .int rl, .ref m14, .ref m15, .ref m16, .ref m17, .ref m18, .ref m19, .ref m20, .int fc, .ref m21]))] sz) := by
  refine Met.ofW (cc := cX4_kind) (maxL := 5) (ret := (some .int)) (by decide) rfl ?_
  intro p e s m args below meth c s₁ B hml hv
  obtain ⟨rfl, hsz, hP, hK, hD0, hZ⟩ := hv
  have hx := B.exec
  have hb := B.bytes
  have hr := B.returns
  have hg : ∀ w ∈ gw, w.before _ s = true := fun w h => atoms_spec (ws := Cond.code yX4_kind cX4_kind 5 (some .int) :: gw) B.pre w (List.mem_cons_of_mem _ h)
  have hown : s.vm.findClass RX4 = some m.cls := findClass_of_methodNamed B.named
  have hlocks := B.notSynchronized
  subst hsz
  have hD := hD0.self (sz := s.heap.size)
  generalize hAe : va_A [(m0, .inr (4, [.int th, .int msz, .int (nI nb), .ref m1, .ref m2, .ref m3, .ref m4, .ref m5, .ref m6, .ref m7, .ref m8, .int li, .int nht, .long la, .long lb, .int lx, .long ia, .long ib, .int ix, .long oa, .long ob, .ref m9, .ref m10, .ref m11, .ref m12, .ref m13, .int hry, .int rh, .int rl, .ref m14, .ref m15, .ref m16, .ref m17, .ref m18, .ref m19, .ref m20, .int fc, .ref m21]))] s.heap.size = A at hD ⊢
  have hA : ∀ q : Nat, s.heap.size ≤ q → A q := fun q h => by rw [← hAe]; exact Or.inr h
  have hS : va_S A s.heap s.heap [] := va_S.rf
  have hP : va_P D vwCl [(m0, .inr (4, [.int th, .int msz, .int (nI nb), .ref m1, .ref m2, .ref m3, .ref m4, .ref m5, .ref m6, .ref m7, .ref m8, .int li, .int nht, .long la, .long lb, .int lx, .long ia, .long ib, .int ix, .long oa, .long ob, .ref m9, .ref m10, .ref m11, .ref m12, .ref m13, .int hry, .int rh, .int rl, .ref m14, .ref m15, .ref m16, .ref m17, .ref m18, .ref m19, .ref m20, .int fc, .ref m21]))] s.heap := hP
  have hl := lv_entry ([.ref m0, .int x, .int kd, .int sr]) (n := 5) (Nat.le_of_ble_eq_true rfl)
  rw [lg_entry_eq]
  generalize (lg_sl ([.ref m0, .int x, .int kd, .int sr]) ++ List.replicate (5 - (lg_sl ([.ref m0, .int x, .int kd, .int sr])).length) Slot.unset).toArray = ls at hl ⊢
  have hl : lv_has ls 5 [(0, .ref m0), (1, .int x), (2, .int kd), (3, .int sr)] := hl
  refine lv_aload_n hx hb dX4_kind_0 rfl (lv_at hl 0 rfl) ?_
  refine lv_aload_n hx hb dX4_kind_1 rfl (lv_at hl 0 rfl) ?_
  refine lv_iload_n hx hb dX4_kind_2 rfl (lv_at hl 1 rfl) ?_
  have hPc := hP.sub (ws' := [(m0, .inr (4, [.int th, .int msz, .int (nI nb), .ref m1, .ref m2, .ref m3, .ref m4, .ref m5, .ref m6, .ref m7, .ref m8, .int li, .int nht, .long la, .long lb, .int lx, .long ia, .long ib, .int ix, .long oa, .long ob, .ref m9, .ref m10, .ref m11, .ref m12, .ref m13, .int hry, .int rh, .int rl, .ref m14, .ref m15, .ref m16, .ref m17, .ref m18, .ref m19, .ref m20, .int fc, .ref m21]))]) [0] rfl
  refine rq_call (va_runV (As := [.int x]) (rest := [.ref m0]) ⟨hx, hb, hml, hown, hg⟩ (qX4_isBox l D cI cZ cJ m0 m1 m2 m3 m4 m5 m6 m7 m8 m9 m10 m11 m12 m13 m14 m15 m16 m17 m18 m19 m20 m21 th msz (nI nb) li nht lx ix hry rh rl fc la lb ia ib oa ob x) (cwV 1 hg (gw_V kw632 kw634 kw25 kw41 kw635) rfl rfl rfl (by decide +kernel) ⟨Nat.le_of_ble_eq_true rfl, Nat.le_of_ble_eq_true rfl⟩) (pq_preV hPc hK hZ (va_recv hK hPc (ci := 4) (q0 := 0) rfl rfl)) rfl rfl hl.1 rfl (lv_room (Nat.le_of_ble_eq_true rfl)) dX4_kind_3 ⟨Nat.le_of_ble_eq_true rfl, Nat.le_of_ble_eq_true rfl⟩) ?_
  refine lv_if_eq (tgt := 33) hx hb dX4_kind_6 (by decide) (fun c6 => ?_) (fun c6 => ?_)
  · replace c6 := bI_f c6
    refine lv_iconst (v := 1) hx hb dX4_kind_33 (by decide) ?_
    refine va_put (D := D) (ci := 4) (v := .int 1) (ty := .int) (C := RX4) (T := TX4) (N := 38) hx hb hg iX4 tyX4 tyX4_ok nmX4 hown hK hP hD hS 0 rfl rfl 0 (by decide) (hg _ kw493) (fun _ h9 => h9) rfl (by decide +kernel) rfl rfl (Nat.le_of_ble_eq_true rfl) dX4_kind_34 (fun H locs hP hD hS => ?_)
    have hP : va_P D vwCl [(m0, .inr (4, [.int 1, .int msz, .int (nI nb), .ref m1, .ref m2, .ref m3, .ref m4, .ref m5, .ref m6, .ref m7, .ref m8, .int li, .int nht, .long la, .long lb, .int lx, .long ia, .long ib, .int ix, .long oa, .long ob, .ref m9, .ref m10, .ref m11, .ref m12, .ref m13, .int hry, .int rh, .int rl, .ref m14, .ref m15, .ref m16, .ref m17, .ref m18, .ref m19, .ref m20, .int fc, .ref m21]))] H := hP
    have hD : va_D A [(m0, .inr (4, [.int 1, .int msz, .int (nI nb), .ref m1, .ref m2, .ref m3, .ref m4, .ref m5, .ref m6, .ref m7, .ref m8, .int li, .int nht, .long la, .long lb, .int lx, .long ia, .long ib, .int ix, .long oa, .long ob, .ref m9, .ref m10, .ref m11, .ref m12, .ref m13, .int hry, .int rh, .int rl, .ref m14, .ref m15, .ref m16, .ref m17, .ref m18, .ref m19, .ref m20, .int fc, .ref m21]))] := hD
    refine lv_aload_n hx hb dX4_kind_37 rfl (lv_at hl 0 rfl) ?_
    refine va_get (D := D) (ci := 4) (v := .int 1) (C := RX4) (T := TX4) (N := 38) hx hb hg iX4 hown hK hP 0 rfl rfl 0 (by decide) (hg _ kw493) (fun _ h9 => h9) rfl dX4_kind_38 ?_
    refine lv_if_le (tgt := 46) hx hb dX4_kind_41 (by decide) (fun c41 => absurd c41 (by decide)) (fun _ => ?_)
    refine lv_iconst (v := 0) hx hb dX4_kind_44 (by decide) ?_
    exact W.iret (v := 0) hx hb hr (fun t ht hW => ⟨⟨0, (), rfl, trivial, bq_end hP hK hD ht hW⟩, hS.F ht⟩) hS.2.2 dX4_kind_45
  · replace c6 := bI_t c6
    refine lv_iload_n hx hb dX4_kind_9 rfl (lv_at hl 2 rfl) ?_
    refine lv_iconst (v := 0) hx hb dX4_kind_10 (by decide) ?_
    refine lv_iconst (v := 2) hx hb dX4_kind_11 (by decide) ?_
    have hPc := hP.sub (ws' := []) [] rfl
    refine rq_call (va_runS (As := [.int kd, .int 0, .int 2]) (rest := [.ref m0]) ⟨hx, hb, hml, hown, hg⟩ (qX4_in l D cI cZ cJ kd 0 2) (va_cwS 3 hg (gw_S kw625 kw626 kw41 kw627) rfl rfl rfl (by decide +kernel) ⟨Nat.le_of_ble_eq_true rfl, Nat.le_of_ble_eq_true rfl⟩) (pq_pre hPc hK hZ) rfl rfl hl.1 rfl (lv_room (Nat.le_of_ble_eq_true rfl)) dX4_kind_12 ⟨Nat.le_of_ble_eq_true rfl, Nat.le_of_ble_eq_true rfl⟩) ?_
    refine lv_if_eq (tgt := 33) hx hb dX4_kind_15 (by decide) (fun c15 => ?_) (fun c15 => ?_)
    · replace c15 := bI_f c15
      refine lv_iconst (v := 1) hx hb dX4_kind_33 (by decide) ?_
      refine va_put (D := D) (ci := 4) (v := .int 1) (ty := .int) (C := RX4) (T := TX4) (N := 38) hx hb hg iX4 tyX4 tyX4_ok nmX4 hown hK hP hD hS 0 rfl rfl 0 (by decide) (hg _ kw493) (fun _ h9 => h9) rfl (by decide +kernel) rfl rfl (Nat.le_of_ble_eq_true rfl) dX4_kind_34 (fun H locs hP hD hS => ?_)
      have hP : va_P D vwCl [(m0, .inr (4, [.int 1, .int msz, .int (nI nb), .ref m1, .ref m2, .ref m3, .ref m4, .ref m5, .ref m6, .ref m7, .ref m8, .int li, .int nht, .long la, .long lb, .int lx, .long ia, .long ib, .int ix, .long oa, .long ob, .ref m9, .ref m10, .ref m11, .ref m12, .ref m13, .int hry, .int rh, .int rl, .ref m14, .ref m15, .ref m16, .ref m17, .ref m18, .ref m19, .ref m20, .int fc, .ref m21]))] H := hP
      have hD : va_D A [(m0, .inr (4, [.int 1, .int msz, .int (nI nb), .ref m1, .ref m2, .ref m3, .ref m4, .ref m5, .ref m6, .ref m7, .ref m8, .int li, .int nht, .long la, .long lb, .int lx, .long ia, .long ib, .int ix, .long oa, .long ob, .ref m9, .ref m10, .ref m11, .ref m12, .ref m13, .int hry, .int rh, .int rl, .ref m14, .ref m15, .ref m16, .ref m17, .ref m18, .ref m19, .ref m20, .int fc, .ref m21]))] := hD
      refine lv_aload_n hx hb dX4_kind_37 rfl (lv_at hl 0 rfl) ?_
      refine va_get (D := D) (ci := 4) (v := .int 1) (C := RX4) (T := TX4) (N := 38) hx hb hg iX4 hown hK hP 0 rfl rfl 0 (by decide) (hg _ kw493) (fun _ h9 => h9) rfl dX4_kind_38 ?_
      refine lv_if_le (tgt := 46) hx hb dX4_kind_41 (by decide) (fun c41 => absurd c41 (by decide)) (fun _ => ?_)
      refine lv_iconst (v := 0) hx hb dX4_kind_44 (by decide) ?_
      exact W.iret (v := 0) hx hb hr (fun t ht hW => ⟨⟨0, (), rfl, trivial, bq_end hP hK hD ht hW⟩, hS.F ht⟩) hS.2.2 dX4_kind_45
    · replace c15 := bI_t c15
      refine lv_iload_n hx hb dX4_kind_18 rfl (lv_at hl 3 rfl) ?_
      refine lv_iconst (v := 0) hx hb dX4_kind_19 (by decide) ?_
      refine lv_sipush (v := 1000) hx hb dX4_kind_20 (by decide) ?_
      have hPc := hP.sub (ws' := []) [] rfl
      refine rq_call (va_runS (As := [.int sr, .int 0, .int 1000]) (rest := [.ref m0]) ⟨hx, hb, hml, hown, hg⟩ (qX4_in l D cI cZ cJ sr 0 1000) (va_cwS 3 hg (gw_S kw625 kw626 kw41 kw627) rfl rfl rfl (by decide +kernel) ⟨Nat.le_of_ble_eq_true rfl, Nat.le_of_ble_eq_true rfl⟩) (pq_pre hPc hK hZ) rfl rfl hl.1 rfl (lv_room (Nat.le_of_ble_eq_true rfl)) dX4_kind_23 ⟨Nat.le_of_ble_eq_true rfl, Nat.le_of_ble_eq_true rfl⟩) ?_
      refine lv_if_eq (tgt := 33) hx hb dX4_kind_26 (by decide) (fun c26 => ?_) (fun c26 => ?_)
      · replace c26 := bI_f c26
        refine lv_iconst (v := 1) hx hb dX4_kind_33 (by decide) ?_
        refine va_put (D := D) (ci := 4) (v := .int 1) (ty := .int) (C := RX4) (T := TX4) (N := 38) hx hb hg iX4 tyX4 tyX4_ok nmX4 hown hK hP hD hS 0 rfl rfl 0 (by decide) (hg _ kw493) (fun _ h9 => h9) rfl (by decide +kernel) rfl rfl (Nat.le_of_ble_eq_true rfl) dX4_kind_34 (fun H locs hP hD hS => ?_)
        have hP : va_P D vwCl [(m0, .inr (4, [.int 1, .int msz, .int (nI nb), .ref m1, .ref m2, .ref m3, .ref m4, .ref m5, .ref m6, .ref m7, .ref m8, .int li, .int nht, .long la, .long lb, .int lx, .long ia, .long ib, .int ix, .long oa, .long ob, .ref m9, .ref m10, .ref m11, .ref m12, .ref m13, .int hry, .int rh, .int rl, .ref m14, .ref m15, .ref m16, .ref m17, .ref m18, .ref m19, .ref m20, .int fc, .ref m21]))] H := hP
        have hD : va_D A [(m0, .inr (4, [.int 1, .int msz, .int (nI nb), .ref m1, .ref m2, .ref m3, .ref m4, .ref m5, .ref m6, .ref m7, .ref m8, .int li, .int nht, .long la, .long lb, .int lx, .long ia, .long ib, .int ix, .long oa, .long ob, .ref m9, .ref m10, .ref m11, .ref m12, .ref m13, .int hry, .int rh, .int rl, .ref m14, .ref m15, .ref m16, .ref m17, .ref m18, .ref m19, .ref m20, .int fc, .ref m21]))] := hD
        refine lv_aload_n hx hb dX4_kind_37 rfl (lv_at hl 0 rfl) ?_
        refine va_get (D := D) (ci := 4) (v := .int 1) (C := RX4) (T := TX4) (N := 38) hx hb hg iX4 hown hK hP 0 rfl rfl 0 (by decide) (hg _ kw493) (fun _ h9 => h9) rfl dX4_kind_38 ?_
        refine lv_if_le (tgt := 46) hx hb dX4_kind_41 (by decide) (fun c41 => absurd c41 (by decide)) (fun _ => ?_)
        refine lv_iconst (v := 0) hx hb dX4_kind_44 (by decide) ?_
        exact W.iret (v := 0) hx hb hr (fun t ht hW => ⟨⟨0, (), rfl, trivial, bq_end hP hK hD ht hW⟩, hS.F ht⟩) hS.2.2 dX4_kind_45
      · replace c26 := bI_t c26
        refine lv_iconst (v := 0) hx hb dX4_kind_29 (by decide) ?_
        refine lv_goto (tgt := 34) hx hb dX4_kind_30 (by decide) ?_
        exact absurd ⟨c6, c15, c26⟩ hR

set_option maxHeartbeats 4000000 in
set_option maxRecDepth 100000 in
/-- off -/
theorem qX4_off_ok (l : Launch) (D : va_G) (cI cZ cJ : ClassId) (m0 m1 m2 m3 m4 m5 m6 m7 m8 m9 m10 m11 m12 m13 m14 m15 m16 m17 m18 m19 m20 m21 : Nat) (th msz li nht lx ix hry rh rl fc : Int32) (la lb ia ib oa ob : Int64) (of : Nat → Int32) (hof : ∀ j, of j = 0 ∨ of j = 1) (nb : Nat) (hnb : nb ≤ 20) (x : Int32) (bv : Bool) (hR : inBl 0 x (nI nb - 1) = true) (sz : Nat) : Met l yX4_off (Cond.code yX4_off cX4_off 4 (some .boolean) :: gw) ({ frames := 2, cells := 0, slots := 0, locals := 43 }) (wq D [.ref m0, .int x, .int (bI bv)] sz [(m0, .inr (4, [.int th, .int msz, .int (nI nb), .ref m1, .ref m2, .ref m3, .ref m4, .ref m5, .ref m6, .ref m7, .ref m8, .int li, .int nht, .long la, .long lb, .int lx, .long ia, .long ib, .int ix, .long oa, .long ob, .ref m9, .ref m10, .ref m11, .ref m12, .ref m13, .int hry, .int rh, .int rl, .ref m14, .ref m15, .ref m16, .ref m17, .ref m18, .ref m19, .ref m20, .int fc, .ref m21])), (m4, .inl (cZ, 20, .inl of))] [(cI, .int), (cZ, .boolean), (cJ, .long)]) (va_Qi (S := Unit) (fun r _ => r = of x.toNatClampNeg) (fun u => bq D [(cI, .int), (cZ, .boolean), (cJ, .long)] (va_A [(m0, .inr (4, [.int th, .int msz, .int (nI nb), .ref m1, .ref m2, .ref m3, .ref m4, .ref m5, .ref m6, .ref m7, .ref m8, .int li, .int nht, .long la, .long lb, .int lx, .long ia, .long ib, .int ix, .long oa, .long ob, .ref m9, .ref m10, .ref m11, .ref m12, .ref m13, .int hry, .int rh, .int rl, .ref m14, .ref m15, .ref m16, .ref m17, .ref m18, .ref m19, .ref m20, .int fc, .ref m21])), (m4, .inl (cZ, 20, .inl of))] sz) ([(m0, .inr (4, [.int 0, .int msz, .int (nI nb), .ref m1, .ref m2, .ref m3, .ref m4, .ref m5, .ref m6, .ref m7, .ref m8, .int li, .int nht, .long la, .long lb, .int lx, .long ia, .long ib, .int ix, .long oa, .long ob, .ref m9, .ref m10, .ref m11, .ref m12, .ref m13, .int hry, .int rh, .int rl, .ref m14, .ref m15, .ref m16, .ref m17, .ref m18, .ref m19, .ref m20, .int fc, .ref m21])), (m4, .inl (cZ, 20, .inl (upd of x.toNatClampNeg (bI bv))))])) (va_A [(m0, .inr (4, [.int th, .int msz, .int (nI nb), .ref m1, .ref m2, .ref m3, .ref m4, .ref m5, .ref m6, .ref m7, .ref m8, .int li, .int nht, .long la, .long lb, .int lx, .long ia, .long ib, .int ix, .long oa, .long ob, .ref m9, .ref m10, .ref m11, .ref m12, .ref m13, .int hry, .int rh, .int rl, .ref m14, .ref m15, .ref m16, .ref m17, .ref m18, .ref m19, .ref m20, .int fc, .ref m21])), (m4, .inl (cZ, 20, .inl of))] sz)) 0 0 (va_A [(m0, .inr (4, [.int th, .int msz, .int (nI nb), .ref m1, .ref m2, .ref m3, .ref m4, .ref m5, .ref m6, .ref m7, .ref m8, .int li, .int nht, .long la, .long lb, .int lx, .long ia, .long ib, .int ix, .long oa, .long ob, .ref m9, .ref m10, .ref m11, .ref m12, .ref m13, .int hry, .int rh, .int rl, .ref m14, .ref m15, .ref m16, .ref m17, .ref m18, .ref m19, .ref m20, .int fc, .ref m21])), (m4, .inl (cZ, 20, .inl of))] sz) := by
  refine Met.ofW (cc := cX4_off) (maxL := 4) (ret := (some .boolean)) (by decide) rfl ?_
  intro p e s m args below meth c s₁ B hml hv
  obtain ⟨rfl, hsz, hP, hK, hD0, hZ⟩ := hv
  have hx := B.exec
  have hb := B.bytes
  have hr := B.returns
  have hg : ∀ w ∈ gw, w.before _ s = true := fun w h => atoms_spec (ws := Cond.code yX4_off cX4_off 4 (some .boolean) :: gw) B.pre w (List.mem_cons_of_mem _ h)
  have hown : s.vm.findClass RX4 = some m.cls := findClass_of_methodNamed B.named
  have hlocks := B.notSynchronized
  subst hsz
  have hD := hD0.self (sz := s.heap.size)
  generalize hAe : va_A [(m0, .inr (4, [.int th, .int msz, .int (nI nb), .ref m1, .ref m2, .ref m3, .ref m4, .ref m5, .ref m6, .ref m7, .ref m8, .int li, .int nht, .long la, .long lb, .int lx, .long ia, .long ib, .int ix, .long oa, .long ob, .ref m9, .ref m10, .ref m11, .ref m12, .ref m13, .int hry, .int rh, .int rl, .ref m14, .ref m15, .ref m16, .ref m17, .ref m18, .ref m19, .ref m20, .int fc, .ref m21])), (m4, .inl (cZ, 20, .inl of))] s.heap.size = A at hD ⊢
  have hA : ∀ q : Nat, s.heap.size ≤ q → A q := fun q h => by rw [← hAe]; exact Or.inr h
  have hS : va_S A s.heap s.heap [] := va_S.rf
  have hP : va_P D vwCl [(m0, .inr (4, [.int th, .int msz, .int (nI nb), .ref m1, .ref m2, .ref m3, .ref m4, .ref m5, .ref m6, .ref m7, .ref m8, .int li, .int nht, .long la, .long lb, .int lx, .long ia, .long ib, .int ix, .long oa, .long ob, .ref m9, .ref m10, .ref m11, .ref m12, .ref m13, .int hry, .int rh, .int rl, .ref m14, .ref m15, .ref m16, .ref m17, .ref m18, .ref m19, .ref m20, .int fc, .ref m21])), (m4, .inl (cZ, 20, .inl of))] s.heap := hP
  have hl := lv_entry ([.ref m0, .int x, .int (bI bv)]) (n := 4) (Nat.le_of_ble_eq_true rfl)
  rw [lg_entry_eq]
  generalize (lg_sl ([.ref m0, .int x, .int (bI bv)]) ++ List.replicate (4 - (lg_sl ([.ref m0, .int x, .int (bI bv)])).length) Slot.unset).toArray = ls at hl ⊢
  have hl : lv_has ls 4 [(0, .ref m0), (1, .int x), (2, .int (bI bv))] := hl
  refine lv_aload_n hx hb dX4_off_0 rfl (lv_at hl 0 rfl) ?_
  refine lv_aload_n hx hb dX4_off_1 rfl (lv_at hl 0 rfl) ?_
  refine lv_iload_n hx hb dX4_off_2 rfl (lv_at hl 1 rfl) ?_
  have hPc := hP.sub (ws' := [(m0, .inr (4, [.int th, .int msz, .int (nI nb), .ref m1, .ref m2, .ref m3, .ref m4, .ref m5, .ref m6, .ref m7, .ref m8, .int li, .int nht, .long la, .long lb, .int lx, .long ia, .long ib, .int ix, .long oa, .long ob, .ref m9, .ref m10, .ref m11, .ref m12, .ref m13, .int hry, .int rh, .int rl, .ref m14, .ref m15, .ref m16, .ref m17, .ref m18, .ref m19, .ref m20, .int fc, .ref m21]))]) [0] rfl
  refine rq_call (va_runV (As := [.int x]) (rest := [.ref m0]) ⟨hx, hb, hml, hown, hg⟩ (qX4_isBox l D cI cZ cJ m0 m1 m2 m3 m4 m5 m6 m7 m8 m9 m10 m11 m12 m13 m14 m15 m16 m17 m18 m19 m20 m21 th msz (nI nb) li nht lx ix hry rh rl fc la lb ia ib oa ob x) (cwV 1 hg (gw_V kw632 kw634 kw25 kw41 kw635) rfl rfl rfl (by decide +kernel) ⟨Nat.le_of_ble_eq_true rfl, Nat.le_of_ble_eq_true rfl⟩) (pq_preV hPc hK hZ (va_recv hK hPc (ci := 4) (q0 := 0) rfl rfl)) rfl rfl hl.1 rfl (lv_room (Nat.le_of_ble_eq_true rfl)) dX4_off_3 ⟨Nat.le_of_ble_eq_true rfl, Nat.le_of_ble_eq_true rfl⟩) ?_
  refine lv_if_eq (tgt := 13) hx hb dX4_off_6 (by decide) (fun c6 => absurd c6 (bI_nz hR)) (fun _ => ?_)
  refine lv_iconst (v := 0) hx hb dX4_off_9 (by decide) ?_
  refine lv_goto (tgt := 14) hx hb dX4_off_10 (by decide) ?_
  refine va_put (D := D) (ci := 4) (v := .int 0) (ty := .int) (C := RX4) (T := TX4) (N := 38) hx hb hg iX4 tyX4 tyX4_ok nmX4 hown hK hP hD hS 0 rfl rfl 0 (by decide) (hg _ kw493) (fun _ h9 => h9) rfl (by decide +kernel) rfl rfl (Nat.le_of_ble_eq_true rfl) dX4_off_14 (fun H locs hP hD hS => ?_)
  have hP : va_P D vwCl [(m0, .inr (4, [.int 0, .int msz, .int (nI nb), .ref m1, .ref m2, .ref m3, .ref m4, .ref m5, .ref m6, .ref m7, .ref m8, .int li, .int nht, .long la, .long lb, .int lx, .long ia, .long ib, .int ix, .long oa, .long ob, .ref m9, .ref m10, .ref m11, .ref m12, .ref m13, .int hry, .int rh, .int rl, .ref m14, .ref m15, .ref m16, .ref m17, .ref m18, .ref m19, .ref m20, .int fc, .ref m21])), (m4, .inl (cZ, 20, .inl of))] H := hP
  have hD : va_D A [(m0, .inr (4, [.int 0, .int msz, .int (nI nb), .ref m1, .ref m2, .ref m3, .ref m4, .ref m5, .ref m6, .ref m7, .ref m8, .int li, .int nht, .long la, .long lb, .int lx, .long ia, .long ib, .int ix, .long oa, .long ob, .ref m9, .ref m10, .ref m11, .ref m12, .ref m13, .int hry, .int rh, .int rl, .ref m14, .ref m15, .ref m16, .ref m17, .ref m18, .ref m19, .ref m20, .int fc, .ref m21])), (m4, .inl (cZ, 20, .inl of))] := hD
  refine lv_aload_n hx hb dX4_off_17 rfl (lv_at hl 0 rfl) ?_
  refine va_get (D := D) (ci := 4) (v := .int 0) (C := RX4) (T := TX4) (N := 38) hx hb hg iX4 hown hK hP 0 rfl rfl 0 (by decide) (hg _ kw493) (fun _ h9 => h9) rfl dX4_off_18 ?_
  refine lv_if_le (tgt := 26) hx hb dX4_off_21 (by decide) (fun _ => ?_) (fun c21 => absurd (by decide) c21)
  refine lv_aload_n hx hb dX4_off_26 rfl (lv_at hl 0 rfl) ?_
  refine va_get (D := D) (ci := 4) (v := .ref m4) (C := RX4) (T := TX4) (N := 38) hx hb hg iX4 hown hK hP 0 rfl rfl 6 (by decide) (hg _ kw499) (fun _ h9 => h9) rfl dX4_off_27 ?_
  refine lv_iload_n hx hb dX4_off_30 rfl (lv_at hl 1 rfl) ?_
  refine va_zald hx hb hK hP 1 1 rfl rfl (vin_of ((bx_iff hnb).mp hR) hnb (by decide)) dX4_off_31 ?_
  refine lv_istore_n (lv' := [(3, .int (of x.toNatClampNeg)), (0, .ref m0), (1, .int x), (2, .int (bI bv))]) hx hb dX4_off_32 rfl hl (by decide) rfl (fun ls hl => ?_)
  refine lv_aload_n hx hb dX4_off_33 rfl (lv_at hl 1 rfl) ?_
  refine va_get (D := D) (ci := 4) (v := .ref m4) (C := RX4) (T := TX4) (N := 38) hx hb hg iX4 hown hK hP 0 rfl rfl 6 (by decide) (hg _ kw499) (fun _ h9 => h9) rfl dX4_off_34 ?_
  refine lv_iload_n hx hb dX4_off_37 rfl (lv_at hl 2 rfl) ?_
  refine lv_iload_n hx hb dX4_off_38 rfl (lv_at hl 3 rfl) ?_
  refine va_zast hx hb hK hP hD hS 1 1 rfl rfl (vin_of ((bx_iff hnb).mp hR) hnb (by decide)) dX4_off_39 (fun H locs hP hD hS => ?_)
  rw [show vp_nar .boolean (bI bv) = bI bv from nar_bI bv] at hP hD
  have hP : va_P D vwCl [(m0, .inr (4, [.int 0, .int msz, .int (nI nb), .ref m1, .ref m2, .ref m3, .ref m4, .ref m5, .ref m6, .ref m7, .ref m8, .int li, .int nht, .long la, .long lb, .int lx, .long ia, .long ib, .int ix, .long oa, .long ob, .ref m9, .ref m10, .ref m11, .ref m12, .ref m13, .int hry, .int rh, .int rl, .ref m14, .ref m15, .ref m16, .ref m17, .ref m18, .ref m19, .ref m20, .int fc, .ref m21])), (m4, .inl (cZ, 20, .inl (upd of x.toNatClampNeg (bI bv))))] H := hP
  have hD : va_D A [(m0, .inr (4, [.int 0, .int msz, .int (nI nb), .ref m1, .ref m2, .ref m3, .ref m4, .ref m5, .ref m6, .ref m7, .ref m8, .int li, .int nht, .long la, .long lb, .int lx, .long ia, .long ib, .int ix, .long oa, .long ob, .ref m9, .ref m10, .ref m11, .ref m12, .ref m13, .int hry, .int rh, .int rl, .ref m14, .ref m15, .ref m16, .ref m17, .ref m18, .ref m19, .ref m20, .int fc, .ref m21])), (m4, .inl (cZ, 20, .inl (upd of x.toNatClampNeg (bI bv))))] := hD
  refine lv_iload_n hx hb dX4_off_40 rfl (lv_at hl 0 rfl) ?_
  exact W.zret (v := of x.toNatClampNeg) hx hb hr (nar_01 (hof _)) (fun t ht hW => ⟨⟨of x.toNatClampNeg, (), rfl, rfl, bq_end hP hK hD ht hW⟩, hS.F ht⟩) hS.2.2 dX4_off_41

set_option maxHeartbeats 4000000 in
set_option maxRecDepth 100000 in
theorem qX4_off_no (l : Launch) (D : va_G) (cI cZ cJ : ClassId) (m0 m1 m2 m3 m4 m5 m6 m7 m8 m9 m10 m11 m12 m13 m14 m15 m16 m17 m18 m19 m20 m21 : Nat) (th msz li nht lx ix hry rh rl fc : Int32) (la lb ia ib oa ob : Int64) (nb : Nat) (x : Int32) (bv : Bool) (hR : ¬ (inBl 0 x (nI nb - 1) = true)) (sz : Nat) : Met l yX4_off (Cond.code yX4_off cX4_off 4 (some .boolean) :: gw) ({ frames := 2, cells := 0, slots := 0, locals := 43 }) (wq D [.ref m0, .int x, .int (bI bv)] sz [(m0, .inr (4, [.int th, .int msz, .int (nI nb), .ref m1, .ref m2, .ref m3, .ref m4, .ref m5, .ref m6, .ref m7, .ref m8, .int li, .int nht, .long la, .long lb, .int lx, .long ia, .long ib, .int ix, .long oa, .long ob, .ref m9, .ref m10, .ref m11, .ref m12, .ref m13, .int hry, .int rh, .int rl, .ref m14, .ref m15, .ref m16, .ref m17, .ref m18, .ref m19, .ref m20, .int fc, .ref m21]))] [(cI, .int), (cZ, .boolean), (cJ, .long)]) (va_Qi (S := Unit) (fun _ _ => True) (fun u => bq D [(cI, .int), (cZ, .boolean), (cJ, .long)] (va_A [(m0, .inr (4, [.int th, .int msz, .int (nI nb), .ref m1, .ref m2, .ref m3, .ref m4, .ref m5, .ref m6, .ref m7, .ref m8, .int li, .int nht, .long la, .long lb, .int lx, .long ia, .long ib, .int ix, .long oa, .long ob, .ref m9, .ref m10, .ref m11, .ref m12, .ref m13, .int hry, .int rh, .int rl, .ref m14, .ref m15, .ref m16, .ref m17, .ref m18, .ref m19, .ref m20, .int fc, .ref m21]))] sz) ([(m0, .inr (4, [.int 1, .int msz, .int (nI nb), .ref m1, .ref m2, .ref m3, .ref m4, .ref m5, .ref m6, .ref m7, .ref m8, .int li, .int nht, .long la, .long lb, .int lx, .long ia, .long ib, .int ix, .long oa, .long ob, .ref m9, .ref m10, .ref m11, .ref m12, .ref m13, .int hry, .int rh, .int rl, .ref m14, .ref m15, .ref m16, .ref m17, .ref m18, .ref m19, .ref m20, .int fc, .ref m21]))])) (va_A [(m0, .inr (4, [.int th, .int msz, .int (nI nb), .ref m1, .ref m2, .ref m3, .ref m4, .ref m5, .ref m6, .ref m7, .ref m8, .int li, .int nht, .long la, .long lb, .int lx, .long ia, .long ib, .int ix, .long oa, .long ob, .ref m9, .ref m10, .ref m11, .ref m12, .ref m13, .int hry, .int rh, .int rl, .ref m14, .ref m15, .ref m16, .ref m17, .ref m18, .ref m19, .ref m20, .int fc, .ref m21]))] sz)) 0 0 (va_A [(m0, .inr (4, [.int th, .int msz, .int (nI nb), .ref m1, .ref m2, .ref m3, .ref m4, .ref m5, .ref m6, .ref m7, .ref m8, .int li, .int nht, .long la, .long lb, .int lx, .long ia, .long ib, .int ix, .long oa, .long ob, .ref m9, .ref m10, .ref m11, .ref m12, .ref m13, .int hry, .int rh, .int rl, .ref m14, .ref m15, .ref m16, .ref m17, .ref m18, .ref m19, .ref m20, .int fc, .ref m21]))] sz) := by
  refine Met.ofW (cc := cX4_off) (maxL := 4) (ret := (some .boolean)) (by decide) rfl ?_
  intro p e s m args below meth c s₁ B hml hv
  obtain ⟨rfl, hsz, hP, hK, hD0, hZ⟩ := hv
  have hx := B.exec
  have hb := B.bytes
  have hr := B.returns
  have hg : ∀ w ∈ gw, w.before _ s = true := fun w h => atoms_spec (ws := Cond.code yX4_off cX4_off 4 (some .boolean) :: gw) B.pre w (List.mem_cons_of_mem _ h)
  have hown : s.vm.findClass RX4 = some m.cls := findClass_of_methodNamed B.named
  have hlocks := B.notSynchronized
  subst hsz
  have hD := hD0.self (sz := s.heap.size)
  generalize hAe : va_A [(m0, .inr (4, [.int th, .int msz, .int (nI nb), .ref m1, .ref m2, .ref m3, .ref m4, .ref m5, .ref m6, .ref m7, .ref m8, .int li, .int nht, .long la, .long lb, .int lx, .long ia, .long ib, .int ix, .long oa, .long ob, .ref m9, .ref m10, .ref m11, .ref m12, .ref m13, .int hry, .int rh, .int rl, .ref m14, .ref m15, .ref m16, .ref m17, .ref m18, .ref m19, .ref m20, .int fc, .ref m21]))] s.heap.size = A at hD ⊢
  have hA : ∀ q : Nat, s.heap.size ≤ q → A q := fun q h => by rw [← hAe]; exact Or.inr h
  have hS : va_S A s.heap s.heap [] := va_S.rf
  have hP : va_P D vwCl [(m0, .inr (4, [.int th, .int msz, .int (nI nb), .ref m1, .ref m2, .ref m3, .ref m4, .ref m5, .ref m6, .ref m7, .ref m8, .int li, .int nht, .long la, .long lb, .int lx, .long ia, .long ib, .int ix, .long oa, .long ob, .ref m9, .ref m10, .ref m11, .ref m12, .ref m13, .int hry, .int rh, .int rl, .ref m14, .ref m15, .ref m16, .ref m17, .ref m18, .ref m19, .ref m20, .int fc, .ref m21]))] s.heap := hP
  have hl := lv_entry ([.ref m0, .int x, .int (bI bv)]) (n := 4) (Nat.le_of_ble_eq_true rfl)
  rw [lg_entry_eq]
  generalize (lg_sl ([.ref m0, .int x, .int (bI bv)]) ++ List.replicate (4 - (lg_sl ([.ref m0, .int x, .int (bI bv)])).length) Slot.unset).toArray = ls at hl ⊢
  have hl : lv_has ls 4 [(0, .ref m0), (1, .int x), (2, .int (bI bv))] := hl
  refine lv_aload_n hx hb dX4_off_0 rfl (lv_at hl 0 rfl) ?_
  refine lv_aload_n hx hb dX4_off_1 rfl (lv_at hl 0 rfl) ?_
  refine lv_iload_n hx hb dX4_off_2 rfl (lv_at hl 1 rfl) ?_
  have hPc := hP.sub (ws' := [(m0, .inr (4, [.int th, .int msz, .int (nI nb), .ref m1, .ref m2, .ref m3, .ref m4, .ref m5, .ref m6, .ref m7, .ref m8, .int li, .int nht, .long la, .long lb, .int lx, .long ia, .long ib, .int ix, .long oa, .long ob, .ref m9, .ref m10, .ref m11, .ref m12, .ref m13, .int hry, .int rh, .int rl, .ref m14, .ref m15, .ref m16, .ref m17, .ref m18, .ref m19, .ref m20, .int fc, .ref m21]))]) [0] rfl
  refine rq_call (va_runV (As := [.int x]) (rest := [.ref m0]) ⟨hx, hb, hml, hown, hg⟩ (qX4_isBox l D cI cZ cJ m0 m1 m2 m3 m4 m5 m6 m7 m8 m9 m10 m11 m12 m13 m14 m15 m16 m17 m18 m19 m20 m21 th msz (nI nb) li nht lx ix hry rh rl fc la lb ia ib oa ob x) (cwV 1 hg (gw_V kw632 kw634 kw25 kw41 kw635) rfl rfl rfl (by decide +kernel) ⟨Nat.le_of_ble_eq_true rfl, Nat.le_of_ble_eq_true rfl⟩) (pq_preV hPc hK hZ (va_recv hK hPc (ci := 4) (q0 := 0) rfl rfl)) rfl rfl hl.1 rfl (lv_room (Nat.le_of_ble_eq_true rfl)) dX4_off_3 ⟨Nat.le_of_ble_eq_true rfl, Nat.le_of_ble_eq_true rfl⟩) ?_
  refine lv_if_eq (tgt := 13) hx hb dX4_off_6 (by decide) (fun _ => ?_) (fun c6 => absurd (by rw [Bool.eq_false_iff.mpr hR]; rfl) c6)
  refine lv_iconst (v := 1) hx hb dX4_off_13 (by decide) ?_
  refine va_put (D := D) (ci := 4) (v := .int 1) (ty := .int) (C := RX4) (T := TX4) (N := 38) hx hb hg iX4 tyX4 tyX4_ok nmX4 hown hK hP hD hS 0 rfl rfl 0 (by decide) (hg _ kw493) (fun _ h9 => h9) rfl (by decide +kernel) rfl rfl (Nat.le_of_ble_eq_true rfl) dX4_off_14 (fun H locs hP hD hS => ?_)
  have hP : va_P D vwCl [(m0, .inr (4, [.int 1, .int msz, .int (nI nb), .ref m1, .ref m2, .ref m3, .ref m4, .ref m5, .ref m6, .ref m7, .ref m8, .int li, .int nht, .long la, .long lb, .int lx, .long ia, .long ib, .int ix, .long oa, .long ob, .ref m9, .ref m10, .ref m11, .ref m12, .ref m13, .int hry, .int rh, .int rl, .ref m14, .ref m15, .ref m16, .ref m17, .ref m18, .ref m19, .ref m20, .int fc, .ref m21]))] H := hP
  have hD : va_D A [(m0, .inr (4, [.int 1, .int msz, .int (nI nb), .ref m1, .ref m2, .ref m3, .ref m4, .ref m5, .ref m6, .ref m7, .ref m8, .int li, .int nht, .long la, .long lb, .int lx, .long ia, .long ib, .int ix, .long oa, .long ob, .ref m9, .ref m10, .ref m11, .ref m12, .ref m13, .int hry, .int rh, .int rl, .ref m14, .ref m15, .ref m16, .ref m17, .ref m18, .ref m19, .ref m20, .int fc, .ref m21]))] := hD
  refine lv_aload_n hx hb dX4_off_17 rfl (lv_at hl 0 rfl) ?_
  refine va_get (D := D) (ci := 4) (v := .int 1) (C := RX4) (T := TX4) (N := 38) hx hb hg iX4 hown hK hP 0 rfl rfl 0 (by decide) (hg _ kw493) (fun _ h9 => h9) rfl dX4_off_18 ?_
  refine lv_if_le (tgt := 26) hx hb dX4_off_21 (by decide) (fun c21 => absurd c21 (by decide)) (fun _ => ?_)
  refine lv_iconst (v := 0) hx hb dX4_off_24 (by decide) ?_
  exact W.zret (v := 0) hx hb hr (by decide) (fun t ht hW => ⟨⟨0, (), rfl, trivial, bq_end hP hK hD ht hW⟩, hS.F ht⟩) hS.2.2 dX4_off_25

set_option maxHeartbeats 4000000 in
set_option maxRecDepth 100000 in
/-- told -/
theorem qX4_told_ok (l : Launch) (D : va_G) (cI cZ cJ : ClassId) (m0 m1 m2 m3 m4 m5 m6 m7 m8 m9 m10 m11 m12 m13 m14 m15 m16 m17 m18 m19 m20 m21 : Nat) (th msz cn li nht lx ix hry rh rl fc : Int32) (la lb ia ib oa ob : Int64) (rb : Nat → Int32) (wh : Int32) (hR : inBl 0 wh 4 = true ∧ ¬ hry = 0) (sz : Nat) : Met l yX4_told (Cond.code yX4_told cX4_told 2 (some .int) :: gw) ({ frames := 1, cells := 0, slots := 0, locals := 22 }) (wq D [.ref m0, .int wh] sz [(m0, .inr (4, [.int th, .int msz, .int cn, .ref m1, .ref m2, .ref m3, .ref m4, .ref m5, .ref m6, .ref m7, .ref m8, .int li, .int nht, .long la, .long lb, .int lx, .long ia, .long ib, .int ix, .long oa, .long ob, .ref m9, .ref m10, .ref m11, .ref m12, .ref m13, .int hry, .int rh, .int rl, .ref m14, .ref m15, .ref m16, .ref m17, .ref m18, .ref m19, .ref m20, .int fc, .ref m21])), (m14, .inl (cI, 3, .inl rb))] [(cI, .int), (cZ, .boolean), (cJ, .long)]) (va_Qi (S := Unit) (fun r _ => r = toldF wh rh rl rb) (fun u => bq D [(cI, .int), (cZ, .boolean), (cJ, .long)] (va_A [(m0, .inr (4, [.int th, .int msz, .int cn, .ref m1, .ref m2, .ref m3, .ref m4, .ref m5, .ref m6, .ref m7, .ref m8, .int li, .int nht, .long la, .long lb, .int lx, .long ia, .long ib, .int ix, .long oa, .long ob, .ref m9, .ref m10, .ref m11, .ref m12, .ref m13, .int hry, .int rh, .int rl, .ref m14, .ref m15, .ref m16, .ref m17, .ref m18, .ref m19, .ref m20, .int fc, .ref m21])), (m14, .inl (cI, 3, .inl rb))] sz) ([(m0, .inr (4, [.int 0, .int msz, .int cn, .ref m1, .ref m2, .ref m3, .ref m4, .ref m5, .ref m6, .ref m7, .ref m8, .int li, .int nht, .long la, .long lb, .int lx, .long ia, .long ib, .int ix, .long oa, .long ob, .ref m9, .ref m10, .ref m11, .ref m12, .ref m13, .int hry, .int rh, .int rl, .ref m14, .ref m15, .ref m16, .ref m17, .ref m18, .ref m19, .ref m20, .int fc, .ref m21])), (m14, .inl (cI, 3, .inl rb))])) (va_A [(m0, .inr (4, [.int th, .int msz, .int cn, .ref m1, .ref m2, .ref m3, .ref m4, .ref m5, .ref m6, .ref m7, .ref m8, .int li, .int nht, .long la, .long lb, .int lx, .long ia, .long ib, .int ix, .long oa, .long ob, .ref m9, .ref m10, .ref m11, .ref m12, .ref m13, .int hry, .int rh, .int rl, .ref m14, .ref m15, .ref m16, .ref m17, .ref m18, .ref m19, .ref m20, .int fc, .ref m21])), (m14, .inl (cI, 3, .inl rb))] sz)) 0 0 (va_A [(m0, .inr (4, [.int th, .int msz, .int cn, .ref m1, .ref m2, .ref m3, .ref m4, .ref m5, .ref m6, .ref m7, .ref m8, .int li, .int nht, .long la, .long lb, .int lx, .long ia, .long ib, .int ix, .long oa, .long ob, .ref m9, .ref m10, .ref m11, .ref m12, .ref m13, .int hry, .int rh, .int rl, .ref m14, .ref m15, .ref m16, .ref m17, .ref m18, .ref m19, .ref m20, .int fc, .ref m21])), (m14, .inl (cI, 3, .inl rb))] sz) := by
  refine Met.ofW (cc := cX4_told) (maxL := 2) (ret := (some .int)) (by decide) rfl ?_
  intro p e s m args below meth c s₁ B hml hv
  obtain ⟨rfl, hsz, hP, hK, hD0, hZ⟩ := hv
  have hx := B.exec
  have hb := B.bytes
  have hr := B.returns
  have hg : ∀ w ∈ gw, w.before _ s = true := fun w h => atoms_spec (ws := Cond.code yX4_told cX4_told 2 (some .int) :: gw) B.pre w (List.mem_cons_of_mem _ h)
  have hown : s.vm.findClass RX4 = some m.cls := findClass_of_methodNamed B.named
  have hlocks := B.notSynchronized
  subst hsz
  have hD := hD0.self (sz := s.heap.size)
  generalize hAe : va_A [(m0, .inr (4, [.int th, .int msz, .int cn, .ref m1, .ref m2, .ref m3, .ref m4, .ref m5, .ref m6, .ref m7, .ref m8, .int li, .int nht, .long la, .long lb, .int lx, .long ia, .long ib, .int ix, .long oa, .long ob, .ref m9, .ref m10, .ref m11, .ref m12, .ref m13, .int hry, .int rh, .int rl, .ref m14, .ref m15, .ref m16, .ref m17, .ref m18, .ref m19, .ref m20, .int fc, .ref m21])), (m14, .inl (cI, 3, .inl rb))] s.heap.size = A at hD ⊢
  have hA : ∀ q : Nat, s.heap.size ≤ q → A q := fun q h => by rw [← hAe]; exact Or.inr h
  have hS : va_S A s.heap s.heap [] := va_S.rf
  have hP : va_P D vwCl [(m0, .inr (4, [.int th, .int msz, .int cn, .ref m1, .ref m2, .ref m3, .ref m4, .ref m5, .ref m6, .ref m7, .ref m8, .int li, .int nht, .long la, .long lb, .int lx, .long ia, .long ib, .int ix, .long oa, .long ob, .ref m9, .ref m10, .ref m11, .ref m12, .ref m13, .int hry, .int rh, .int rl, .ref m14, .ref m15, .ref m16, .ref m17, .ref m18, .ref m19, .ref m20, .int fc, .ref m21])), (m14, .inl (cI, 3, .inl rb))] s.heap := hP
  have hl := lv_entry ([.ref m0, .int wh]) (n := 2) (Nat.le_of_ble_eq_true rfl)
  rw [lg_entry_eq]
  generalize (lg_sl ([.ref m0, .int wh]) ++ List.replicate (2 - (lg_sl ([.ref m0, .int wh])).length) Slot.unset).toArray = ls at hl ⊢
  have hl : lv_has ls 2 [(0, .ref m0), (1, .int wh)] := hl
  refine lv_aload_n hx hb dX4_told_0 rfl (lv_at hl 0 rfl) ?_
  refine lv_iload_n hx hb dX4_told_1 rfl (lv_at hl 1 rfl) ?_
  refine lv_iconst (v := 0) hx hb dX4_told_2 (by decide) ?_
  refine lv_iconst (v := 4) hx hb dX4_told_3 (by decide) ?_
  have hPc := hP.sub (ws' := []) [] rfl
  refine rq_call (va_runS (As := [.int wh, .int 0, .int 4]) (rest := [.ref m0]) ⟨hx, hb, hml, hown, hg⟩ (qX4_in l D cI cZ cJ wh 0 4) (va_cwS 3 hg (gw_S kw625 kw626 kw41 kw627) rfl rfl rfl (by decide +kernel) ⟨Nat.le_of_ble_eq_true rfl, Nat.le_of_ble_eq_true rfl⟩) (pq_pre hPc hK hZ) rfl rfl hl.1 rfl (lv_room (Nat.le_of_ble_eq_true rfl)) dX4_told_4 ⟨Nat.le_of_ble_eq_true rfl, Nat.le_of_ble_eq_true rfl⟩) ?_
  refine lv_if_ne (tgt := 14) hx hb dX4_told_7 (by decide) (fun _ => ?_) (fun c7 => absurd c7 (bI_nz hR.1))
  refine lv_aload_n hx hb dX4_told_14 rfl (lv_at hl 0 rfl) ?_
  refine va_get (D := D) (ci := 4) (v := .int hry) (C := RX4) (T := TX4) (N := 38) hx hb hg iX4 hown hK hP 0 rfl rfl 26 (by decide) (hg _ kw519) (fun _ h9 => h9) rfl dX4_told_15 ?_
  refine lv_if_ne (tgt := 25) hx hb dX4_told_18 (by decide) (fun _ => ?_) (fun c18 => absurd c18 (hR.2))
  refine lv_iconst (v := 0) hx hb dX4_told_25 (by decide) ?_
  refine va_put (D := D) (ci := 4) (v := .int 0) (ty := .int) (C := RX4) (T := TX4) (N := 38) hx hb hg iX4 tyX4 tyX4_ok nmX4 hown hK hP hD hS 0 rfl rfl 0 (by decide) (hg _ kw493) (fun _ h9 => h9) rfl (by decide +kernel) rfl rfl (Nat.le_of_ble_eq_true rfl) dX4_told_26 (fun H locs hP hD hS => ?_)
  have hP : va_P D vwCl [(m0, .inr (4, [.int 0, .int msz, .int cn, .ref m1, .ref m2, .ref m3, .ref m4, .ref m5, .ref m6, .ref m7, .ref m8, .int li, .int nht, .long la, .long lb, .int lx, .long ia, .long ib, .int ix, .long oa, .long ob, .ref m9, .ref m10, .ref m11, .ref m12, .ref m13, .int hry, .int rh, .int rl, .ref m14, .ref m15, .ref m16, .ref m17, .ref m18, .ref m19, .ref m20, .int fc, .ref m21])), (m14, .inl (cI, 3, .inl rb))] H := hP
  have hD : va_D A [(m0, .inr (4, [.int 0, .int msz, .int cn, .ref m1, .ref m2, .ref m3, .ref m4, .ref m5, .ref m6, .ref m7, .ref m8, .int li, .int nht, .long la, .long lb, .int lx, .long ia, .long ib, .int ix, .long oa, .long ob, .ref m9, .ref m10, .ref m11, .ref m12, .ref m13, .int hry, .int rh, .int rl, .ref m14, .ref m15, .ref m16, .ref m17, .ref m18, .ref m19, .ref m20, .int fc, .ref m21])), (m14, .inl (cI, 3, .inl rb))] := hD
  refine lv_aload_n hx hb dX4_told_29 rfl (lv_at hl 0 rfl) ?_
  refine va_get (D := D) (ci := 4) (v := .int 0) (C := RX4) (T := TX4) (N := 38) hx hb hg iX4 hown hK hP 0 rfl rfl 0 (by decide) (hg _ kw493) (fun _ h9 => h9) rfl dX4_told_30 ?_
  refine lv_if_le (tgt := 38) hx hb dX4_told_33 (by decide) (fun _ => ?_) (fun c33 => absurd (by decide) c33)
  rcases in4 (inBl_iff.mp hR.1) with rfl | rfl | rfl | rfl | rfl
  · refine lv_iload_n hx hb dX4_told_38 rfl (lv_at hl 1 rfl) ?_
    refine lv_if_ne (tgt := 49) hx hb dX4_told_39 (by decide) (fun c39 => absurd (by decide) c39) (fun _ => ?_)
    refine lv_aload_n hx hb dX4_told_42 rfl (lv_at hl 0 rfl) ?_
    refine va_get (D := D) (ci := 4) (v := .int rh) (C := RX4) (T := TX4) (N := 38) hx hb hg iX4 hown hK hP 0 rfl rfl 27 (by decide) (hg _ kw520) (fun _ h9 => h9) rfl dX4_told_43 ?_
    refine lv_goto (tgt := 69) hx hb dX4_told_46 (by decide) ?_
    exact W.iret (v := rh) hx hb hr (fun t ht hW => ⟨⟨rh, (), rfl, rfl, bq_end hP hK hD ht hW⟩, hS.F ht⟩) hS.2.2 dX4_told_69
  · refine lv_iload_n hx hb dX4_told_38 rfl (lv_at hl 1 rfl) ?_
    refine lv_if_ne (tgt := 49) hx hb dX4_told_39 (by decide) (fun _ => ?_) (fun c39 => absurd c39 (by decide))
    refine lv_iload_n hx hb dX4_told_49 rfl (lv_at hl 1 rfl) ?_
    refine lv_iconst (v := 1) hx hb dX4_told_50 (by decide) ?_
    refine lv_icmp_ne (tgt := 61) hx hb dX4_told_51 (by decide) (fun c51 => absurd (by decide) c51) (fun _ => ?_)
    refine lv_aload_n hx hb dX4_told_54 rfl (lv_at hl 0 rfl) ?_
    refine va_get (D := D) (ci := 4) (v := .int rl) (C := RX4) (T := TX4) (N := 38) hx hb hg iX4 hown hK hP 0 rfl rfl 28 (by decide) (hg _ kw521) (fun _ h9 => h9) rfl dX4_told_55 ?_
    refine lv_goto (tgt := 69) hx hb dX4_told_58 (by decide) ?_
    exact W.iret (v := rl) hx hb hr (fun t ht hW => ⟨⟨rl, (), rfl, rfl, bq_end hP hK hD ht hW⟩, hS.F ht⟩) hS.2.2 dX4_told_69
  · refine lv_iload_n hx hb dX4_told_38 rfl (lv_at hl 1 rfl) ?_
    refine lv_if_ne (tgt := 49) hx hb dX4_told_39 (by decide) (fun _ => ?_) (fun c39 => absurd c39 (by decide))
    refine lv_iload_n hx hb dX4_told_49 rfl (lv_at hl 1 rfl) ?_
    refine lv_iconst (v := 1) hx hb dX4_told_50 (by decide) ?_
    refine lv_icmp_ne (tgt := 61) hx hb dX4_told_51 (by decide) (fun _ => ?_) (fun c51 => absurd c51 (by decide))
    refine lv_aload_n hx hb dX4_told_61 rfl (lv_at hl 0 rfl) ?_
    refine va_get (D := D) (ci := 4) (v := .ref m14) (C := RX4) (T := TX4) (N := 38) hx hb hg iX4 hown hK hP 0 rfl rfl 29 (by decide) (hg _ kw522) (fun _ h9 => h9) rfl dX4_told_62 ?_
    refine lv_iload_n hx hb dX4_told_65 rfl (lv_at hl 1 rfl) ?_
    refine lv_iconst (v := 2) hx hb dX4_told_66 (by decide) ?_
    refine lv_isub hx hb dX4_told_67 ?_
    refine tp_i (y := 0) (by decide) ?_
    refine va_iald hx hb hK hP 1 0 rfl rfl (vp_in_nI (n := 0) (by decide) (by decide)) dX4_told_68 ?_
    refine tp_i (y := rb 0) (congrArg rb (rfl)) ?_
    exact W.iret (v := rb 0) hx hb hr (fun t ht hW => ⟨⟨rb 0, (), rfl, rfl, bq_end hP hK hD ht hW⟩, hS.F ht⟩) hS.2.2 dX4_told_69
  · refine lv_iload_n hx hb dX4_told_38 rfl (lv_at hl 1 rfl) ?_
    refine lv_if_ne (tgt := 49) hx hb dX4_told_39 (by decide) (fun _ => ?_) (fun c39 => absurd c39 (by decide))
    refine lv_iload_n hx hb dX4_told_49 rfl (lv_at hl 1 rfl) ?_
    refine lv_iconst (v := 1) hx hb dX4_told_50 (by decide) ?_
    refine lv_icmp_ne (tgt := 61) hx hb dX4_told_51 (by decide) (fun _ => ?_) (fun c51 => absurd c51 (by decide))
    refine lv_aload_n hx hb dX4_told_61 rfl (lv_at hl 0 rfl) ?_
    refine va_get (D := D) (ci := 4) (v := .ref m14) (C := RX4) (T := TX4) (N := 38) hx hb hg iX4 hown hK hP 0 rfl rfl 29 (by decide) (hg _ kw522) (fun _ h9 => h9) rfl dX4_told_62 ?_
    refine lv_iload_n hx hb dX4_told_65 rfl (lv_at hl 1 rfl) ?_
    refine lv_iconst (v := 2) hx hb dX4_told_66 (by decide) ?_
    refine lv_isub hx hb dX4_told_67 ?_
    refine tp_i (y := 1) (by decide) ?_
    refine va_iald hx hb hK hP 1 0 rfl rfl (vp_in_nI (n := 1) (by decide) (by decide)) dX4_told_68 ?_
    refine tp_i (y := rb 1) (congrArg rb (rfl)) ?_
    exact W.iret (v := rb 1) hx hb hr (fun t ht hW => ⟨⟨rb 1, (), rfl, rfl, bq_end hP hK hD ht hW⟩, hS.F ht⟩) hS.2.2 dX4_told_69
  · refine lv_iload_n hx hb dX4_told_38 rfl (lv_at hl 1 rfl) ?_
    refine lv_if_ne (tgt := 49) hx hb dX4_told_39 (by decide) (fun _ => ?_) (fun c39 => absurd c39 (by decide))
    refine lv_iload_n hx hb dX4_told_49 rfl (lv_at hl 1 rfl) ?_
    refine lv_iconst (v := 1) hx hb dX4_told_50 (by decide) ?_
    refine lv_icmp_ne (tgt := 61) hx hb dX4_told_51 (by decide) (fun _ => ?_) (fun c51 => absurd c51 (by decide))
    refine lv_aload_n hx hb dX4_told_61 rfl (lv_at hl 0 rfl) ?_
    refine va_get (D := D) (ci := 4) (v := .ref m14) (C := RX4) (T := TX4) (N := 38) hx hb hg iX4 hown hK hP 0 rfl rfl 29 (by decide) (hg _ kw522) (fun _ h9 => h9) rfl dX4_told_62 ?_
    refine lv_iload_n hx hb dX4_told_65 rfl (lv_at hl 1 rfl) ?_
    refine lv_iconst (v := 2) hx hb dX4_told_66 (by decide) ?_
    refine lv_isub hx hb dX4_told_67 ?_
    refine tp_i (y := 2) (by decide) ?_
    refine va_iald hx hb hK hP 1 0 rfl rfl (vp_in_nI (n := 2) (by decide) (by decide)) dX4_told_68 ?_
    refine tp_i (y := rb 2) (congrArg rb (rfl)) ?_
    exact W.iret (v := rb 2) hx hb hr (fun t ht hW => ⟨⟨rb 2, (), rfl, rfl, bq_end hP hK hD ht hW⟩, hS.F ht⟩) hS.2.2 dX4_told_69

set_option maxHeartbeats 4000000 in
set_option maxRecDepth 100000 in
theorem qX4_told_no1 (l : Launch) (D : va_G) (cI cZ cJ : ClassId) (m0 m1 m2 m3 m4 m5 m6 m7 m8 m9 m10 m11 m12 m13 m14 m15 m16 m17 m18 m19 m20 m21 : Nat) (th msz cn li nht lx ix hry rh rl fc : Int32) (la lb ia ib oa ob : Int64) (wh : Int32) (hR : ¬ inBl 0 wh 4 = true) (sz : Nat) : Met l yX4_told (Cond.code yX4_told cX4_told 2 (some .int) :: gw) ({ frames := 1, cells := 0, slots := 0, locals := 22 }) (wq D [.ref m0, .int wh] sz [(m0, .inr (4, [.int th, .int msz, .int cn, .ref m1, .ref m2, .ref m3, .ref m4, .ref m5, .ref m6, .ref m7, .ref m8, .int li, .int nht, .long la, .long lb, .int lx, .long ia, .long ib, .int ix, .long oa, .long ob, .ref m9, .ref m10, .ref m11, .ref m12, .ref m13, .int hry, .int rh, .int rl, .ref m14, .ref m15, .ref m16, .ref m17, .ref m18, .ref m19, .ref m20, .int fc, .ref m21]))] [(cI, .int), (cZ, .boolean), (cJ, .long)]) (va_Qi (S := Unit) (fun _ _ => True) (fun u => bq D [(cI, .int), (cZ, .boolean), (cJ, .long)] (va_A [(m0, .inr (4, [.int th, .int msz, .int cn, .ref m1, .ref m2, .ref m3, .ref m4, .ref m5, .ref m6, .ref m7, .ref m8, .int li, .int nht, .long la, .long lb, .int lx, .long ia, .long ib, .int ix, .long oa, .long ob, .ref m9, .ref m10, .ref m11, .ref m12, .ref m13, .int hry, .int rh, .int rl, .ref m14, .ref m15, .ref m16, .ref m17, .ref m18, .ref m19, .ref m20, .int fc, .ref m21]))] sz) ([(m0, .inr (4, [.int 1, .int msz, .int cn, .ref m1, .ref m2, .ref m3, .ref m4, .ref m5, .ref m6, .ref m7, .ref m8, .int li, .int nht, .long la, .long lb, .int lx, .long ia, .long ib, .int ix, .long oa, .long ob, .ref m9, .ref m10, .ref m11, .ref m12, .ref m13, .int hry, .int rh, .int rl, .ref m14, .ref m15, .ref m16, .ref m17, .ref m18, .ref m19, .ref m20, .int fc, .ref m21]))])) (va_A [(m0, .inr (4, [.int th, .int msz, .int cn, .ref m1, .ref m2, .ref m3, .ref m4, .ref m5, .ref m6, .ref m7, .ref m8, .int li, .int nht, .long la, .long lb, .int lx, .long ia, .long ib, .int ix, .long oa, .long ob, .ref m9, .ref m10, .ref m11, .ref m12, .ref m13, .int hry, .int rh, .int rl, .ref m14, .ref m15, .ref m16, .ref m17, .ref m18, .ref m19, .ref m20, .int fc, .ref m21]))] sz)) 0 0 (va_A [(m0, .inr (4, [.int th, .int msz, .int cn, .ref m1, .ref m2, .ref m3, .ref m4, .ref m5, .ref m6, .ref m7, .ref m8, .int li, .int nht, .long la, .long lb, .int lx, .long ia, .long ib, .int ix, .long oa, .long ob, .ref m9, .ref m10, .ref m11, .ref m12, .ref m13, .int hry, .int rh, .int rl, .ref m14, .ref m15, .ref m16, .ref m17, .ref m18, .ref m19, .ref m20, .int fc, .ref m21]))] sz) := by
  refine Met.ofW (cc := cX4_told) (maxL := 2) (ret := (some .int)) (by decide) rfl ?_
  intro p e s m args below meth c s₁ B hml hv
  obtain ⟨rfl, hsz, hP, hK, hD0, hZ⟩ := hv
  have hx := B.exec
  have hb := B.bytes
  have hr := B.returns
  have hg : ∀ w ∈ gw, w.before _ s = true := fun w h => atoms_spec (ws := Cond.code yX4_told cX4_told 2 (some .int) :: gw) B.pre w (List.mem_cons_of_mem _ h)
  have hown : s.vm.findClass RX4 = some m.cls := findClass_of_methodNamed B.named
  have hlocks := B.notSynchronized
  subst hsz
  have hD := hD0.self (sz := s.heap.size)
  generalize hAe : va_A [(m0, .inr (4, [.int th, .int msz, .int cn, .ref m1, .ref m2, .ref m3, .ref m4, .ref m5, .ref m6, .ref m7, .ref m8, .int li, .int nht, .long la, .long lb, .int lx, .long ia, .long ib, .int ix, .long oa, .long ob, .ref m9, .ref m10, .ref m11, .ref m12, .ref m13, .int hry, .int rh, .int rl, .ref m14, .ref m15, .ref m16, .ref m17, .ref m18, .ref m19, .ref m20, .int fc, .ref m21]))] s.heap.size = A at hD ⊢
  have hA : ∀ q : Nat, s.heap.size ≤ q → A q := fun q h => by rw [← hAe]; exact Or.inr h
  have hS : va_S A s.heap s.heap [] := va_S.rf
  have hP : va_P D vwCl [(m0, .inr (4, [.int th, .int msz, .int cn, .ref m1, .ref m2, .ref m3, .ref m4, .ref m5, .ref m6, .ref m7, .ref m8, .int li, .int nht, .long la, .long lb, .int lx, .long ia, .long ib, .int ix, .long oa, .long ob, .ref m9, .ref m10, .ref m11, .ref m12, .ref m13, .int hry, .int rh, .int rl, .ref m14, .ref m15, .ref m16, .ref m17, .ref m18, .ref m19, .ref m20, .int fc, .ref m21]))] s.heap := hP
  have hl := lv_entry ([.ref m0, .int wh]) (n := 2) (Nat.le_of_ble_eq_true rfl)
  rw [lg_entry_eq]
  generalize (lg_sl ([.ref m0, .int wh]) ++ List.replicate (2 - (lg_sl ([.ref m0, .int wh])).length) Slot.unset).toArray = ls at hl ⊢
  have hl : lv_has ls 2 [(0, .ref m0), (1, .int wh)] := hl
  refine lv_aload_n hx hb dX4_told_0 rfl (lv_at hl 0 rfl) ?_
  refine lv_iload_n hx hb dX4_told_1 rfl (lv_at hl 1 rfl) ?_
  refine lv_iconst (v := 0) hx hb dX4_told_2 (by decide) ?_
  refine lv_iconst (v := 4) hx hb dX4_told_3 (by decide) ?_
  have hPc := hP.sub (ws' := []) [] rfl
  refine rq_call (va_runS (As := [.int wh, .int 0, .int 4]) (rest := [.ref m0]) ⟨hx, hb, hml, hown, hg⟩ (qX4_in l D cI cZ cJ wh 0 4) (va_cwS 3 hg (gw_S kw625 kw626 kw41 kw627) rfl rfl rfl (by decide +kernel) ⟨Nat.le_of_ble_eq_true rfl, Nat.le_of_ble_eq_true rfl⟩) (pq_pre hPc hK hZ) rfl rfl hl.1 rfl (lv_room (Nat.le_of_ble_eq_true rfl)) dX4_told_4 ⟨Nat.le_of_ble_eq_true rfl, Nat.le_of_ble_eq_true rfl⟩) ?_
  refine lv_if_ne (tgt := 14) hx hb dX4_told_7 (by decide) (fun c7 => absurd (by rw [Bool.eq_false_iff.mpr hR]; rfl) c7) (fun _ => ?_)
  refine lv_iconst (v := 1) hx hb dX4_told_10 (by decide) ?_
  refine lv_goto (tgt := 26) hx hb dX4_told_11 (by decide) ?_
  refine va_put (D := D) (ci := 4) (v := .int 1) (ty := .int) (C := RX4) (T := TX4) (N := 38) hx hb hg iX4 tyX4 tyX4_ok nmX4 hown hK hP hD hS 0 rfl rfl 0 (by decide) (hg _ kw493) (fun _ h9 => h9) rfl (by decide +kernel) rfl rfl (Nat.le_of_ble_eq_true rfl) dX4_told_26 (fun H locs hP hD hS => ?_)
  have hP : va_P D vwCl [(m0, .inr (4, [.int 1, .int msz, .int cn, .ref m1, .ref m2, .ref m3, .ref m4, .ref m5, .ref m6, .ref m7, .ref m8, .int li, .int nht, .long la, .long lb, .int lx, .long ia, .long ib, .int ix, .long oa, .long ob, .ref m9, .ref m10, .ref m11, .ref m12, .ref m13, .int hry, .int rh, .int rl, .ref m14, .ref m15, .ref m16, .ref m17, .ref m18, .ref m19, .ref m20, .int fc, .ref m21]))] H := hP
  have hD : va_D A [(m0, .inr (4, [.int 1, .int msz, .int cn, .ref m1, .ref m2, .ref m3, .ref m4, .ref m5, .ref m6, .ref m7, .ref m8, .int li, .int nht, .long la, .long lb, .int lx, .long ia, .long ib, .int ix, .long oa, .long ob, .ref m9, .ref m10, .ref m11, .ref m12, .ref m13, .int hry, .int rh, .int rl, .ref m14, .ref m15, .ref m16, .ref m17, .ref m18, .ref m19, .ref m20, .int fc, .ref m21]))] := hD
  refine lv_aload_n hx hb dX4_told_29 rfl (lv_at hl 0 rfl) ?_
  refine va_get (D := D) (ci := 4) (v := .int 1) (C := RX4) (T := TX4) (N := 38) hx hb hg iX4 hown hK hP 0 rfl rfl 0 (by decide) (hg _ kw493) (fun _ h9 => h9) rfl dX4_told_30 ?_
  refine lv_if_le (tgt := 38) hx hb dX4_told_33 (by decide) (fun c33 => absurd c33 (by decide)) (fun _ => ?_)
  refine lv_iconst (v := 0) hx hb dX4_told_36 (by decide) ?_
  exact W.iret (v := 0) hx hb hr (fun t ht hW => ⟨⟨0, (), rfl, trivial, bq_end hP hK hD ht hW⟩, hS.F ht⟩) hS.2.2 dX4_told_37

set_option maxHeartbeats 4000000 in
set_option maxRecDepth 100000 in
theorem qX4_told_no2 (l : Launch) (D : va_G) (cI cZ cJ : ClassId) (m0 m1 m2 m3 m4 m5 m6 m7 m8 m9 m10 m11 m12 m13 m14 m15 m16 m17 m18 m19 m20 m21 : Nat) (th msz cn li nht lx ix rh rl fc : Int32) (la lb ia ib oa ob : Int64) (wh : Int32) (hR : inBl 0 wh 4 = true) (sz : Nat) : Met l yX4_told (Cond.code yX4_told cX4_told 2 (some .int) :: gw) ({ frames := 1, cells := 0, slots := 0, locals := 22 }) (wq D [.ref m0, .int wh] sz [(m0, .inr (4, [.int th, .int msz, .int cn, .ref m1, .ref m2, .ref m3, .ref m4, .ref m5, .ref m6, .ref m7, .ref m8, .int li, .int nht, .long la, .long lb, .int lx, .long ia, .long ib, .int ix, .long oa, .long ob, .ref m9, .ref m10, .ref m11, .ref m12, .ref m13, .int 0, .int rh, .int rl, .ref m14, .ref m15, .ref m16, .ref m17, .ref m18, .ref m19, .ref m20, .int fc, .ref m21]))] [(cI, .int), (cZ, .boolean), (cJ, .long)]) (va_Qi (S := Unit) (fun _ _ => True) (fun u => bq D [(cI, .int), (cZ, .boolean), (cJ, .long)] (va_A [(m0, .inr (4, [.int th, .int msz, .int cn, .ref m1, .ref m2, .ref m3, .ref m4, .ref m5, .ref m6, .ref m7, .ref m8, .int li, .int nht, .long la, .long lb, .int lx, .long ia, .long ib, .int ix, .long oa, .long ob, .ref m9, .ref m10, .ref m11, .ref m12, .ref m13, .int 0, .int rh, .int rl, .ref m14, .ref m15, .ref m16, .ref m17, .ref m18, .ref m19, .ref m20, .int fc, .ref m21]))] sz) ([(m0, .inr (4, [.int 2, .int msz, .int cn, .ref m1, .ref m2, .ref m3, .ref m4, .ref m5, .ref m6, .ref m7, .ref m8, .int li, .int nht, .long la, .long lb, .int lx, .long ia, .long ib, .int ix, .long oa, .long ob, .ref m9, .ref m10, .ref m11, .ref m12, .ref m13, .int 0, .int rh, .int rl, .ref m14, .ref m15, .ref m16, .ref m17, .ref m18, .ref m19, .ref m20, .int fc, .ref m21]))])) (va_A [(m0, .inr (4, [.int th, .int msz, .int cn, .ref m1, .ref m2, .ref m3, .ref m4, .ref m5, .ref m6, .ref m7, .ref m8, .int li, .int nht, .long la, .long lb, .int lx, .long ia, .long ib, .int ix, .long oa, .long ob, .ref m9, .ref m10, .ref m11, .ref m12, .ref m13, .int 0, .int rh, .int rl, .ref m14, .ref m15, .ref m16, .ref m17, .ref m18, .ref m19, .ref m20, .int fc, .ref m21]))] sz)) 0 0 (va_A [(m0, .inr (4, [.int th, .int msz, .int cn, .ref m1, .ref m2, .ref m3, .ref m4, .ref m5, .ref m6, .ref m7, .ref m8, .int li, .int nht, .long la, .long lb, .int lx, .long ia, .long ib, .int ix, .long oa, .long ob, .ref m9, .ref m10, .ref m11, .ref m12, .ref m13, .int 0, .int rh, .int rl, .ref m14, .ref m15, .ref m16, .ref m17, .ref m18, .ref m19, .ref m20, .int fc, .ref m21]))] sz) := by
  refine Met.ofW (cc := cX4_told) (maxL := 2) (ret := (some .int)) (by decide) rfl ?_
  intro p e s m args below meth c s₁ B hml hv
  obtain ⟨rfl, hsz, hP, hK, hD0, hZ⟩ := hv
  have hx := B.exec
  have hb := B.bytes
  have hr := B.returns
  have hg : ∀ w ∈ gw, w.before _ s = true := fun w h => atoms_spec (ws := Cond.code yX4_told cX4_told 2 (some .int) :: gw) B.pre w (List.mem_cons_of_mem _ h)
  have hown : s.vm.findClass RX4 = some m.cls := findClass_of_methodNamed B.named
  have hlocks := B.notSynchronized
  subst hsz
  have hD := hD0.self (sz := s.heap.size)
  generalize hAe : va_A [(m0, .inr (4, [.int th, .int msz, .int cn, .ref m1, .ref m2, .ref m3, .ref m4, .ref m5, .ref m6, .ref m7, .ref m8, .int li, .int nht, .long la, .long lb, .int lx, .long ia, .long ib, .int ix, .long oa, .long ob, .ref m9, .ref m10, .ref m11, .ref m12, .ref m13, .int 0, .int rh, .int rl, .ref m14, .ref m15, .ref m16, .ref m17, .ref m18, .ref m19, .ref m20, .int fc, .ref m21]))] s.heap.size = A at hD ⊢
  have hA : ∀ q : Nat, s.heap.size ≤ q → A q := fun q h => by rw [← hAe]; exact Or.inr h
  have hS : va_S A s.heap s.heap [] := va_S.rf
  have hP : va_P D vwCl [(m0, .inr (4, [.int th, .int msz, .int cn, .ref m1, .ref m2, .ref m3, .ref m4, .ref m5, .ref m6, .ref m7, .ref m8, .int li, .int nht, .long la, .long lb, .int lx, .long ia, .long ib, .int ix, .long oa, .long ob, .ref m9, .ref m10, .ref m11, .ref m12, .ref m13, .int 0, .int rh, .int rl, .ref m14, .ref m15, .ref m16, .ref m17, .ref m18, .ref m19, .ref m20, .int fc, .ref m21]))] s.heap := hP
  have hl := lv_entry ([.ref m0, .int wh]) (n := 2) (Nat.le_of_ble_eq_true rfl)
  rw [lg_entry_eq]
  generalize (lg_sl ([.ref m0, .int wh]) ++ List.replicate (2 - (lg_sl ([.ref m0, .int wh])).length) Slot.unset).toArray = ls at hl ⊢
  have hl : lv_has ls 2 [(0, .ref m0), (1, .int wh)] := hl
  refine lv_aload_n hx hb dX4_told_0 rfl (lv_at hl 0 rfl) ?_
  refine lv_iload_n hx hb dX4_told_1 rfl (lv_at hl 1 rfl) ?_
  refine lv_iconst (v := 0) hx hb dX4_told_2 (by decide) ?_
  refine lv_iconst (v := 4) hx hb dX4_told_3 (by decide) ?_
  have hPc := hP.sub (ws' := []) [] rfl
  refine rq_call (va_runS (As := [.int wh, .int 0, .int 4]) (rest := [.ref m0]) ⟨hx, hb, hml, hown, hg⟩ (qX4_in l D cI cZ cJ wh 0 4) (va_cwS 3 hg (gw_S kw625 kw626 kw41 kw627) rfl rfl rfl (by decide +kernel) ⟨Nat.le_of_ble_eq_true rfl, Nat.le_of_ble_eq_true rfl⟩) (pq_pre hPc hK hZ) rfl rfl hl.1 rfl (lv_room (Nat.le_of_ble_eq_true rfl)) dX4_told_4 ⟨Nat.le_of_ble_eq_true rfl, Nat.le_of_ble_eq_true rfl⟩) ?_
  refine lv_if_ne (tgt := 14) hx hb dX4_told_7 (by decide) (fun _ => ?_) (fun c7 => absurd c7 (bI_nz hR))
  refine lv_aload_n hx hb dX4_told_14 rfl (lv_at hl 0 rfl) ?_
  refine va_get (D := D) (ci := 4) (v := .int 0) (C := RX4) (T := TX4) (N := 38) hx hb hg iX4 hown hK hP 0 rfl rfl 26 (by decide) (hg _ kw519) (fun _ h9 => h9) rfl dX4_told_15 ?_
  refine lv_if_ne (tgt := 25) hx hb dX4_told_18 (by decide) (fun c18 => absurd (by decide) c18) (fun _ => ?_)
  refine lv_iconst (v := 2) hx hb dX4_told_21 (by decide) ?_
  refine lv_goto (tgt := 26) hx hb dX4_told_22 (by decide) ?_
  refine va_put (D := D) (ci := 4) (v := .int 2) (ty := .int) (C := RX4) (T := TX4) (N := 38) hx hb hg iX4 tyX4 tyX4_ok nmX4 hown hK hP hD hS 0 rfl rfl 0 (by decide) (hg _ kw493) (fun _ h9 => h9) rfl (by decide +kernel) rfl rfl (Nat.le_of_ble_eq_true rfl) dX4_told_26 (fun H locs hP hD hS => ?_)
  have hP : va_P D vwCl [(m0, .inr (4, [.int 2, .int msz, .int cn, .ref m1, .ref m2, .ref m3, .ref m4, .ref m5, .ref m6, .ref m7, .ref m8, .int li, .int nht, .long la, .long lb, .int lx, .long ia, .long ib, .int ix, .long oa, .long ob, .ref m9, .ref m10, .ref m11, .ref m12, .ref m13, .int 0, .int rh, .int rl, .ref m14, .ref m15, .ref m16, .ref m17, .ref m18, .ref m19, .ref m20, .int fc, .ref m21]))] H := hP
  have hD : va_D A [(m0, .inr (4, [.int 2, .int msz, .int cn, .ref m1, .ref m2, .ref m3, .ref m4, .ref m5, .ref m6, .ref m7, .ref m8, .int li, .int nht, .long la, .long lb, .int lx, .long ia, .long ib, .int ix, .long oa, .long ob, .ref m9, .ref m10, .ref m11, .ref m12, .ref m13, .int 0, .int rh, .int rl, .ref m14, .ref m15, .ref m16, .ref m17, .ref m18, .ref m19, .ref m20, .int fc, .ref m21]))] := hD
  refine lv_aload_n hx hb dX4_told_29 rfl (lv_at hl 0 rfl) ?_
  refine va_get (D := D) (ci := 4) (v := .int 2) (C := RX4) (T := TX4) (N := 38) hx hb hg iX4 hown hK hP 0 rfl rfl 0 (by decide) (hg _ kw493) (fun _ h9 => h9) rfl dX4_told_30 ?_
  refine lv_if_le (tgt := 38) hx hb dX4_told_33 (by decide) (fun c33 => absurd c33 (by decide)) (fun _ => ?_)
  refine lv_iconst (v := 0) hx hb dX4_told_36 (by decide) ?_
  exact W.iret (v := 0) hx hb hr (fun t ht hW => ⟨⟨0, (), rfl, trivial, bq_end hP hK hD ht hW⟩, hS.F ht⟩) hS.2.2 dX4_told_37

set_option maxHeartbeats 4000000 in
set_option maxRecDepth 100000 in
/-- common -/
theorem qX4_common (l : Launch) (D : va_G) (cI cZ cJ : ClassId) (a b : Int64) (ha : -(2 ^ 62) < a.toInt ∧ a.toInt < 2 ^ 62) (hb9 : 0 ≤ b.toInt ∧ b.toInt ≤ 100) : Met l yX4_common (Cond.code yX4_common cX4_common 10 (some .long) :: gw) ({ frames := 0, cells := 0, slots := 0, locals := 0 }) (pq D [.long a, .long b] [] [(cI, .int), (cZ, .boolean), (cJ, .long)]) (QcReadL (cmL 100 (absL a) b)) 0 0 (fun _ => False) := by
  refine Met.ofW (cc := cX4_common) (maxL := 10) (ret := (some .long)) (by decide) rfl ?_
  intro p e s m args below meth c s₁ B hml hv
  obtain ⟨rfl, hP, hK, hZ⟩ := hv
  have hx := B.exec
  have hb := B.bytes
  have hr := B.returns
  have hg : ∀ w ∈ gw, w.before _ s = true := fun w h => atoms_spec (ws := Cond.code yX4_common cX4_common 10 (some .long) :: gw) B.pre w (List.mem_cons_of_mem _ h)
  have hown : s.vm.findClass RX4 = some m.cls := findClass_of_methodNamed B.named
  have hlocks := B.notSynchronized
  have hP : va_P D vwCl [] s.heap := hP
  have hl := lv_entry ([.long a, .long b]) (n := 10) (Nat.le_of_ble_eq_true rfl)
  rw [lg_entry_eq]
  generalize (lg_sl ([.long a, .long b]) ++ List.replicate (10 - (lg_sl ([.long a, .long b])).length) Slot.unset).toArray = ls at hl ⊢
  have hl : lv_has ls 10 [(0, .long a), (2, .long b)] := hl
  have J_1 : W p l e (headSpec (Cond.code yX4_common cX4_common 10 (some .long) :: gw) ({ frames := 0, cells := 0, slots := 0, locals := 0 })).room s m ([.long a, .long b] : List Value).toArray below meth c s.heap [] 0 0 (MQ below (QcReadL (cmL 100 (absL a) b)) ([.long a, .long b] : List Value).toArray s 0 0 (fun _ => False)) (F0 m 12 ls [.long (absL a)]) := by
    refine lv_lstore (lv' := [(4, .long (absL a)), (0, .long a), (2, .long b)]) hx hb dX4_common_12 hl (by decide) rfl (fun ls hl => ?_)
    refine lv_lload_n hx hb dX4_common_14 rfl (lv_at hl 2 rfl) ?_
    refine lv_lstore (lv' := [(6, .long b), (4, .long (absL a)), (0, .long a), (2, .long b)]) hx hb dX4_common_15 hl (by decide) rfl (fun ls hl => ?_)
    have loop_2 : ∀ (n : Nat) (u v : Int64), 0 ≤ u.toInt ∧ 0 ≤ v.toInt ∧ v.toInt ≤ (n : Int) → ∀ ls : Array Slot, lv_has ls 10 [(4, .long u), (6, .long v)] → W p l e (headSpec (Cond.code yX4_common cX4_common 10 (some .long) :: gw) ({ frames := 0, cells := 0, slots := 0, locals := 0 })).room s m ([.long a, .long b] : List Value).toArray below meth c s.heap [] 0 0 (MQ below (QcReadL (cmL n u v)) ([.long a, .long b] : List Value).toArray s 0 0 (fun _ => False)) (F0 m 17 ls []) := by
      intro n
      induction n with
      | zero =>
        intro u v hlp ls hl
        refine lv_lload hx hb dX4_common_17 (lv_at hl 1 rfl) ?_
        refine lv_lconst (v := 0) hx hb dX4_common_19 (by decide) ?_
        refine W.lcmp hx hb dX4_common_20 ?_
        refine lv_if_eq (tgt := 42) hx hb dX4_common_21 (by decide) (fun _ => ?_) (fun c21 => absurd ((lg_cmp_eq _ _).mpr (Int64.toInt_inj.mp (by rw [Int64.toInt_zero]; omega))) c21)
        refine lv_lload hx hb dX4_common_42 (lv_at hl 0 rfl) ?_
        exact W.lret (v := u) hx hb hr (fun t ht hW => ⟨congrArg (fun z => Outcome.returned (some (Value.long z))) (rfl), ht⟩) (fun q hq => nomatch hq) dX4_common_44
      | succ n ih =>
        intro u v hlp ls hl
        refine lv_lload hx hb dX4_common_17 (lv_at hl 1 rfl) ?_
        refine lv_lconst (v := 0) hx hb dX4_common_19 (by decide) ?_
        refine W.lcmp hx hb dX4_common_20 ?_
        refine lv_if_eq (tgt := 42) hx hb dX4_common_21 (by decide) (fun c21 => ?_) (fun c21 => ?_)
        · replace c21 := (lg_cmp_eq _ _).mp c21
          refine lv_lload hx hb dX4_common_42 (lv_at hl 0 rfl) ?_
          exact W.lret (v := u) hx hb hr (fun t ht hW => ⟨congrArg (fun z => Outcome.returned (some (Value.long z))) (by simp only [cmL, c21, if_true]), ht⟩) (fun q hq => nomatch hq) dX4_common_44
        · replace c21 := (not_congr (lg_cmp_eq _ _)).mp c21
          refine lv_lload hx hb dX4_common_24 (lv_at hl 0 rfl) ?_
          refine lv_lload hx hb dX4_common_26 (lv_at hl 1 rfl) ?_
          refine lv_lrem hx hb dX4_common_28 (c21) ?_
          refine lv_lstore (lv' := [(8, .long (u - u / v * v)), (4, .long u), (6, .long v)]) hx hb dX4_common_29 hl (by decide) rfl (fun ls hl => ?_)
          refine lv_lload hx hb dX4_common_31 (lv_at hl 2 rfl) ?_
          refine lv_lstore (lv' := [(4, .long v), (8, .long (u - u / v * v)), (6, .long v)]) hx hb dX4_common_33 hl (by decide) rfl (fun ls hl => ?_)
          refine lv_lload hx hb dX4_common_35 (lv_at hl 1 rfl) ?_
          refine lv_lstore (lv' := [(6, .long (u - u / v * v)), (4, .long v), (8, .long (u - u / v * v))]) hx hb dX4_common_37 hl (by decide) rfl (fun ls hl => ?_)
          refine lv_goto (tgt := 17) hx hb dX4_common_39 (by decide) ?_
          have hv0 : v.toInt ≠ 0 := fun e => c21 (Int64.toInt_inj.mp (by rw [e]; rfl))
          have hr9 := l_rem hlp.1 (show 0 < v.toInt by omega)
          have h8 := Int.emod_nonneg u.toInt hv0
          have h7 := Int.emod_lt_of_pos u.toInt (show 0 < v.toInt by omega)
          rw [show cmL (n + 1) u v = cmL n v (u - u / v * v) from by simp only [cmL, c21, if_false]]
          exact ih v (u - u / v * v) ⟨hlp.2.1, by omega, by omega⟩ ls (lv_sub hl [1, 0] rfl)
    exact loop_2 100 (absL a) b ⟨by rw [absL_int ha.1 ha.2]; omega, hb9.1, hb9.2⟩ ls (lv_sub hl [1, 0] rfl)
  refine lv_lload_n hx hb dX4_common_0 rfl (lv_at hl 0 rfl) ?_
  refine lv_lconst (v := 0) hx hb dX4_common_1 (by decide) ?_
  refine W.lcmp hx hb dX4_common_2 ?_
  refine lv_if_ge (tgt := 11) hx hb dX4_common_3 (by decide) (fun c3 => ?_) (fun c3 => ?_)
  · replace c3 := (lg_cmp_ge _ _).mp c3
    have c3n := Int64.not_lt.mpr c3
    refine lv_lload_n hx hb dX4_common_11 rfl (lv_at hl 0 rfl) ?_
    refine tp_l (y := absL a) (by simp only [absL, c3, if_true, if_false]) ?_
    exact J_1
  · replace c3 := (not_congr (lg_cmp_ge _ _)).mp c3
    have c3n := Int64.not_le.mp c3
    refine lv_lload_n hx hb dX4_common_6 rfl (lv_at hl 0 rfl) ?_
    refine lv_lneg hx hb dX4_common_7 ?_
    refine lv_goto (tgt := 12) hx hb dX4_common_8 (by decide) ?_
    refine tp_l (y := absL a) (by simp only [absL, c3, if_true, if_false]) ?_
    exact J_1

def okH (ra rw : Nat → Int64) (nr : Nat) : Prop := ∀ j, j < nr → (-(2 ^ 62) < (ra j).toInt ∧ (ra j).toInt < 2 ^ 62) ∧ 0 < (rw j).toInt ∧ (rw j).toInt ≤ 100
def hitM (k wh : Int32) (nr : Nat) (ro rx : Nat → Int32) (ra rw : Nat → Int64) : Int32 := if k < nI nr then (if wh = 0 then ro k.toNatClampNeg else if wh = 1 then rx k.toNatClampNeg else ((if wh = 2 then ra k.toNatClampNeg else rw k.toNatClampNeg) / cmL 100 (absL (ra k.toNatClampNeg)) (rw k.toNatClampNeg)).toInt32) else -1
def placeM (k ax pt : Int32) (rw rp : Nat → Int64) : Int64 := (if pt = 0 then rp (3 * k.toNatClampNeg + ax.toNatClampNeg) else rw k.toNatClampNeg) / cmL 100 (absL (rp (3 * k.toNatClampNeg + ax.toNatClampNeg))) (rw k.toNatClampNeg)

set_option maxHeartbeats 4000000 in
set_option maxRecDepth 100000 in
/-- hit -/
theorem qX4_hit_ok (l : Launch) (D : va_G) (cI cZ cJ : ClassId) (m0 m1 m2 m3 m4 m5 m6 m7 m8 m9 m10 m11 m12 m13 m14 m15 m16 m17 m18 m19 m20 m21 : Nat) (th msz cn li nht lx ix hry rl fc : Int32) (la lb ia ib oa ob : Int64) (ro : Nat → Int32) (rx : Nat → Int32) (ra : Nat → Int64) (rw : Nat → Int64) (nr : Nat) (hnr : nr ≤ 30) (hH : okH ra rw nr) (k wh : Int32) (hR : (0 ≤ k ∧ inBl 0 wh 3 = true) ∧ ¬ hry = 0) (sz : Nat) : Met l yX4_hit (Cond.code yX4_hit cX4_hit 5 (some .int) :: gw) ({ frames := 1, cells := 0, slots := 0, locals := 29 }) (wq D [.ref m0, .int k, .int wh] sz [(m0, .inr (4, [.int th, .int msz, .int cn, .ref m1, .ref m2, .ref m3, .ref m4, .ref m5, .ref m6, .ref m7, .ref m8, .int li, .int nht, .long la, .long lb, .int lx, .long ia, .long ib, .int ix, .long oa, .long ob, .ref m9, .ref m10, .ref m11, .ref m12, .ref m13, .int hry, .int (nI nr), .int rl, .ref m14, .ref m15, .ref m16, .ref m17, .ref m18, .ref m19, .ref m20, .int fc, .ref m21])), (m15, .inl (cI, 30, .inl ro)), (m16, .inl (cI, 30, .inl rx)), (m17, .inl (cJ, 30, .inr (.inl ra))), (m18, .inl (cJ, 30, .inr (.inl rw)))] [(cI, .int), (cZ, .boolean), (cJ, .long)]) (va_Qi (S := Unit) (fun r _ => r = hitM k wh nr ro rx ra rw) (fun u => bq D [(cI, .int), (cZ, .boolean), (cJ, .long)] (va_A [(m0, .inr (4, [.int th, .int msz, .int cn, .ref m1, .ref m2, .ref m3, .ref m4, .ref m5, .ref m6, .ref m7, .ref m8, .int li, .int nht, .long la, .long lb, .int lx, .long ia, .long ib, .int ix, .long oa, .long ob, .ref m9, .ref m10, .ref m11, .ref m12, .ref m13, .int hry, .int (nI nr), .int rl, .ref m14, .ref m15, .ref m16, .ref m17, .ref m18, .ref m19, .ref m20, .int fc, .ref m21])), (m15, .inl (cI, 30, .inl ro)), (m16, .inl (cI, 30, .inl rx)), (m17, .inl (cJ, 30, .inr (.inl ra))), (m18, .inl (cJ, 30, .inr (.inl rw)))] sz) ([(m0, .inr (4, [.int 0, .int msz, .int cn, .ref m1, .ref m2, .ref m3, .ref m4, .ref m5, .ref m6, .ref m7, .ref m8, .int li, .int nht, .long la, .long lb, .int lx, .long ia, .long ib, .int ix, .long oa, .long ob, .ref m9, .ref m10, .ref m11, .ref m12, .ref m13, .int hry, .int (nI nr), .int rl, .ref m14, .ref m15, .ref m16, .ref m17, .ref m18, .ref m19, .ref m20, .int fc, .ref m21])), (m15, .inl (cI, 30, .inl ro)), (m16, .inl (cI, 30, .inl rx)), (m17, .inl (cJ, 30, .inr (.inl ra))), (m18, .inl (cJ, 30, .inr (.inl rw)))])) (va_A [(m0, .inr (4, [.int th, .int msz, .int cn, .ref m1, .ref m2, .ref m3, .ref m4, .ref m5, .ref m6, .ref m7, .ref m8, .int li, .int nht, .long la, .long lb, .int lx, .long ia, .long ib, .int ix, .long oa, .long ob, .ref m9, .ref m10, .ref m11, .ref m12, .ref m13, .int hry, .int (nI nr), .int rl, .ref m14, .ref m15, .ref m16, .ref m17, .ref m18, .ref m19, .ref m20, .int fc, .ref m21])), (m15, .inl (cI, 30, .inl ro)), (m16, .inl (cI, 30, .inl rx)), (m17, .inl (cJ, 30, .inr (.inl ra))), (m18, .inl (cJ, 30, .inr (.inl rw)))] sz)) 0 0 (va_A [(m0, .inr (4, [.int th, .int msz, .int cn, .ref m1, .ref m2, .ref m3, .ref m4, .ref m5, .ref m6, .ref m7, .ref m8, .int li, .int nht, .long la, .long lb, .int lx, .long ia, .long ib, .int ix, .long oa, .long ob, .ref m9, .ref m10, .ref m11, .ref m12, .ref m13, .int hry, .int (nI nr), .int rl, .ref m14, .ref m15, .ref m16, .ref m17, .ref m18, .ref m19, .ref m20, .int fc, .ref m21])), (m15, .inl (cI, 30, .inl ro)), (m16, .inl (cI, 30, .inl rx)), (m17, .inl (cJ, 30, .inr (.inl ra))), (m18, .inl (cJ, 30, .inr (.inl rw)))] sz) := by
  refine Met.ofW (cc := cX4_hit) (maxL := 5) (ret := (some .int)) (by decide) rfl ?_
  intro p e s m args below meth c s₁ B hml hv
  obtain ⟨rfl, hsz, hP, hK, hD0, hZ⟩ := hv
  have hx := B.exec
  have hb := B.bytes
  have hr := B.returns
  have hg : ∀ w ∈ gw, w.before _ s = true := fun w h => atoms_spec (ws := Cond.code yX4_hit cX4_hit 5 (some .int) :: gw) B.pre w (List.mem_cons_of_mem _ h)
  have hown : s.vm.findClass RX4 = some m.cls := findClass_of_methodNamed B.named
  have hlocks := B.notSynchronized
  subst hsz
  have hD := hD0.self (sz := s.heap.size)
  generalize hAe : va_A [(m0, .inr (4, [.int th, .int msz, .int cn, .ref m1, .ref m2, .ref m3, .ref m4, .ref m5, .ref m6, .ref m7, .ref m8, .int li, .int nht, .long la, .long lb, .int lx, .long ia, .long ib, .int ix, .long oa, .long ob, .ref m9, .ref m10, .ref m11, .ref m12, .ref m13, .int hry, .int (nI nr), .int rl, .ref m14, .ref m15, .ref m16, .ref m17, .ref m18, .ref m19, .ref m20, .int fc, .ref m21])), (m15, .inl (cI, 30, .inl ro)), (m16, .inl (cI, 30, .inl rx)), (m17, .inl (cJ, 30, .inr (.inl ra))), (m18, .inl (cJ, 30, .inr (.inl rw)))] s.heap.size = A at hD ⊢
  have hA : ∀ q : Nat, s.heap.size ≤ q → A q := fun q h => by rw [← hAe]; exact Or.inr h
  have hS : va_S A s.heap s.heap [] := va_S.rf
  have hP : va_P D vwCl [(m0, .inr (4, [.int th, .int msz, .int cn, .ref m1, .ref m2, .ref m3, .ref m4, .ref m5, .ref m6, .ref m7, .ref m8, .int li, .int nht, .long la, .long lb, .int lx, .long ia, .long ib, .int ix, .long oa, .long ob, .ref m9, .ref m10, .ref m11, .ref m12, .ref m13, .int hry, .int (nI nr), .int rl, .ref m14, .ref m15, .ref m16, .ref m17, .ref m18, .ref m19, .ref m20, .int fc, .ref m21])), (m15, .inl (cI, 30, .inl ro)), (m16, .inl (cI, 30, .inl rx)), (m17, .inl (cJ, 30, .inr (.inl ra))), (m18, .inl (cJ, 30, .inr (.inl rw)))] s.heap := hP
  have hl := lv_entry ([.ref m0, .int k, .int wh]) (n := 5) (Nat.le_of_ble_eq_true rfl)
  rw [lg_entry_eq]
  generalize (lg_sl ([.ref m0, .int k, .int wh]) ++ List.replicate (5 - (lg_sl ([.ref m0, .int k, .int wh])).length) Slot.unset).toArray = ls at hl ⊢
  have hl : lv_has ls 5 [(0, .ref m0), (1, .int k), (2, .int wh)] := hl
  refine lv_aload_n hx hb dX4_hit_0 rfl (lv_at hl 0 rfl) ?_
  refine lv_iload_n hx hb dX4_hit_1 rfl (lv_at hl 1 rfl) ?_
  refine lv_if_lt (tgt := 14) hx hb dX4_hit_2 (by decide) (fun c2 => absurd c2 (Int32.not_lt.mpr hR.1.1)) (fun _ => ?_)
  refine lv_iload_n hx hb dX4_hit_5 rfl (lv_at hl 2 rfl) ?_
  refine lv_iconst (v := 0) hx hb dX4_hit_6 (by decide) ?_
  refine lv_iconst (v := 3) hx hb dX4_hit_7 (by decide) ?_
  have hPc := hP.sub (ws' := []) [] rfl
  refine rq_call (va_runS (As := [.int wh, .int 0, .int 3]) (rest := [.ref m0]) ⟨hx, hb, hml, hown, hg⟩ (qX4_in l D cI cZ cJ wh 0 3) (va_cwS 3 hg (gw_S kw625 kw626 kw41 kw627) rfl rfl rfl (by decide +kernel) ⟨Nat.le_of_ble_eq_true rfl, Nat.le_of_ble_eq_true rfl⟩) (pq_pre hPc hK hZ) rfl rfl hl.1 rfl (lv_room (Nat.le_of_ble_eq_true rfl)) dX4_hit_8 ⟨Nat.le_of_ble_eq_true rfl, Nat.le_of_ble_eq_true rfl⟩) ?_
  refine lv_if_ne (tgt := 18) hx hb dX4_hit_11 (by decide) (fun _ => ?_) (fun c11 => absurd c11 (bI_nz hR.1.2))
  refine lv_aload_n hx hb dX4_hit_18 rfl (lv_at hl 0 rfl) ?_
  refine va_get (D := D) (ci := 4) (v := .int hry) (C := RX4) (T := TX4) (N := 38) hx hb hg iX4 hown hK hP 0 rfl rfl 26 (by decide) (hg _ kw519) (fun _ h9 => h9) rfl dX4_hit_19 ?_
  refine lv_if_ne (tgt := 29) hx hb dX4_hit_22 (by decide) (fun _ => ?_) (fun c22 => absurd c22 (hR.2))
  refine lv_iconst (v := 0) hx hb dX4_hit_29 (by decide) ?_
  refine va_put (D := D) (ci := 4) (v := .int 0) (ty := .int) (C := RX4) (T := TX4) (N := 38) hx hb hg iX4 tyX4 tyX4_ok nmX4 hown hK hP hD hS 0 rfl rfl 0 (by decide) (hg _ kw493) (fun _ h9 => h9) rfl (by decide +kernel) rfl rfl (Nat.le_of_ble_eq_true rfl) dX4_hit_30 (fun H locs hP hD hS => ?_)
  have hP : va_P D vwCl [(m0, .inr (4, [.int 0, .int msz, .int cn, .ref m1, .ref m2, .ref m3, .ref m4, .ref m5, .ref m6, .ref m7, .ref m8, .int li, .int nht, .long la, .long lb, .int lx, .long ia, .long ib, .int ix, .long oa, .long ob, .ref m9, .ref m10, .ref m11, .ref m12, .ref m13, .int hry, .int (nI nr), .int rl, .ref m14, .ref m15, .ref m16, .ref m17, .ref m18, .ref m19, .ref m20, .int fc, .ref m21])), (m15, .inl (cI, 30, .inl ro)), (m16, .inl (cI, 30, .inl rx)), (m17, .inl (cJ, 30, .inr (.inl ra))), (m18, .inl (cJ, 30, .inr (.inl rw)))] H := hP
  have hD : va_D A [(m0, .inr (4, [.int 0, .int msz, .int cn, .ref m1, .ref m2, .ref m3, .ref m4, .ref m5, .ref m6, .ref m7, .ref m8, .int li, .int nht, .long la, .long lb, .int lx, .long ia, .long ib, .int ix, .long oa, .long ob, .ref m9, .ref m10, .ref m11, .ref m12, .ref m13, .int hry, .int (nI nr), .int rl, .ref m14, .ref m15, .ref m16, .ref m17, .ref m18, .ref m19, .ref m20, .int fc, .ref m21])), (m15, .inl (cI, 30, .inl ro)), (m16, .inl (cI, 30, .inl rx)), (m17, .inl (cJ, 30, .inr (.inl ra))), (m18, .inl (cJ, 30, .inr (.inl rw)))] := hD
  refine lv_aload_n hx hb dX4_hit_33 rfl (lv_at hl 0 rfl) ?_
  refine va_get (D := D) (ci := 4) (v := .int 0) (C := RX4) (T := TX4) (N := 38) hx hb hg iX4 hown hK hP 0 rfl rfl 0 (by decide) (hg _ kw493) (fun _ h9 => h9) rfl dX4_hit_34 ?_
  refine lv_if_le (tgt := 42) hx hb dX4_hit_37 (by decide) (fun _ => ?_) (fun c37 => absurd (by decide) c37)
  refine lv_iload_n hx hb dX4_hit_42 rfl (lv_at hl 1 rfl) ?_
  refine lv_aload_n hx hb dX4_hit_43 rfl (lv_at hl 0 rfl) ?_
  refine va_get (D := D) (ci := 4) (v := .int (nI nr)) (C := RX4) (T := TX4) (N := 38) hx hb hg iX4 hown hK hP 0 rfl rfl 27 (by decide) (hg _ kw520) (fun _ h9 => h9) rfl dX4_hit_44 ?_
  refine lv_icmp_lt (tgt := 52) hx hb dX4_hit_47 (by decide) (fun c47 => ?_) (fun c47 => ?_)
  · have c47n := Int32.not_le.mpr c47
    obtain ⟨j, hj, ej⟩ := ix_of ⟨hR.1.1, c47⟩ (by omega)
    subst ej
    have cj : (nI j).toNatClampNeg = j := nI_clamp (by omega)
    rcases in3 (inBl_iff.mp hR.1.2) with rfl | rfl | rfl | rfl
    · refine lv_iload_n hx hb dX4_hit_52 rfl (lv_at hl 2 rfl) ?_
      refine lv_iconst (v := 2) hx hb dX4_hit_53 (by decide) ?_
      refine lv_icmp_ge (tgt := 77) hx hb dX4_hit_54 (by decide) (fun c54 => absurd c54 (by decide)) (fun _ => ?_)
      refine lv_iload_n hx hb dX4_hit_57 rfl (lv_at hl 2 rfl) ?_
      refine lv_if_ne (tgt := 70) hx hb dX4_hit_58 (by decide) (fun c58 => absurd (by decide) c58) (fun _ => ?_)
      refine lv_aload_n hx hb dX4_hit_61 rfl (lv_at hl 0 rfl) ?_
      refine va_get (D := D) (ci := 4) (v := .ref m15) (C := RX4) (T := TX4) (N := 38) hx hb hg iX4 hown hK hP 0 rfl rfl 30 (by decide) (hg _ kw523) (fun _ h9 => h9) rfl dX4_hit_62 ?_
      refine lv_iload_n hx hb dX4_hit_65 rfl (lv_at hl 1 rfl) ?_
      refine va_iald hx hb hK hP 1 0 rfl rfl (vp_in_nI (by omega) (by decide)) dX4_hit_66 ?_
      refine tp_i (y := ro j) (congrArg ro (nI_clamp (by omega))) ?_
      refine lv_goto (tgt := 76) hx hb dX4_hit_67 (by decide) ?_
      exact W.iret (v := ro j) hx hb hr (fun t ht hW => ⟨⟨ro j, (), rfl, by simp [hitM, c47, c47n, cj], bq_end hP hK hD ht hW⟩, hS.F ht⟩) hS.2.2 dX4_hit_76
    · refine lv_iload_n hx hb dX4_hit_52 rfl (lv_at hl 2 rfl) ?_
      refine lv_iconst (v := 2) hx hb dX4_hit_53 (by decide) ?_
      refine lv_icmp_ge (tgt := 77) hx hb dX4_hit_54 (by decide) (fun c54 => absurd c54 (by decide)) (fun _ => ?_)
      refine lv_iload_n hx hb dX4_hit_57 rfl (lv_at hl 2 rfl) ?_
      refine lv_if_ne (tgt := 70) hx hb dX4_hit_58 (by decide) (fun _ => ?_) (fun c58 => absurd c58 (by decide))
      refine lv_aload_n hx hb dX4_hit_70 rfl (lv_at hl 0 rfl) ?_
      refine va_get (D := D) (ci := 4) (v := .ref m16) (C := RX4) (T := TX4) (N := 38) hx hb hg iX4 hown hK hP 0 rfl rfl 31 (by decide) (hg _ kw524) (fun _ h9 => h9) rfl dX4_hit_71 ?_
      refine lv_iload_n hx hb dX4_hit_74 rfl (lv_at hl 1 rfl) ?_
      refine va_iald hx hb hK hP 2 0 rfl rfl (vp_in_nI (by omega) (by decide)) dX4_hit_75 ?_
      refine tp_i (y := rx j) (congrArg rx (nI_clamp (by omega))) ?_
      exact W.iret (v := rx j) hx hb hr (fun t ht hW => ⟨⟨rx j, (), rfl, by simp [hitM, c47, c47n, cj], bq_end hP hK hD ht hW⟩, hS.F ht⟩) hS.2.2 dX4_hit_76
    · refine lv_iload_n hx hb dX4_hit_52 rfl (lv_at hl 2 rfl) ?_
      refine lv_iconst (v := 2) hx hb dX4_hit_53 (by decide) ?_
      refine lv_icmp_ge (tgt := 77) hx hb dX4_hit_54 (by decide) (fun _ => ?_) (fun c54 => absurd (by decide) c54)
      refine lv_aload_n hx hb dX4_hit_77 rfl (lv_at hl 0 rfl) ?_
      refine va_get (D := D) (ci := 4) (v := .ref m17) (C := RX4) (T := TX4) (N := 38) hx hb hg iX4 hown hK hP 0 rfl rfl 32 (by decide) (hg _ kw525) (fun _ h9 => h9) rfl dX4_hit_78 ?_
      refine lv_iload_n hx hb dX4_hit_81 rfl (lv_at hl 1 rfl) ?_
      refine va_lald hx hb hK hP 3 2 rfl rfl (vp_in_nI (by omega) (by decide)) dX4_hit_82 ?_
      refine tp_l (y := ra j) (congrArg ra (nI_clamp (by omega))) ?_
      refine lv_aload_n hx hb dX4_hit_83 rfl (lv_at hl 0 rfl) ?_
      refine va_get (D := D) (ci := 4) (v := .ref m18) (C := RX4) (T := TX4) (N := 38) hx hb hg iX4 hown hK hP 0 rfl rfl 33 (by decide) (hg _ kw526) (fun _ h9 => h9) rfl dX4_hit_84 ?_
      refine lv_iload_n hx hb dX4_hit_87 rfl (lv_at hl 1 rfl) ?_
      refine va_lald hx hb hK hP 4 2 rfl rfl (vp_in_nI (by omega) (by decide)) dX4_hit_88 ?_
      refine tp_l (y := rw j) (congrArg rw (nI_clamp (by omega))) ?_
      have hPc := hP.sub (ws' := []) [] rfl
      refine rq_callL (va_runS (As := [.long (ra j), .long (rw j)]) (rest := []) ⟨hx, hb, hml, hown, hg⟩ (qX4_common l D cI cZ cJ (ra j) (rw j) (hH j hj).1 ⟨Int.le_of_lt (hH j hj).2.1, (hH j hj).2.2⟩) (va_cwS 2 hg (gw_S kw688 kw689 kw41 kw690) rfl rfl rfl (by decide +kernel) ⟨Nat.le_of_ble_eq_true rfl, Nat.le_of_ble_eq_true rfl⟩) (pq_pre hPc hK hZ) rfl rfl hl.1 rfl (lv_room (Nat.le_of_ble_eq_true rfl)) dX4_hit_89 ⟨Nat.le_of_ble_eq_true rfl, Nat.le_of_ble_eq_true rfl⟩) ?_
      refine lv_lstore_n (lv' := [(3, .long (cmL 100 (absL (ra j)) (rw j))), (0, .ref m0), (1, .int (nI j)), (2, .int 2)]) hx hb dX4_hit_92 rfl hl (by decide) rfl (fun ls hl => ?_)
      refine lv_iload_n hx hb dX4_hit_93 rfl (lv_at hl 3 rfl) ?_
      refine lv_iconst (v := 2) hx hb dX4_hit_94 (by decide) ?_
      refine lv_icmp_ne (tgt := 107) hx hb dX4_hit_95 (by decide) (fun c95 => absurd (by decide) c95) (fun _ => ?_)
      refine lv_aload_n hx hb dX4_hit_98 rfl (lv_at hl 1 rfl) ?_
      refine va_get (D := D) (ci := 4) (v := .ref m17) (C := RX4) (T := TX4) (N := 38) hx hb hg iX4 hown hK hP 0 rfl rfl 32 (by decide) (hg _ kw525) (fun _ h9 => h9) rfl dX4_hit_99 ?_
      refine lv_iload_n hx hb dX4_hit_102 rfl (lv_at hl 2 rfl) ?_
      refine va_lald hx hb hK hP 3 2 rfl rfl (vp_in_nI (by omega) (by decide)) dX4_hit_103 ?_
      refine tp_l (y := ra j) (congrArg ra (nI_clamp (by omega))) ?_
      refine lv_goto (tgt := 113) hx hb dX4_hit_104 (by decide) ?_
      refine lv_lload_n hx hb dX4_hit_113 rfl (lv_at hl 0 rfl) ?_
      refine lv_ldiv hx hb dX4_hit_114 (cm_ne (hH j hj).1.1 (hH j hj).1.2 (hH j hj).2.1 (hH j hj).2.2) ?_
      refine lv_l2i hx hb dX4_hit_115 rfl ?_
      exact W.iret (v := ((ra j) / (cmL 100 (absL (ra j)) (rw j))).toInt32) hx hb hr (fun t ht hW => ⟨⟨((ra j) / (cmL 100 (absL (ra j)) (rw j))).toInt32, (), rfl, by simp [hitM, c47, c47n, cj], bq_end hP hK hD ht hW⟩, hS.F ht⟩) hS.2.2 dX4_hit_116
    · refine lv_iload_n hx hb dX4_hit_52 rfl (lv_at hl 2 rfl) ?_
      refine lv_iconst (v := 2) hx hb dX4_hit_53 (by decide) ?_
      refine lv_icmp_ge (tgt := 77) hx hb dX4_hit_54 (by decide) (fun _ => ?_) (fun c54 => absurd (by decide) c54)
      refine lv_aload_n hx hb dX4_hit_77 rfl (lv_at hl 0 rfl) ?_
      refine va_get (D := D) (ci := 4) (v := .ref m17) (C := RX4) (T := TX4) (N := 38) hx hb hg iX4 hown hK hP 0 rfl rfl 32 (by decide) (hg _ kw525) (fun _ h9 => h9) rfl dX4_hit_78 ?_
      refine lv_iload_n hx hb dX4_hit_81 rfl (lv_at hl 1 rfl) ?_
      refine va_lald hx hb hK hP 3 2 rfl rfl (vp_in_nI (by omega) (by decide)) dX4_hit_82 ?_
      refine tp_l (y := ra j) (congrArg ra (nI_clamp (by omega))) ?_
      refine lv_aload_n hx hb dX4_hit_83 rfl (lv_at hl 0 rfl) ?_
      refine va_get (D := D) (ci := 4) (v := .ref m18) (C := RX4) (T := TX4) (N := 38) hx hb hg iX4 hown hK hP 0 rfl rfl 33 (by decide) (hg _ kw526) (fun _ h9 => h9) rfl dX4_hit_84 ?_
      refine lv_iload_n hx hb dX4_hit_87 rfl (lv_at hl 1 rfl) ?_
      refine va_lald hx hb hK hP 4 2 rfl rfl (vp_in_nI (by omega) (by decide)) dX4_hit_88 ?_
      refine tp_l (y := rw j) (congrArg rw (nI_clamp (by omega))) ?_
      have hPc := hP.sub (ws' := []) [] rfl
      refine rq_callL (va_runS (As := [.long (ra j), .long (rw j)]) (rest := []) ⟨hx, hb, hml, hown, hg⟩ (qX4_common l D cI cZ cJ (ra j) (rw j) (hH j hj).1 ⟨Int.le_of_lt (hH j hj).2.1, (hH j hj).2.2⟩) (va_cwS 2 hg (gw_S kw688 kw689 kw41 kw690) rfl rfl rfl (by decide +kernel) ⟨Nat.le_of_ble_eq_true rfl, Nat.le_of_ble_eq_true rfl⟩) (pq_pre hPc hK hZ) rfl rfl hl.1 rfl (lv_room (Nat.le_of_ble_eq_true rfl)) dX4_hit_89 ⟨Nat.le_of_ble_eq_true rfl, Nat.le_of_ble_eq_true rfl⟩) ?_
      refine lv_lstore_n (lv' := [(3, .long (cmL 100 (absL (ra j)) (rw j))), (0, .ref m0), (1, .int (nI j)), (2, .int 3)]) hx hb dX4_hit_92 rfl hl (by decide) rfl (fun ls hl => ?_)
      refine lv_iload_n hx hb dX4_hit_93 rfl (lv_at hl 3 rfl) ?_
      refine lv_iconst (v := 2) hx hb dX4_hit_94 (by decide) ?_
      refine lv_icmp_ne (tgt := 107) hx hb dX4_hit_95 (by decide) (fun _ => ?_) (fun c95 => absurd c95 (by decide))
      refine lv_aload_n hx hb dX4_hit_107 rfl (lv_at hl 1 rfl) ?_
      refine va_get (D := D) (ci := 4) (v := .ref m18) (C := RX4) (T := TX4) (N := 38) hx hb hg iX4 hown hK hP 0 rfl rfl 33 (by decide) (hg _ kw526) (fun _ h9 => h9) rfl dX4_hit_108 ?_
      refine lv_iload_n hx hb dX4_hit_111 rfl (lv_at hl 2 rfl) ?_
      refine va_lald hx hb hK hP 4 2 rfl rfl (vp_in_nI (by omega) (by decide)) dX4_hit_112 ?_
      refine tp_l (y := rw j) (congrArg rw (nI_clamp (by omega))) ?_
      refine lv_lload_n hx hb dX4_hit_113 rfl (lv_at hl 0 rfl) ?_
      refine lv_ldiv hx hb dX4_hit_114 (cm_ne (hH j hj).1.1 (hH j hj).1.2 (hH j hj).2.1 (hH j hj).2.2) ?_
      refine lv_l2i hx hb dX4_hit_115 rfl ?_
      exact W.iret (v := ((rw j) / (cmL 100 (absL (ra j)) (rw j))).toInt32) hx hb hr (fun t ht hW => ⟨⟨((rw j) / (cmL 100 (absL (ra j)) (rw j))).toInt32, (), rfl, by simp [hitM, c47, c47n, cj], bq_end hP hK hD ht hW⟩, hS.F ht⟩) hS.2.2 dX4_hit_116
  · have c47n := Int32.not_lt.mp c47
    refine lv_iconst (v := (-1)) hx hb dX4_hit_50 (by decide) ?_
    exact W.iret (v := (-1)) hx hb hr (fun t ht hW => ⟨⟨(-1), (), rfl, by simp [hitM, c47, c47n], bq_end hP hK hD ht hW⟩, hS.F ht⟩) hS.2.2 dX4_hit_51

set_option maxHeartbeats 4000000 in
set_option maxRecDepth 100000 in
theorem qX4_hit_no1 (l : Launch) (D : va_G) (cI cZ cJ : ClassId) (m0 m1 m2 m3 m4 m5 m6 m7 m8 m9 m10 m11 m12 m13 m14 m15 m16 m17 m18 m19 m20 m21 : Nat) (th msz cn li nht lx ix hry rh rl fc : Int32) (la lb ia ib oa ob : Int64) (k wh : Int32) (hR : ¬ (0 ≤ k ∧ inBl 0 wh 3 = true)) (sz : Nat) : Met l yX4_hit (Cond.code yX4_hit cX4_hit 5 (some .int) :: gw) ({ frames := 1, cells := 0, slots := 0, locals := 29 }) (wq D [.ref m0, .int k, .int wh] sz [(m0, .inr (4, [.int th, .int msz, .int cn, .ref m1, .ref m2, .ref m3, .ref m4, .ref m5, .ref m6, .ref m7, .ref m8, .int li, .int nht, .long la, .long lb, .int lx, .long ia, .long ib, .int ix, .long oa, .long ob, .ref m9, .ref m10, .ref m11, .ref m12, .ref m13, .int hry, .int rh, .int rl, .ref m14, .ref m15, .ref m16, .ref m17, .ref m18, .ref m19, .ref m20, .int fc, .ref m21]))] [(cI, .int), (cZ, .boolean), (cJ, .long)]) (va_Qi (S := Unit) (fun _ _ => True) (fun u => bq D [(cI, .int), (cZ, .boolean), (cJ, .long)] (va_A [(m0, .inr (4, [.int th, .int msz, .int cn, .ref m1, .ref m2, .ref m3, .ref m4, .ref m5, .ref m6, .ref m7, .ref m8, .int li, .int nht, .long la, .long lb, .int lx, .long ia, .long ib, .int ix, .long oa, .long ob, .ref m9, .ref m10, .ref m11, .ref m12, .ref m13, .int hry, .int rh, .int rl, .ref m14, .ref m15, .ref m16, .ref m17, .ref m18, .ref m19, .ref m20, .int fc, .ref m21]))] sz) ([(m0, .inr (4, [.int 1, .int msz, .int cn, .ref m1, .ref m2, .ref m3, .ref m4, .ref m5, .ref m6, .ref m7, .ref m8, .int li, .int nht, .long la, .long lb, .int lx, .long ia, .long ib, .int ix, .long oa, .long ob, .ref m9, .ref m10, .ref m11, .ref m12, .ref m13, .int hry, .int rh, .int rl, .ref m14, .ref m15, .ref m16, .ref m17, .ref m18, .ref m19, .ref m20, .int fc, .ref m21]))])) (va_A [(m0, .inr (4, [.int th, .int msz, .int cn, .ref m1, .ref m2, .ref m3, .ref m4, .ref m5, .ref m6, .ref m7, .ref m8, .int li, .int nht, .long la, .long lb, .int lx, .long ia, .long ib, .int ix, .long oa, .long ob, .ref m9, .ref m10, .ref m11, .ref m12, .ref m13, .int hry, .int rh, .int rl, .ref m14, .ref m15, .ref m16, .ref m17, .ref m18, .ref m19, .ref m20, .int fc, .ref m21]))] sz)) 0 0 (va_A [(m0, .inr (4, [.int th, .int msz, .int cn, .ref m1, .ref m2, .ref m3, .ref m4, .ref m5, .ref m6, .ref m7, .ref m8, .int li, .int nht, .long la, .long lb, .int lx, .long ia, .long ib, .int ix, .long oa, .long ob, .ref m9, .ref m10, .ref m11, .ref m12, .ref m13, .int hry, .int rh, .int rl, .ref m14, .ref m15, .ref m16, .ref m17, .ref m18, .ref m19, .ref m20, .int fc, .ref m21]))] sz) := by
  refine Met.ofW (cc := cX4_hit) (maxL := 5) (ret := (some .int)) (by decide) rfl ?_
  intro p e s m args below meth c s₁ B hml hv
  obtain ⟨rfl, hsz, hP, hK, hD0, hZ⟩ := hv
  have hx := B.exec
  have hb := B.bytes
  have hr := B.returns
  have hg : ∀ w ∈ gw, w.before _ s = true := fun w h => atoms_spec (ws := Cond.code yX4_hit cX4_hit 5 (some .int) :: gw) B.pre w (List.mem_cons_of_mem _ h)
  have hown : s.vm.findClass RX4 = some m.cls := findClass_of_methodNamed B.named
  have hlocks := B.notSynchronized
  subst hsz
  have hD := hD0.self (sz := s.heap.size)
  generalize hAe : va_A [(m0, .inr (4, [.int th, .int msz, .int cn, .ref m1, .ref m2, .ref m3, .ref m4, .ref m5, .ref m6, .ref m7, .ref m8, .int li, .int nht, .long la, .long lb, .int lx, .long ia, .long ib, .int ix, .long oa, .long ob, .ref m9, .ref m10, .ref m11, .ref m12, .ref m13, .int hry, .int rh, .int rl, .ref m14, .ref m15, .ref m16, .ref m17, .ref m18, .ref m19, .ref m20, .int fc, .ref m21]))] s.heap.size = A at hD ⊢
  have hA : ∀ q : Nat, s.heap.size ≤ q → A q := fun q h => by rw [← hAe]; exact Or.inr h
  have hS : va_S A s.heap s.heap [] := va_S.rf
  have hP : va_P D vwCl [(m0, .inr (4, [.int th, .int msz, .int cn, .ref m1, .ref m2, .ref m3, .ref m4, .ref m5, .ref m6, .ref m7, .ref m8, .int li, .int nht, .long la, .long lb, .int lx, .long ia, .long ib, .int ix, .long oa, .long ob, .ref m9, .ref m10, .ref m11, .ref m12, .ref m13, .int hry, .int rh, .int rl, .ref m14, .ref m15, .ref m16, .ref m17, .ref m18, .ref m19, .ref m20, .int fc, .ref m21]))] s.heap := hP
  have hl := lv_entry ([.ref m0, .int k, .int wh]) (n := 5) (Nat.le_of_ble_eq_true rfl)
  rw [lg_entry_eq]
  generalize (lg_sl ([.ref m0, .int k, .int wh]) ++ List.replicate (5 - (lg_sl ([.ref m0, .int k, .int wh])).length) Slot.unset).toArray = ls at hl ⊢
  have hl : lv_has ls 5 [(0, .ref m0), (1, .int k), (2, .int wh)] := hl
  refine lv_aload_n hx hb dX4_hit_0 rfl (lv_at hl 0 rfl) ?_
  refine lv_iload_n hx hb dX4_hit_1 rfl (lv_at hl 1 rfl) ?_
  refine lv_if_lt (tgt := 14) hx hb dX4_hit_2 (by decide) (fun c2 => ?_) (fun c2 => ?_)
  · have c2n := Int32.not_le.mpr c2
    refine lv_iconst (v := 1) hx hb dX4_hit_14 (by decide) ?_
    refine lv_goto (tgt := 30) hx hb dX4_hit_15 (by decide) ?_
    refine va_put (D := D) (ci := 4) (v := .int 1) (ty := .int) (C := RX4) (T := TX4) (N := 38) hx hb hg iX4 tyX4 tyX4_ok nmX4 hown hK hP hD hS 0 rfl rfl 0 (by decide) (hg _ kw493) (fun _ h9 => h9) rfl (by decide +kernel) rfl rfl (Nat.le_of_ble_eq_true rfl) dX4_hit_30 (fun H locs hP hD hS => ?_)
    have hP : va_P D vwCl [(m0, .inr (4, [.int 1, .int msz, .int cn, .ref m1, .ref m2, .ref m3, .ref m4, .ref m5, .ref m6, .ref m7, .ref m8, .int li, .int nht, .long la, .long lb, .int lx, .long ia, .long ib, .int ix, .long oa, .long ob, .ref m9, .ref m10, .ref m11, .ref m12, .ref m13, .int hry, .int rh, .int rl, .ref m14, .ref m15, .ref m16, .ref m17, .ref m18, .ref m19, .ref m20, .int fc, .ref m21]))] H := hP
    have hD : va_D A [(m0, .inr (4, [.int 1, .int msz, .int cn, .ref m1, .ref m2, .ref m3, .ref m4, .ref m5, .ref m6, .ref m7, .ref m8, .int li, .int nht, .long la, .long lb, .int lx, .long ia, .long ib, .int ix, .long oa, .long ob, .ref m9, .ref m10, .ref m11, .ref m12, .ref m13, .int hry, .int rh, .int rl, .ref m14, .ref m15, .ref m16, .ref m17, .ref m18, .ref m19, .ref m20, .int fc, .ref m21]))] := hD
    refine lv_aload_n hx hb dX4_hit_33 rfl (lv_at hl 0 rfl) ?_
    refine va_get (D := D) (ci := 4) (v := .int 1) (C := RX4) (T := TX4) (N := 38) hx hb hg iX4 hown hK hP 0 rfl rfl 0 (by decide) (hg _ kw493) (fun _ h9 => h9) rfl dX4_hit_34 ?_
    refine lv_if_le (tgt := 42) hx hb dX4_hit_37 (by decide) (fun c37 => absurd c37 (by decide)) (fun _ => ?_)
    refine lv_iconst (v := 0) hx hb dX4_hit_40 (by decide) ?_
    exact W.iret (v := 0) hx hb hr (fun t ht hW => ⟨⟨0, (), rfl, trivial, bq_end hP hK hD ht hW⟩, hS.F ht⟩) hS.2.2 dX4_hit_41
  · have c2n := Int32.not_lt.mp c2
    refine lv_iload_n hx hb dX4_hit_5 rfl (lv_at hl 2 rfl) ?_
    refine lv_iconst (v := 0) hx hb dX4_hit_6 (by decide) ?_
    refine lv_iconst (v := 3) hx hb dX4_hit_7 (by decide) ?_
    have hPc := hP.sub (ws' := []) [] rfl
    refine rq_call (va_runS (As := [.int wh, .int 0, .int 3]) (rest := [.ref m0]) ⟨hx, hb, hml, hown, hg⟩ (qX4_in l D cI cZ cJ wh 0 3) (va_cwS 3 hg (gw_S kw625 kw626 kw41 kw627) rfl rfl rfl (by decide +kernel) ⟨Nat.le_of_ble_eq_true rfl, Nat.le_of_ble_eq_true rfl⟩) (pq_pre hPc hK hZ) rfl rfl hl.1 rfl (lv_room (Nat.le_of_ble_eq_true rfl)) dX4_hit_8 ⟨Nat.le_of_ble_eq_true rfl, Nat.le_of_ble_eq_true rfl⟩) ?_
    refine lv_if_ne (tgt := 18) hx hb dX4_hit_11 (by decide) (fun c11 => ?_) (fun c11 => ?_)
    · replace c11 := bI_t c11
      exact absurd ⟨Int32.not_lt.mp c2, c11⟩ hR
    · replace c11 := bI_f c11
      refine lv_iconst (v := 1) hx hb dX4_hit_14 (by decide) ?_
      refine lv_goto (tgt := 30) hx hb dX4_hit_15 (by decide) ?_
      refine va_put (D := D) (ci := 4) (v := .int 1) (ty := .int) (C := RX4) (T := TX4) (N := 38) hx hb hg iX4 tyX4 tyX4_ok nmX4 hown hK hP hD hS 0 rfl rfl 0 (by decide) (hg _ kw493) (fun _ h9 => h9) rfl (by decide +kernel) rfl rfl (Nat.le_of_ble_eq_true rfl) dX4_hit_30 (fun H locs hP hD hS => ?_)
      have hP : va_P D vwCl [(m0, .inr (4, [.int 1, .int msz, .int cn, .ref m1, .ref m2, .ref m3, .ref m4, .ref m5, .ref m6, .ref m7, .ref m8, .int li, .int nht, .long la, .long lb, .int lx, .long ia, .long ib, .int ix, .long oa, .long ob, .ref m9, .ref m10, .ref m11, .ref m12, .ref m13, .int hry, .int rh, .int rl, .ref m14, .ref m15, .ref m16, .ref m17, .ref m18, .ref m19, .ref m20, .int fc, .ref m21]))] H := hP
      have hD : va_D A [(m0, .inr (4, [.int 1, .int msz, .int cn, .ref m1, .ref m2, .ref m3, .ref m4, .ref m5, .ref m6, .ref m7, .ref m8, .int li, .int nht, .long la, .long lb, .int lx, .long ia, .long ib, .int ix, .long oa, .long ob, .ref m9, .ref m10, .ref m11, .ref m12, .ref m13, .int hry, .int rh, .int rl, .ref m14, .ref m15, .ref m16, .ref m17, .ref m18, .ref m19, .ref m20, .int fc, .ref m21]))] := hD
      refine lv_aload_n hx hb dX4_hit_33 rfl (lv_at hl 0 rfl) ?_
      refine va_get (D := D) (ci := 4) (v := .int 1) (C := RX4) (T := TX4) (N := 38) hx hb hg iX4 hown hK hP 0 rfl rfl 0 (by decide) (hg _ kw493) (fun _ h9 => h9) rfl dX4_hit_34 ?_
      refine lv_if_le (tgt := 42) hx hb dX4_hit_37 (by decide) (fun c37 => absurd c37 (by decide)) (fun _ => ?_)
      refine lv_iconst (v := 0) hx hb dX4_hit_40 (by decide) ?_
      exact W.iret (v := 0) hx hb hr (fun t ht hW => ⟨⟨0, (), rfl, trivial, bq_end hP hK hD ht hW⟩, hS.F ht⟩) hS.2.2 dX4_hit_41

set_option maxHeartbeats 4000000 in
set_option maxRecDepth 100000 in
theorem qX4_hit_no2 (l : Launch) (D : va_G) (cI cZ cJ : ClassId) (m0 m1 m2 m3 m4 m5 m6 m7 m8 m9 m10 m11 m12 m13 m14 m15 m16 m17 m18 m19 m20 m21 : Nat) (th msz cn li nht lx ix rh rl fc : Int32) (la lb ia ib oa ob : Int64) (k wh : Int32) (hR : 0 ≤ k ∧ inBl 0 wh 3 = true) (sz : Nat) : Met l yX4_hit (Cond.code yX4_hit cX4_hit 5 (some .int) :: gw) ({ frames := 1, cells := 0, slots := 0, locals := 29 }) (wq D [.ref m0, .int k, .int wh] sz [(m0, .inr (4, [.int th, .int msz, .int cn, .ref m1, .ref m2, .ref m3, .ref m4, .ref m5, .ref m6, .ref m7, .ref m8, .int li, .int nht, .long la, .long lb, .int lx, .long ia, .long ib, .int ix, .long oa, .long ob, .ref m9, .ref m10, .ref m11, .ref m12, .ref m13, .int 0, .int rh, .int rl, .ref m14, .ref m15, .ref m16, .ref m17, .ref m18, .ref m19, .ref m20, .int fc, .ref m21]))] [(cI, .int), (cZ, .boolean), (cJ, .long)]) (va_Qi (S := Unit) (fun _ _ => True) (fun u => bq D [(cI, .int), (cZ, .boolean), (cJ, .long)] (va_A [(m0, .inr (4, [.int th, .int msz, .int cn, .ref m1, .ref m2, .ref m3, .ref m4, .ref m5, .ref m6, .ref m7, .ref m8, .int li, .int nht, .long la, .long lb, .int lx, .long ia, .long ib, .int ix, .long oa, .long ob, .ref m9, .ref m10, .ref m11, .ref m12, .ref m13, .int 0, .int rh, .int rl, .ref m14, .ref m15, .ref m16, .ref m17, .ref m18, .ref m19, .ref m20, .int fc, .ref m21]))] sz) ([(m0, .inr (4, [.int 2, .int msz, .int cn, .ref m1, .ref m2, .ref m3, .ref m4, .ref m5, .ref m6, .ref m7, .ref m8, .int li, .int nht, .long la, .long lb, .int lx, .long ia, .long ib, .int ix, .long oa, .long ob, .ref m9, .ref m10, .ref m11, .ref m12, .ref m13, .int 0, .int rh, .int rl, .ref m14, .ref m15, .ref m16, .ref m17, .ref m18, .ref m19, .ref m20, .int fc, .ref m21]))])) (va_A [(m0, .inr (4, [.int th, .int msz, .int cn, .ref m1, .ref m2, .ref m3, .ref m4, .ref m5, .ref m6, .ref m7, .ref m8, .int li, .int nht, .long la, .long lb, .int lx, .long ia, .long ib, .int ix, .long oa, .long ob, .ref m9, .ref m10, .ref m11, .ref m12, .ref m13, .int 0, .int rh, .int rl, .ref m14, .ref m15, .ref m16, .ref m17, .ref m18, .ref m19, .ref m20, .int fc, .ref m21]))] sz)) 0 0 (va_A [(m0, .inr (4, [.int th, .int msz, .int cn, .ref m1, .ref m2, .ref m3, .ref m4, .ref m5, .ref m6, .ref m7, .ref m8, .int li, .int nht, .long la, .long lb, .int lx, .long ia, .long ib, .int ix, .long oa, .long ob, .ref m9, .ref m10, .ref m11, .ref m12, .ref m13, .int 0, .int rh, .int rl, .ref m14, .ref m15, .ref m16, .ref m17, .ref m18, .ref m19, .ref m20, .int fc, .ref m21]))] sz) := by
  refine Met.ofW (cc := cX4_hit) (maxL := 5) (ret := (some .int)) (by decide) rfl ?_
  intro p e s m args below meth c s₁ B hml hv
  obtain ⟨rfl, hsz, hP, hK, hD0, hZ⟩ := hv
  have hx := B.exec
  have hb := B.bytes
  have hr := B.returns
  have hg : ∀ w ∈ gw, w.before _ s = true := fun w h => atoms_spec (ws := Cond.code yX4_hit cX4_hit 5 (some .int) :: gw) B.pre w (List.mem_cons_of_mem _ h)
  have hown : s.vm.findClass RX4 = some m.cls := findClass_of_methodNamed B.named
  have hlocks := B.notSynchronized
  subst hsz
  have hD := hD0.self (sz := s.heap.size)
  generalize hAe : va_A [(m0, .inr (4, [.int th, .int msz, .int cn, .ref m1, .ref m2, .ref m3, .ref m4, .ref m5, .ref m6, .ref m7, .ref m8, .int li, .int nht, .long la, .long lb, .int lx, .long ia, .long ib, .int ix, .long oa, .long ob, .ref m9, .ref m10, .ref m11, .ref m12, .ref m13, .int 0, .int rh, .int rl, .ref m14, .ref m15, .ref m16, .ref m17, .ref m18, .ref m19, .ref m20, .int fc, .ref m21]))] s.heap.size = A at hD ⊢
  have hA : ∀ q : Nat, s.heap.size ≤ q → A q := fun q h => by rw [← hAe]; exact Or.inr h
  have hS : va_S A s.heap s.heap [] := va_S.rf
  have hP : va_P D vwCl [(m0, .inr (4, [.int th, .int msz, .int cn, .ref m1, .ref m2, .ref m3, .ref m4, .ref m5, .ref m6, .ref m7, .ref m8, .int li, .int nht, .long la, .long lb, .int lx, .long ia, .long ib, .int ix, .long oa, .long ob, .ref m9, .ref m10, .ref m11, .ref m12, .ref m13, .int 0, .int rh, .int rl, .ref m14, .ref m15, .ref m16, .ref m17, .ref m18, .ref m19, .ref m20, .int fc, .ref m21]))] s.heap := hP
  have hl := lv_entry ([.ref m0, .int k, .int wh]) (n := 5) (Nat.le_of_ble_eq_true rfl)
  rw [lg_entry_eq]
  generalize (lg_sl ([.ref m0, .int k, .int wh]) ++ List.replicate (5 - (lg_sl ([.ref m0, .int k, .int wh])).length) Slot.unset).toArray = ls at hl ⊢
  have hl : lv_has ls 5 [(0, .ref m0), (1, .int k), (2, .int wh)] := hl
  refine lv_aload_n hx hb dX4_hit_0 rfl (lv_at hl 0 rfl) ?_
  refine lv_iload_n hx hb dX4_hit_1 rfl (lv_at hl 1 rfl) ?_
  refine lv_if_lt (tgt := 14) hx hb dX4_hit_2 (by decide) (fun c2 => absurd c2 (Int32.not_lt.mpr hR.1)) (fun _ => ?_)
  refine lv_iload_n hx hb dX4_hit_5 rfl (lv_at hl 2 rfl) ?_
  refine lv_iconst (v := 0) hx hb dX4_hit_6 (by decide) ?_
  refine lv_iconst (v := 3) hx hb dX4_hit_7 (by decide) ?_
  have hPc := hP.sub (ws' := []) [] rfl
  refine rq_call (va_runS (As := [.int wh, .int 0, .int 3]) (rest := [.ref m0]) ⟨hx, hb, hml, hown, hg⟩ (qX4_in l D cI cZ cJ wh 0 3) (va_cwS 3 hg (gw_S kw625 kw626 kw41 kw627) rfl rfl rfl (by decide +kernel) ⟨Nat.le_of_ble_eq_true rfl, Nat.le_of_ble_eq_true rfl⟩) (pq_pre hPc hK hZ) rfl rfl hl.1 rfl (lv_room (Nat.le_of_ble_eq_true rfl)) dX4_hit_8 ⟨Nat.le_of_ble_eq_true rfl, Nat.le_of_ble_eq_true rfl⟩) ?_
  refine lv_if_ne (tgt := 18) hx hb dX4_hit_11 (by decide) (fun _ => ?_) (fun c11 => absurd c11 (bI_nz hR.2))
  refine lv_aload_n hx hb dX4_hit_18 rfl (lv_at hl 0 rfl) ?_
  refine va_get (D := D) (ci := 4) (v := .int 0) (C := RX4) (T := TX4) (N := 38) hx hb hg iX4 hown hK hP 0 rfl rfl 26 (by decide) (hg _ kw519) (fun _ h9 => h9) rfl dX4_hit_19 ?_
  refine lv_if_ne (tgt := 29) hx hb dX4_hit_22 (by decide) (fun c22 => absurd (by decide) c22) (fun _ => ?_)
  refine lv_iconst (v := 2) hx hb dX4_hit_25 (by decide) ?_
  refine lv_goto (tgt := 30) hx hb dX4_hit_26 (by decide) ?_
  refine va_put (D := D) (ci := 4) (v := .int 2) (ty := .int) (C := RX4) (T := TX4) (N := 38) hx hb hg iX4 tyX4 tyX4_ok nmX4 hown hK hP hD hS 0 rfl rfl 0 (by decide) (hg _ kw493) (fun _ h9 => h9) rfl (by decide +kernel) rfl rfl (Nat.le_of_ble_eq_true rfl) dX4_hit_30 (fun H locs hP hD hS => ?_)
  have hP : va_P D vwCl [(m0, .inr (4, [.int 2, .int msz, .int cn, .ref m1, .ref m2, .ref m3, .ref m4, .ref m5, .ref m6, .ref m7, .ref m8, .int li, .int nht, .long la, .long lb, .int lx, .long ia, .long ib, .int ix, .long oa, .long ob, .ref m9, .ref m10, .ref m11, .ref m12, .ref m13, .int 0, .int rh, .int rl, .ref m14, .ref m15, .ref m16, .ref m17, .ref m18, .ref m19, .ref m20, .int fc, .ref m21]))] H := hP
  have hD : va_D A [(m0, .inr (4, [.int 2, .int msz, .int cn, .ref m1, .ref m2, .ref m3, .ref m4, .ref m5, .ref m6, .ref m7, .ref m8, .int li, .int nht, .long la, .long lb, .int lx, .long ia, .long ib, .int ix, .long oa, .long ob, .ref m9, .ref m10, .ref m11, .ref m12, .ref m13, .int 0, .int rh, .int rl, .ref m14, .ref m15, .ref m16, .ref m17, .ref m18, .ref m19, .ref m20, .int fc, .ref m21]))] := hD
  refine lv_aload_n hx hb dX4_hit_33 rfl (lv_at hl 0 rfl) ?_
  refine va_get (D := D) (ci := 4) (v := .int 2) (C := RX4) (T := TX4) (N := 38) hx hb hg iX4 hown hK hP 0 rfl rfl 0 (by decide) (hg _ kw493) (fun _ h9 => h9) rfl dX4_hit_34 ?_
  refine lv_if_le (tgt := 42) hx hb dX4_hit_37 (by decide) (fun c37 => absurd c37 (by decide)) (fun _ => ?_)
  refine lv_iconst (v := 0) hx hb dX4_hit_40 (by decide) ?_
  exact W.iret (v := 0) hx hb hr (fun t ht hW => ⟨⟨0, (), rfl, trivial, bq_end hP hK hD ht hW⟩, hS.F ht⟩) hS.2.2 dX4_hit_41

def okP (rp : Nat → Int64) (nr : Nat) : Prop := ∀ j, j < 3 * nr → (-(2 ^ 62) < (rp j).toInt ∧ (rp j).toInt < 2 ^ 62)

theorem bx_iff9 {x : Int32} {n : Nat} (hn : n ≤ 30) : inBl 0 x (nI n - 1) = true ↔ (0 ≤ x ∧ x < nI n) := by
  rw [inBl_iff, inR]
  cases n with
  | zero =>
    rw [show nI 0 - 1 = (-1 : Int32) from by decide, show nI 0 = (0 : Int32) from rfl]
    constructor
    · rintro ⟨h1, h2⟩
      exact absurd (Int32.le_trans h1 h2) (by decide)
    · rintro ⟨h1, h2⟩
      exact absurd h1 (Int32.not_le.mpr h2)
  | succ n =>
    rw [nI_pred]
    constructor
    · rintro ⟨h1, h2⟩
      exact ⟨h1, Int32.lt_of_le_of_lt h2 ((nI_ltI (by omega) (by omega)).mpr (by omega))⟩
    · rintro ⟨h1, h2⟩
      obtain ⟨j, hj, rfl⟩ := ix_of ⟨h1, h2⟩ (by omega)
      exact ⟨h1, nI_le (by omega) (by omega)⟩

set_option maxHeartbeats 4000000 in
set_option maxRecDepth 100000 in
/-- place -/
theorem qX4_place_ok (l : Launch) (D : va_G) (cI cZ cJ : ClassId) (m0 m1 m2 m3 m4 m5 m6 m7 m8 m9 m10 m11 m12 m13 m14 m15 m16 m17 m18 m19 m20 m21 : Nat) (th msz cn li nht lx ix hry rl fc : Int32) (la lb ia ib oa ob : Int64) (rw : Nat → Int64) (rp : Nat → Int64) (nr : Nat) (hnr : nr ≤ 30) (ra9 : Nat → Int64) (hH : okH ra9 rw nr) (hP9 : okP rp nr) (k ax pr : Int32) (hR : inBl 0 k (nI nr - 1) = true ∧ inBl 0 ax 2 = true ∧ inBl 0 pr 1 = true) (sz : Nat) : Met l yX4_place (Cond.code yX4_place cX4_place 8 (some .long) :: gw) ({ frames := 1, cells := 0, slots := 0, locals := 29 }) (wq D [.ref m0, .int k, .int ax, .int pr] sz [(m0, .inr (4, [.int th, .int msz, .int cn, .ref m1, .ref m2, .ref m3, .ref m4, .ref m5, .ref m6, .ref m7, .ref m8, .int li, .int nht, .long la, .long lb, .int lx, .long ia, .long ib, .int ix, .long oa, .long ob, .ref m9, .ref m10, .ref m11, .ref m12, .ref m13, .int hry, .int (nI nr), .int rl, .ref m14, .ref m15, .ref m16, .ref m17, .ref m18, .ref m19, .ref m20, .int fc, .ref m21])), (m18, .inl (cJ, 30, .inr (.inl rw))), (m19, .inl (cJ, 90, .inr (.inl rp)))] [(cI, .int), (cZ, .boolean), (cJ, .long)]) (va_Ql (S := Unit) (fun r _ => r = placeM k ax pr rw rp) (fun u => bq D [(cI, .int), (cZ, .boolean), (cJ, .long)] (va_A [(m0, .inr (4, [.int th, .int msz, .int cn, .ref m1, .ref m2, .ref m3, .ref m4, .ref m5, .ref m6, .ref m7, .ref m8, .int li, .int nht, .long la, .long lb, .int lx, .long ia, .long ib, .int ix, .long oa, .long ob, .ref m9, .ref m10, .ref m11, .ref m12, .ref m13, .int hry, .int (nI nr), .int rl, .ref m14, .ref m15, .ref m16, .ref m17, .ref m18, .ref m19, .ref m20, .int fc, .ref m21])), (m18, .inl (cJ, 30, .inr (.inl rw))), (m19, .inl (cJ, 90, .inr (.inl rp)))] sz) ([(m0, .inr (4, [.int 0, .int msz, .int cn, .ref m1, .ref m2, .ref m3, .ref m4, .ref m5, .ref m6, .ref m7, .ref m8, .int li, .int nht, .long la, .long lb, .int lx, .long ia, .long ib, .int ix, .long oa, .long ob, .ref m9, .ref m10, .ref m11, .ref m12, .ref m13, .int hry, .int (nI nr), .int rl, .ref m14, .ref m15, .ref m16, .ref m17, .ref m18, .ref m19, .ref m20, .int fc, .ref m21])), (m18, .inl (cJ, 30, .inr (.inl rw))), (m19, .inl (cJ, 90, .inr (.inl rp)))])) (va_A [(m0, .inr (4, [.int th, .int msz, .int cn, .ref m1, .ref m2, .ref m3, .ref m4, .ref m5, .ref m6, .ref m7, .ref m8, .int li, .int nht, .long la, .long lb, .int lx, .long ia, .long ib, .int ix, .long oa, .long ob, .ref m9, .ref m10, .ref m11, .ref m12, .ref m13, .int hry, .int (nI nr), .int rl, .ref m14, .ref m15, .ref m16, .ref m17, .ref m18, .ref m19, .ref m20, .int fc, .ref m21])), (m18, .inl (cJ, 30, .inr (.inl rw))), (m19, .inl (cJ, 90, .inr (.inl rp)))] sz)) 0 0 (va_A [(m0, .inr (4, [.int th, .int msz, .int cn, .ref m1, .ref m2, .ref m3, .ref m4, .ref m5, .ref m6, .ref m7, .ref m8, .int li, .int nht, .long la, .long lb, .int lx, .long ia, .long ib, .int ix, .long oa, .long ob, .ref m9, .ref m10, .ref m11, .ref m12, .ref m13, .int hry, .int (nI nr), .int rl, .ref m14, .ref m15, .ref m16, .ref m17, .ref m18, .ref m19, .ref m20, .int fc, .ref m21])), (m18, .inl (cJ, 30, .inr (.inl rw))), (m19, .inl (cJ, 90, .inr (.inl rp)))] sz) := by
  refine Met.ofW (cc := cX4_place) (maxL := 8) (ret := (some .long)) (by decide) rfl ?_
  intro p e s m args below meth c s₁ B hml hv
  obtain ⟨rfl, hsz, hP, hK, hD0, hZ⟩ := hv
  have hx := B.exec
  have hb := B.bytes
  have hr := B.returns
  have hg : ∀ w ∈ gw, w.before _ s = true := fun w h => atoms_spec (ws := Cond.code yX4_place cX4_place 8 (some .long) :: gw) B.pre w (List.mem_cons_of_mem _ h)
  have hown : s.vm.findClass RX4 = some m.cls := findClass_of_methodNamed B.named
  have hlocks := B.notSynchronized
  subst hsz
  have hD := hD0.self (sz := s.heap.size)
  generalize hAe : va_A [(m0, .inr (4, [.int th, .int msz, .int cn, .ref m1, .ref m2, .ref m3, .ref m4, .ref m5, .ref m6, .ref m7, .ref m8, .int li, .int nht, .long la, .long lb, .int lx, .long ia, .long ib, .int ix, .long oa, .long ob, .ref m9, .ref m10, .ref m11, .ref m12, .ref m13, .int hry, .int (nI nr), .int rl, .ref m14, .ref m15, .ref m16, .ref m17, .ref m18, .ref m19, .ref m20, .int fc, .ref m21])), (m18, .inl (cJ, 30, .inr (.inl rw))), (m19, .inl (cJ, 90, .inr (.inl rp)))] s.heap.size = A at hD ⊢
  have hA : ∀ q : Nat, s.heap.size ≤ q → A q := fun q h => by rw [← hAe]; exact Or.inr h
  have hS : va_S A s.heap s.heap [] := va_S.rf
  have hP : va_P D vwCl [(m0, .inr (4, [.int th, .int msz, .int cn, .ref m1, .ref m2, .ref m3, .ref m4, .ref m5, .ref m6, .ref m7, .ref m8, .int li, .int nht, .long la, .long lb, .int lx, .long ia, .long ib, .int ix, .long oa, .long ob, .ref m9, .ref m10, .ref m11, .ref m12, .ref m13, .int hry, .int (nI nr), .int rl, .ref m14, .ref m15, .ref m16, .ref m17, .ref m18, .ref m19, .ref m20, .int fc, .ref m21])), (m18, .inl (cJ, 30, .inr (.inl rw))), (m19, .inl (cJ, 90, .inr (.inl rp)))] s.heap := hP
  have hl := lv_entry ([.ref m0, .int k, .int ax, .int pr]) (n := 8) (Nat.le_of_ble_eq_true rfl)
  rw [lg_entry_eq]
  generalize (lg_sl ([.ref m0, .int k, .int ax, .int pr]) ++ List.replicate (8 - (lg_sl ([.ref m0, .int k, .int ax, .int pr])).length) Slot.unset).toArray = ls at hl ⊢
  have hl : lv_has ls 8 [(0, .ref m0), (1, .int k), (2, .int ax), (3, .int pr)] := hl
  refine lv_aload_n hx hb dX4_place_0 rfl (lv_at hl 0 rfl) ?_
  refine lv_iload_n hx hb dX4_place_1 rfl (lv_at hl 1 rfl) ?_
  refine lv_iconst (v := 0) hx hb dX4_place_2 (by decide) ?_
  refine lv_aload_n hx hb dX4_place_3 rfl (lv_at hl 0 rfl) ?_
  refine va_get (D := D) (ci := 4) (v := .int (nI nr)) (C := RX4) (T := TX4) (N := 38) hx hb hg iX4 hown hK hP 0 rfl rfl 27 (by decide) (hg _ kw520) (fun _ h9 => h9) rfl dX4_place_4 ?_
  refine lv_iconst (v := 1) hx hb dX4_place_7 (by decide) ?_
  refine lv_isub hx hb dX4_place_8 ?_
  have hPc := hP.sub (ws' := []) [] rfl
  refine rq_call (va_runS (As := [.int k, .int 0, .int ((nI nr) - 1)]) (rest := [.ref m0]) ⟨hx, hb, hml, hown, hg⟩ (qX4_in l D cI cZ cJ k 0 ((nI nr) - 1)) (va_cwS 3 hg (gw_S kw625 kw626 kw41 kw627) rfl rfl rfl (by decide +kernel) ⟨Nat.le_of_ble_eq_true rfl, Nat.le_of_ble_eq_true rfl⟩) (pq_pre hPc hK hZ) rfl rfl hl.1 rfl (lv_room (Nat.le_of_ble_eq_true rfl)) dX4_place_9 ⟨Nat.le_of_ble_eq_true rfl, Nat.le_of_ble_eq_true rfl⟩) ?_
  refine lv_if_eq (tgt := 33) hx hb dX4_place_12 (by decide) (fun c12 => absurd c12 (bI_nz hR.1)) (fun _ => ?_)
  refine lv_iload_n hx hb dX4_place_15 rfl (lv_at hl 2 rfl) ?_
  refine lv_iconst (v := 0) hx hb dX4_place_16 (by decide) ?_
  refine lv_iconst (v := 2) hx hb dX4_place_17 (by decide) ?_
  have hPc := hP.sub (ws' := []) [] rfl
  refine rq_call (va_runS (As := [.int ax, .int 0, .int 2]) (rest := [.ref m0]) ⟨hx, hb, hml, hown, hg⟩ (qX4_in l D cI cZ cJ ax 0 2) (va_cwS 3 hg (gw_S kw625 kw626 kw41 kw627) rfl rfl rfl (by decide +kernel) ⟨Nat.le_of_ble_eq_true rfl, Nat.le_of_ble_eq_true rfl⟩) (pq_pre hPc hK hZ) rfl rfl hl.1 rfl (lv_room (Nat.le_of_ble_eq_true rfl)) dX4_place_18 ⟨Nat.le_of_ble_eq_true rfl, Nat.le_of_ble_eq_true rfl⟩) ?_
  refine lv_if_eq (tgt := 33) hx hb dX4_place_21 (by decide) (fun c21 => absurd c21 (bI_nz hR.2.1)) (fun _ => ?_)
  refine lv_iload_n hx hb dX4_place_24 rfl (lv_at hl 3 rfl) ?_
  refine lv_iconst (v := 0) hx hb dX4_place_25 (by decide) ?_
  refine lv_iconst (v := 1) hx hb dX4_place_26 (by decide) ?_
  have hPc := hP.sub (ws' := []) [] rfl
  refine rq_call (va_runS (As := [.int pr, .int 0, .int 1]) (rest := [.ref m0]) ⟨hx, hb, hml, hown, hg⟩ (qX4_in l D cI cZ cJ pr 0 1) (va_cwS 3 hg (gw_S kw625 kw626 kw41 kw627) rfl rfl rfl (by decide +kernel) ⟨Nat.le_of_ble_eq_true rfl, Nat.le_of_ble_eq_true rfl⟩) (pq_pre hPc hK hZ) rfl rfl hl.1 rfl (lv_room (Nat.le_of_ble_eq_true rfl)) dX4_place_27 ⟨Nat.le_of_ble_eq_true rfl, Nat.le_of_ble_eq_true rfl⟩) ?_
  refine lv_if_ne (tgt := 37) hx hb dX4_place_30 (by decide) (fun _ => ?_) (fun c30 => absurd c30 (bI_nz hR.2.2))
  refine lv_iconst (v := 0) hx hb dX4_place_37 (by decide) ?_
  refine va_put (D := D) (ci := 4) (v := .int 0) (ty := .int) (C := RX4) (T := TX4) (N := 38) hx hb hg iX4 tyX4 tyX4_ok nmX4 hown hK hP hD hS 0 rfl rfl 0 (by decide) (hg _ kw493) (fun _ h9 => h9) rfl (by decide +kernel) rfl rfl (Nat.le_of_ble_eq_true rfl) dX4_place_38 (fun H locs hP hD hS => ?_)
  have hP : va_P D vwCl [(m0, .inr (4, [.int 0, .int msz, .int cn, .ref m1, .ref m2, .ref m3, .ref m4, .ref m5, .ref m6, .ref m7, .ref m8, .int li, .int nht, .long la, .long lb, .int lx, .long ia, .long ib, .int ix, .long oa, .long ob, .ref m9, .ref m10, .ref m11, .ref m12, .ref m13, .int hry, .int (nI nr), .int rl, .ref m14, .ref m15, .ref m16, .ref m17, .ref m18, .ref m19, .ref m20, .int fc, .ref m21])), (m18, .inl (cJ, 30, .inr (.inl rw))), (m19, .inl (cJ, 90, .inr (.inl rp)))] H := hP
  have hD : va_D A [(m0, .inr (4, [.int 0, .int msz, .int cn, .ref m1, .ref m2, .ref m3, .ref m4, .ref m5, .ref m6, .ref m7, .ref m8, .int li, .int nht, .long la, .long lb, .int lx, .long ia, .long ib, .int ix, .long oa, .long ob, .ref m9, .ref m10, .ref m11, .ref m12, .ref m13, .int hry, .int (nI nr), .int rl, .ref m14, .ref m15, .ref m16, .ref m17, .ref m18, .ref m19, .ref m20, .int fc, .ref m21])), (m18, .inl (cJ, 30, .inr (.inl rw))), (m19, .inl (cJ, 90, .inr (.inl rp)))] := hD
  refine lv_aload_n hx hb dX4_place_41 rfl (lv_at hl 0 rfl) ?_
  refine va_get (D := D) (ci := 4) (v := .int 0) (C := RX4) (T := TX4) (N := 38) hx hb hg iX4 hown hK hP 0 rfl rfl 0 (by decide) (hg _ kw493) (fun _ h9 => h9) rfl dX4_place_42 ?_
  refine lv_if_le (tgt := 50) hx hb dX4_place_45 (by decide) (fun _ => ?_) (fun c45 => absurd (by decide) c45)
  obtain ⟨j, hj, ej⟩ := ix_of ((bx_iff9 hnr).mp hR.1) (by omega)
  obtain ⟨a, hja, ea⟩ := nI_of2 (M := 2) (n := 2) (by decide) (Int32.not_lt.mpr (inBl_iff.mp hR.2.1).1) (inBl_iff.mp hR.2.1).2
  subst ej
  subst ea
  have cj : (nI j).toNatClampNeg = j := nI_clamp (by omega)
  have ca : (nI a).toNatClampNeg = a := nI_clamp (by omega)
  refine lv_aload_n hx hb dX4_place_50 rfl (lv_at hl 0 rfl) ?_
  refine va_get (D := D) (ci := 4) (v := .ref m19) (C := RX4) (T := TX4) (N := 38) hx hb hg iX4 hown hK hP 0 rfl rfl 34 (by decide) (hg _ kw527) (fun _ h9 => h9) rfl dX4_place_51 ?_
  refine lv_iconst (v := 3) hx hb dX4_place_54 (by decide) ?_
  refine lv_iload_n hx hb dX4_place_55 rfl (lv_at hl 1 rfl) ?_
  refine lv_imul hx hb dX4_place_56 ?_
  refine lv_iload_n hx hb dX4_place_57 rfl (lv_at hl 2 rfl) ?_
  refine lv_iadd hx hb dX4_place_58 ?_
  refine va_lald hx hb hK hP 2 2 rfl rfl (vin3m (by omega) (by decide)) dX4_place_59 ?_
  refine tp_l (y := rp (3 * j + a)) (congrArg rp (vcl3m (by omega))) ?_
  refine lv_lstore (lv' := [(4, .long (rp (3 * j + a))), (0, .ref m0), (1, .int (nI j)), (2, .int (nI a)), (3, .int pr)]) hx hb dX4_place_60 hl (by decide) rfl (fun ls hl => ?_)
  refine lv_lload hx hb dX4_place_62 (lv_at hl 0 rfl) ?_
  refine lv_aload_n hx hb dX4_place_64 rfl (lv_at hl 1 rfl) ?_
  refine va_get (D := D) (ci := 4) (v := .ref m18) (C := RX4) (T := TX4) (N := 38) hx hb hg iX4 hown hK hP 0 rfl rfl 33 (by decide) (hg _ kw526) (fun _ h9 => h9) rfl dX4_place_65 ?_
  refine lv_iload_n hx hb dX4_place_68 rfl (lv_at hl 2 rfl) ?_
  refine va_lald hx hb hK hP 1 2 rfl rfl (vp_in_nI (by omega) (by decide)) dX4_place_69 ?_
  refine tp_l (y := rw j) (congrArg rw (nI_clamp (by omega))) ?_
  have hPc := hP.sub (ws' := []) [] rfl
  refine rq_callL (va_runS (As := [.long (rp (3 * j + a)), .long (rw j)]) (rest := []) ⟨hx, hb, hml, hown, hg⟩ (qX4_common l D cI cZ cJ (rp (3 * j + a)) (rw j) (hP9 (3 * j + a) (by omega)) ⟨Int.le_of_lt (hH j hj).2.1, (hH j hj).2.2⟩) (va_cwS 2 hg (gw_S kw688 kw689 kw41 kw690) rfl rfl rfl (by decide +kernel) ⟨Nat.le_of_ble_eq_true rfl, Nat.le_of_ble_eq_true rfl⟩) (pq_pre hPc hK hZ) rfl rfl hl.1 rfl (lv_room (Nat.le_of_ble_eq_true rfl)) dX4_place_70 ⟨Nat.le_of_ble_eq_true rfl, Nat.le_of_ble_eq_true rfl⟩) ?_
  refine lv_lstore (lv' := [(6, .long (cmL 100 (absL (rp (3 * j + a))) (rw j))), (4, .long (rp (3 * j + a))), (0, .ref m0), (1, .int (nI j)), (2, .int (nI a)), (3, .int pr)]) hx hb dX4_place_73 hl (by decide) rfl (fun ls hl => ?_)
  refine lv_iload_n hx hb dX4_place_75 rfl (lv_at hl 5 rfl) ?_
  refine lv_if_ne (tgt := 84) hx hb dX4_place_76 (by decide) (fun c76 => ?_) (fun c76 => ?_)
  · refine lv_aload_n hx hb dX4_place_84 rfl (lv_at hl 2 rfl) ?_
    refine va_get (D := D) (ci := 4) (v := .ref m18) (C := RX4) (T := TX4) (N := 38) hx hb hg iX4 hown hK hP 0 rfl rfl 33 (by decide) (hg _ kw526) (fun _ h9 => h9) rfl dX4_place_85 ?_
    refine lv_iload_n hx hb dX4_place_88 rfl (lv_at hl 3 rfl) ?_
    refine va_lald hx hb hK hP 1 2 rfl rfl (vp_in_nI (by omega) (by decide)) dX4_place_89 ?_
    refine tp_l (y := rw j) (congrArg rw (nI_clamp (by omega))) ?_
    refine lv_lload hx hb dX4_place_90 (lv_at hl 0 rfl) ?_
    refine lv_ldiv hx hb dX4_place_92 (cm_ne (hP9 (3 * j + a) (by omega)).1 (hP9 (3 * j + a) (by omega)).2 (hH j hj).2.1 (hH j hj).2.2) ?_
    exact W.lret (v := (rw j) / (cmL 100 (absL (rp (3 * j + a))) (rw j))) hx hb hr (fun t ht hW => ⟨⟨(rw j) / (cmL 100 (absL (rp (3 * j + a))) (rw j)), (), rfl, by simp only [placeM, cj, ca, c76, if_true, if_false], bq_end hP hK hD ht hW⟩, hS.F ht⟩) hS.2.2 dX4_place_93
  · refine lv_lload hx hb dX4_place_79 (lv_at hl 1 rfl) ?_
    refine lv_goto (tgt := 90) hx hb dX4_place_81 (by decide) ?_
    refine lv_lload hx hb dX4_place_90 (lv_at hl 0 rfl) ?_
    refine lv_ldiv hx hb dX4_place_92 (cm_ne (hP9 (3 * j + a) (by omega)).1 (hP9 (3 * j + a) (by omega)).2 (hH j hj).2.1 (hH j hj).2.2) ?_
    exact W.lret (v := (rp (3 * j + a)) / (cmL 100 (absL (rp (3 * j + a))) (rw j))) hx hb hr (fun t ht hW => ⟨⟨(rp (3 * j + a)) / (cmL 100 (absL (rp (3 * j + a))) (rw j)), (), rfl, by simp only [placeM, cj, ca, c76, if_true, if_false], bq_end hP hK hD ht hW⟩, hS.F ht⟩) hS.2.2 dX4_place_93

set_option maxHeartbeats 4000000 in
set_option maxRecDepth 100000 in
theorem qX4_place_no (l : Launch) (D : va_G) (cI cZ cJ : ClassId) (m0 m1 m2 m3 m4 m5 m6 m7 m8 m9 m10 m11 m12 m13 m14 m15 m16 m17 m18 m19 m20 m21 : Nat) (th msz cn li nht lx ix hry rl fc : Int32) (la lb ia ib oa ob : Int64) (nr : Nat) (k ax pr : Int32) (hR : ¬ (inBl 0 k (nI nr - 1) = true ∧ inBl 0 ax 2 = true ∧ inBl 0 pr 1 = true)) (sz : Nat) : Met l yX4_place (Cond.code yX4_place cX4_place 8 (some .long) :: gw) ({ frames := 1, cells := 0, slots := 0, locals := 29 }) (wq D [.ref m0, .int k, .int ax, .int pr] sz [(m0, .inr (4, [.int th, .int msz, .int cn, .ref m1, .ref m2, .ref m3, .ref m4, .ref m5, .ref m6, .ref m7, .ref m8, .int li, .int nht, .long la, .long lb, .int lx, .long ia, .long ib, .int ix, .long oa, .long ob, .ref m9, .ref m10, .ref m11, .ref m12, .ref m13, .int hry, .int (nI nr), .int rl, .ref m14, .ref m15, .ref m16, .ref m17, .ref m18, .ref m19, .ref m20, .int fc, .ref m21]))] [(cI, .int), (cZ, .boolean), (cJ, .long)]) (va_Ql (S := Unit) (fun _ _ => True) (fun u => bq D [(cI, .int), (cZ, .boolean), (cJ, .long)] (va_A [(m0, .inr (4, [.int th, .int msz, .int cn, .ref m1, .ref m2, .ref m3, .ref m4, .ref m5, .ref m6, .ref m7, .ref m8, .int li, .int nht, .long la, .long lb, .int lx, .long ia, .long ib, .int ix, .long oa, .long ob, .ref m9, .ref m10, .ref m11, .ref m12, .ref m13, .int hry, .int (nI nr), .int rl, .ref m14, .ref m15, .ref m16, .ref m17, .ref m18, .ref m19, .ref m20, .int fc, .ref m21]))] sz) ([(m0, .inr (4, [.int 1, .int msz, .int cn, .ref m1, .ref m2, .ref m3, .ref m4, .ref m5, .ref m6, .ref m7, .ref m8, .int li, .int nht, .long la, .long lb, .int lx, .long ia, .long ib, .int ix, .long oa, .long ob, .ref m9, .ref m10, .ref m11, .ref m12, .ref m13, .int hry, .int (nI nr), .int rl, .ref m14, .ref m15, .ref m16, .ref m17, .ref m18, .ref m19, .ref m20, .int fc, .ref m21]))])) (va_A [(m0, .inr (4, [.int th, .int msz, .int cn, .ref m1, .ref m2, .ref m3, .ref m4, .ref m5, .ref m6, .ref m7, .ref m8, .int li, .int nht, .long la, .long lb, .int lx, .long ia, .long ib, .int ix, .long oa, .long ob, .ref m9, .ref m10, .ref m11, .ref m12, .ref m13, .int hry, .int (nI nr), .int rl, .ref m14, .ref m15, .ref m16, .ref m17, .ref m18, .ref m19, .ref m20, .int fc, .ref m21]))] sz)) 0 0 (va_A [(m0, .inr (4, [.int th, .int msz, .int cn, .ref m1, .ref m2, .ref m3, .ref m4, .ref m5, .ref m6, .ref m7, .ref m8, .int li, .int nht, .long la, .long lb, .int lx, .long ia, .long ib, .int ix, .long oa, .long ob, .ref m9, .ref m10, .ref m11, .ref m12, .ref m13, .int hry, .int (nI nr), .int rl, .ref m14, .ref m15, .ref m16, .ref m17, .ref m18, .ref m19, .ref m20, .int fc, .ref m21]))] sz) := by
  refine Met.ofW (cc := cX4_place) (maxL := 8) (ret := (some .long)) (by decide) rfl ?_
  intro p e s m args below meth c s₁ B hml hv
  obtain ⟨rfl, hsz, hP, hK, hD0, hZ⟩ := hv
  have hx := B.exec
  have hb := B.bytes
  have hr := B.returns
  have hg : ∀ w ∈ gw, w.before _ s = true := fun w h => atoms_spec (ws := Cond.code yX4_place cX4_place 8 (some .long) :: gw) B.pre w (List.mem_cons_of_mem _ h)
  have hown : s.vm.findClass RX4 = some m.cls := findClass_of_methodNamed B.named
  have hlocks := B.notSynchronized
  subst hsz
  have hD := hD0.self (sz := s.heap.size)
  generalize hAe : va_A [(m0, .inr (4, [.int th, .int msz, .int cn, .ref m1, .ref m2, .ref m3, .ref m4, .ref m5, .ref m6, .ref m7, .ref m8, .int li, .int nht, .long la, .long lb, .int lx, .long ia, .long ib, .int ix, .long oa, .long ob, .ref m9, .ref m10, .ref m11, .ref m12, .ref m13, .int hry, .int (nI nr), .int rl, .ref m14, .ref m15, .ref m16, .ref m17, .ref m18, .ref m19, .ref m20, .int fc, .ref m21]))] s.heap.size = A at hD ⊢
  have hA : ∀ q : Nat, s.heap.size ≤ q → A q := fun q h => by rw [← hAe]; exact Or.inr h
  have hS : va_S A s.heap s.heap [] := va_S.rf
  have hP : va_P D vwCl [(m0, .inr (4, [.int th, .int msz, .int cn, .ref m1, .ref m2, .ref m3, .ref m4, .ref m5, .ref m6, .ref m7, .ref m8, .int li, .int nht, .long la, .long lb, .int lx, .long ia, .long ib, .int ix, .long oa, .long ob, .ref m9, .ref m10, .ref m11, .ref m12, .ref m13, .int hry, .int (nI nr), .int rl, .ref m14, .ref m15, .ref m16, .ref m17, .ref m18, .ref m19, .ref m20, .int fc, .ref m21]))] s.heap := hP
  have hl := lv_entry ([.ref m0, .int k, .int ax, .int pr]) (n := 8) (Nat.le_of_ble_eq_true rfl)
  rw [lg_entry_eq]
  generalize (lg_sl ([.ref m0, .int k, .int ax, .int pr]) ++ List.replicate (8 - (lg_sl ([.ref m0, .int k, .int ax, .int pr])).length) Slot.unset).toArray = ls at hl ⊢
  have hl : lv_has ls 8 [(0, .ref m0), (1, .int k), (2, .int ax), (3, .int pr)] := hl
  refine lv_aload_n hx hb dX4_place_0 rfl (lv_at hl 0 rfl) ?_
  refine lv_iload_n hx hb dX4_place_1 rfl (lv_at hl 1 rfl) ?_
  refine lv_iconst (v := 0) hx hb dX4_place_2 (by decide) ?_
  refine lv_aload_n hx hb dX4_place_3 rfl (lv_at hl 0 rfl) ?_
  refine va_get (D := D) (ci := 4) (v := .int (nI nr)) (C := RX4) (T := TX4) (N := 38) hx hb hg iX4 hown hK hP 0 rfl rfl 27 (by decide) (hg _ kw520) (fun _ h9 => h9) rfl dX4_place_4 ?_
  refine lv_iconst (v := 1) hx hb dX4_place_7 (by decide) ?_
  refine lv_isub hx hb dX4_place_8 ?_
  have hPc := hP.sub (ws' := []) [] rfl
  refine rq_call (va_runS (As := [.int k, .int 0, .int ((nI nr) - 1)]) (rest := [.ref m0]) ⟨hx, hb, hml, hown, hg⟩ (qX4_in l D cI cZ cJ k 0 ((nI nr) - 1)) (va_cwS 3 hg (gw_S kw625 kw626 kw41 kw627) rfl rfl rfl (by decide +kernel) ⟨Nat.le_of_ble_eq_true rfl, Nat.le_of_ble_eq_true rfl⟩) (pq_pre hPc hK hZ) rfl rfl hl.1 rfl (lv_room (Nat.le_of_ble_eq_true rfl)) dX4_place_9 ⟨Nat.le_of_ble_eq_true rfl, Nat.le_of_ble_eq_true rfl⟩) ?_
  refine lv_if_eq (tgt := 33) hx hb dX4_place_12 (by decide) (fun c12 => ?_) (fun c12 => ?_)
  · replace c12 := bI_f c12
    refine lv_iconst (v := 1) hx hb dX4_place_33 (by decide) ?_
    refine lv_goto (tgt := 38) hx hb dX4_place_34 (by decide) ?_
    refine va_put (D := D) (ci := 4) (v := .int 1) (ty := .int) (C := RX4) (T := TX4) (N := 38) hx hb hg iX4 tyX4 tyX4_ok nmX4 hown hK hP hD hS 0 rfl rfl 0 (by decide) (hg _ kw493) (fun _ h9 => h9) rfl (by decide +kernel) rfl rfl (Nat.le_of_ble_eq_true rfl) dX4_place_38 (fun H locs hP hD hS => ?_)
    have hP : va_P D vwCl [(m0, .inr (4, [.int 1, .int msz, .int cn, .ref m1, .ref m2, .ref m3, .ref m4, .ref m5, .ref m6, .ref m7, .ref m8, .int li, .int nht, .long la, .long lb, .int lx, .long ia, .long ib, .int ix, .long oa, .long ob, .ref m9, .ref m10, .ref m11, .ref m12, .ref m13, .int hry, .int (nI nr), .int rl, .ref m14, .ref m15, .ref m16, .ref m17, .ref m18, .ref m19, .ref m20, .int fc, .ref m21]))] H := hP
    have hD : va_D A [(m0, .inr (4, [.int 1, .int msz, .int cn, .ref m1, .ref m2, .ref m3, .ref m4, .ref m5, .ref m6, .ref m7, .ref m8, .int li, .int nht, .long la, .long lb, .int lx, .long ia, .long ib, .int ix, .long oa, .long ob, .ref m9, .ref m10, .ref m11, .ref m12, .ref m13, .int hry, .int (nI nr), .int rl, .ref m14, .ref m15, .ref m16, .ref m17, .ref m18, .ref m19, .ref m20, .int fc, .ref m21]))] := hD
    refine lv_aload_n hx hb dX4_place_41 rfl (lv_at hl 0 rfl) ?_
    refine va_get (D := D) (ci := 4) (v := .int 1) (C := RX4) (T := TX4) (N := 38) hx hb hg iX4 hown hK hP 0 rfl rfl 0 (by decide) (hg _ kw493) (fun _ h9 => h9) rfl dX4_place_42 ?_
    refine lv_if_le (tgt := 50) hx hb dX4_place_45 (by decide) (fun c45 => absurd c45 (by decide)) (fun _ => ?_)
    refine lv_lconst (v := 0) hx hb dX4_place_48 (by decide) ?_
    exact W.lret (v := 0) hx hb hr (fun t ht hW => ⟨⟨0, (), rfl, trivial, bq_end hP hK hD ht hW⟩, hS.F ht⟩) hS.2.2 dX4_place_49
  · replace c12 := bI_t c12
    refine lv_iload_n hx hb dX4_place_15 rfl (lv_at hl 2 rfl) ?_
    refine lv_iconst (v := 0) hx hb dX4_place_16 (by decide) ?_
    refine lv_iconst (v := 2) hx hb dX4_place_17 (by decide) ?_
    have hPc := hP.sub (ws' := []) [] rfl
    refine rq_call (va_runS (As := [.int ax, .int 0, .int 2]) (rest := [.ref m0]) ⟨hx, hb, hml, hown, hg⟩ (qX4_in l D cI cZ cJ ax 0 2) (va_cwS 3 hg (gw_S kw625 kw626 kw41 kw627) rfl rfl rfl (by decide +kernel) ⟨Nat.le_of_ble_eq_true rfl, Nat.le_of_ble_eq_true rfl⟩) (pq_pre hPc hK hZ) rfl rfl hl.1 rfl (lv_room (Nat.le_of_ble_eq_true rfl)) dX4_place_18 ⟨Nat.le_of_ble_eq_true rfl, Nat.le_of_ble_eq_true rfl⟩) ?_
    refine lv_if_eq (tgt := 33) hx hb dX4_place_21 (by decide) (fun c21 => ?_) (fun c21 => ?_)
    · replace c21 := bI_f c21
      refine lv_iconst (v := 1) hx hb dX4_place_33 (by decide) ?_
      refine lv_goto (tgt := 38) hx hb dX4_place_34 (by decide) ?_
      refine va_put (D := D) (ci := 4) (v := .int 1) (ty := .int) (C := RX4) (T := TX4) (N := 38) hx hb hg iX4 tyX4 tyX4_ok nmX4 hown hK hP hD hS 0 rfl rfl 0 (by decide) (hg _ kw493) (fun _ h9 => h9) rfl (by decide +kernel) rfl rfl (Nat.le_of_ble_eq_true rfl) dX4_place_38 (fun H locs hP hD hS => ?_)
      have hP : va_P D vwCl [(m0, .inr (4, [.int 1, .int msz, .int cn, .ref m1, .ref m2, .ref m3, .ref m4, .ref m5, .ref m6, .ref m7, .ref m8, .int li, .int nht, .long la, .long lb, .int lx, .long ia, .long ib, .int ix, .long oa, .long ob, .ref m9, .ref m10, .ref m11, .ref m12, .ref m13, .int hry, .int (nI nr), .int rl, .ref m14, .ref m15, .ref m16, .ref m17, .ref m18, .ref m19, .ref m20, .int fc, .ref m21]))] H := hP
      have hD : va_D A [(m0, .inr (4, [.int 1, .int msz, .int cn, .ref m1, .ref m2, .ref m3, .ref m4, .ref m5, .ref m6, .ref m7, .ref m8, .int li, .int nht, .long la, .long lb, .int lx, .long ia, .long ib, .int ix, .long oa, .long ob, .ref m9, .ref m10, .ref m11, .ref m12, .ref m13, .int hry, .int (nI nr), .int rl, .ref m14, .ref m15, .ref m16, .ref m17, .ref m18, .ref m19, .ref m20, .int fc, .ref m21]))] := hD
      refine lv_aload_n hx hb dX4_place_41 rfl (lv_at hl 0 rfl) ?_
      refine va_get (D := D) (ci := 4) (v := .int 1) (C := RX4) (T := TX4) (N := 38) hx hb hg iX4 hown hK hP 0 rfl rfl 0 (by decide) (hg _ kw493) (fun _ h9 => h9) rfl dX4_place_42 ?_
      refine lv_if_le (tgt := 50) hx hb dX4_place_45 (by decide) (fun c45 => absurd c45 (by decide)) (fun _ => ?_)
      refine lv_lconst (v := 0) hx hb dX4_place_48 (by decide) ?_
      exact W.lret (v := 0) hx hb hr (fun t ht hW => ⟨⟨0, (), rfl, trivial, bq_end hP hK hD ht hW⟩, hS.F ht⟩) hS.2.2 dX4_place_49
    · replace c21 := bI_t c21
      refine lv_iload_n hx hb dX4_place_24 rfl (lv_at hl 3 rfl) ?_
      refine lv_iconst (v := 0) hx hb dX4_place_25 (by decide) ?_
      refine lv_iconst (v := 1) hx hb dX4_place_26 (by decide) ?_
      have hPc := hP.sub (ws' := []) [] rfl
      refine rq_call (va_runS (As := [.int pr, .int 0, .int 1]) (rest := [.ref m0]) ⟨hx, hb, hml, hown, hg⟩ (qX4_in l D cI cZ cJ pr 0 1) (va_cwS 3 hg (gw_S kw625 kw626 kw41 kw627) rfl rfl rfl (by decide +kernel) ⟨Nat.le_of_ble_eq_true rfl, Nat.le_of_ble_eq_true rfl⟩) (pq_pre hPc hK hZ) rfl rfl hl.1 rfl (lv_room (Nat.le_of_ble_eq_true rfl)) dX4_place_27 ⟨Nat.le_of_ble_eq_true rfl, Nat.le_of_ble_eq_true rfl⟩) ?_
      refine lv_if_ne (tgt := 37) hx hb dX4_place_30 (by decide) (fun c30 => ?_) (fun c30 => ?_)
      · replace c30 := bI_t c30
        refine lv_iconst (v := 0) hx hb dX4_place_37 (by decide) ?_
        exact absurd ⟨c12, c21, c30⟩ hR
      · replace c30 := bI_f c30
        refine lv_iconst (v := 1) hx hb dX4_place_33 (by decide) ?_
        refine lv_goto (tgt := 38) hx hb dX4_place_34 (by decide) ?_
        refine va_put (D := D) (ci := 4) (v := .int 1) (ty := .int) (C := RX4) (T := TX4) (N := 38) hx hb hg iX4 tyX4 tyX4_ok nmX4 hown hK hP hD hS 0 rfl rfl 0 (by decide) (hg _ kw493) (fun _ h9 => h9) rfl (by decide +kernel) rfl rfl (Nat.le_of_ble_eq_true rfl) dX4_place_38 (fun H locs hP hD hS => ?_)
        have hP : va_P D vwCl [(m0, .inr (4, [.int 1, .int msz, .int cn, .ref m1, .ref m2, .ref m3, .ref m4, .ref m5, .ref m6, .ref m7, .ref m8, .int li, .int nht, .long la, .long lb, .int lx, .long ia, .long ib, .int ix, .long oa, .long ob, .ref m9, .ref m10, .ref m11, .ref m12, .ref m13, .int hry, .int (nI nr), .int rl, .ref m14, .ref m15, .ref m16, .ref m17, .ref m18, .ref m19, .ref m20, .int fc, .ref m21]))] H := hP
        have hD : va_D A [(m0, .inr (4, [.int 1, .int msz, .int cn, .ref m1, .ref m2, .ref m3, .ref m4, .ref m5, .ref m6, .ref m7, .ref m8, .int li, .int nht, .long la, .long lb, .int lx, .long ia, .long ib, .int ix, .long oa, .long ob, .ref m9, .ref m10, .ref m11, .ref m12, .ref m13, .int hry, .int (nI nr), .int rl, .ref m14, .ref m15, .ref m16, .ref m17, .ref m18, .ref m19, .ref m20, .int fc, .ref m21]))] := hD
        refine lv_aload_n hx hb dX4_place_41 rfl (lv_at hl 0 rfl) ?_
        refine va_get (D := D) (ci := 4) (v := .int 1) (C := RX4) (T := TX4) (N := 38) hx hb hg iX4 hown hK hP 0 rfl rfl 0 (by decide) (hg _ kw493) (fun _ h9 => h9) rfl dX4_place_42 ?_
        refine lv_if_le (tgt := 50) hx hb dX4_place_45 (by decide) (fun c45 => absurd c45 (by decide)) (fun _ => ?_)
        refine lv_lconst (v := 0) hx hb dX4_place_48 (by decide) ?_
        exact W.lret (v := 0) hx hb hr (fun t ht hW => ⟨⟨0, (), rfl, trivial, bq_end hP hK hD ht hW⟩, hS.F ht⟩) hS.2.2 dX4_place_49

set_option maxHeartbeats 4000000 in
set_option maxRecDepth 100000 in
/-- sky -/
theorem qX4_sky_ok (l : Launch) (D : va_G) (cI cZ cJ : ClassId) (m0 m1 m2 m3 m4 m5 m6 m7 m8 m9 m10 m11 m12 m13 m14 m15 m16 m17 m18 m19 m20 m21 : Nat) (th msz cn li nht lx ix hry rh rl fc : Int32) (la lb ia ib oa ob : Int64) (sk : Nat → Int32) (oc v : Int32) (hR : inBl 0 oc 7 = true ∧ inBl 0 v 1000 = true) (sz : Nat) : Met l yX4_sky (Cond.code yX4_sky cX4_sky 4 (some .int) :: gw) ({ frames := 1, cells := 0, slots := 0, locals := 22 }) (wq D [.ref m0, .int oc, .int v] sz [(m0, .inr (4, [.int th, .int msz, .int cn, .ref m1, .ref m2, .ref m3, .ref m4, .ref m5, .ref m6, .ref m7, .ref m8, .int li, .int nht, .long la, .long lb, .int lx, .long ia, .long ib, .int ix, .long oa, .long ob, .ref m9, .ref m10, .ref m11, .ref m12, .ref m13, .int hry, .int rh, .int rl, .ref m14, .ref m15, .ref m16, .ref m17, .ref m18, .ref m19, .ref m20, .int fc, .ref m21])), (m20, .inl (cI, 8, .inl sk))] [(cI, .int), (cZ, .boolean), (cJ, .long)]) (va_Qi (S := Unit) (fun r _ => r = sk oc.toNatClampNeg) (fun u => bq D [(cI, .int), (cZ, .boolean), (cJ, .long)] (va_A [(m0, .inr (4, [.int th, .int msz, .int cn, .ref m1, .ref m2, .ref m3, .ref m4, .ref m5, .ref m6, .ref m7, .ref m8, .int li, .int nht, .long la, .long lb, .int lx, .long ia, .long ib, .int ix, .long oa, .long ob, .ref m9, .ref m10, .ref m11, .ref m12, .ref m13, .int hry, .int rh, .int rl, .ref m14, .ref m15, .ref m16, .ref m17, .ref m18, .ref m19, .ref m20, .int fc, .ref m21])), (m20, .inl (cI, 8, .inl sk))] sz) ([(m0, .inr (4, [.int 0, .int msz, .int cn, .ref m1, .ref m2, .ref m3, .ref m4, .ref m5, .ref m6, .ref m7, .ref m8, .int li, .int nht, .long la, .long lb, .int lx, .long ia, .long ib, .int ix, .long oa, .long ob, .ref m9, .ref m10, .ref m11, .ref m12, .ref m13, .int hry, .int rh, .int rl, .ref m14, .ref m15, .ref m16, .ref m17, .ref m18, .ref m19, .ref m20, .int fc, .ref m21])), (m20, .inl (cI, 8, .inl (upd sk oc.toNatClampNeg v)))])) (va_A [(m0, .inr (4, [.int th, .int msz, .int cn, .ref m1, .ref m2, .ref m3, .ref m4, .ref m5, .ref m6, .ref m7, .ref m8, .int li, .int nht, .long la, .long lb, .int lx, .long ia, .long ib, .int ix, .long oa, .long ob, .ref m9, .ref m10, .ref m11, .ref m12, .ref m13, .int hry, .int rh, .int rl, .ref m14, .ref m15, .ref m16, .ref m17, .ref m18, .ref m19, .ref m20, .int fc, .ref m21])), (m20, .inl (cI, 8, .inl sk))] sz)) 0 0 (va_A [(m0, .inr (4, [.int th, .int msz, .int cn, .ref m1, .ref m2, .ref m3, .ref m4, .ref m5, .ref m6, .ref m7, .ref m8, .int li, .int nht, .long la, .long lb, .int lx, .long ia, .long ib, .int ix, .long oa, .long ob, .ref m9, .ref m10, .ref m11, .ref m12, .ref m13, .int hry, .int rh, .int rl, .ref m14, .ref m15, .ref m16, .ref m17, .ref m18, .ref m19, .ref m20, .int fc, .ref m21])), (m20, .inl (cI, 8, .inl sk))] sz) := by
  refine Met.ofW (cc := cX4_sky) (maxL := 4) (ret := (some .int)) (by decide) rfl ?_
  intro p e s m args below meth c s₁ B hml hv
  obtain ⟨rfl, hsz, hP, hK, hD0, hZ⟩ := hv
  have hx := B.exec
  have hb := B.bytes
  have hr := B.returns
  have hg : ∀ w ∈ gw, w.before _ s = true := fun w h => atoms_spec (ws := Cond.code yX4_sky cX4_sky 4 (some .int) :: gw) B.pre w (List.mem_cons_of_mem _ h)
  have hown : s.vm.findClass RX4 = some m.cls := findClass_of_methodNamed B.named
  have hlocks := B.notSynchronized
  subst hsz
  have hD := hD0.self (sz := s.heap.size)
  generalize hAe : va_A [(m0, .inr (4, [.int th, .int msz, .int cn, .ref m1, .ref m2, .ref m3, .ref m4, .ref m5, .ref m6, .ref m7, .ref m8, .int li, .int nht, .long la, .long lb, .int lx, .long ia, .long ib, .int ix, .long oa, .long ob, .ref m9, .ref m10, .ref m11, .ref m12, .ref m13, .int hry, .int rh, .int rl, .ref m14, .ref m15, .ref m16, .ref m17, .ref m18, .ref m19, .ref m20, .int fc, .ref m21])), (m20, .inl (cI, 8, .inl sk))] s.heap.size = A at hD ⊢
  have hA : ∀ q : Nat, s.heap.size ≤ q → A q := fun q h => by rw [← hAe]; exact Or.inr h
  have hS : va_S A s.heap s.heap [] := va_S.rf
  have hP : va_P D vwCl [(m0, .inr (4, [.int th, .int msz, .int cn, .ref m1, .ref m2, .ref m3, .ref m4, .ref m5, .ref m6, .ref m7, .ref m8, .int li, .int nht, .long la, .long lb, .int lx, .long ia, .long ib, .int ix, .long oa, .long ob, .ref m9, .ref m10, .ref m11, .ref m12, .ref m13, .int hry, .int rh, .int rl, .ref m14, .ref m15, .ref m16, .ref m17, .ref m18, .ref m19, .ref m20, .int fc, .ref m21])), (m20, .inl (cI, 8, .inl sk))] s.heap := hP
  have hl := lv_entry ([.ref m0, .int oc, .int v]) (n := 4) (Nat.le_of_ble_eq_true rfl)
  rw [lg_entry_eq]
  generalize (lg_sl ([.ref m0, .int oc, .int v]) ++ List.replicate (4 - (lg_sl ([.ref m0, .int oc, .int v])).length) Slot.unset).toArray = ls at hl ⊢
  have hl : lv_has ls 4 [(0, .ref m0), (1, .int oc), (2, .int v)] := hl
  refine lv_aload_n hx hb dX4_sky_0 rfl (lv_at hl 0 rfl) ?_
  refine lv_iload_n hx hb dX4_sky_1 rfl (lv_at hl 1 rfl) ?_
  refine lv_iconst (v := 0) hx hb dX4_sky_2 (by decide) ?_
  refine lv_bipush (v := 7) hx hb dX4_sky_3 (by decide) ?_
  have hPc := hP.sub (ws' := []) [] rfl
  refine rq_call (va_runS (As := [.int oc, .int 0, .int 7]) (rest := [.ref m0]) ⟨hx, hb, hml, hown, hg⟩ (qX4_in l D cI cZ cJ oc 0 7) (va_cwS 3 hg (gw_S kw625 kw626 kw41 kw627) rfl rfl rfl (by decide +kernel) ⟨Nat.le_of_ble_eq_true rfl, Nat.le_of_ble_eq_true rfl⟩) (pq_pre hPc hK hZ) rfl rfl hl.1 rfl (lv_room (Nat.le_of_ble_eq_true rfl)) dX4_sky_5 ⟨Nat.le_of_ble_eq_true rfl, Nat.le_of_ble_eq_true rfl⟩) ?_
  refine lv_if_eq (tgt := 26) hx hb dX4_sky_8 (by decide) (fun c8 => absurd c8 (bI_nz hR.1)) (fun _ => ?_)
  refine lv_iload_n hx hb dX4_sky_11 rfl (lv_at hl 2 rfl) ?_
  refine lv_iconst (v := 0) hx hb dX4_sky_12 (by decide) ?_
  refine lv_sipush (v := 1000) hx hb dX4_sky_13 (by decide) ?_
  have hPc := hP.sub (ws' := []) [] rfl
  refine rq_call (va_runS (As := [.int v, .int 0, .int 1000]) (rest := [.ref m0]) ⟨hx, hb, hml, hown, hg⟩ (qX4_in l D cI cZ cJ v 0 1000) (va_cwS 3 hg (gw_S kw625 kw626 kw41 kw627) rfl rfl rfl (by decide +kernel) ⟨Nat.le_of_ble_eq_true rfl, Nat.le_of_ble_eq_true rfl⟩) (pq_pre hPc hK hZ) rfl rfl hl.1 rfl (lv_room (Nat.le_of_ble_eq_true rfl)) dX4_sky_16 ⟨Nat.le_of_ble_eq_true rfl, Nat.le_of_ble_eq_true rfl⟩) ?_
  refine lv_if_eq (tgt := 26) hx hb dX4_sky_19 (by decide) (fun c19 => absurd c19 (bI_nz hR.2)) (fun _ => ?_)
  refine lv_iconst (v := 0) hx hb dX4_sky_22 (by decide) ?_
  refine lv_goto (tgt := 27) hx hb dX4_sky_23 (by decide) ?_
  refine va_put (D := D) (ci := 4) (v := .int 0) (ty := .int) (C := RX4) (T := TX4) (N := 38) hx hb hg iX4 tyX4 tyX4_ok nmX4 hown hK hP hD hS 0 rfl rfl 0 (by decide) (hg _ kw493) (fun _ h9 => h9) rfl (by decide +kernel) rfl rfl (Nat.le_of_ble_eq_true rfl) dX4_sky_27 (fun H locs hP hD hS => ?_)
  have hP : va_P D vwCl [(m0, .inr (4, [.int 0, .int msz, .int cn, .ref m1, .ref m2, .ref m3, .ref m4, .ref m5, .ref m6, .ref m7, .ref m8, .int li, .int nht, .long la, .long lb, .int lx, .long ia, .long ib, .int ix, .long oa, .long ob, .ref m9, .ref m10, .ref m11, .ref m12, .ref m13, .int hry, .int rh, .int rl, .ref m14, .ref m15, .ref m16, .ref m17, .ref m18, .ref m19, .ref m20, .int fc, .ref m21])), (m20, .inl (cI, 8, .inl sk))] H := hP
  have hD : va_D A [(m0, .inr (4, [.int 0, .int msz, .int cn, .ref m1, .ref m2, .ref m3, .ref m4, .ref m5, .ref m6, .ref m7, .ref m8, .int li, .int nht, .long la, .long lb, .int lx, .long ia, .long ib, .int ix, .long oa, .long ob, .ref m9, .ref m10, .ref m11, .ref m12, .ref m13, .int hry, .int rh, .int rl, .ref m14, .ref m15, .ref m16, .ref m17, .ref m18, .ref m19, .ref m20, .int fc, .ref m21])), (m20, .inl (cI, 8, .inl sk))] := hD
  refine lv_aload_n hx hb dX4_sky_30 rfl (lv_at hl 0 rfl) ?_
  refine va_get (D := D) (ci := 4) (v := .int 0) (C := RX4) (T := TX4) (N := 38) hx hb hg iX4 hown hK hP 0 rfl rfl 0 (by decide) (hg _ kw493) (fun _ h9 => h9) rfl dX4_sky_31 ?_
  refine lv_if_le (tgt := 39) hx hb dX4_sky_34 (by decide) (fun _ => ?_) (fun c34 => absurd (by decide) c34)
  refine lv_aload_n hx hb dX4_sky_39 rfl (lv_at hl 0 rfl) ?_
  refine va_get (D := D) (ci := 4) (v := .ref m20) (C := RX4) (T := TX4) (N := 38) hx hb hg iX4 hown hK hP 0 rfl rfl 35 (by decide) (hg _ kw528) (fun _ h9 => h9) rfl dX4_sky_40 ?_
  refine lv_iload_n hx hb dX4_sky_43 rfl (lv_at hl 1 rfl) ?_
  refine va_iald hx hb hK hP 1 0 rfl rfl (vin_R (n := 7) (inBl_iff.mp hR.1) (by decide) (by decide)) dX4_sky_44 ?_
  refine lv_istore_n (lv' := [(3, .int (sk oc.toNatClampNeg)), (0, .ref m0), (1, .int oc), (2, .int v)]) hx hb dX4_sky_45 rfl hl (by decide) rfl (fun ls hl => ?_)
  refine lv_aload_n hx hb dX4_sky_46 rfl (lv_at hl 1 rfl) ?_
  refine va_get (D := D) (ci := 4) (v := .ref m20) (C := RX4) (T := TX4) (N := 38) hx hb hg iX4 hown hK hP 0 rfl rfl 35 (by decide) (hg _ kw528) (fun _ h9 => h9) rfl dX4_sky_47 ?_
  refine lv_iload_n hx hb dX4_sky_50 rfl (lv_at hl 2 rfl) ?_
  refine lv_iload_n hx hb dX4_sky_51 rfl (lv_at hl 3 rfl) ?_
  refine va_iast hx hb hK hP hD hS 1 0 rfl rfl (vin_R (n := 7) (inBl_iff.mp hR.1) (by decide) (by decide)) dX4_sky_52 (fun H locs hP hD hS => ?_)
  have hP : va_P D vwCl [(m0, .inr (4, [.int 0, .int msz, .int cn, .ref m1, .ref m2, .ref m3, .ref m4, .ref m5, .ref m6, .ref m7, .ref m8, .int li, .int nht, .long la, .long lb, .int lx, .long ia, .long ib, .int ix, .long oa, .long ob, .ref m9, .ref m10, .ref m11, .ref m12, .ref m13, .int hry, .int rh, .int rl, .ref m14, .ref m15, .ref m16, .ref m17, .ref m18, .ref m19, .ref m20, .int fc, .ref m21])), (m20, .inl (cI, 8, .inl (upd sk oc.toNatClampNeg v)))] H := hP
  have hD : va_D A [(m0, .inr (4, [.int 0, .int msz, .int cn, .ref m1, .ref m2, .ref m3, .ref m4, .ref m5, .ref m6, .ref m7, .ref m8, .int li, .int nht, .long la, .long lb, .int lx, .long ia, .long ib, .int ix, .long oa, .long ob, .ref m9, .ref m10, .ref m11, .ref m12, .ref m13, .int hry, .int rh, .int rl, .ref m14, .ref m15, .ref m16, .ref m17, .ref m18, .ref m19, .ref m20, .int fc, .ref m21])), (m20, .inl (cI, 8, .inl (upd sk oc.toNatClampNeg v)))] := hD
  refine lv_iload_n hx hb dX4_sky_53 rfl (lv_at hl 0 rfl) ?_
  exact W.iret (v := sk oc.toNatClampNeg) hx hb hr (fun t ht hW => ⟨⟨sk oc.toNatClampNeg, (), rfl, rfl, bq_end hP hK hD ht hW⟩, hS.F ht⟩) hS.2.2 dX4_sky_54

set_option maxHeartbeats 4000000 in
set_option maxRecDepth 100000 in
theorem qX4_sky_no (l : Launch) (D : va_G) (cI cZ cJ : ClassId) (m0 m1 m2 m3 m4 m5 m6 m7 m8 m9 m10 m11 m12 m13 m14 m15 m16 m17 m18 m19 m20 m21 : Nat) (th msz cn li nht lx ix hry rh rl fc : Int32) (la lb ia ib oa ob : Int64) (oc v : Int32) (hR : ¬ (inBl 0 oc 7 = true ∧ inBl 0 v 1000 = true)) (sz : Nat) : Met l yX4_sky (Cond.code yX4_sky cX4_sky 4 (some .int) :: gw) ({ frames := 1, cells := 0, slots := 0, locals := 22 }) (wq D [.ref m0, .int oc, .int v] sz [(m0, .inr (4, [.int th, .int msz, .int cn, .ref m1, .ref m2, .ref m3, .ref m4, .ref m5, .ref m6, .ref m7, .ref m8, .int li, .int nht, .long la, .long lb, .int lx, .long ia, .long ib, .int ix, .long oa, .long ob, .ref m9, .ref m10, .ref m11, .ref m12, .ref m13, .int hry, .int rh, .int rl, .ref m14, .ref m15, .ref m16, .ref m17, .ref m18, .ref m19, .ref m20, .int fc, .ref m21]))] [(cI, .int), (cZ, .boolean), (cJ, .long)]) (va_Qi (S := Unit) (fun _ _ => True) (fun u => bq D [(cI, .int), (cZ, .boolean), (cJ, .long)] (va_A [(m0, .inr (4, [.int th, .int msz, .int cn, .ref m1, .ref m2, .ref m3, .ref m4, .ref m5, .ref m6, .ref m7, .ref m8, .int li, .int nht, .long la, .long lb, .int lx, .long ia, .long ib, .int ix, .long oa, .long ob, .ref m9, .ref m10, .ref m11, .ref m12, .ref m13, .int hry, .int rh, .int rl, .ref m14, .ref m15, .ref m16, .ref m17, .ref m18, .ref m19, .ref m20, .int fc, .ref m21]))] sz) ([(m0, .inr (4, [.int 1, .int msz, .int cn, .ref m1, .ref m2, .ref m3, .ref m4, .ref m5, .ref m6, .ref m7, .ref m8, .int li, .int nht, .long la, .long lb, .int lx, .long ia, .long ib, .int ix, .long oa, .long ob, .ref m9, .ref m10, .ref m11, .ref m12, .ref m13, .int hry, .int rh, .int rl, .ref m14, .ref m15, .ref m16, .ref m17, .ref m18, .ref m19, .ref m20, .int fc, .ref m21]))])) (va_A [(m0, .inr (4, [.int th, .int msz, .int cn, .ref m1, .ref m2, .ref m3, .ref m4, .ref m5, .ref m6, .ref m7, .ref m8, .int li, .int nht, .long la, .long lb, .int lx, .long ia, .long ib, .int ix, .long oa, .long ob, .ref m9, .ref m10, .ref m11, .ref m12, .ref m13, .int hry, .int rh, .int rl, .ref m14, .ref m15, .ref m16, .ref m17, .ref m18, .ref m19, .ref m20, .int fc, .ref m21]))] sz)) 0 0 (va_A [(m0, .inr (4, [.int th, .int msz, .int cn, .ref m1, .ref m2, .ref m3, .ref m4, .ref m5, .ref m6, .ref m7, .ref m8, .int li, .int nht, .long la, .long lb, .int lx, .long ia, .long ib, .int ix, .long oa, .long ob, .ref m9, .ref m10, .ref m11, .ref m12, .ref m13, .int hry, .int rh, .int rl, .ref m14, .ref m15, .ref m16, .ref m17, .ref m18, .ref m19, .ref m20, .int fc, .ref m21]))] sz) := by
  refine Met.ofW (cc := cX4_sky) (maxL := 4) (ret := (some .int)) (by decide) rfl ?_
  intro p e s m args below meth c s₁ B hml hv
  obtain ⟨rfl, hsz, hP, hK, hD0, hZ⟩ := hv
  have hx := B.exec
  have hb := B.bytes
  have hr := B.returns
  have hg : ∀ w ∈ gw, w.before _ s = true := fun w h => atoms_spec (ws := Cond.code yX4_sky cX4_sky 4 (some .int) :: gw) B.pre w (List.mem_cons_of_mem _ h)
  have hown : s.vm.findClass RX4 = some m.cls := findClass_of_methodNamed B.named
  have hlocks := B.notSynchronized
  subst hsz
  have hD := hD0.self (sz := s.heap.size)
  generalize hAe : va_A [(m0, .inr (4, [.int th, .int msz, .int cn, .ref m1, .ref m2, .ref m3, .ref m4, .ref m5, .ref m6, .ref m7, .ref m8, .int li, .int nht, .long la, .long lb, .int lx, .long ia, .long ib, .int ix, .long oa, .long ob, .ref m9, .ref m10, .ref m11, .ref m12, .ref m13, .int hry, .int rh, .int rl, .ref m14, .ref m15, .ref m16, .ref m17, .ref m18, .ref m19, .ref m20, .int fc, .ref m21]))] s.heap.size = A at hD ⊢
  have hA : ∀ q : Nat, s.heap.size ≤ q → A q := fun q h => by rw [← hAe]; exact Or.inr h
  have hS : va_S A s.heap s.heap [] := va_S.rf
  have hP : va_P D vwCl [(m0, .inr (4, [.int th, .int msz, .int cn, .ref m1, .ref m2, .ref m3, .ref m4, .ref m5, .ref m6, .ref m7, .ref m8, .int li, .int nht, .long la, .long lb, .int lx, .long ia, .long ib, .int ix, .long oa, .long ob, .ref m9, .ref m10, .ref m11, .ref m12, .ref m13, .int hry, .int rh, .int rl, .ref m14, .ref m15, .ref m16, .ref m17, .ref m18, .ref m19, .ref m20, .int fc, .ref m21]))] s.heap := hP
  have hl := lv_entry ([.ref m0, .int oc, .int v]) (n := 4) (Nat.le_of_ble_eq_true rfl)
  rw [lg_entry_eq]
  generalize (lg_sl ([.ref m0, .int oc, .int v]) ++ List.replicate (4 - (lg_sl ([.ref m0, .int oc, .int v])).length) Slot.unset).toArray = ls at hl ⊢
  have hl : lv_has ls 4 [(0, .ref m0), (1, .int oc), (2, .int v)] := hl
  refine lv_aload_n hx hb dX4_sky_0 rfl (lv_at hl 0 rfl) ?_
  refine lv_iload_n hx hb dX4_sky_1 rfl (lv_at hl 1 rfl) ?_
  refine lv_iconst (v := 0) hx hb dX4_sky_2 (by decide) ?_
  refine lv_bipush (v := 7) hx hb dX4_sky_3 (by decide) ?_
  have hPc := hP.sub (ws' := []) [] rfl
  refine rq_call (va_runS (As := [.int oc, .int 0, .int 7]) (rest := [.ref m0]) ⟨hx, hb, hml, hown, hg⟩ (qX4_in l D cI cZ cJ oc 0 7) (va_cwS 3 hg (gw_S kw625 kw626 kw41 kw627) rfl rfl rfl (by decide +kernel) ⟨Nat.le_of_ble_eq_true rfl, Nat.le_of_ble_eq_true rfl⟩) (pq_pre hPc hK hZ) rfl rfl hl.1 rfl (lv_room (Nat.le_of_ble_eq_true rfl)) dX4_sky_5 ⟨Nat.le_of_ble_eq_true rfl, Nat.le_of_ble_eq_true rfl⟩) ?_
  refine lv_if_eq (tgt := 26) hx hb dX4_sky_8 (by decide) (fun c8 => ?_) (fun c8 => ?_)
  · replace c8 := bI_f c8
    refine lv_iconst (v := 1) hx hb dX4_sky_26 (by decide) ?_
    refine va_put (D := D) (ci := 4) (v := .int 1) (ty := .int) (C := RX4) (T := TX4) (N := 38) hx hb hg iX4 tyX4 tyX4_ok nmX4 hown hK hP hD hS 0 rfl rfl 0 (by decide) (hg _ kw493) (fun _ h9 => h9) rfl (by decide +kernel) rfl rfl (Nat.le_of_ble_eq_true rfl) dX4_sky_27 (fun H locs hP hD hS => ?_)
    have hP : va_P D vwCl [(m0, .inr (4, [.int 1, .int msz, .int cn, .ref m1, .ref m2, .ref m3, .ref m4, .ref m5, .ref m6, .ref m7, .ref m8, .int li, .int nht, .long la, .long lb, .int lx, .long ia, .long ib, .int ix, .long oa, .long ob, .ref m9, .ref m10, .ref m11, .ref m12, .ref m13, .int hry, .int rh, .int rl, .ref m14, .ref m15, .ref m16, .ref m17, .ref m18, .ref m19, .ref m20, .int fc, .ref m21]))] H := hP
    have hD : va_D A [(m0, .inr (4, [.int 1, .int msz, .int cn, .ref m1, .ref m2, .ref m3, .ref m4, .ref m5, .ref m6, .ref m7, .ref m8, .int li, .int nht, .long la, .long lb, .int lx, .long ia, .long ib, .int ix, .long oa, .long ob, .ref m9, .ref m10, .ref m11, .ref m12, .ref m13, .int hry, .int rh, .int rl, .ref m14, .ref m15, .ref m16, .ref m17, .ref m18, .ref m19, .ref m20, .int fc, .ref m21]))] := hD
    refine lv_aload_n hx hb dX4_sky_30 rfl (lv_at hl 0 rfl) ?_
    refine va_get (D := D) (ci := 4) (v := .int 1) (C := RX4) (T := TX4) (N := 38) hx hb hg iX4 hown hK hP 0 rfl rfl 0 (by decide) (hg _ kw493) (fun _ h9 => h9) rfl dX4_sky_31 ?_
    refine lv_if_le (tgt := 39) hx hb dX4_sky_34 (by decide) (fun c34 => absurd c34 (by decide)) (fun _ => ?_)
    refine lv_iconst (v := 0) hx hb dX4_sky_37 (by decide) ?_
    exact W.iret (v := 0) hx hb hr (fun t ht hW => ⟨⟨0, (), rfl, trivial, bq_end hP hK hD ht hW⟩, hS.F ht⟩) hS.2.2 dX4_sky_38
  · replace c8 := bI_t c8
    refine lv_iload_n hx hb dX4_sky_11 rfl (lv_at hl 2 rfl) ?_
    refine lv_iconst (v := 0) hx hb dX4_sky_12 (by decide) ?_
    refine lv_sipush (v := 1000) hx hb dX4_sky_13 (by decide) ?_
    have hPc := hP.sub (ws' := []) [] rfl
    refine rq_call (va_runS (As := [.int v, .int 0, .int 1000]) (rest := [.ref m0]) ⟨hx, hb, hml, hown, hg⟩ (qX4_in l D cI cZ cJ v 0 1000) (va_cwS 3 hg (gw_S kw625 kw626 kw41 kw627) rfl rfl rfl (by decide +kernel) ⟨Nat.le_of_ble_eq_true rfl, Nat.le_of_ble_eq_true rfl⟩) (pq_pre hPc hK hZ) rfl rfl hl.1 rfl (lv_room (Nat.le_of_ble_eq_true rfl)) dX4_sky_16 ⟨Nat.le_of_ble_eq_true rfl, Nat.le_of_ble_eq_true rfl⟩) ?_
    refine lv_if_eq (tgt := 26) hx hb dX4_sky_19 (by decide) (fun c19 => ?_) (fun c19 => ?_)
    · replace c19 := bI_f c19
      refine lv_iconst (v := 1) hx hb dX4_sky_26 (by decide) ?_
      refine va_put (D := D) (ci := 4) (v := .int 1) (ty := .int) (C := RX4) (T := TX4) (N := 38) hx hb hg iX4 tyX4 tyX4_ok nmX4 hown hK hP hD hS 0 rfl rfl 0 (by decide) (hg _ kw493) (fun _ h9 => h9) rfl (by decide +kernel) rfl rfl (Nat.le_of_ble_eq_true rfl) dX4_sky_27 (fun H locs hP hD hS => ?_)
      have hP : va_P D vwCl [(m0, .inr (4, [.int 1, .int msz, .int cn, .ref m1, .ref m2, .ref m3, .ref m4, .ref m5, .ref m6, .ref m7, .ref m8, .int li, .int nht, .long la, .long lb, .int lx, .long ia, .long ib, .int ix, .long oa, .long ob, .ref m9, .ref m10, .ref m11, .ref m12, .ref m13, .int hry, .int rh, .int rl, .ref m14, .ref m15, .ref m16, .ref m17, .ref m18, .ref m19, .ref m20, .int fc, .ref m21]))] H := hP
      have hD : va_D A [(m0, .inr (4, [.int 1, .int msz, .int cn, .ref m1, .ref m2, .ref m3, .ref m4, .ref m5, .ref m6, .ref m7, .ref m8, .int li, .int nht, .long la, .long lb, .int lx, .long ia, .long ib, .int ix, .long oa, .long ob, .ref m9, .ref m10, .ref m11, .ref m12, .ref m13, .int hry, .int rh, .int rl, .ref m14, .ref m15, .ref m16, .ref m17, .ref m18, .ref m19, .ref m20, .int fc, .ref m21]))] := hD
      refine lv_aload_n hx hb dX4_sky_30 rfl (lv_at hl 0 rfl) ?_
      refine va_get (D := D) (ci := 4) (v := .int 1) (C := RX4) (T := TX4) (N := 38) hx hb hg iX4 hown hK hP 0 rfl rfl 0 (by decide) (hg _ kw493) (fun _ h9 => h9) rfl dX4_sky_31 ?_
      refine lv_if_le (tgt := 39) hx hb dX4_sky_34 (by decide) (fun c34 => absurd c34 (by decide)) (fun _ => ?_)
      refine lv_iconst (v := 0) hx hb dX4_sky_37 (by decide) ?_
      exact W.iret (v := 0) hx hb hr (fun t ht hW => ⟨⟨0, (), rfl, trivial, bq_end hP hK hD ht hW⟩, hS.F ht⟩) hS.2.2 dX4_sky_38
    · replace c19 := bI_t c19
      refine lv_iconst (v := 0) hx hb dX4_sky_22 (by decide) ?_
      refine lv_goto (tgt := 27) hx hb dX4_sky_23 (by decide) ?_
      exact absurd ⟨c8, c19⟩ hR

set_option maxHeartbeats 4000000 in
set_option maxRecDepth 100000 in
/-- fan -/
theorem qX4_fan_ok (l : Launch) (D : va_G) (cI cZ cJ : ClassId) (m0 m1 m2 m3 m4 m5 m6 m7 m8 m9 m10 m11 m12 m13 m14 m15 m16 m17 m18 m19 m20 m21 : Nat) (th msz cn li nht lx ix hry rh rl : Int32) (la lb ia ib oa ob : Int64) (fd : Nat → Int32) (nf : Nat) (hn : nf < 40) (x y z : Int32) (hR : dirB x y z = true) (sz : Nat) : Met l yX4_fan (Cond.code yX4_fan cX4_fan 4 (some .int) :: gw) ({ frames := 2, cells := 0, slots := 0, locals := 44 }) (wq D [.ref m0, .int x, .int y, .int z] sz [(m0, .inr (4, [.int th, .int msz, .int cn, .ref m1, .ref m2, .ref m3, .ref m4, .ref m5, .ref m6, .ref m7, .ref m8, .int li, .int nht, .long la, .long lb, .int lx, .long ia, .long ib, .int ix, .long oa, .long ob, .ref m9, .ref m10, .ref m11, .ref m12, .ref m13, .int hry, .int rh, .int rl, .ref m14, .ref m15, .ref m16, .ref m17, .ref m18, .ref m19, .ref m20, .int (nI nf), .ref m21])), (m21, .inl (cI, 120, .inl fd))] [(cI, .int), (cZ, .boolean), (cJ, .long)]) (va_Qi (S := Unit) (fun r _ => r = nI (nf + 1)) (fun u => bq D [(cI, .int), (cZ, .boolean), (cJ, .long)] (va_A [(m0, .inr (4, [.int th, .int msz, .int cn, .ref m1, .ref m2, .ref m3, .ref m4, .ref m5, .ref m6, .ref m7, .ref m8, .int li, .int nht, .long la, .long lb, .int lx, .long ia, .long ib, .int ix, .long oa, .long ob, .ref m9, .ref m10, .ref m11, .ref m12, .ref m13, .int hry, .int rh, .int rl, .ref m14, .ref m15, .ref m16, .ref m17, .ref m18, .ref m19, .ref m20, .int (nI nf), .ref m21])), (m21, .inl (cI, 120, .inl fd))] sz) ([(m0, .inr (4, [.int 0, .int msz, .int cn, .ref m1, .ref m2, .ref m3, .ref m4, .ref m5, .ref m6, .ref m7, .ref m8, .int li, .int nht, .long la, .long lb, .int lx, .long ia, .long ib, .int ix, .long oa, .long ob, .ref m9, .ref m10, .ref m11, .ref m12, .ref m13, .int hry, .int rh, .int rl, .ref m14, .ref m15, .ref m16, .ref m17, .ref m18, .ref m19, .ref m20, .int (nI (nf + 1)), .ref m21])), (m21, .inl (cI, 120, .inl (upd (upd (upd fd (3 * nf) x) (3 * nf + 1) y) (3 * nf + 2) z)))])) (va_A [(m0, .inr (4, [.int th, .int msz, .int cn, .ref m1, .ref m2, .ref m3, .ref m4, .ref m5, .ref m6, .ref m7, .ref m8, .int li, .int nht, .long la, .long lb, .int lx, .long ia, .long ib, .int ix, .long oa, .long ob, .ref m9, .ref m10, .ref m11, .ref m12, .ref m13, .int hry, .int rh, .int rl, .ref m14, .ref m15, .ref m16, .ref m17, .ref m18, .ref m19, .ref m20, .int (nI nf), .ref m21])), (m21, .inl (cI, 120, .inl fd))] sz)) 0 0 (va_A [(m0, .inr (4, [.int th, .int msz, .int cn, .ref m1, .ref m2, .ref m3, .ref m4, .ref m5, .ref m6, .ref m7, .ref m8, .int li, .int nht, .long la, .long lb, .int lx, .long ia, .long ib, .int ix, .long oa, .long ob, .ref m9, .ref m10, .ref m11, .ref m12, .ref m13, .int hry, .int rh, .int rl, .ref m14, .ref m15, .ref m16, .ref m17, .ref m18, .ref m19, .ref m20, .int (nI nf), .ref m21])), (m21, .inl (cI, 120, .inl fd))] sz) := by
  refine Met.ofW (cc := cX4_fan) (maxL := 4) (ret := (some .int)) (by decide) rfl ?_
  intro p e s m args below meth c s₁ B hml hv
  obtain ⟨rfl, hsz, hP, hK, hD0, hZ⟩ := hv
  have hx := B.exec
  have hb := B.bytes
  have hr := B.returns
  have hg : ∀ w ∈ gw, w.before _ s = true := fun w h => atoms_spec (ws := Cond.code yX4_fan cX4_fan 4 (some .int) :: gw) B.pre w (List.mem_cons_of_mem _ h)
  have hown : s.vm.findClass RX4 = some m.cls := findClass_of_methodNamed B.named
  have hlocks := B.notSynchronized
  subst hsz
  have hD := hD0.self (sz := s.heap.size)
  generalize hAe : va_A [(m0, .inr (4, [.int th, .int msz, .int cn, .ref m1, .ref m2, .ref m3, .ref m4, .ref m5, .ref m6, .ref m7, .ref m8, .int li, .int nht, .long la, .long lb, .int lx, .long ia, .long ib, .int ix, .long oa, .long ob, .ref m9, .ref m10, .ref m11, .ref m12, .ref m13, .int hry, .int rh, .int rl, .ref m14, .ref m15, .ref m16, .ref m17, .ref m18, .ref m19, .ref m20, .int (nI nf), .ref m21])), (m21, .inl (cI, 120, .inl fd))] s.heap.size = A at hD ⊢
  have hA : ∀ q : Nat, s.heap.size ≤ q → A q := fun q h => by rw [← hAe]; exact Or.inr h
  have hS : va_S A s.heap s.heap [] := va_S.rf
  have hP : va_P D vwCl [(m0, .inr (4, [.int th, .int msz, .int cn, .ref m1, .ref m2, .ref m3, .ref m4, .ref m5, .ref m6, .ref m7, .ref m8, .int li, .int nht, .long la, .long lb, .int lx, .long ia, .long ib, .int ix, .long oa, .long ob, .ref m9, .ref m10, .ref m11, .ref m12, .ref m13, .int hry, .int rh, .int rl, .ref m14, .ref m15, .ref m16, .ref m17, .ref m18, .ref m19, .ref m20, .int (nI nf), .ref m21])), (m21, .inl (cI, 120, .inl fd))] s.heap := hP
  have hl := lv_entry ([.ref m0, .int x, .int y, .int z]) (n := 4) (Nat.le_of_ble_eq_true rfl)
  rw [lg_entry_eq]
  generalize (lg_sl ([.ref m0, .int x, .int y, .int z]) ++ List.replicate (4 - (lg_sl ([.ref m0, .int x, .int y, .int z])).length) Slot.unset).toArray = ls at hl ⊢
  have hl : lv_has ls 4 [(0, .ref m0), (1, .int x), (2, .int y), (3, .int z)] := hl
  refine lv_aload_n hx hb dX4_fan_0 rfl (lv_at hl 0 rfl) ?_
  refine lv_iload_n hx hb dX4_fan_1 rfl (lv_at hl 1 rfl) ?_
  refine lv_iload_n hx hb dX4_fan_2 rfl (lv_at hl 2 rfl) ?_
  refine lv_iload_n hx hb dX4_fan_3 rfl (lv_at hl 3 rfl) ?_
  have hPc := hP.sub (ws' := []) [] rfl
  refine rq_call (va_runS (As := [.int x, .int y, .int z]) (rest := [.ref m0]) ⟨hx, hb, hml, hown, hg⟩ (qX4_isDirection l D cI cZ cJ x y z) (va_cwS 3 hg (gw_S kw644 kw645 kw41 kw646) rfl rfl rfl (by decide +kernel) ⟨Nat.le_of_ble_eq_true rfl, Nat.le_of_ble_eq_true rfl⟩) (pq_pre hPc hK hZ) rfl rfl hl.1 rfl (lv_room (Nat.le_of_ble_eq_true rfl)) dX4_fan_4 ⟨Nat.le_of_ble_eq_true rfl, Nat.le_of_ble_eq_true rfl⟩) ?_
  refine lv_if_ne (tgt := 14) hx hb dX4_fan_7 (by decide) (fun _ => ?_) (fun c7 => absurd c7 (bI_nz hR))
  refine lv_aload_n hx hb dX4_fan_14 rfl (lv_at hl 0 rfl) ?_
  refine va_get (D := D) (ci := 4) (v := .int (nI nf)) (C := RX4) (T := TX4) (N := 38) hx hb hg iX4 hown hK hP 0 rfl rfl 36 (by decide) (hg _ kw529) (fun _ h9 => h9) rfl dX4_fan_15 ?_
  refine lv_bipush (v := 40) hx hb dX4_fan_18 (by decide) ?_
  refine lv_icmp_ne (tgt := 27) hx hb dX4_fan_20 (by decide) (fun _ => ?_) (fun c20 => absurd c20 (nI_ne40 hn))
  refine lv_iconst (v := 0) hx hb dX4_fan_27 (by decide) ?_
  refine va_put (D := D) (ci := 4) (v := .int 0) (ty := .int) (C := RX4) (T := TX4) (N := 38) hx hb hg iX4 tyX4 tyX4_ok nmX4 hown hK hP hD hS 0 rfl rfl 0 (by decide) (hg _ kw493) (fun _ h9 => h9) rfl (by decide +kernel) rfl rfl (Nat.le_of_ble_eq_true rfl) dX4_fan_28 (fun H locs hP hD hS => ?_)
  have hP : va_P D vwCl [(m0, .inr (4, [.int 0, .int msz, .int cn, .ref m1, .ref m2, .ref m3, .ref m4, .ref m5, .ref m6, .ref m7, .ref m8, .int li, .int nht, .long la, .long lb, .int lx, .long ia, .long ib, .int ix, .long oa, .long ob, .ref m9, .ref m10, .ref m11, .ref m12, .ref m13, .int hry, .int rh, .int rl, .ref m14, .ref m15, .ref m16, .ref m17, .ref m18, .ref m19, .ref m20, .int (nI nf), .ref m21])), (m21, .inl (cI, 120, .inl fd))] H := hP
  have hD : va_D A [(m0, .inr (4, [.int 0, .int msz, .int cn, .ref m1, .ref m2, .ref m3, .ref m4, .ref m5, .ref m6, .ref m7, .ref m8, .int li, .int nht, .long la, .long lb, .int lx, .long ia, .long ib, .int ix, .long oa, .long ob, .ref m9, .ref m10, .ref m11, .ref m12, .ref m13, .int hry, .int rh, .int rl, .ref m14, .ref m15, .ref m16, .ref m17, .ref m18, .ref m19, .ref m20, .int (nI nf), .ref m21])), (m21, .inl (cI, 120, .inl fd))] := hD
  refine lv_aload_n hx hb dX4_fan_31 rfl (lv_at hl 0 rfl) ?_
  refine va_get (D := D) (ci := 4) (v := .int 0) (C := RX4) (T := TX4) (N := 38) hx hb hg iX4 hown hK hP 0 rfl rfl 0 (by decide) (hg _ kw493) (fun _ h9 => h9) rfl dX4_fan_32 ?_
  refine lv_if_le (tgt := 40) hx hb dX4_fan_35 (by decide) (fun _ => ?_) (fun c35 => absurd (by decide) c35)
  refine lv_aload_n hx hb dX4_fan_40 rfl (lv_at hl 0 rfl) ?_
  refine va_get (D := D) (ci := 4) (v := .ref m21) (C := RX4) (T := TX4) (N := 38) hx hb hg iX4 hown hK hP 0 rfl rfl 37 (by decide) (hg _ kw530) (fun _ h9 => h9) rfl dX4_fan_41 ?_
  refine lv_iconst (v := 3) hx hb dX4_fan_44 (by decide) ?_
  refine lv_aload_n hx hb dX4_fan_45 rfl (lv_at hl 0 rfl) ?_
  refine va_get (D := D) (ci := 4) (v := .int (nI nf)) (C := RX4) (T := TX4) (N := 38) hx hb hg iX4 hown hK hP 0 rfl rfl 36 (by decide) (hg _ kw529) (fun _ h9 => h9) rfl dX4_fan_46 ?_
  refine lv_imul hx hb dX4_fan_49 ?_
  refine lv_iload_n hx hb dX4_fan_50 rfl (lv_at hl 1 rfl) ?_
  refine va_iast hx hb hK hP hD hS 1 0 rfl rfl (vin3m0 (by omega) (by decide)) dX4_fan_51 (fun H locs hP hD hS => ?_)
  rw [show (3 * (nI nf)).toNatClampNeg = 3 * nf from vcl3m0 (by omega)] at hP hD
  have hP : va_P D vwCl [(m0, .inr (4, [.int 0, .int msz, .int cn, .ref m1, .ref m2, .ref m3, .ref m4, .ref m5, .ref m6, .ref m7, .ref m8, .int li, .int nht, .long la, .long lb, .int lx, .long ia, .long ib, .int ix, .long oa, .long ob, .ref m9, .ref m10, .ref m11, .ref m12, .ref m13, .int hry, .int rh, .int rl, .ref m14, .ref m15, .ref m16, .ref m17, .ref m18, .ref m19, .ref m20, .int (nI nf), .ref m21])), (m21, .inl (cI, 120, .inl (upd fd (3 * nf) x)))] H := hP
  have hD : va_D A [(m0, .inr (4, [.int 0, .int msz, .int cn, .ref m1, .ref m2, .ref m3, .ref m4, .ref m5, .ref m6, .ref m7, .ref m8, .int li, .int nht, .long la, .long lb, .int lx, .long ia, .long ib, .int ix, .long oa, .long ob, .ref m9, .ref m10, .ref m11, .ref m12, .ref m13, .int hry, .int rh, .int rl, .ref m14, .ref m15, .ref m16, .ref m17, .ref m18, .ref m19, .ref m20, .int (nI nf), .ref m21])), (m21, .inl (cI, 120, .inl (upd fd (3 * nf) x)))] := hD
  refine lv_aload_n hx hb dX4_fan_52 rfl (lv_at hl 0 rfl) ?_
  refine va_get (D := D) (ci := 4) (v := .ref m21) (C := RX4) (T := TX4) (N := 38) hx hb hg iX4 hown hK hP 0 rfl rfl 37 (by decide) (hg _ kw530) (fun _ h9 => h9) rfl dX4_fan_53 ?_
  refine lv_iconst (v := 3) hx hb dX4_fan_56 (by decide) ?_
  refine lv_aload_n hx hb dX4_fan_57 rfl (lv_at hl 0 rfl) ?_
  refine va_get (D := D) (ci := 4) (v := .int (nI nf)) (C := RX4) (T := TX4) (N := 38) hx hb hg iX4 hown hK hP 0 rfl rfl 36 (by decide) (hg _ kw529) (fun _ h9 => h9) rfl dX4_fan_58 ?_
  refine lv_imul hx hb dX4_fan_61 ?_
  refine lv_iconst (v := 1) hx hb dX4_fan_62 (by decide) ?_
  refine lv_iadd hx hb dX4_fan_63 ?_
  refine lv_iload_n hx hb dX4_fan_64 rfl (lv_at hl 2 rfl) ?_
  refine va_iast hx hb hK hP hD hS 1 0 rfl rfl (vin3m (k := 1) (by omega) (by decide)) dX4_fan_65 (fun H locs hP hD hS => ?_)
  rw [show ((3 * (nI nf)) + 1).toNatClampNeg = 3 * nf + 1 from vcl3m (k := 1) (by omega)] at hP hD
  have hP : va_P D vwCl [(m0, .inr (4, [.int 0, .int msz, .int cn, .ref m1, .ref m2, .ref m3, .ref m4, .ref m5, .ref m6, .ref m7, .ref m8, .int li, .int nht, .long la, .long lb, .int lx, .long ia, .long ib, .int ix, .long oa, .long ob, .ref m9, .ref m10, .ref m11, .ref m12, .ref m13, .int hry, .int rh, .int rl, .ref m14, .ref m15, .ref m16, .ref m17, .ref m18, .ref m19, .ref m20, .int (nI nf), .ref m21])), (m21, .inl (cI, 120, .inl (upd (upd fd (3 * nf) x) (3 * nf + 1) y)))] H := hP
  have hD : va_D A [(m0, .inr (4, [.int 0, .int msz, .int cn, .ref m1, .ref m2, .ref m3, .ref m4, .ref m5, .ref m6, .ref m7, .ref m8, .int li, .int nht, .long la, .long lb, .int lx, .long ia, .long ib, .int ix, .long oa, .long ob, .ref m9, .ref m10, .ref m11, .ref m12, .ref m13, .int hry, .int rh, .int rl, .ref m14, .ref m15, .ref m16, .ref m17, .ref m18, .ref m19, .ref m20, .int (nI nf), .ref m21])), (m21, .inl (cI, 120, .inl (upd (upd fd (3 * nf) x) (3 * nf + 1) y)))] := hD
  refine lv_aload_n hx hb dX4_fan_66 rfl (lv_at hl 0 rfl) ?_
  refine va_get (D := D) (ci := 4) (v := .ref m21) (C := RX4) (T := TX4) (N := 38) hx hb hg iX4 hown hK hP 0 rfl rfl 37 (by decide) (hg _ kw530) (fun _ h9 => h9) rfl dX4_fan_67 ?_
  refine lv_iconst (v := 3) hx hb dX4_fan_70 (by decide) ?_
  refine lv_aload_n hx hb dX4_fan_71 rfl (lv_at hl 0 rfl) ?_
  refine va_get (D := D) (ci := 4) (v := .int (nI nf)) (C := RX4) (T := TX4) (N := 38) hx hb hg iX4 hown hK hP 0 rfl rfl 36 (by decide) (hg _ kw529) (fun _ h9 => h9) rfl dX4_fan_72 ?_
  refine lv_imul hx hb dX4_fan_75 ?_
  refine lv_iconst (v := 2) hx hb dX4_fan_76 (by decide) ?_
  refine lv_iadd hx hb dX4_fan_77 ?_
  refine lv_iload_n hx hb dX4_fan_78 rfl (lv_at hl 3 rfl) ?_
  refine va_iast hx hb hK hP hD hS 1 0 rfl rfl (vin3m (k := 2) (by omega) (by decide)) dX4_fan_79 (fun H locs hP hD hS => ?_)
  rw [show ((3 * (nI nf)) + 2).toNatClampNeg = 3 * nf + 2 from vcl3m (k := 2) (by omega)] at hP hD
  have hP : va_P D vwCl [(m0, .inr (4, [.int 0, .int msz, .int cn, .ref m1, .ref m2, .ref m3, .ref m4, .ref m5, .ref m6, .ref m7, .ref m8, .int li, .int nht, .long la, .long lb, .int lx, .long ia, .long ib, .int ix, .long oa, .long ob, .ref m9, .ref m10, .ref m11, .ref m12, .ref m13, .int hry, .int rh, .int rl, .ref m14, .ref m15, .ref m16, .ref m17, .ref m18, .ref m19, .ref m20, .int (nI nf), .ref m21])), (m21, .inl (cI, 120, .inl (upd (upd (upd fd (3 * nf) x) (3 * nf + 1) y) (3 * nf + 2) z)))] H := hP
  have hD : va_D A [(m0, .inr (4, [.int 0, .int msz, .int cn, .ref m1, .ref m2, .ref m3, .ref m4, .ref m5, .ref m6, .ref m7, .ref m8, .int li, .int nht, .long la, .long lb, .int lx, .long ia, .long ib, .int ix, .long oa, .long ob, .ref m9, .ref m10, .ref m11, .ref m12, .ref m13, .int hry, .int rh, .int rl, .ref m14, .ref m15, .ref m16, .ref m17, .ref m18, .ref m19, .ref m20, .int (nI nf), .ref m21])), (m21, .inl (cI, 120, .inl (upd (upd (upd fd (3 * nf) x) (3 * nf + 1) y) (3 * nf + 2) z)))] := hD
  refine lv_aload_n hx hb dX4_fan_80 rfl (lv_at hl 0 rfl) ?_
  refine lv_dup hx hb dX4_fan_81 rfl ?_
  refine va_get (D := D) (ci := 4) (v := .int (nI nf)) (C := RX4) (T := TX4) (N := 38) hx hb hg iX4 hown hK hP 0 rfl rfl 36 (by decide) (hg _ kw529) (fun _ h9 => h9) rfl dX4_fan_82 ?_
  refine lv_iconst (v := 1) hx hb dX4_fan_85 (by decide) ?_
  refine lv_iadd hx hb dX4_fan_86 ?_
  refine tp_i (y := nI (nf + 1)) (nI_1 nf) ?_
  refine va_put (D := D) (ci := 4) (v := .int (nI (nf + 1))) (ty := .int) (C := RX4) (T := TX4) (N := 38) hx hb hg iX4 tyX4 tyX4_ok nmX4 hown hK hP hD hS 0 rfl rfl 36 (by decide) (hg _ kw529) (fun _ h9 => h9) rfl (by decide +kernel) rfl rfl (Nat.le_of_ble_eq_true rfl) dX4_fan_87 (fun H locs hP hD hS => ?_)
  have hP : va_P D vwCl [(m0, .inr (4, [.int 0, .int msz, .int cn, .ref m1, .ref m2, .ref m3, .ref m4, .ref m5, .ref m6, .ref m7, .ref m8, .int li, .int nht, .long la, .long lb, .int lx, .long ia, .long ib, .int ix, .long oa, .long ob, .ref m9, .ref m10, .ref m11, .ref m12, .ref m13, .int hry, .int rh, .int rl, .ref m14, .ref m15, .ref m16, .ref m17, .ref m18, .ref m19, .ref m20, .int (nI (nf + 1)), .ref m21])), (m21, .inl (cI, 120, .inl (upd (upd (upd fd (3 * nf) x) (3 * nf + 1) y) (3 * nf + 2) z)))] H := hP
  have hD : va_D A [(m0, .inr (4, [.int 0, .int msz, .int cn, .ref m1, .ref m2, .ref m3, .ref m4, .ref m5, .ref m6, .ref m7, .ref m8, .int li, .int nht, .long la, .long lb, .int lx, .long ia, .long ib, .int ix, .long oa, .long ob, .ref m9, .ref m10, .ref m11, .ref m12, .ref m13, .int hry, .int rh, .int rl, .ref m14, .ref m15, .ref m16, .ref m17, .ref m18, .ref m19, .ref m20, .int (nI (nf + 1)), .ref m21])), (m21, .inl (cI, 120, .inl (upd (upd (upd fd (3 * nf) x) (3 * nf + 1) y) (3 * nf + 2) z)))] := hD
  refine lv_aload_n hx hb dX4_fan_90 rfl (lv_at hl 0 rfl) ?_
  refine va_get (D := D) (ci := 4) (v := .int (nI (nf + 1))) (C := RX4) (T := TX4) (N := 38) hx hb hg iX4 hown hK hP 0 rfl rfl 36 (by decide) (hg _ kw529) (fun _ h9 => h9) rfl dX4_fan_91 ?_
  exact W.iret (v := nI (nf + 1)) hx hb hr (fun t ht hW => ⟨⟨nI (nf + 1), (), rfl, rfl, bq_end hP hK hD ht hW⟩, hS.F ht⟩) hS.2.2 dX4_fan_94

set_option maxHeartbeats 4000000 in
set_option maxRecDepth 100000 in
theorem qX4_fan_no1 (l : Launch) (D : va_G) (cI cZ cJ : ClassId) (m0 m1 m2 m3 m4 m5 m6 m7 m8 m9 m10 m11 m12 m13 m14 m15 m16 m17 m18 m19 m20 m21 : Nat) (th msz cn li nht lx ix hry rh rl fc : Int32) (la lb ia ib oa ob : Int64) (x y z : Int32) (hR : ¬ dirB x y z = true) (sz : Nat) : Met l yX4_fan (Cond.code yX4_fan cX4_fan 4 (some .int) :: gw) ({ frames := 2, cells := 0, slots := 0, locals := 44 }) (wq D [.ref m0, .int x, .int y, .int z] sz [(m0, .inr (4, [.int th, .int msz, .int cn, .ref m1, .ref m2, .ref m3, .ref m4, .ref m5, .ref m6, .ref m7, .ref m8, .int li, .int nht, .long la, .long lb, .int lx, .long ia, .long ib, .int ix, .long oa, .long ob, .ref m9, .ref m10, .ref m11, .ref m12, .ref m13, .int hry, .int rh, .int rl, .ref m14, .ref m15, .ref m16, .ref m17, .ref m18, .ref m19, .ref m20, .int fc, .ref m21]))] [(cI, .int), (cZ, .boolean), (cJ, .long)]) (va_Qi (S := Unit) (fun _ _ => True) (fun u => bq D [(cI, .int), (cZ, .boolean), (cJ, .long)] (va_A [(m0, .inr (4, [.int th, .int msz, .int cn, .ref m1, .ref m2, .ref m3, .ref m4, .ref m5, .ref m6, .ref m7, .ref m8, .int li, .int nht, .long la, .long lb, .int lx, .long ia, .long ib, .int ix, .long oa, .long ob, .ref m9, .ref m10, .ref m11, .ref m12, .ref m13, .int hry, .int rh, .int rl, .ref m14, .ref m15, .ref m16, .ref m17, .ref m18, .ref m19, .ref m20, .int fc, .ref m21]))] sz) ([(m0, .inr (4, [.int 1, .int msz, .int cn, .ref m1, .ref m2, .ref m3, .ref m4, .ref m5, .ref m6, .ref m7, .ref m8, .int li, .int nht, .long la, .long lb, .int lx, .long ia, .long ib, .int ix, .long oa, .long ob, .ref m9, .ref m10, .ref m11, .ref m12, .ref m13, .int hry, .int rh, .int rl, .ref m14, .ref m15, .ref m16, .ref m17, .ref m18, .ref m19, .ref m20, .int fc, .ref m21]))])) (va_A [(m0, .inr (4, [.int th, .int msz, .int cn, .ref m1, .ref m2, .ref m3, .ref m4, .ref m5, .ref m6, .ref m7, .ref m8, .int li, .int nht, .long la, .long lb, .int lx, .long ia, .long ib, .int ix, .long oa, .long ob, .ref m9, .ref m10, .ref m11, .ref m12, .ref m13, .int hry, .int rh, .int rl, .ref m14, .ref m15, .ref m16, .ref m17, .ref m18, .ref m19, .ref m20, .int fc, .ref m21]))] sz)) 0 0 (va_A [(m0, .inr (4, [.int th, .int msz, .int cn, .ref m1, .ref m2, .ref m3, .ref m4, .ref m5, .ref m6, .ref m7, .ref m8, .int li, .int nht, .long la, .long lb, .int lx, .long ia, .long ib, .int ix, .long oa, .long ob, .ref m9, .ref m10, .ref m11, .ref m12, .ref m13, .int hry, .int rh, .int rl, .ref m14, .ref m15, .ref m16, .ref m17, .ref m18, .ref m19, .ref m20, .int fc, .ref m21]))] sz) := by
  refine Met.ofW (cc := cX4_fan) (maxL := 4) (ret := (some .int)) (by decide) rfl ?_
  intro p e s m args below meth c s₁ B hml hv
  obtain ⟨rfl, hsz, hP, hK, hD0, hZ⟩ := hv
  have hx := B.exec
  have hb := B.bytes
  have hr := B.returns
  have hg : ∀ w ∈ gw, w.before _ s = true := fun w h => atoms_spec (ws := Cond.code yX4_fan cX4_fan 4 (some .int) :: gw) B.pre w (List.mem_cons_of_mem _ h)
  have hown : s.vm.findClass RX4 = some m.cls := findClass_of_methodNamed B.named
  have hlocks := B.notSynchronized
  subst hsz
  have hD := hD0.self (sz := s.heap.size)
  generalize hAe : va_A [(m0, .inr (4, [.int th, .int msz, .int cn, .ref m1, .ref m2, .ref m3, .ref m4, .ref m5, .ref m6, .ref m7, .ref m8, .int li, .int nht, .long la, .long lb, .int lx, .long ia, .long ib, .int ix, .long oa, .long ob, .ref m9, .ref m10, .ref m11, .ref m12, .ref m13, .int hry, .int rh, .int rl, .ref m14, .ref m15, .ref m16, .ref m17, .ref m18, .ref m19, .ref m20, .int fc, .ref m21]))] s.heap.size = A at hD ⊢
  have hA : ∀ q : Nat, s.heap.size ≤ q → A q := fun q h => by rw [← hAe]; exact Or.inr h
  have hS : va_S A s.heap s.heap [] := va_S.rf
  have hP : va_P D vwCl [(m0, .inr (4, [.int th, .int msz, .int cn, .ref m1, .ref m2, .ref m3, .ref m4, .ref m5, .ref m6, .ref m7, .ref m8, .int li, .int nht, .long la, .long lb, .int lx, .long ia, .long ib, .int ix, .long oa, .long ob, .ref m9, .ref m10, .ref m11, .ref m12, .ref m13, .int hry, .int rh, .int rl, .ref m14, .ref m15, .ref m16, .ref m17, .ref m18, .ref m19, .ref m20, .int fc, .ref m21]))] s.heap := hP
  have hl := lv_entry ([.ref m0, .int x, .int y, .int z]) (n := 4) (Nat.le_of_ble_eq_true rfl)
  rw [lg_entry_eq]
  generalize (lg_sl ([.ref m0, .int x, .int y, .int z]) ++ List.replicate (4 - (lg_sl ([.ref m0, .int x, .int y, .int z])).length) Slot.unset).toArray = ls at hl ⊢
  have hl : lv_has ls 4 [(0, .ref m0), (1, .int x), (2, .int y), (3, .int z)] := hl
  refine lv_aload_n hx hb dX4_fan_0 rfl (lv_at hl 0 rfl) ?_
  refine lv_iload_n hx hb dX4_fan_1 rfl (lv_at hl 1 rfl) ?_
  refine lv_iload_n hx hb dX4_fan_2 rfl (lv_at hl 2 rfl) ?_
  refine lv_iload_n hx hb dX4_fan_3 rfl (lv_at hl 3 rfl) ?_
  have hPc := hP.sub (ws' := []) [] rfl
  refine rq_call (va_runS (As := [.int x, .int y, .int z]) (rest := [.ref m0]) ⟨hx, hb, hml, hown, hg⟩ (qX4_isDirection l D cI cZ cJ x y z) (va_cwS 3 hg (gw_S kw644 kw645 kw41 kw646) rfl rfl rfl (by decide +kernel) ⟨Nat.le_of_ble_eq_true rfl, Nat.le_of_ble_eq_true rfl⟩) (pq_pre hPc hK hZ) rfl rfl hl.1 rfl (lv_room (Nat.le_of_ble_eq_true rfl)) dX4_fan_4 ⟨Nat.le_of_ble_eq_true rfl, Nat.le_of_ble_eq_true rfl⟩) ?_
  refine lv_if_ne (tgt := 14) hx hb dX4_fan_7 (by decide) (fun c7 => absurd (by rw [Bool.eq_false_iff.mpr hR]; rfl) c7) (fun _ => ?_)
  refine lv_iconst (v := 1) hx hb dX4_fan_10 (by decide) ?_
  refine lv_goto (tgt := 28) hx hb dX4_fan_11 (by decide) ?_
  refine va_put (D := D) (ci := 4) (v := .int 1) (ty := .int) (C := RX4) (T := TX4) (N := 38) hx hb hg iX4 tyX4 tyX4_ok nmX4 hown hK hP hD hS 0 rfl rfl 0 (by decide) (hg _ kw493) (fun _ h9 => h9) rfl (by decide +kernel) rfl rfl (Nat.le_of_ble_eq_true rfl) dX4_fan_28 (fun H locs hP hD hS => ?_)
  have hP : va_P D vwCl [(m0, .inr (4, [.int 1, .int msz, .int cn, .ref m1, .ref m2, .ref m3, .ref m4, .ref m5, .ref m6, .ref m7, .ref m8, .int li, .int nht, .long la, .long lb, .int lx, .long ia, .long ib, .int ix, .long oa, .long ob, .ref m9, .ref m10, .ref m11, .ref m12, .ref m13, .int hry, .int rh, .int rl, .ref m14, .ref m15, .ref m16, .ref m17, .ref m18, .ref m19, .ref m20, .int fc, .ref m21]))] H := hP
  have hD : va_D A [(m0, .inr (4, [.int 1, .int msz, .int cn, .ref m1, .ref m2, .ref m3, .ref m4, .ref m5, .ref m6, .ref m7, .ref m8, .int li, .int nht, .long la, .long lb, .int lx, .long ia, .long ib, .int ix, .long oa, .long ob, .ref m9, .ref m10, .ref m11, .ref m12, .ref m13, .int hry, .int rh, .int rl, .ref m14, .ref m15, .ref m16, .ref m17, .ref m18, .ref m19, .ref m20, .int fc, .ref m21]))] := hD
  refine lv_aload_n hx hb dX4_fan_31 rfl (lv_at hl 0 rfl) ?_
  refine va_get (D := D) (ci := 4) (v := .int 1) (C := RX4) (T := TX4) (N := 38) hx hb hg iX4 hown hK hP 0 rfl rfl 0 (by decide) (hg _ kw493) (fun _ h9 => h9) rfl dX4_fan_32 ?_
  refine lv_if_le (tgt := 40) hx hb dX4_fan_35 (by decide) (fun c35 => absurd c35 (by decide)) (fun _ => ?_)
  refine lv_iconst (v := 0) hx hb dX4_fan_38 (by decide) ?_
  exact W.iret (v := 0) hx hb hr (fun t ht hW => ⟨⟨0, (), rfl, trivial, bq_end hP hK hD ht hW⟩, hS.F ht⟩) hS.2.2 dX4_fan_39

set_option maxHeartbeats 4000000 in
set_option maxRecDepth 100000 in
theorem qX4_fan_no2 (l : Launch) (D : va_G) (cI cZ cJ : ClassId) (m0 m1 m2 m3 m4 m5 m6 m7 m8 m9 m10 m11 m12 m13 m14 m15 m16 m17 m18 m19 m20 m21 : Nat) (th msz cn li nht lx ix hry rh rl : Int32) (la lb ia ib oa ob : Int64) (x y z : Int32) (hR : dirB x y z = true) (sz : Nat) : Met l yX4_fan (Cond.code yX4_fan cX4_fan 4 (some .int) :: gw) ({ frames := 2, cells := 0, slots := 0, locals := 44 }) (wq D [.ref m0, .int x, .int y, .int z] sz [(m0, .inr (4, [.int th, .int msz, .int cn, .ref m1, .ref m2, .ref m3, .ref m4, .ref m5, .ref m6, .ref m7, .ref m8, .int li, .int nht, .long la, .long lb, .int lx, .long ia, .long ib, .int ix, .long oa, .long ob, .ref m9, .ref m10, .ref m11, .ref m12, .ref m13, .int hry, .int rh, .int rl, .ref m14, .ref m15, .ref m16, .ref m17, .ref m18, .ref m19, .ref m20, .int (nI 40), .ref m21]))] [(cI, .int), (cZ, .boolean), (cJ, .long)]) (va_Qi (S := Unit) (fun _ _ => True) (fun u => bq D [(cI, .int), (cZ, .boolean), (cJ, .long)] (va_A [(m0, .inr (4, [.int th, .int msz, .int cn, .ref m1, .ref m2, .ref m3, .ref m4, .ref m5, .ref m6, .ref m7, .ref m8, .int li, .int nht, .long la, .long lb, .int lx, .long ia, .long ib, .int ix, .long oa, .long ob, .ref m9, .ref m10, .ref m11, .ref m12, .ref m13, .int hry, .int rh, .int rl, .ref m14, .ref m15, .ref m16, .ref m17, .ref m18, .ref m19, .ref m20, .int (nI 40), .ref m21]))] sz) ([(m0, .inr (4, [.int 2, .int msz, .int cn, .ref m1, .ref m2, .ref m3, .ref m4, .ref m5, .ref m6, .ref m7, .ref m8, .int li, .int nht, .long la, .long lb, .int lx, .long ia, .long ib, .int ix, .long oa, .long ob, .ref m9, .ref m10, .ref m11, .ref m12, .ref m13, .int hry, .int rh, .int rl, .ref m14, .ref m15, .ref m16, .ref m17, .ref m18, .ref m19, .ref m20, .int (nI 40), .ref m21]))])) (va_A [(m0, .inr (4, [.int th, .int msz, .int cn, .ref m1, .ref m2, .ref m3, .ref m4, .ref m5, .ref m6, .ref m7, .ref m8, .int li, .int nht, .long la, .long lb, .int lx, .long ia, .long ib, .int ix, .long oa, .long ob, .ref m9, .ref m10, .ref m11, .ref m12, .ref m13, .int hry, .int rh, .int rl, .ref m14, .ref m15, .ref m16, .ref m17, .ref m18, .ref m19, .ref m20, .int (nI 40), .ref m21]))] sz)) 0 0 (va_A [(m0, .inr (4, [.int th, .int msz, .int cn, .ref m1, .ref m2, .ref m3, .ref m4, .ref m5, .ref m6, .ref m7, .ref m8, .int li, .int nht, .long la, .long lb, .int lx, .long ia, .long ib, .int ix, .long oa, .long ob, .ref m9, .ref m10, .ref m11, .ref m12, .ref m13, .int hry, .int rh, .int rl, .ref m14, .ref m15, .ref m16, .ref m17, .ref m18, .ref m19, .ref m20, .int (nI 40), .ref m21]))] sz) := by
  refine Met.ofW (cc := cX4_fan) (maxL := 4) (ret := (some .int)) (by decide) rfl ?_
  intro p e s m args below meth c s₁ B hml hv
  obtain ⟨rfl, hsz, hP, hK, hD0, hZ⟩ := hv
  have hx := B.exec
  have hb := B.bytes
  have hr := B.returns
  have hg : ∀ w ∈ gw, w.before _ s = true := fun w h => atoms_spec (ws := Cond.code yX4_fan cX4_fan 4 (some .int) :: gw) B.pre w (List.mem_cons_of_mem _ h)
  have hown : s.vm.findClass RX4 = some m.cls := findClass_of_methodNamed B.named
  have hlocks := B.notSynchronized
  subst hsz
  have hD := hD0.self (sz := s.heap.size)
  generalize hAe : va_A [(m0, .inr (4, [.int th, .int msz, .int cn, .ref m1, .ref m2, .ref m3, .ref m4, .ref m5, .ref m6, .ref m7, .ref m8, .int li, .int nht, .long la, .long lb, .int lx, .long ia, .long ib, .int ix, .long oa, .long ob, .ref m9, .ref m10, .ref m11, .ref m12, .ref m13, .int hry, .int rh, .int rl, .ref m14, .ref m15, .ref m16, .ref m17, .ref m18, .ref m19, .ref m20, .int (nI 40), .ref m21]))] s.heap.size = A at hD ⊢
  have hA : ∀ q : Nat, s.heap.size ≤ q → A q := fun q h => by rw [← hAe]; exact Or.inr h
  have hS : va_S A s.heap s.heap [] := va_S.rf
  have hP : va_P D vwCl [(m0, .inr (4, [.int th, .int msz, .int cn, .ref m1, .ref m2, .ref m3, .ref m4, .ref m5, .ref m6, .ref m7, .ref m8, .int li, .int nht, .long la, .long lb, .int lx, .long ia, .long ib, .int ix, .long oa, .long ob, .ref m9, .ref m10, .ref m11, .ref m12, .ref m13, .int hry, .int rh, .int rl, .ref m14, .ref m15, .ref m16, .ref m17, .ref m18, .ref m19, .ref m20, .int (nI 40), .ref m21]))] s.heap := hP
  have hl := lv_entry ([.ref m0, .int x, .int y, .int z]) (n := 4) (Nat.le_of_ble_eq_true rfl)
  rw [lg_entry_eq]
  generalize (lg_sl ([.ref m0, .int x, .int y, .int z]) ++ List.replicate (4 - (lg_sl ([.ref m0, .int x, .int y, .int z])).length) Slot.unset).toArray = ls at hl ⊢
  have hl : lv_has ls 4 [(0, .ref m0), (1, .int x), (2, .int y), (3, .int z)] := hl
  refine lv_aload_n hx hb dX4_fan_0 rfl (lv_at hl 0 rfl) ?_
  refine lv_iload_n hx hb dX4_fan_1 rfl (lv_at hl 1 rfl) ?_
  refine lv_iload_n hx hb dX4_fan_2 rfl (lv_at hl 2 rfl) ?_
  refine lv_iload_n hx hb dX4_fan_3 rfl (lv_at hl 3 rfl) ?_
  have hPc := hP.sub (ws' := []) [] rfl
  refine rq_call (va_runS (As := [.int x, .int y, .int z]) (rest := [.ref m0]) ⟨hx, hb, hml, hown, hg⟩ (qX4_isDirection l D cI cZ cJ x y z) (va_cwS 3 hg (gw_S kw644 kw645 kw41 kw646) rfl rfl rfl (by decide +kernel) ⟨Nat.le_of_ble_eq_true rfl, Nat.le_of_ble_eq_true rfl⟩) (pq_pre hPc hK hZ) rfl rfl hl.1 rfl (lv_room (Nat.le_of_ble_eq_true rfl)) dX4_fan_4 ⟨Nat.le_of_ble_eq_true rfl, Nat.le_of_ble_eq_true rfl⟩) ?_
  refine lv_if_ne (tgt := 14) hx hb dX4_fan_7 (by decide) (fun _ => ?_) (fun c7 => absurd c7 (bI_nz hR))
  refine lv_aload_n hx hb dX4_fan_14 rfl (lv_at hl 0 rfl) ?_
  refine va_get (D := D) (ci := 4) (v := .int (nI 40)) (C := RX4) (T := TX4) (N := 38) hx hb hg iX4 hown hK hP 0 rfl rfl 36 (by decide) (hg _ kw529) (fun _ h9 => h9) rfl dX4_fan_15 ?_
  refine lv_bipush (v := 40) hx hb dX4_fan_18 (by decide) ?_
  refine lv_icmp_ne (tgt := 27) hx hb dX4_fan_20 (by decide) (fun c20 => absurd (rfl) c20) (fun _ => ?_)
  refine lv_iconst (v := 2) hx hb dX4_fan_23 (by decide) ?_
  refine lv_goto (tgt := 28) hx hb dX4_fan_24 (by decide) ?_
  refine va_put (D := D) (ci := 4) (v := .int 2) (ty := .int) (C := RX4) (T := TX4) (N := 38) hx hb hg iX4 tyX4 tyX4_ok nmX4 hown hK hP hD hS 0 rfl rfl 0 (by decide) (hg _ kw493) (fun _ h9 => h9) rfl (by decide +kernel) rfl rfl (Nat.le_of_ble_eq_true rfl) dX4_fan_28 (fun H locs hP hD hS => ?_)
  have hP : va_P D vwCl [(m0, .inr (4, [.int 2, .int msz, .int cn, .ref m1, .ref m2, .ref m3, .ref m4, .ref m5, .ref m6, .ref m7, .ref m8, .int li, .int nht, .long la, .long lb, .int lx, .long ia, .long ib, .int ix, .long oa, .long ob, .ref m9, .ref m10, .ref m11, .ref m12, .ref m13, .int hry, .int rh, .int rl, .ref m14, .ref m15, .ref m16, .ref m17, .ref m18, .ref m19, .ref m20, .int (nI 40), .ref m21]))] H := hP
  have hD : va_D A [(m0, .inr (4, [.int 2, .int msz, .int cn, .ref m1, .ref m2, .ref m3, .ref m4, .ref m5, .ref m6, .ref m7, .ref m8, .int li, .int nht, .long la, .long lb, .int lx, .long ia, .long ib, .int ix, .long oa, .long ob, .ref m9, .ref m10, .ref m11, .ref m12, .ref m13, .int hry, .int rh, .int rl, .ref m14, .ref m15, .ref m16, .ref m17, .ref m18, .ref m19, .ref m20, .int (nI 40), .ref m21]))] := hD
  refine lv_aload_n hx hb dX4_fan_31 rfl (lv_at hl 0 rfl) ?_
  refine va_get (D := D) (ci := 4) (v := .int 2) (C := RX4) (T := TX4) (N := 38) hx hb hg iX4 hown hK hP 0 rfl rfl 0 (by decide) (hg _ kw493) (fun _ h9 => h9) rfl dX4_fan_32 ?_
  refine lv_if_le (tgt := 40) hx hb dX4_fan_35 (by decide) (fun c35 => absurd c35 (by decide)) (fun _ => ?_)
  refine lv_iconst (v := 0) hx hb dX4_fan_38 (by decide) ?_
  exact W.iret (v := 0) hx hb hr (fun t ht hW => ⟨⟨0, (), rfl, trivial, bq_end hP hK hD ht hW⟩, hS.F ht⟩) hS.2.2 dX4_fan_39

set_option maxHeartbeats 4000000 in
set_option maxRecDepth 100000 in
/-- noFan -/
theorem qX4_noFan (l : Launch) (D : va_G) (cI cZ cJ : ClassId) (m0 m1 m2 m3 m4 m5 m6 m7 m8 m9 m10 m11 m12 m13 m14 m15 m16 m17 m18 m19 m20 m21 : Nat) (th msz cn li nht lx ix hry rh rl fc : Int32) (la lb ia ib oa ob : Int64) (sz : Nat) : Met l yX4_noFan (Cond.code yX4_noFan cX4_noFan 2 (some .int) :: gw) ({ frames := 0, cells := 0, slots := 0, locals := 0 }) (wq D [.ref m0] sz [(m0, .inr (4, [.int th, .int msz, .int cn, .ref m1, .ref m2, .ref m3, .ref m4, .ref m5, .ref m6, .ref m7, .ref m8, .int li, .int nht, .long la, .long lb, .int lx, .long ia, .long ib, .int ix, .long oa, .long ob, .ref m9, .ref m10, .ref m11, .ref m12, .ref m13, .int hry, .int rh, .int rl, .ref m14, .ref m15, .ref m16, .ref m17, .ref m18, .ref m19, .ref m20, .int fc, .ref m21]))] [(cI, .int), (cZ, .boolean), (cJ, .long)]) (va_Qi (S := Unit) (fun r _ => r = fc) (fun u => bq D [(cI, .int), (cZ, .boolean), (cJ, .long)] (va_A [(m0, .inr (4, [.int th, .int msz, .int cn, .ref m1, .ref m2, .ref m3, .ref m4, .ref m5, .ref m6, .ref m7, .ref m8, .int li, .int nht, .long la, .long lb, .int lx, .long ia, .long ib, .int ix, .long oa, .long ob, .ref m9, .ref m10, .ref m11, .ref m12, .ref m13, .int hry, .int rh, .int rl, .ref m14, .ref m15, .ref m16, .ref m17, .ref m18, .ref m19, .ref m20, .int fc, .ref m21]))] sz) ([(m0, .inr (4, [.int 0, .int msz, .int cn, .ref m1, .ref m2, .ref m3, .ref m4, .ref m5, .ref m6, .ref m7, .ref m8, .int li, .int nht, .long la, .long lb, .int lx, .long ia, .long ib, .int ix, .long oa, .long ob, .ref m9, .ref m10, .ref m11, .ref m12, .ref m13, .int hry, .int rh, .int rl, .ref m14, .ref m15, .ref m16, .ref m17, .ref m18, .ref m19, .ref m20, .int 0, .ref m21]))])) (va_A [(m0, .inr (4, [.int th, .int msz, .int cn, .ref m1, .ref m2, .ref m3, .ref m4, .ref m5, .ref m6, .ref m7, .ref m8, .int li, .int nht, .long la, .long lb, .int lx, .long ia, .long ib, .int ix, .long oa, .long ob, .ref m9, .ref m10, .ref m11, .ref m12, .ref m13, .int hry, .int rh, .int rl, .ref m14, .ref m15, .ref m16, .ref m17, .ref m18, .ref m19, .ref m20, .int fc, .ref m21]))] sz)) 0 0 (va_A [(m0, .inr (4, [.int th, .int msz, .int cn, .ref m1, .ref m2, .ref m3, .ref m4, .ref m5, .ref m6, .ref m7, .ref m8, .int li, .int nht, .long la, .long lb, .int lx, .long ia, .long ib, .int ix, .long oa, .long ob, .ref m9, .ref m10, .ref m11, .ref m12, .ref m13, .int hry, .int rh, .int rl, .ref m14, .ref m15, .ref m16, .ref m17, .ref m18, .ref m19, .ref m20, .int fc, .ref m21]))] sz) := by
  refine Met.ofW (cc := cX4_noFan) (maxL := 2) (ret := (some .int)) (by decide) rfl ?_
  intro p e s m args below meth c s₁ B hml hv
  obtain ⟨rfl, hsz, hP, hK, hD0, hZ⟩ := hv
  have hx := B.exec
  have hb := B.bytes
  have hr := B.returns
  have hg : ∀ w ∈ gw, w.before _ s = true := fun w h => atoms_spec (ws := Cond.code yX4_noFan cX4_noFan 2 (some .int) :: gw) B.pre w (List.mem_cons_of_mem _ h)
  have hown : s.vm.findClass RX4 = some m.cls := findClass_of_methodNamed B.named
  have hlocks := B.notSynchronized
  subst hsz
  have hD := hD0.self (sz := s.heap.size)
  generalize hAe : va_A [(m0, .inr (4, [.int th, .int msz, .int cn, .ref m1, .ref m2, .ref m3, .ref m4, .ref m5, .ref m6, .ref m7, .ref m8, .int li, .int nht, .long la, .long lb, .int lx, .long ia, .long ib, .int ix, .long oa, .long ob, .ref m9, .ref m10, .ref m11, .ref m12, .ref m13, .int hry, .int rh, .int rl, .ref m14, .ref m15, .ref m16, .ref m17, .ref m18, .ref m19, .ref m20, .int fc, .ref m21]))] s.heap.size = A at hD ⊢
  have hA : ∀ q : Nat, s.heap.size ≤ q → A q := fun q h => by rw [← hAe]; exact Or.inr h
  have hS : va_S A s.heap s.heap [] := va_S.rf
  have hP : va_P D vwCl [(m0, .inr (4, [.int th, .int msz, .int cn, .ref m1, .ref m2, .ref m3, .ref m4, .ref m5, .ref m6, .ref m7, .ref m8, .int li, .int nht, .long la, .long lb, .int lx, .long ia, .long ib, .int ix, .long oa, .long ob, .ref m9, .ref m10, .ref m11, .ref m12, .ref m13, .int hry, .int rh, .int rl, .ref m14, .ref m15, .ref m16, .ref m17, .ref m18, .ref m19, .ref m20, .int fc, .ref m21]))] s.heap := hP
  have hl := lv_entry ([.ref m0]) (n := 2) (Nat.le_of_ble_eq_true rfl)
  rw [lg_entry_eq]
  generalize (lg_sl ([.ref m0]) ++ List.replicate (2 - (lg_sl ([.ref m0])).length) Slot.unset).toArray = ls at hl ⊢
  have hl : lv_has ls 2 [(0, .ref m0)] := hl
  refine lv_aload_n hx hb dX4_noFan_0 rfl (lv_at hl 0 rfl) ?_
  refine lv_iconst (v := 0) hx hb dX4_noFan_1 (by decide) ?_
  refine va_put (D := D) (ci := 4) (v := .int 0) (ty := .int) (C := RX4) (T := TX4) (N := 38) hx hb hg iX4 tyX4 tyX4_ok nmX4 hown hK hP hD hS 0 rfl rfl 0 (by decide) (hg _ kw493) (fun _ h9 => h9) rfl (by decide +kernel) rfl rfl (Nat.le_of_ble_eq_true rfl) dX4_noFan_2 (fun H locs hP hD hS => ?_)
  have hP : va_P D vwCl [(m0, .inr (4, [.int 0, .int msz, .int cn, .ref m1, .ref m2, .ref m3, .ref m4, .ref m5, .ref m6, .ref m7, .ref m8, .int li, .int nht, .long la, .long lb, .int lx, .long ia, .long ib, .int ix, .long oa, .long ob, .ref m9, .ref m10, .ref m11, .ref m12, .ref m13, .int hry, .int rh, .int rl, .ref m14, .ref m15, .ref m16, .ref m17, .ref m18, .ref m19, .ref m20, .int fc, .ref m21]))] H := hP
  have hD : va_D A [(m0, .inr (4, [.int 0, .int msz, .int cn, .ref m1, .ref m2, .ref m3, .ref m4, .ref m5, .ref m6, .ref m7, .ref m8, .int li, .int nht, .long la, .long lb, .int lx, .long ia, .long ib, .int ix, .long oa, .long ob, .ref m9, .ref m10, .ref m11, .ref m12, .ref m13, .int hry, .int rh, .int rl, .ref m14, .ref m15, .ref m16, .ref m17, .ref m18, .ref m19, .ref m20, .int fc, .ref m21]))] := hD
  refine lv_aload_n hx hb dX4_noFan_5 rfl (lv_at hl 0 rfl) ?_
  refine va_get (D := D) (ci := 4) (v := .int fc) (C := RX4) (T := TX4) (N := 38) hx hb hg iX4 hown hK hP 0 rfl rfl 36 (by decide) (hg _ kw529) (fun _ h9 => h9) rfl dX4_noFan_6 ?_
  refine lv_istore_n (lv' := [(1, .int fc), (0, .ref m0)]) hx hb dX4_noFan_9 rfl hl (by decide) rfl (fun ls hl => ?_)
  refine lv_aload_n hx hb dX4_noFan_10 rfl (lv_at hl 1 rfl) ?_
  refine lv_iconst (v := 0) hx hb dX4_noFan_11 (by decide) ?_
  refine va_put (D := D) (ci := 4) (v := .int 0) (ty := .int) (C := RX4) (T := TX4) (N := 38) hx hb hg iX4 tyX4 tyX4_ok nmX4 hown hK hP hD hS 0 rfl rfl 36 (by decide) (hg _ kw529) (fun _ h9 => h9) rfl (by decide +kernel) rfl rfl (Nat.le_of_ble_eq_true rfl) dX4_noFan_12 (fun H locs hP hD hS => ?_)
  have hP : va_P D vwCl [(m0, .inr (4, [.int 0, .int msz, .int cn, .ref m1, .ref m2, .ref m3, .ref m4, .ref m5, .ref m6, .ref m7, .ref m8, .int li, .int nht, .long la, .long lb, .int lx, .long ia, .long ib, .int ix, .long oa, .long ob, .ref m9, .ref m10, .ref m11, .ref m12, .ref m13, .int hry, .int rh, .int rl, .ref m14, .ref m15, .ref m16, .ref m17, .ref m18, .ref m19, .ref m20, .int 0, .ref m21]))] H := hP
  have hD : va_D A [(m0, .inr (4, [.int 0, .int msz, .int cn, .ref m1, .ref m2, .ref m3, .ref m4, .ref m5, .ref m6, .ref m7, .ref m8, .int li, .int nht, .long la, .long lb, .int lx, .long ia, .long ib, .int ix, .long oa, .long ob, .ref m9, .ref m10, .ref m11, .ref m12, .ref m13, .int hry, .int rh, .int rl, .ref m14, .ref m15, .ref m16, .ref m17, .ref m18, .ref m19, .ref m20, .int 0, .ref m21]))] := hD
  refine lv_iload_n hx hb dX4_noFan_15 rfl (lv_at hl 0 rfl) ?_
  exact W.iret (v := fc) hx hb hr (fun t ht hW => ⟨⟨fc, (), rfl, rfl, bq_end hP hK hD ht hW⟩, hS.F ht⟩) hS.2.2 dX4_noFan_16
