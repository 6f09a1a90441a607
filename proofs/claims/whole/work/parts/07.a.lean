/-! Math, and what a path only asks -/
def absI (x : Int32) : Int32 := if 0 ≤ x then x else 0 - x
def maxI (x y : Int32) : Int32 := if x < y then y else x
def minI (x y : Int32) : Int32 := if y < x then y else x

/-- Euclid's steps -/
def gcdL : Nat → Int32 → Int32 → Int32
  | 0, a, _ => a
  | n + 1, a, b => if b = 0 then a else gcdL n b (a - a / b * b)

set_option maxHeartbeats 4000000 in
set_option maxRecDepth 100000 in
/-- LightRays.commonDivisor -/
theorem qX3_commonDivisor (l : Launch) (D : va_G) (cI cZ cJ : ClassId) (x y : Int32) : Met l yX3_commonDivisor (Cond.code yX3_commonDivisor cX3_commonDivisor 6 (some .int) :: gw) ({ frames := 1, cells := 0, slots := 0, locals := 20 }) (pq D [.int x, .int y] [] [(cI, .int), (cZ, .boolean), (cJ, .long)]) (QcRead (maxI 1 (gcdL 64 (absI x) (absI y)))) 0 0 (fun _ => False) := by
  refine Met.ofW (cc := cX3_commonDivisor) (maxL := 6) (ret := (some .int)) (by decide) rfl ?_
  intro p e s m args below meth c s₁ B hml hv
  obtain ⟨rfl, hP, hK, hZ⟩ := hv
  have hx := B.exec
  have hb := B.bytes
  have hr := B.returns
  have hg : ∀ w ∈ gw, w.before _ s = true := fun w h => atoms_spec (ws := Cond.code yX3_commonDivisor cX3_commonDivisor 6 (some .int) :: gw) B.pre w (List.mem_cons_of_mem _ h)
  have hown : s.vm.findClass RX3 = some m.cls := findClass_of_methodNamed B.named
  have hlocks := B.notSynchronized
  have hP : va_P D vwCl [] s.heap := hP
  have hl := lv_entry ([.int x, .int y]) (n := 6) (Nat.le_of_ble_eq_true rfl)
  rw [lg_entry_eq]
  generalize (lg_sl ([.int x, .int y]) ++ List.replicate (6 - (lg_sl ([.int x, .int y])).length) Slot.unset).toArray = ls at hl ⊢
  have hl : lv_has ls 6 [(0, .int x), (1, .int y)] := hl
  refine lv_iload_n hx hb dX3_commonDivisor_0 rfl (lv_at hl 0 rfl) ?_
  refine va_mabs hx hb (hml.trans hl.1.symm) hown (hg _ kw413) (hg _ kw377) (hg _ kw37) (hg _ kw378) (Nat.le_of_ble_eq_true rfl) (Nat.le_of_ble_eq_true rfl) (Nat.le_of_ble_eq_true rfl) (Nat.le_of_ble_eq_true rfl) dX3_commonDivisor_1 ?_
  refine tp_i (y := absI x) (rfl) ?_
  refine lv_istore_n (lv' := [(2, .int (absI x)), (0, .int x), (1, .int y)]) hx hb dX3_commonDivisor_4 rfl hl (by decide) rfl (fun ls hl => ?_)
  refine lv_iload_n hx hb dX3_commonDivisor_5 rfl (lv_at hl 2 rfl) ?_
  refine va_mabs hx hb (hml.trans hl.1.symm) hown (hg _ kw413) (hg _ kw377) (hg _ kw37) (hg _ kw378) (Nat.le_of_ble_eq_true rfl) (Nat.le_of_ble_eq_true rfl) (Nat.le_of_ble_eq_true rfl) (Nat.le_of_ble_eq_true rfl) dX3_commonDivisor_6 ?_
  refine tp_i (y := absI y) (rfl) ?_
  refine lv_istore_n (lv' := [(3, .int (absI y)), (2, .int (absI x)), (0, .int x), (1, .int y)]) hx hb dX3_commonDivisor_9 rfl hl (by decide) rfl (fun ls hl => ?_)
  refine lv_iconst (v := 0) hx hb dX3_commonDivisor_10 (by decide) ?_
  refine lv_istore (lv' := [(4, .int 0), (3, .int (absI y)), (2, .int (absI x)), (0, .int x), (1, .int y)]) hx hb dX3_commonDivisor_11 hl (by decide) rfl (fun ls hl => ?_)
  have loop_1 : ∀ (n : Nat) (i : Nat) (a b : Int32), i + n = 64 → ∀ ls : Array Slot, lv_has ls 6 [(2, .int a), (3, .int b), (4, .int (nI i))] → W p l e (headSpec (Cond.code yX3_commonDivisor cX3_commonDivisor 6 (some .int) :: gw) ({ frames := 1, cells := 0, slots := 0, locals := 20 })).room s m ([.int x, .int y] : List Value).toArray below meth c s.heap [] 0 0 (MQ below (QcRead (maxI 1 (gcdL n a b))) ([.int x, .int y] : List Value).toArray s 0 0 (fun _ => False)) (F0 m 13 ls []) := by
    intro n
    induction n with
    | zero =>
      intro i a b hlp ls hl
      refine lv_iload hx hb dX3_commonDivisor_13 (lv_at hl 2 rfl) ?_
      refine lv_bipush (v := 64) hx hb dX3_commonDivisor_15 (by decide) ?_
      refine lv_icmp_ge (tgt := 40) hx hb dX3_commonDivisor_17 (by decide) (fun _ => ?_) (fun c17 => absurd (nI_le (a := 64) (by omega) (by omega)) c17)
      refine lv_iconst (v := 1) hx hb dX3_commonDivisor_40 (by decide) ?_
      refine lv_iload_n hx hb dX3_commonDivisor_41 rfl (lv_at hl 0 rfl) ?_
      refine va_mmax hx hb (hml.trans hl.1.symm) hown (hg _ kw60) (hg _ kw61) (hg _ kw37) (hg _ kw62) (Nat.le_of_ble_eq_true rfl) (Nat.le_of_ble_eq_true rfl) (Nat.le_of_ble_eq_true rfl) (Nat.le_of_ble_eq_true rfl) dX3_commonDivisor_42 ?_
      refine tp_i (y := maxI 1 a) (rfl) ?_
      exact W.iret (v := maxI 1 a) hx hb hr (fun t ht hW => ⟨congrArg (fun z => Outcome.returned (some (Value.int z))) (rfl), ht⟩) (fun q hq => nomatch hq) dX3_commonDivisor_45
    | succ n ih =>
      intro i a b hlp ls hl
      refine lv_iload hx hb dX3_commonDivisor_13 (lv_at hl 2 rfl) ?_
      refine lv_bipush (v := 64) hx hb dX3_commonDivisor_15 (by decide) ?_
      refine lv_icmp_ge (tgt := 40) hx hb dX3_commonDivisor_17 (by decide) (fun c17 => absurd c17 (nI_ge (b := 64) (by omega) (by omega))) (fun _ => ?_)
      refine lv_iload_n hx hb dX3_commonDivisor_20 rfl (lv_at hl 1 rfl) ?_
      refine lv_if_eq (tgt := 40) hx hb dX3_commonDivisor_21 (by decide) (fun c21 => ?_) (fun c21 => ?_)
      · refine lv_iconst (v := 1) hx hb dX3_commonDivisor_40 (by decide) ?_
        refine lv_iload_n hx hb dX3_commonDivisor_41 rfl (lv_at hl 0 rfl) ?_
        refine va_mmax hx hb (hml.trans hl.1.symm) hown (hg _ kw60) (hg _ kw61) (hg _ kw37) (hg _ kw62) (Nat.le_of_ble_eq_true rfl) (Nat.le_of_ble_eq_true rfl) (Nat.le_of_ble_eq_true rfl) (Nat.le_of_ble_eq_true rfl) dX3_commonDivisor_42 ?_
        refine tp_i (y := maxI 1 a) (rfl) ?_
        exact W.iret (v := maxI 1 a) hx hb hr (fun t ht hW => ⟨congrArg (fun z => Outcome.returned (some (Value.int z))) (by simp [gcdL, c21]), ht⟩) (fun q hq => nomatch hq) dX3_commonDivisor_45
      · refine lv_iload_n hx hb dX3_commonDivisor_24 rfl (lv_at hl 0 rfl) ?_
        refine lv_iload_n hx hb dX3_commonDivisor_25 rfl (lv_at hl 1 rfl) ?_
        refine lv_irem hx hb dX3_commonDivisor_26 (c21) ?_
        refine lv_istore (lv' := [(5, .int (a - a / b * b)), (2, .int a), (3, .int b), (4, .int (nI i))]) hx hb dX3_commonDivisor_27 hl (by decide) rfl (fun ls hl => ?_)
        refine lv_iload_n hx hb dX3_commonDivisor_29 rfl (lv_at hl 2 rfl) ?_
        refine lv_istore_n (lv' := [(2, .int b), (5, .int (a - a / b * b)), (3, .int b), (4, .int (nI i))]) hx hb dX3_commonDivisor_30 rfl hl (by decide) rfl (fun ls hl => ?_)
        refine lv_iload hx hb dX3_commonDivisor_31 (lv_at hl 1 rfl) ?_
        refine lv_istore_n (lv' := [(3, .int (a - a / b * b)), (2, .int b), (5, .int (a - a / b * b)), (4, .int (nI i))]) hx hb dX3_commonDivisor_33 rfl hl (by decide) rfl (fun ls hl => ?_)
        refine lv_iinc (v := nI (i + 1)) (lv' := [(4, .int (nI (i + 1))), (3, .int (a - a / b * b)), (2, .int b), (5, .int (a - a / b * b))]) hx hb dX3_commonDivisor_34 hl (k := 3) rfl (nI_1 _) (by decide) rfl (fun ls hl => ?_)
        refine lv_goto (tgt := 13) hx hb dX3_commonDivisor_37 (by decide) ?_
        rw [show gcdL (n + 1) a b = gcdL n b (a - a / b * b) from by simp [gcdL, c21]]
        exact ih (i + 1) b (a - a / b * b) (by omega) ls (lv_sub hl [2, 1, 0] rfl)
  exact loop_1 64 0 (absI x) (absI y) (by omega) ls (lv_sub hl [2, 1, 0] rfl)

