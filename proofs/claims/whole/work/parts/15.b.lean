/-! THE CLAIM OUT OF ONE WALK OF THE LAW'S BODY. Your part is whole_start (and what it stands on); all else here is the same for every law, but numbers. -/
def R_law : String := "LightRaysLaw"
def lw_P (b : Addr) (xs : List Int32) (args : Array Value) (s : State) : Prop := args = #[.ref b] ∧ s.IntsAt b xs ∧ xs.length ≤ 4097 ∧ (Jvm.Cond.and given_1 narrow_1).before args s = true
def lw_Q (_ : Array Value) (s : State) (o : Outcome) (t : State) : Prop := o = .returned (some (.int 1)) ∧ Framed s o t [] 1084 9808
def lw_Z (below : List Frame) (a : Array Value) (s : State) : State → Prop := fun t => ∃ o, t.status = .running ∧ Ended t below o ∧ lw_Q a s o t
/-- the law's own end, with 1 on the stack, nothing written that was there before, its room as the claim has it -/
theorem lw_ret {p : Program} {l : Launch} {e : Env} {s : State} {m : MethodId} {below : List Frame} {meth : Method} {c : Code} {b : Nat} (hx : p.tables.exec = Jvm.exec) (hb : c.code = code) (hr : meth.sig.returnType = ret) (hlocks : meth.locks = false) {pc : Nat} {H : Heap} {ls : Array Slot} (hdg : decode code pc = .ok (.ireturn, 1)) : W p l e room_1 s m #[Value.ref b] below meth c H [] 1084 9808 (lw_Z below #[Value.ref b] s) (F0 m pc ls [.int 1]) := by
  intro T hT X
  obtain ⟨fs, hret, hrun, hended, hW, hframe⟩ := X.leave (v := some (.int 1)) (hlocks := hlocks) (fun h => by rw [hr] at h; cases h)
  have hmeth' : T.vm.method? m = some meth := X.method'
  refine ⟨T.setFrames fs, ?_, .returned (some (.int 1)), hrun, hended, rfl, ⟨_, rfl⟩, hW, hframe⟩
  jvm_step X.here [X.here.top, hx, hb, hdg, hmeth', hr, ret, narrow_b1]
  (try refine ⟨rfl, ?_⟩); (try refine ⟨rfl, ?_⟩)
  first | (intro acts; rw [hret _ acts rfl rfl rfl]) | rw [hret _ _ rfl rfl rfl]
  exact Steps.refl _
/-- what holds at the law's entry: the machine, the code, the tables' words (any of lw_tbl by 'hts w (by decide +kernel)'), the script of L ints xs at the cell b, what the Statement gives of the start (any of its parts by flat_of_before) -/
def lw_At (p : Program) (s : State) (m : MethodId) (meth : Method) (c : Code) (b L : Nat) (xs : Nat → Int32) : Prop :=
  p.tables.exec = Jvm.exec ∧ c.code = code ∧ meth.sig.returnType = ret ∧ c.maxLocals = 8 ∧ s.vm.findClass R_law = some m.cls ∧ (∀ w ∈ lw_tbl, w.before #[Value.ref b] s = true) ∧ va_X b L xs s s.heap ∧ b < s.heap.size ∧ meth.locks = false ∧ (Jvm.Cond.and given_1 narrow_1).before #[Value.ref b] s = true

/-- the script's int at a place, 0 behind its end -/
def cellF (L : Nat) (xs : Nat → Int32) (k : Int32) : Int32 := if Int32.ofNat L ≤ k then 0 else xs k.toNatClampNeg
def xq (b L : Nat) (xs : Nat → Int32) (k : Int32) : Array Value → State → Prop := va_Pc [.ref b, .int k] (fun U => va_X b L xs U U.heap ∧ b < U.heap.size)
theorem xq_pre {b L : Nat} {xs : Nat → Int32} {k : Int32} {s : State} {H : Heap} (hX : va_X b L xs s H) (hb : b < H.size) : PreS s H (xq b L xs k) [.ref b, .int k] :=
  ⟨fun a U g mk q => by
    obtain ⟨q0, q1, q2⟩ := q
    exact ⟨q0, va_X.moved (u := U) (U := U.calling g mk a) (Vm.Alike.refl U.vm) q1, q2⟩, fun U hU hW => ⟨rfl, by rw [hU]; exact va_X.moved hW.alike hX, by rw [hU]; exact hb⟩⟩
set_option maxHeartbeats 4000000 in
set_option maxRecDepth 100000 in
theorem qL_cell (l : Launch) (b L : Nat) (xs : Nat → Int32) (k : Int32) (hk : 0 ≤ k) (hL : L ≤ 4097) : Met l yL_cell (Cond.code yL_cell cL_cell 2 (some .int) :: gw) ({ frames := 0, cells := 0, slots := 0, locals := 0 }) (xq b L xs k) (QcRead (cellF L xs k)) 0 0 (fun _ => False) := by
  refine Met.ofW (cc := cL_cell) (maxL := 2) (ret := (some .int)) (by decide) rfl ?_
  intro p e s m args below meth c s₁ B hml hv
  obtain ⟨rfl, hX, hbl⟩ := hv
  have hx := B.exec
  have hb := B.bytes
  have hr := B.returns
  have hbA : ¬ (fun _ : Nat => False) b := fun h => h
  have hS : va_S (fun _ : Nat => False) s.heap s.heap [] := va_S.rf
  have hl := lv_entry ([.ref b, .int k]) (n := 2) (Nat.le_of_ble_eq_true rfl)
  rw [lg_entry_eq]
  generalize (lg_sl ([.ref b, .int k]) ++ List.replicate (2 - (lg_sl ([.ref b, .int k])).length) Slot.unset).toArray = ls at hl ⊢
  have hl : lv_has ls 2 [(0, .ref b), (1, .int k)] := hl
  refine lv_iload_n hx hb dL_cell_0 rfl (lv_at hl 1 rfl) ?_
  refine lv_aload_n hx hb dL_cell_1 rfl (lv_at hl 0 rfl) ?_
  refine va_slen hx hb hX hbl hbA hS dL_cell_2 ?_
  refine lv_icmp_ge (tgt := 12) hx hb dL_cell_3 (by decide) (fun c3 => ?_) (fun c3 => ?_)
  · refine lv_iconst (v := 0) hx hb dL_cell_12 (by decide) ?_
    exact W.iret (v := 0) hx hb hr (fun t ht hW => ⟨congrArg (fun z => Outcome.returned (some (Value.int z))) (show (0 : Int32) = cellF L xs k by unfold cellF; rw [if_pos c3]), ht⟩) (fun q hq => nomatch hq) dL_cell_13
  · have hin : vp_in k L := by
      rw [vp_in_iff]
      have h1 := Int32.le_iff_toInt_le.mp hk
      have h2 : ¬ (Int32.ofNat L).toInt ≤ k.toInt := fun q => c3 (Int32.le_iff_toInt_le.mpr q)
      rw [show (Int32.ofNat L).toInt = L from nI_toInt (n := L) (by omega)] at h2
      rw [Int32.toInt_zero] at h1
      omega
    refine lv_aload_n hx hb dL_cell_6 rfl (lv_at hl 0 rfl) ?_
    refine lv_iload_n hx hb dL_cell_7 rfl (lv_at hl 1 rfl) ?_
    refine va_sld hx hb hX hbl hbA hS hin dL_cell_8 ?_
    refine lv_goto (tgt := 13) hx hb dL_cell_9 (by decide) ?_
    exact W.iret (v := xs k.toNatClampNeg) hx hb hr (fun t ht hW => ⟨congrArg (fun z => Outcome.returned (some (Value.int z))) (show xs k.toNatClampNeg = cellF L xs k by unfold cellF; rw [if_neg c3]), ht⟩) (fun q hq => nomatch hq) dL_cell_13
theorem va_X.here {A : Nat → Prop} {b L : Nat} {xs : Nat → Int32} {s : State} {H : Heap} {locs : List Loc} (hX : va_X b L xs s s.heap) (hbl : b < s.heap.size) (hbA : ¬ A b) (hS : va_S A s.heap H locs) : va_X b L xs s H ∧ b < H.size := by
  obtain ⟨scr, h1, h⟩ := hX
  exact ⟨⟨scr, by rw [hS.2.1 b hbl hbA]; exact h1, h⟩, Nat.lt_of_lt_of_le hbl hS.1⟩

theorem len_gt {i L : Nat} (hi : i ≤ 4200) (hL : L ≤ 4097) : (Int32.ofNat L - 8 < nI i) ↔ ¬ i + 8 ≤ L := by
  have e1 : (Int32.ofNat L).toInt = L := nI_toInt (n := L) (by omega)
  have e2 : (Int32.ofNat L - 8).toInt = (L : Int) - 8 := by
    rw [t_sub (by rw [e1, show (8 : Int32).toInt = 8 by decide]; omega), e1]; rfl
  rw [Int32.lt_iff_toInt_lt, e2, nI_toInt (by omega)]
  omega

set_option maxHeartbeats 4000000 in
set_option maxRecDepth 100000 in
/-- THE LOOP: as many turns as the script holds -/
theorem law_loop {p : Program} {l : Launch} {e : Env} {s : State} {m : MethodId} {below : List Frame} {meth : Method} {c : Code} {D : va_G} {cI cZ cJ : ClassId} {b L : Nat} {xs : Nat → Int32} (C0 : lw_C p l s m meth c D cI cZ cJ b L xs) (hr : meth.sig.returnType = ret) (hlocks : meth.locks = false) (o0 b0 b1 b2 b3 b4 b5 c2 c3 a0 a1 a2 a3 a4 a5 a6 a7 a8 a9 a10 a11 e0 e1 e2 e3 e4 e5 e6 e7 e8 e9 e10 e11 m0 m1 m2 m3 m4 m5 m6 m7 m8 m9 m10 m11 m12 m13 m14 m15 m16 m17 m18 m19 m20 m21 w0 : Nat) : ∀ (n i : Nat) (S : LawS) (ov : Nat → Int64) (H : Heap) (locs : List Loc) (ls : Array Slot) (cells slots : Nat), INV S → i ≤ 4190 → L ≤ i + 8 * n + 7 → cells + n ≤ 1084 → slots + 6 * n ≤ 9808 → va_P D vwCl (LW cI cZ cJ (o0, b0, b1, b2, b3, b4, b5, c2, c3, a0, a1, a2, a3, a4, a5, a6, a7, a8, a9, a10, a11, e0, e1, e2, e3, e4, e5, e6, e7, e8, e9, e10, e11, m0, m1, m2, m3, m4, m5, m6, m7, m8, m9, m10, m11, m12, m13, m14, m15, m16, m17, m18, m19, m20, m21, w0) S ov) H → va_D (fun q : Nat => s.heap.size ≤ q) (LW cI cZ cJ (o0, b0, b1, b2, b3, b4, b5, c2, c3, a0, a1, a2, a3, a4, a5, a6, a7, a8, a9, a10, a11, e0, e1, e2, e3, e4, e5, e6, e7, e8, e9, e10, e11, m0, m1, m2, m3, m4, m5, m6, m7, m8, m9, m10, m11, m12, m13, m14, m15, m16, m17, m18, m19, m20, m21, w0) S ov) → va_S (fun q : Nat => s.heap.size ≤ q) s.heap H locs → lv_has ls 8 [(0, .ref b), (1, .ref o0), (2, .ref m0), (3, .ref w0), (4, .int (nI i))] → W p l e room_1 s m #[Value.ref b] below meth c H locs cells slots (lw_Z below #[Value.ref b] s) (F0 m 33 ls []) := by
  obtain ⟨hx, hb, hml, hown, hg, hX, hbl, hL, hK, hZ, hY, hN, hl0⟩ := id C0
  have hA : ∀ q : Nat, s.heap.size ≤ q → (fun q : Nat => s.heap.size ≤ q) q := fun _ h => h
  have hB : ∀ q : Nat, q < s.heap.size → ¬ (fun q : Nat => s.heap.size ≤ q) q := fun _ h => Nat.not_le.mpr h
  have hbA := hB b hbl
  intro n
  induction n with
  | zero =>
    intro i S ov H locs ls cells slots hI hi4 hn hc hsl hP hD hS hl
    refine lv_iload hx hb dL_law_33 (lv_at hl 4 rfl) ?_
    refine lv_aload_n hx hb dL_law_35 rfl (lv_at hl 0 rfl) ?_
    refine va_slen hx hb hX hbl hbA hS dL_law_36 ?_
    refine lv_bipush (v := 8) hx hb dL_law_37 (by decide) ?_
    refine lv_isub hx hb dL_law_39 ?_
    refine lv_icmp_gt (tgt := 1100) hx hb dL_law_40 (by decide) (fun c40 => ?_) (fun c40 => ?_)
    · refine lv_iconst (v := 1) hx hb dL_law_1100 (by decide) ?_
      refine va_forget (fun q hq => hS.2.2 q hq) ?_
      refine W.widen (k := 1084) (n := 9808) (by omega) (by omega) ?_
      exact lw_ret hx hb hr hlocks dL_law_1101
    · exact absurd ((len_gt (by omega) hL).mpr (by omega)) c40
  | succ n ih =>
    intro i S ov H locs ls cells slots hI hi4 hn hc hsl hP hD hS hl
    refine lv_iload hx hb dL_law_33 (lv_at hl 4 rfl) ?_
    refine lv_aload_n hx hb dL_law_35 rfl (lv_at hl 0 rfl) ?_
    refine va_slen hx hb hX hbl hbA hS dL_law_36 ?_
    refine lv_bipush (v := 8) hx hb dL_law_37 (by decide) ?_
    refine lv_isub hx hb dL_law_39 ?_
    refine lv_icmp_gt (tgt := 1100) hx hb dL_law_40 (by decide) (fun c40 => ?_) (fun c40 => ?_)
    · refine lv_iconst (v := 1) hx hb dL_law_1100 (by decide) ?_
      refine va_forget (fun q hq => hS.2.2 q hq) ?_
      refine W.widen (k := 1084) (n := 9808) (by omega) (by omega) ?_
      exact lw_ret hx hb hr hlocks dL_law_1101
    · have hi8 : i + 8 ≤ L := Classical.byContradiction fun q => c40 ((len_gt (by omega) hL).mpr q)
      have hc : cells + 1 ≤ 1084 := by omega
      have hsl1 : slots + 6 ≤ 9808 := by omega
      have kk : lw_K p l e s m below meth c D cI cZ cJ b (o0, b0, b1, b2, b3, b4, b5, c2, c3, a0, a1, a2, a3, a4, a5, a6, a7, a8, a9, a10, a11, e0, e1, e2, e3, e4, e5, e6, e7, e8, e9, e10, e11, m0, m1, m2, m3, m4, m5, m6, m7, m8, m9, m10, m11, m12, m13, m14, m15, m16, m17, m18, m19, m20, m21, w0) o0 m0 w0 (fun q : Nat => s.heap.size ≤ q) (nI i) (cells + 1) (slots + 6) (lw_Z below #[Value.ref b] s) := by
        intro S ov H locs ls hI hP hD hS hl
        refine lv_iinc (v := nI (i + 8)) (lv' := [(4, .int (nI (i + 8))), (0, .ref b), (1, .ref o0), (2, .ref m0), (3, .ref w0)]) hx hb dL_law_1094 hl (k := 4) rfl (nI_add i 8) (by decide) rfl (fun ls hl => ?_)
        refine lv_goto (tgt := 33) hx hb dL_law_1097 (by decide) ?_
        exact ih (i + 8) S ov H locs ls (cells + 1) (slots + 6) hI (by omega) (by omega) (by omega) (by omega) hP hD hS (lv_sub hl [1, 2, 3, 4, 0] rfl)
      obtain ⟨sz, rw0, nb, nf, nr, lo, hi, ki, sh, of, br, fd, og, di, ar, ho, hx9, ha, hl9, hs, lb, la, lv, lw, nx, na, nv, nw, tb, ta, tv, tw, li, ogE, diE, arE, hoE, hx9E, haE, hl9E, hsE, lbE, laE, lvE, lwE, nxE, naE, nvE, nwE, tbE, taE, tvE, twE, liE, nhE, th, mli, mht, mlx, mix, mrl, mla, mlb, mia, mib, moa, mob, cs, mki, msh, mof, pt, dr, ab, bb, hbx, mhx, mha, mhl, mhp, rb, ro, rx, ra, rwL, rp, mfd⟩ := S
      replace hP : va_P D vwCl [(o0, .inr (3, [.int sz, .ref b0, .ref c2, .ref c3, .int (nI nf), .ref a0, .int rw0, .ref e0])), (b0, .inr (0, [.ref b1, .ref b2, .ref b3, .ref b4, .ref b5, .int (nI nb)])), (b1, .inl (cI, 60, .inl lo)), (b2, .inl (cI, 60, .inl hi)), (b3, .inl (cI, 20, .inl ki)), (b4, .inl (cI, 20, .inl sh)), (b5, .inl (cZ, 20, .inl of)), (c2, .inl (cI, 8, .inl br)), (c3, .inl (cI, 120, .inl fd)), (a0, .inr (2, [.ref a1, .ref a2, .ref a3, .ref a4, .ref a5, .ref a6, .ref a7, .ref a8, .ref a9, .ref a10, .ref a11, .int (nI nr), .int li])), (a1, .inl (cI, 3, .inl og)), (a2, .inl (cI, 3, .inl di)), (a3, .inl (cI, 3, .inl ar)), (a4, .inl (cI, 30, .inl ho)), (a5, .inl (cI, 30, .inl hx9)), (a6, .inl (cI, 30, .inl ha)), (a7, .inl (cI, 30, .inl hl9)), (a8, .inl (cI, 90, .inl hs)), (a9, .inr (1, [.int lb, .int la, .int lv, .int lw])), (a10, .inr (1, [.int nx, .int na, .int nv, .int nw])), (a11, .inr (1, [.int tb, .int ta, .int tv, .int tw])), (e0, .inr (2, [.ref e1, .ref e2, .ref e3, .ref e4, .ref e5, .ref e6, .ref e7, .ref e8, .ref e9, .ref e10, .ref e11, .int nhE, .int liE])), (e1, .inl (cI, 3, .inl ogE)), (e2, .inl (cI, 3, .inl diE)), (e3, .inl (cI, 3, .inl arE)), (e4, .inl (cI, 30, .inl hoE)), (e5, .inl (cI, 30, .inl hx9E)), (e6, .inl (cI, 30, .inl haE)), (e7, .inl (cI, 30, .inl hl9E)), (e8, .inl (cI, 90, .inl hsE)), (e9, .inr (1, [.int lbE, .int laE, .int lvE, .int lwE])), (e10, .inr (1, [.int nxE, .int naE, .int nvE, .int nwE])), (e11, .inr (1, [.int tbE, .int taE, .int tvE, .int twE])), (m0, .inr (4, [.int th, .int sz, .int (nI nb), .ref m1, .ref m2, .ref m3, .ref m4, .ref m5, .ref m6, .ref m7, .ref m8, .int mli, .int mht, .long mla, .long mlb, .int mlx, .long mia, .long mib, .int mix, .long moa, .long mob, .ref m9, .ref m10, .ref m11, .ref m12, .ref m13, .int rw0, .int (nI nr), .int mrl, .ref m14, .ref m15, .ref m16, .ref m17, .ref m18, .ref m19, .ref m20, .int (nI nf), .ref m21])), (m1, .inl (cI, 120, .inl cs)), (m2, .inl (cI, 20, .inl mki)), (m3, .inl (cI, 20, .inl msh)), (m4, .inl (cZ, 20, .inl mof)), (m5, .inl (cI, 3, .inl pt)), (m6, .inl (cI, 3, .inl dr)), (m7, .inl (cI, 3, .inl ab)), (m8, .inl (cI, 3, .inl bb)), (m9, .inl (cI, 30, .inl hbx)), (m10, .inl (cI, 30, .inl mhx)), (m11, .inl (cJ, 30, .inr (.inl mha))), (m12, .inl (cJ, 30, .inr (.inl mhl))), (m13, .inl (cJ, 90, .inr (.inl mhp))), (m14, .inl (cI, 3, .inl rb)), (m15, .inl (cI, 30, .inl ro)), (m16, .inl (cI, 30, .inl rx)), (m17, .inl (cJ, 30, .inr (.inl ra))), (m18, .inl (cJ, 30, .inr (.inl rwL))), (m19, .inl (cJ, 90, .inr (.inl rp))), (m20, .inl (cI, 8, .inl br)), (m21, .inl (cI, 120, .inl mfd)), (w0, .inl (cJ, 1, .inr (.inl ov)))] H := hP
      replace hD : va_D (fun q : Nat => s.heap.size ≤ q) [(o0, .inr (3, [.int sz, .ref b0, .ref c2, .ref c3, .int (nI nf), .ref a0, .int rw0, .ref e0])), (b0, .inr (0, [.ref b1, .ref b2, .ref b3, .ref b4, .ref b5, .int (nI nb)])), (b1, .inl (cI, 60, .inl lo)), (b2, .inl (cI, 60, .inl hi)), (b3, .inl (cI, 20, .inl ki)), (b4, .inl (cI, 20, .inl sh)), (b5, .inl (cZ, 20, .inl of)), (c2, .inl (cI, 8, .inl br)), (c3, .inl (cI, 120, .inl fd)), (a0, .inr (2, [.ref a1, .ref a2, .ref a3, .ref a4, .ref a5, .ref a6, .ref a7, .ref a8, .ref a9, .ref a10, .ref a11, .int (nI nr), .int li])), (a1, .inl (cI, 3, .inl og)), (a2, .inl (cI, 3, .inl di)), (a3, .inl (cI, 3, .inl ar)), (a4, .inl (cI, 30, .inl ho)), (a5, .inl (cI, 30, .inl hx9)), (a6, .inl (cI, 30, .inl ha)), (a7, .inl (cI, 30, .inl hl9)), (a8, .inl (cI, 90, .inl hs)), (a9, .inr (1, [.int lb, .int la, .int lv, .int lw])), (a10, .inr (1, [.int nx, .int na, .int nv, .int nw])), (a11, .inr (1, [.int tb, .int ta, .int tv, .int tw])), (e0, .inr (2, [.ref e1, .ref e2, .ref e3, .ref e4, .ref e5, .ref e6, .ref e7, .ref e8, .ref e9, .ref e10, .ref e11, .int nhE, .int liE])), (e1, .inl (cI, 3, .inl ogE)), (e2, .inl (cI, 3, .inl diE)), (e3, .inl (cI, 3, .inl arE)), (e4, .inl (cI, 30, .inl hoE)), (e5, .inl (cI, 30, .inl hx9E)), (e6, .inl (cI, 30, .inl haE)), (e7, .inl (cI, 30, .inl hl9E)), (e8, .inl (cI, 90, .inl hsE)), (e9, .inr (1, [.int lbE, .int laE, .int lvE, .int lwE])), (e10, .inr (1, [.int nxE, .int naE, .int nvE, .int nwE])), (e11, .inr (1, [.int tbE, .int taE, .int tvE, .int twE])), (m0, .inr (4, [.int th, .int sz, .int (nI nb), .ref m1, .ref m2, .ref m3, .ref m4, .ref m5, .ref m6, .ref m7, .ref m8, .int mli, .int mht, .long mla, .long mlb, .int mlx, .long mia, .long mib, .int mix, .long moa, .long mob, .ref m9, .ref m10, .ref m11, .ref m12, .ref m13, .int rw0, .int (nI nr), .int mrl, .ref m14, .ref m15, .ref m16, .ref m17, .ref m18, .ref m19, .ref m20, .int (nI nf), .ref m21])), (m1, .inl (cI, 120, .inl cs)), (m2, .inl (cI, 20, .inl mki)), (m3, .inl (cI, 20, .inl msh)), (m4, .inl (cZ, 20, .inl mof)), (m5, .inl (cI, 3, .inl pt)), (m6, .inl (cI, 3, .inl dr)), (m7, .inl (cI, 3, .inl ab)), (m8, .inl (cI, 3, .inl bb)), (m9, .inl (cI, 30, .inl hbx)), (m10, .inl (cI, 30, .inl mhx)), (m11, .inl (cJ, 30, .inr (.inl mha))), (m12, .inl (cJ, 30, .inr (.inl mhl))), (m13, .inl (cJ, 90, .inr (.inl mhp))), (m14, .inl (cI, 3, .inl rb)), (m15, .inl (cI, 30, .inl ro)), (m16, .inl (cI, 30, .inl rx)), (m17, .inl (cJ, 30, .inr (.inl ra))), (m18, .inl (cJ, 30, .inr (.inl rwL))), (m19, .inl (cJ, 90, .inr (.inl rp))), (m20, .inl (cI, 8, .inl br)), (m21, .inl (cI, 120, .inl mfd)), (w0, .inl (cJ, 1, .inr (.inl ov)))] := hD
      replace hI : (1 ≤ sz.toInt ∧ sz.toInt ≤ 1000) ∧ nb ≤ 20 ∧ nf ≤ 40 ∧ nr ≤ 30 ∧ BR lo hi cs nb ∧ KR ki sh of mki msh mof nb ∧ ZR mki mof nb ∧ (∀ j, of j = 0 ∨ of j = 1) ∧ (∀ j, mof j = 0 ∨ mof j = 1) ∧ FR fd mfd nf ∧ (∀ a, a < 3 → di a = rb a) ∧ li = mrl ∧ hR nr ho hx9 ha hl9 hs ro rx ra rwL rp ∧ ((rw0 : Int32) = 0 → nr = 0) := hI
      refine lv_aload_n hx hb dL_law_43 rfl (lv_at hl 0 rfl) ?_
      refine lv_iload hx hb dL_law_44 (lv_at hl 4 rfl) ?_
      refine va_sld hx hb hX hbl hbA hS (vp_in_nI (by omega) (by omega)) dL_law_46 ?_
      refine lv_bipush (v := 15) hx hb dL_law_47 (by decide) ?_
      refine lv_iand hx hb dL_law_49 ?_
      generalize xs (nI i).toNatClampNeg &&& 15 = v9
      by_cases ho9 : v9.toInt < 0 ∨ 11 < v9.toInt
      · refine lv_tableOut (tgt := 1094) hx hb dL_law_50 ho9 (by decide) ?_
        refine W.widen (k := cells + 1) (n := slots + 6) (Nat.le_succ _) (Nat.le_add_right _ _) ?_
        exact kk (sz, rw0, nb, nf, nr, lo, hi, ki, sh, of, br, fd, og, di, ar, ho, hx9, ha, hl9, hs, lb, la, lv, lw, nx, na, nv, nw, tb, ta, tv, tw, li, ogE, diE, arE, hoE, hx9E, haE, hl9E, hsE, lbE, laE, lvE, lwE, nxE, naE, nvE, nwE, tbE, taE, tvE, twE, liE, nhE, th, mli, mht, mlx, mix, mrl, mla, mlb, mia, mib, moa, mob, cs, mki, msh, mof, pt, dr, ab, bb, hbx, mhx, mha, mhl, mhp, rb, ro, rx, ra, rwL, rp, mfd) ov H locs ls hI hP hD hS hl
      · have hv : v9.toInt = 0 ∨ v9.toInt = 1 ∨ v9.toInt = 2 ∨ v9.toInt = 3 ∨ v9.toInt = 4 ∨ v9.toInt = 5 ∨ v9.toInt = 6 ∨ v9.toInt = 7 ∨ v9.toInt = 8 ∨ v9.toInt = 9 ∨ v9.toInt = 10 ∨ v9.toInt = 11 := by omega
        rcases hv with hv | hv | hv | hv | hv | hv | hv | hv | hv | hv | hv | hv
        · refine lv_tableIn (off := 62) (tgt := 112) hx hb dL_law_50 (by omega) (by omega) (by rw [hv]; rfl) (by decide) ?_
          exact lc_box C0 hA hB o0 b0 b1 b2 b3 b4 b5 c2 c3 a0 a1 a2 a3 a4 a5 a6 a7 a8 a9 a10 a11 e0 e1 e2 e3 e4 e5 e6 e7 e8 e9 e10 e11 m0 m1 m2 m3 m4 m5 m6 m7 m8 m9 m10 m11 m12 m13 m14 m15 m16 m17 m18 m19 m20 m21 w0 sz rw0 nb nf nr lo hi ki sh of br fd og di ar ho hx9 ha hl9 hs lb la lv lw nx na nv nw tb ta tv tw li ogE diE arE hoE hx9E haE hl9E hsE lbE laE lvE lwE nxE naE nvE nwE tbE taE tvE twE liE nhE th mli mht mlx mix mrl mla mlb mia mib moa mob cs mki msh mof pt dr ab bb hbx mhx mha mhl mhp rb ro rx ra rwL rp mfd ov hI i hi8 H locs ls hP hD hS hl cells slots hc hsl1 _ kk
        · refine lv_tableIn (off := 180) (tgt := 230) hx hb dL_law_50 (by omega) (by omega) (by rw [hv]; rfl) (by decide) ?_
          exact lc_kind C0 hA hB o0 b0 b1 b2 b3 b4 b5 c2 c3 a0 a1 a2 a3 a4 a5 a6 a7 a8 a9 a10 a11 e0 e1 e2 e3 e4 e5 e6 e7 e8 e9 e10 e11 m0 m1 m2 m3 m4 m5 m6 m7 m8 m9 m10 m11 m12 m13 m14 m15 m16 m17 m18 m19 m20 m21 w0 sz rw0 nb nf nr lo hi ki sh of br fd og di ar ho hx9 ha hl9 hs lb la lv lw nx na nv nw tb ta tv tw li ogE diE arE hoE hx9E haE hl9E hsE lbE laE lvE lwE nxE naE nvE nwE tbE taE tvE twE liE nhE th mli mht mlx mix mrl mla mlb mia mib moa mob cs mki msh mof pt dr ab bb hbx mhx mha mhl mhp rb ro rx ra rwL rp mfd ov hI i hi8 H locs ls hP hD hS hl cells slots hc hsl1 _ kk
        · refine lv_tableIn (off := 260) (tgt := 310) hx hb dL_law_50 (by omega) (by omega) (by rw [hv]; rfl) (by decide) ?_
          exact lc_off C0 hA hB o0 b0 b1 b2 b3 b4 b5 c2 c3 a0 a1 a2 a3 a4 a5 a6 a7 a8 a9 a10 a11 e0 e1 e2 e3 e4 e5 e6 e7 e8 e9 e10 e11 m0 m1 m2 m3 m4 m5 m6 m7 m8 m9 m10 m11 m12 m13 m14 m15 m16 m17 m18 m19 m20 m21 w0 sz rw0 nb nf nr lo hi ki sh of br fd og di ar ho hx9 ha hl9 hs lb la lv lw nx na nv nw tb ta tv tw li ogE diE arE hoE hx9E haE hl9E hsE lbE laE lvE lwE nxE naE nvE nwE tbE taE tvE twE liE nhE th mli mht mlx mix mrl mla mlb mia mib moa mob cs mki msh mof pt dr ab bb hbx mhx mha mhl mhp rb ro rx ra rwL rp mfd ov hI i hi8 H locs ls hP hD hS hl cells slots hc hsl1 _ kk
        · refine lv_tableIn (off := 351) (tgt := 401) hx hb dL_law_50 (by omega) (by omega) (by rw [hv]; rfl) (by decide) ?_
          exact lc_ray C0 hA hB o0 b0 b1 b2 b3 b4 b5 c2 c3 a0 a1 a2 a3 a4 a5 a6 a7 a8 a9 a10 a11 e0 e1 e2 e3 e4 e5 e6 e7 e8 e9 e10 e11 m0 m1 m2 m3 m4 m5 m6 m7 m8 m9 m10 m11 m12 m13 m14 m15 m16 m17 m18 m19 m20 m21 w0 sz rw0 nb nf nr lo hi ki sh of br fd og di ar ho hx9 ha hl9 hs lb la lv lw nx na nv nw tb ta tv tw li ogE diE arE hoE hx9E haE hl9E hsE lbE laE lvE lwE nxE naE nvE nwE tbE taE tvE twE liE nhE th mli mht mlx mix mrl mla mlb mia mib moa mob cs mki msh mof pt dr ab bb hbx mhx mha mhl mhp rb ro rx ra rwL rp mfd ov hI i hi8 H locs ls hP hD hS hl cells slots hc hsl1 _ kk
        · refine lv_tableIn (off := 469) (tgt := 519) hx hb dL_law_50 (by omega) (by omega) (by rw [hv]; rfl) (by decide) ?_
          exact lc_told C0 hA hB o0 b0 b1 b2 b3 b4 b5 c2 c3 a0 a1 a2 a3 a4 a5 a6 a7 a8 a9 a10 a11 e0 e1 e2 e3 e4 e5 e6 e7 e8 e9 e10 e11 m0 m1 m2 m3 m4 m5 m6 m7 m8 m9 m10 m11 m12 m13 m14 m15 m16 m17 m18 m19 m20 m21 w0 sz rw0 nb nf nr lo hi ki sh of br fd og di ar ho hx9 ha hl9 hs lb la lv lw nx na nv nw tb ta tv tw li ogE diE arE hoE hx9E haE hl9E hsE lbE laE lvE lwE nxE naE nvE nwE tbE taE tvE twE liE nhE th mli mht mlx mix mrl mla mlb mia mib moa mob cs mki msh mof pt dr ab bb hbx mhx mha mhl mhp rb ro rx ra rwL rp mfd ov hI i hi8 H locs ls hP hD hS hl cells slots hc hsl1 _ kk
        · refine lv_tableIn (off := 525) (tgt := 575) hx hb dL_law_50 (by omega) (by omega) (by rw [hv]; rfl) (by decide) ?_
          exact lc_hit C0 hA hB o0 b0 b1 b2 b3 b4 b5 c2 c3 a0 a1 a2 a3 a4 a5 a6 a7 a8 a9 a10 a11 e0 e1 e2 e3 e4 e5 e6 e7 e8 e9 e10 e11 m0 m1 m2 m3 m4 m5 m6 m7 m8 m9 m10 m11 m12 m13 m14 m15 m16 m17 m18 m19 m20 m21 w0 sz rw0 nb nf nr lo hi ki sh of br fd og di ar ho hx9 ha hl9 hs lb la lv lw nx na nv nw tb ta tv tw li ogE diE arE hoE hx9E haE hl9E hsE lbE laE lvE lwE nxE naE nvE nwE tbE taE tvE twE liE nhE th mli mht mlx mix mrl mla mlb mia mib moa mob cs mki msh mof pt dr ab bb hbx mhx mha mhl mhp rb ro rx ra rwL rp mfd ov hI i hi8 H locs ls hP hD hS hl cells slots hc hsl1 _ kk
        · refine lv_tableIn (off := 593) (tgt := 643) hx hb dL_law_50 (by omega) (by omega) (by rw [hv]; rfl) (by decide) ?_
          exact lc_place C0 hA hB o0 b0 b1 b2 b3 b4 b5 c2 c3 a0 a1 a2 a3 a4 a5 a6 a7 a8 a9 a10 a11 e0 e1 e2 e3 e4 e5 e6 e7 e8 e9 e10 e11 m0 m1 m2 m3 m4 m5 m6 m7 m8 m9 m10 m11 m12 m13 m14 m15 m16 m17 m18 m19 m20 m21 w0 sz rw0 nb nf nr lo hi ki sh of br fd og di ar ho hx9 ha hl9 hs lb la lv lw nx na nv nw tb ta tv tw li ogE diE arE hoE hx9E haE hl9E hsE lbE laE lvE lwE nxE naE nvE nwE tbE taE tvE twE liE nhE th mli mht mlx mix mrl mla mlb mia mib moa mob cs mki msh mof pt dr ab bb hbx mhx mha mhl mhp rb ro rx ra rwL rp mfd ov hI i hi8 H locs ls hP hD hS hl cells slots hc hsl1 _ kk
        · refine lv_tableIn (off := 672) (tgt := 722) hx hb dL_law_50 (by omega) (by omega) (by rw [hv]; rfl) (by decide) ?_
          exact lc_sky C0 hA hB o0 b0 b1 b2 b3 b4 b5 c2 c3 a0 a1 a2 a3 a4 a5 a6 a7 a8 a9 a10 a11 e0 e1 e2 e3 e4 e5 e6 e7 e8 e9 e10 e11 m0 m1 m2 m3 m4 m5 m6 m7 m8 m9 m10 m11 m12 m13 m14 m15 m16 m17 m18 m19 m20 m21 w0 sz rw0 nb nf nr lo hi ki sh of br fd og di ar ho hx9 ha hl9 hs lb la lv lw nx na nv nw tb ta tv tw li ogE diE arE hoE hx9E haE hl9E hsE lbE laE lvE lwE nxE naE nvE nwE tbE taE tvE twE liE nhE th mli mht mlx mix mrl mla mlb mia mib moa mob cs mki msh mof pt dr ab bb hbx mhx mha mhl mhp rb ro rx ra rwL rp mfd ov hI i hi8 H locs ls hP hD hS hl cells slots hc hsl1 _ kk
        · refine lv_tableIn (off := 740) (tgt := 790) hx hb dL_law_50 (by omega) (by omega) (by rw [hv]; rfl) (by decide) ?_
          exact lc_fan C0 hA hB o0 b0 b1 b2 b3 b4 b5 c2 c3 a0 a1 a2 a3 a4 a5 a6 a7 a8 a9 a10 a11 e0 e1 e2 e3 e4 e5 e6 e7 e8 e9 e10 e11 m0 m1 m2 m3 m4 m5 m6 m7 m8 m9 m10 m11 m12 m13 m14 m15 m16 m17 m18 m19 m20 m21 w0 sz rw0 nb nf nr lo hi ki sh of br fd og di ar ho hx9 ha hl9 hs lb la lv lw nx na nv nw tb ta tv tw li ogE diE arE hoE hx9E haE hl9E hsE lbE laE lvE lwE nxE naE nvE nwE tbE taE tvE twE liE nhE th mli mht mlx mix mrl mla mlb mia mib moa mob cs mki msh mof pt dr ab bb hbx mhx mha mhl mhp rb ro rx ra rwL rp mfd ov hI i hi8 H locs ls hP hD hS hl cells slots hc hsl1 _ kk
        · refine lv_tableIn (off := 820) (tgt := 870) hx hb dL_law_50 (by omega) (by omega) (by rw [hv]; rfl) (by decide) ?_
          exact lc_noFan C0 hA hB o0 b0 b1 b2 b3 b4 b5 c2 c3 a0 a1 a2 a3 a4 a5 a6 a7 a8 a9 a10 a11 e0 e1 e2 e3 e4 e5 e6 e7 e8 e9 e10 e11 m0 m1 m2 m3 m4 m5 m6 m7 m8 m9 m10 m11 m12 m13 m14 m15 m16 m17 m18 m19 m20 m21 w0 sz rw0 nb nf nr lo hi ki sh of br fd og di ar ho hx9 ha hl9 hs lb la lv lw nx na nv nw tb ta tv tw li ogE diE arE hoE hx9E haE hl9E hsE lbE laE lvE lwE nxE naE nvE nwE tbE taE tvE twE liE nhE th mli mht mlx mix mrl mla mlb mia mib moa mob cs mki msh mof pt dr ab bb hbx mhx mha mhl mhp rb ro rx ra rwL rp mfd ov hI i H locs ls hP hD hS hl cells slots hc hsl1 _ kk
        · refine lv_tableIn (off := 833) (tgt := 883) hx hb dL_law_50 (by omega) (by omega) (by rw [hv]; rfl) (by decide) ?_
          exact lc_measure C0 hA hB o0 b0 b1 b2 b3 b4 b5 c2 c3 a0 a1 a2 a3 a4 a5 a6 a7 a8 a9 a10 a11 e0 e1 e2 e3 e4 e5 e6 e7 e8 e9 e10 e11 m0 m1 m2 m3 m4 m5 m6 m7 m8 m9 m10 m11 m12 m13 m14 m15 m16 m17 m18 m19 m20 m21 w0 sz rw0 nb nf nr lo hi ki sh of br fd og di ar ho hx9 ha hl9 hs lb la lv lw nx na nv nw tb ta tv tw li ogE diE arE hoE hx9E haE hl9E hsE lbE laE lvE lwE nxE naE nvE nwE tbE taE tvE twE liE nhE th mli mht mlx mix mrl mla mlb mia mib moa mob cs mki msh mof pt dr ab bb hbx mhx mha mhl mhp rb ro rx ra rwL rp mfd ov hI i hi8 H locs ls hP hD hS hl cells slots hc hsl1 _ kk
        · refine lv_tableIn (off := 912) (tgt := 962) hx hb dL_law_50 (by omega) (by omega) (by rw [hv]; rfl) (by decide) ?_
          exact lc_best C0 hA hB o0 b0 b1 b2 b3 b4 b5 c2 c3 a0 a1 a2 a3 a4 a5 a6 a7 a8 a9 a10 a11 e0 e1 e2 e3 e4 e5 e6 e7 e8 e9 e10 e11 m0 m1 m2 m3 m4 m5 m6 m7 m8 m9 m10 m11 m12 m13 m14 m15 m16 m17 m18 m19 m20 m21 w0 sz rw0 nb nf nr lo hi ki sh of br fd og di ar ho hx9 ha hl9 hs lb la lv lw nx na nv nw tb ta tv tw li ogE diE arE hoE hx9E haE hl9E hsE lbE laE lvE lwE nxE naE nvE nwE tbE taE tvE twE liE nhE th mli mht mlx mix mrl mla mlb mia mib moa mob cs mki msh mof pt dr ab bb hbx mhx mha mhl mhp rb ro rx ra rwL rp mfd ov hI i hi8 H locs ls hP hD hS hl cells slots hc hsl1 _ kk
