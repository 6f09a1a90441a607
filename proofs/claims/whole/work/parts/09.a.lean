/-! checks: methods that come back with all as it was, or throw -/
def zq (U : State) : Prop := vx_Zq Bundle.tN "UNASSIGNED_STACK" Bundle.steD (fun q => U.heap.size ≤ q) U U.heap ∧ vx_Zq Bundle.tN "SUPPRESSED_SENTINEL" Bundle.listD (fun q => U.heap.size ≤ q) U U.heap
theorem zq_at {s U : State} (hvm : s.vm.Alike U.vm) (hz : s.heap.size ≤ U.heap.size) (hk : ∀ q : Nat, q < s.heap.size → U.heap[q]? = s.heap[q]?) (h : zq s) : zq U := by
  obtain ⟨h1, h2⟩ := h
  refine ⟨?_, ?_⟩
  · exact vx_Zq.moved hvm (vx_Zq.narrow (vx_Zq.kept h1 (fun a ha _ => hk a ha)) (fun q hq => Nat.le_trans hz hq))
  · exact vx_Zq.moved hvm (vx_Zq.narrow (vx_Zq.kept h2 (fun a ha _ => hk a ha)) (fun q hq => Nat.le_trans hz hq))
def tq (D : va_G) (av : List Value) (ws : va_W) (tys : List (ClassId × FieldType)) : Array Value → State → Prop := va_Pc av (fun U => va_P D vwCl ws U.heap ∧ va_K D vwCl tys U ∧ gz U ∧ zq U)
def uq (D : va_G) (av : List Value) (sz : Nat) (ws : va_W) (tys : List (ClassId × FieldType)) : Array Value → State → Prop := va_Pc av (fun U => U.heap.size = sz ∧ va_P D vwCl ws U.heap ∧ va_K D vwCl tys U ∧ va_D (fun _ => True) ws ∧ gz U ∧ zq U)
section TQ
variable {D : va_G} {av : List Value} {sz : Nat} {ws : va_W} {tys : List (ClassId × FieldType)} {s : State} {H : Heap}
theorem tq_blind : FrameBlind (tq D av ws tys) := fun a U g mk q => by
  obtain ⟨q0, qP, qK, qZ, qY⟩ := q
  exact ⟨q0, qP, va_K.moved (u := U) (U := U.calling g mk a) (Vm.Alike.refl U.vm) qK, gz_calling g mk a qZ, zq_at (U := U.calling g mk a) (Vm.Alike.refl U.vm) (Nat.le_refl _) (fun _ _ => rfl) qY⟩
theorem uq_blind : FrameBlind (uq D av sz ws tys) := fun a U g mk q => by
  obtain ⟨q0, q1, qP, qK, qD, qZ, qY⟩ := q
  exact ⟨q0, q1, qP, va_K.moved (u := U) (U := U.calling g mk a) (Vm.Alike.refl U.vm) qK, qD, gz_calling g mk a qZ, zq_at (U := U.calling g mk a) (Vm.Alike.refl U.vm) (Nat.le_refl _) (fun _ _ => rfl) qY⟩
theorem tq_pre (hP : va_P D vwCl ws s.heap) (hK : va_K D vwCl tys s) (hZ : gz s) (hY : zq s) : PreS s s.heap (tq D av ws tys) av :=
  ⟨tq_blind, fun U hU hW => ⟨rfl, by rw [hU]; exact hP, va_K.moved hW.alike hK, gz_warm hW hZ, zq_at hW.alike (by rw [hU]; exact Nat.le_refl _) (fun q _ => by rw [hU]) hY⟩⟩
theorem tq_preV {C : String} {b : Addr} {As : List Value} (hP : va_P D vwCl ws s.heap) (hK : va_K D vwCl tys s) (hZ : gz s) (hY : zq s) (hr : ∃ cell : Cell, s.heap[b]? = some cell ∧ cell.vm.isStatics = false ∧ s.vm.findClass C = some cell.cls) : PreV s s.heap C b (tq D (.ref b :: As) ws tys) As :=
  ⟨tq_blind, hr, (tq_pre hP hK hZ hY).2⟩
theorem uq_preV {A : Nat → Prop} {C : String} {b : Addr} {As : List Value} (hP : va_P D vwCl ws H) (hK : va_K D vwCl tys s) (hD : va_D A ws) (hZ : gz s) (hY : zq s) (hz : s.heap.size ≤ H.size) (hk : ∀ q : Nat, q < s.heap.size → H[q]? = s.heap[q]?) (hr : ∃ cell : Cell, H[b]? = some cell ∧ cell.vm.isStatics = false ∧ s.vm.findClass C = some cell.cls) : PreV s H C b (uq D (.ref b :: As) H.size ws tys) As :=
  ⟨uq_blind, hr, fun U hU hW => ⟨rfl, by rw [hU], by rw [hU]; exact hP, va_K.moved hW.alike hK, hD.weaken (fun _ _ _ _ => trivial), gz_warm hW hZ, zq_at hW.alike (by rw [hU]; exact hz) (fun q hq => by rw [hU]; exact hk q hq) hY⟩⟩
end TQ
/-- a throw of an E that EX allows, all as it was -/
def cy_X (EX : String → Prop) : String → State → State → Prop := fun E st t => EX E ∧ st.heap.size ≤ t.heap.size ∧ ∀ q : Nat, q < st.heap.size → t.heap[q]? = st.heap[q]?
section CY
variable {p : Program} {l : Launch} {e : Env} {R : Room} {s : State} {m : MethodId} {args : Array Value} {below : List Frame} {meth : Method} {c : Code} {H : Heap} {locs : List Loc} {cells slots : Nat} {Q : State → Prop} {pc : Nat} {ls : Array Slot} {st0 rest : List Value} {a : Array Value}
/-- nothing was made: the books stand as before -/
theorem stand_back {T T' : State} {k n : Nat} (X : Stand p l e R s m args below meth c T locs cells slots) (X' : Stand p l e R s m args below meth c T' locs k n) (h : T'.heap = T.heap) : Stand p l e R s m args below meth c T' locs cells slots := by
  obtain ⟨e1, e2, e3, e4, e5, e6⟩ := X'.same
  obtain ⟨d1, d2, d3, d4, d5, d6⟩ := X.same
  have hh : (T'.setVm s.vm).heap = (T.setVm s.vm).heap := h
  exact { X' with same := ⟨e1, e2, by rw [hh]; exact d3, e4, by rw [hh]; exact d5, e6⟩ }
theorem cx_pass {C : Prop} {EX EX' : String → Prop} {mc ms mc' ms' : Nat} {Qc : Array Value → State → Outcome → State → Prop} {free : Addr → Prop} (hr : vx_Run p l e R s m args below meth c s.heap [] cells slots mc ms (F0 m pc ls st0) rest (cx_Q C a) (cy_X EX) (fun _ => False))
    (htab : ∀ x ∈ c.exceptionTable.toList, False) (hlocks : meth.locks = false) (hc : cells + mc ≤ mc') (hs : slots + ms ≤ ms') (hX : ∀ E, EX E → EX' E)
    (kk : C → W p l e R s m args below meth c s.heap [] cells slots (vx_MQ below Qc (cy_X EX') args s mc' ms' free) (F0 m (pc + 3) ls rest)) : W p l e R s m args below meth c s.heap [] cells slots (vx_MQ below Qc (cy_X EX') args s mc' ms' free) (F0 m pc ls st0) := by
  intro T hT X
  rcases hr T hT X with ⟨v, st₀, t, T', L, h0, X', hL, e1, e2, ⟨hC, hv, hh⟩, st⟩ | ⟨q, st₀, t, T', L, E, ce, h0, X', hL, e1, e2, ⟨hE, hz, hk⟩, hce, hcv, hcl, st⟩
  · cases hv
    have hT' : T'.heap = T.heap := by rw [e1, hh, h0, hT]
    obtain ⟨t2, a1, b1⟩ := kk hC T' (by rw [hT', hT]) (stand_back X (Stand.forget X' (fun q h => (hL q h).elim)) hT')
    exact ⟨t2, st t2 a1, b1⟩
  · rw [h0] at hz hk
    have X2 := Stand.forget (locs := []) X' (fun q h => (hL q h).elim)
    have w : vx_W p l e R s m args below meth c T'.heap [] (cells + mc) (slots + ms) (vx_MQ below Qc (cy_X EX') args s mc' ms' free) (F0 m pc ls rest) q :=
      vx_out (E := E) (ce := ce) (fun x hx => (htab x hx).elim) hlocks (by rw [e1]; exact hce) hcv hcl (fun t9 ht _ => ⟨hX E hE, by rw [ht, e1]; exact hz, fun q hq => by rw [ht, e1]; exact hk q hq⟩) (fun z hz => nomatch hz) hc hs
    obtain ⟨t2, a1, b1⟩ := w T' rfl X2
    exact ⟨t2, st.trans a1, b1⟩
end CY
/-- the words of a throw, once and for all -/
def nm_x : List String := ["java/lang/RuntimeException", "java/lang/Exception"]
def wx_B (E : String) : List Cond := [.castable E E, .declares ⟨"java/lang/RuntimeException", "<init>", "(Ljava/lang/String;)V"⟩, .declares ⟨"java/lang/Exception", "<init>", "(Ljava/lang/String;)V"⟩, .declares ⟨"java/lang/Throwable", "<init>", "(Ljava/lang/String;)V"⟩]
theorem wx_iae1 : ((vx_atS RX3 155 sx_iae nm_x).filter goodWord).all (fun w => decide (w ∈ lw_tbl)) = true := by decide +kernel
theorem wx_iae2 : ((vx_atS RX3 155 sx_iae nm_x).filter (fun w => !goodWord w)).all (fun w => decide (w ∈ wx_B sx_iae)) = true := by decide +kernel
theorem wx_ise1 : ((vx_atS RX3 68 sx_ise nm_x).filter goodWord).all (fun w => decide (w ∈ lw_tbl)) = true := by decide +kernel
theorem wx_ise2 : ((vx_atS RX3 68 sx_ise nm_x).filter (fun w => !goodWord w)).all (fun w => decide (w ∈ wx_B sx_ise)) = true := by decide +kernel
theorem wx_iae3 : (Cond.classLink RX3 151 sx_iae :: Cond.initialized sx_iae :: vx_atS RX3 155 sx_iae nm_x).all vx_ot = true := by decide +kernel
theorem wx_ise3 : (Cond.classLink RX3 64 sx_ise :: Cond.initialized sx_ise :: vx_atS RX3 68 sx_ise nm_x).all vx_ot = true := by decide +kernel
theorem wx_hat {args : Array Value} {s : State} {i : Nat} {E : String} (h1 : ((vx_atS RX3 i E nm_x).filter goodWord).all (fun w => decide (w ∈ lw_tbl)) = true) (h2 : ((vx_atS RX3 i E nm_x).filter (fun w => !goodWord w)).all (fun w => decide (w ∈ wx_B E)) = true) (hg : ∀ w ∈ gw, w.before args s = true) (hZ : gz s) (hc : va_Nw (.castable E E) s) : ∀ w ∈ vx_atS RX3 i E nm_x, w.before args s = true := by
  refine vx_hat (B := wx_B E) (fun w hw => hg w ?_) (fun w hw => by simpa using List.all_eq_true.mp h2 w hw) ?_
  · have h3 : w ∈ lw_tbl := by simpa using List.all_eq_true.mp h1 w hw
    exact List.mem_filter.mpr ⟨h3, (List.mem_filter.mp hw).2⟩
  · exact vx_c (va_Nw.use rfl hc) (vx_c (va_Nw.use rfl (hZ.2.2.2.1 _ (List.mem_of_getElem? (i := 1) rfl))) (vx_c (va_Nw.use rfl (hZ.2.2.2.1 _ (List.mem_of_getElem? (i := 3) rfl))) (vx_c (va_Nw.use rfl (hZ.2.2.2.1 _ (List.mem_of_getElem? (i := 5) rfl))) vx_n)))
section THROW
variable {p : Program} {l : Launch} {e : Env} {R : Room} {s : State} {m : MethodId} {args : Array Value} {below : List Frame} {meth : Method} {c : Code} {cells slots : Nat} {cc : ByteArray} {pc : Nat} {ls : Array Slot} {rest : List Value} {EX : String → Prop} {Qc : Array Value → State → Outcome → State → Prop} {free : Addr → Prop} {mc ms : Nat}
theorem th_iae (hx : p.tables.exec = Jvm.exec) (hb : c.code = cc) (hl0 : l.stackTraces = false) (hg : ∀ w ∈ gw, w.before args s = true) (hZ : gz s) (hY : zq s) (hown : s.vm.findClass RX3 = some m.cls) (hsize : ls.size = c.maxLocals) (htab : ∀ x ∈ c.exceptionTable.toList, False) (hlocks : meth.locks = false)
    (d0 : decode cc pc = .ok (.new 151, 3)) (d3 : decode cc (pc + 3) = .ok (.dup, 1)) (d4 : decode cc (pc + 4) = .ok (.ldc 153, 2)) (d6 : decode cc (pc + 6) = .ok (.invokespecial 155, 3)) (d9 : decode cc (pc + 9) = .ok (.athrow, 1))
    (hRf : 5 < R.frames) (hRl : (rest.map fun v => v.category).sum + 82 ≤ R.locals) (hRc : cells + 1 ≤ R.cells) (hRs : slots + 6 ≤ R.slots) (hc : cells + 1 ≤ mc) (hs : slots + 6 ≤ ms) (hX : EX sx_iae) :
    W p l e R s m args below meth c s.heap [] cells slots (vx_MQ below Qc (cy_X EX) args s mc ms free) (F0 m pc ls rest) := by
  obtain ⟨sa, hsa⟩ := hZ.2.2.2.2.1
  exact vx_throwS (names := nm_x) (cls := sx_iae) (A := fun q => s.heap.size ≤ q) hx hb hl0 hown (by decide +kernel) (by decide +kernel) (hg _ kw228) (hg _ kw45) hsa (wx_hat wx_iae1 wx_iae2 hg hZ (hZ.2.2.1 (sx_iae, sx_iae) (List.mem_of_getElem? (i := 0) rfl))) (fun w hw => List.all_eq_true.mp wx_iae3 w hw) hY.1 hY.2 va_S.rf hsize d0 d3 d4 d6 d9 (fun x hx => (htab x hx).elim) hRf hRl hRc hRs hlocks (fun t _ h1 h2 => ⟨hX, h1, h2⟩) (fun z hz => nomatch hz) hc hs
theorem th_ise {is : Nat} {tx : String} (hx : p.tables.exec = Jvm.exec) (hb : c.code = cc) (hl0 : l.stackTraces = false) (hg : ∀ w ∈ gw, w.before args s = true) (hZ : gz s) (hY : zq s) (hstr : ∃ q, vk_R RX3 is tx q s) (hown : s.vm.findClass RX3 = some m.cls) (hsize : ls.size = c.maxLocals) (htab : ∀ x ∈ c.exceptionTable.toList, False) (hlocks : meth.locks = false)
    (d0 : decode cc pc = .ok (.new 64, 3)) (d3 : decode cc (pc + 3) = .ok (.dup, 1)) (d4 : decode cc (pc + 4) = .ok (.ldc is, 2)) (d6 : decode cc (pc + 6) = .ok (.invokespecial 68, 3)) (d9 : decode cc (pc + 9) = .ok (.athrow, 1))
    (hRf : 5 < R.frames) (hRl : (rest.map fun v => v.category).sum + 82 ≤ R.locals) (hRc : cells + 1 ≤ R.cells) (hRs : slots + 6 ≤ R.slots) (hc : cells + 1 ≤ mc) (hs : slots + 6 ≤ ms) (hX : EX sx_ise) :
    W p l e R s m args below meth c s.heap [] cells slots (vx_MQ below Qc (cy_X EX) args s mc ms free) (F0 m pc ls rest) := by
  obtain ⟨sa, hsa⟩ := hstr
  exact vx_throwS (names := nm_x) (cls := sx_ise) (A := fun q => s.heap.size ≤ q) hx hb hl0 hown (by decide +kernel) (by decide +kernel) (hg _ kw295) (hg _ kw46) hsa (wx_hat wx_ise1 wx_ise2 hg hZ (hZ.2.2.1 (sx_ise, sx_ise) (List.mem_of_getElem? (i := 1) rfl))) (fun w hw => List.all_eq_true.mp wx_ise3 w hw) hY.1 hY.2 va_S.rf hsize d0 d3 d4 d6 d9 (fun x hx => (htab x hx).elim) hRf hRl hRc hRs hlocks (fun t _ h1 h2 => ⟨hX, h1, h2⟩) (fun z hz => nomatch hz) hc hs
end THROW
