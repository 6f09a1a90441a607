section
-- ===== PART A: goes FIRST, ahead of the names: the tables' words, and 'selects' of the private methods out of them =====
/-- a private method of a class that the tables say can be made, by its rows of tables_1 -/
def lw_okq (q : MethodName × Nat) : Prop := (q.1.cls ≠ "java/lang/invoke/MethodHandle" ∧ q.1.cls ≠ "java/lang/invoke/VarHandle") ∧ Cond.instantiable q.1.cls q.2 ∈ tables_1 ∧ Cond.privateMethod q.1 ∈ tables_1 ∧ Cond.instanceMethod q.1 ∈ tables_1
theorem lw_p0 : lw_okq (⟨"LightRays", "demandPoint", "(III)V"⟩, 8) := ⟨⟨by decide +kernel, by decide +kernel⟩, List.mem_of_getElem? (i := 15) (by decide +kernel), List.mem_of_getElem? (i := 184) (by decide +kernel), List.mem_of_getElem? (i := 185) (by decide +kernel)⟩
theorem lw_p1 : lw_okq (⟨"java/lang/Throwable", "fillInStackTrace", "(I)Ljava/lang/Throwable;"⟩, 6) := ⟨⟨by decide +kernel, by decide +kernel⟩, List.mem_of_getElem? (i := 231) (by decide +kernel), List.mem_of_getElem? (i := 229) (by decide +kernel), List.mem_of_getElem? (i := 230) (by decide +kernel)⟩
theorem lw_p2 : lw_okq (⟨"LightRays$Boxes", "add", "(IIIIII)I"⟩, 6) := ⟨⟨by decide +kernel, by decide +kernel⟩, List.mem_of_getElem? (i := 29) (by decide +kernel), List.mem_of_getElem? (i := 277) (by decide +kernel), List.mem_of_getElem? (i := 278) (by decide +kernel)⟩
theorem lw_p3 : lw_okq (⟨"LightRays", "demandBox", "(I)V"⟩, 8) := ⟨⟨by decide +kernel, by decide +kernel⟩, List.mem_of_getElem? (i := 15) (by decide +kernel), List.mem_of_getElem? (i := 288) (by decide +kernel), List.mem_of_getElem? (i := 289) (by decide +kernel)⟩
theorem lw_p4 : lw_okq (⟨"LightRays$Path", "begin", "(III)V"⟩, 13) := ⟨⟨by decide +kernel, by decide +kernel⟩, List.mem_of_getElem? (i := 66) (by decide +kernel), List.mem_of_getElem? (i := 309) (by decide +kernel), List.mem_of_getElem? (i := 310) (by decide +kernel)⟩
theorem lw_p5 : lw_okq (⟨"LightRays$Meeting", "set", "(IIII)V"⟩, 4) := ⟨⟨by decide +kernel, by decide +kernel⟩, List.mem_of_getElem? (i := 72) (by decide +kernel), List.mem_of_getElem? (i := 314) (by decide +kernel), List.mem_of_getElem? (i := 315) (by decide +kernel)⟩
theorem lw_p6 : lw_okq (⟨"LightRays$Path", "aim", "(III)V"⟩, 13) := ⟨⟨by decide +kernel, by decide +kernel⟩, List.mem_of_getElem? (i := 66) (by decide +kernel), List.mem_of_getElem? (i := 318) (by decide +kernel), List.mem_of_getElem? (i := 319) (by decide +kernel)⟩
theorem lw_p7 : lw_okq (⟨"LightRays$Path", "follow", "(LLightRays$Boxes;)I"⟩, 13) := ⟨⟨by decide +kernel, by decide +kernel⟩, List.mem_of_getElem? (i := 66) (by decide +kernel), List.mem_of_getElem? (i := 322) (by decide +kernel), List.mem_of_getElem? (i := 323) (by decide +kernel)⟩
theorem lw_p8 : lw_okq (⟨"LightRays$Boxes", "anySolidRound", "([I)Z"⟩, 6) := ⟨⟨by decide +kernel, by decide +kernel⟩, List.mem_of_getElem? (i := 29) (by decide +kernel), List.mem_of_getElem? (i := 326) (by decide +kernel), List.mem_of_getElem? (i := 327) (by decide +kernel)⟩
theorem lw_p9 : lw_okq (⟨"LightRays$Boxes", "isInside", "(I[I)Z"⟩, 6) := ⟨⟨by decide +kernel, by decide +kernel⟩, List.mem_of_getElem? (i := 29) (by decide +kernel), List.mem_of_getElem? (i := 330) (by decide +kernel), List.mem_of_getElem? (i := 331) (by decide +kernel)⟩
theorem lw_p10 : lw_okq (⟨"LightRays$Path", "findNext", "(LLightRays$Boxes;)Z"⟩, 13) := ⟨⟨by decide +kernel, by decide +kernel⟩, List.mem_of_getElem? (i := 66) (by decide +kernel), List.mem_of_getElem? (i := 334) (by decide +kernel), List.mem_of_getElem? (i := 335) (by decide +kernel)⟩
theorem lw_p11 : lw_okq (⟨"LightRays$Path", "crosses", "(LLightRays$Boxes;I)Z"⟩, 13) := ⟨⟨by decide +kernel, by decide +kernel⟩, List.mem_of_getElem? (i := 66) (by decide +kernel), List.mem_of_getElem? (i := 338) (by decide +kernel), List.mem_of_getElem? (i := 339) (by decide +kernel)⟩
theorem lw_p12 : lw_okq (⟨"LightRays$Path", "countsNow", "(LLightRays$Boxes;)Z"⟩, 13) := ⟨⟨by decide +kernel, by decide +kernel⟩, List.mem_of_getElem? (i := 66) (by decide +kernel), List.mem_of_getElem? (i := 345) (by decide +kernel), List.mem_of_getElem? (i := 346) (by decide +kernel)⟩
theorem lw_p13 : lw_okq (⟨"LightRays$Meeting", "compareTime", "(LLightRays$Meeting;)I"⟩, 4) := ⟨⟨by decide +kernel, by decide +kernel⟩, List.mem_of_getElem? (i := 72) (by decide +kernel), List.mem_of_getElem? (i := 349) (by decide +kernel), List.mem_of_getElem? (i := 350) (by decide +kernel)⟩
theorem lw_p14 : lw_okq (⟨"LightRays$Path", "cameInside", "(LLightRays$Boxes;I)Z"⟩, 13) := ⟨⟨by decide +kernel, by decide +kernel⟩, List.mem_of_getElem? (i := 66) (by decide +kernel), List.mem_of_getElem? (i := 356) (by decide +kernel), List.mem_of_getElem? (i := 357) (by decide +kernel)⟩
theorem lw_p15 : lw_okq (⟨"LightRays$Path", "spotAtLatest", "(I)I"⟩, 13) := ⟨⟨by decide +kernel, by decide +kernel⟩, List.mem_of_getElem? (i := 66) (by decide +kernel), List.mem_of_getElem? (i := 360) (by decide +kernel), List.mem_of_getElem? (i := 361) (by decide +kernel)⟩
def lw_privs_1 : List (MethodName × Nat) := [(⟨"LightRays", "demandPoint", "(III)V"⟩, 8), (⟨"java/lang/Throwable", "fillInStackTrace", "(I)Ljava/lang/Throwable;"⟩, 6), (⟨"LightRays$Boxes", "add", "(IIIIII)I"⟩, 6), (⟨"LightRays", "demandBox", "(I)V"⟩, 8), (⟨"LightRays$Path", "begin", "(III)V"⟩, 13), (⟨"LightRays$Meeting", "set", "(IIII)V"⟩, 4), (⟨"LightRays$Path", "aim", "(III)V"⟩, 13), (⟨"LightRays$Path", "follow", "(LLightRays$Boxes;)I"⟩, 13), (⟨"LightRays$Boxes", "anySolidRound", "([I)Z"⟩, 6), (⟨"LightRays$Boxes", "isInside", "(I[I)Z"⟩, 6), (⟨"LightRays$Path", "findNext", "(LLightRays$Boxes;)Z"⟩, 13), (⟨"LightRays$Path", "crosses", "(LLightRays$Boxes;I)Z"⟩, 13), (⟨"LightRays$Path", "countsNow", "(LLightRays$Boxes;)Z"⟩, 13), (⟨"LightRays$Meeting", "compareTime", "(LLightRays$Meeting;)I"⟩, 4), (⟨"LightRays$Path", "cameInside", "(LLightRays$Boxes;I)Z"⟩, 13), (⟨"LightRays$Path", "spotAtLatest", "(I)I"⟩, 13)]
theorem lw_r1 : ∀ q ∈ lw_privs_1, lw_okq q := List.forall_mem_cons.mpr ⟨lw_p0, List.forall_mem_cons.mpr ⟨lw_p1, List.forall_mem_cons.mpr ⟨lw_p2, List.forall_mem_cons.mpr ⟨lw_p3, List.forall_mem_cons.mpr ⟨lw_p4, List.forall_mem_cons.mpr ⟨lw_p5, List.forall_mem_cons.mpr ⟨lw_p6, List.forall_mem_cons.mpr ⟨lw_p7, List.forall_mem_cons.mpr ⟨lw_p8, List.forall_mem_cons.mpr ⟨lw_p9, List.forall_mem_cons.mpr ⟨lw_p10, List.forall_mem_cons.mpr ⟨lw_p11, List.forall_mem_cons.mpr ⟨lw_p12, List.forall_mem_cons.mpr ⟨lw_p13, List.forall_mem_cons.mpr ⟨lw_p14, List.forall_mem_cons.mpr ⟨lw_p15, fun _ h => absurd h List.not_mem_nil⟩⟩⟩⟩⟩⟩⟩⟩⟩⟩⟩⟩⟩⟩⟩⟩
theorem lw_p16 : lw_okq (⟨"LightRays$Meeting", "copy", "(LLightRays$Meeting;)V"⟩, 4) := ⟨⟨by decide +kernel, by decide +kernel⟩, List.mem_of_getElem? (i := 72) (by decide +kernel), List.mem_of_getElem? (i := 364) (by decide +kernel), List.mem_of_getElem? (i := 365) (by decide +kernel)⟩
theorem lw_p17 : lw_okq (⟨"LightRays$Path", "keepHit", "()V"⟩, 13) := ⟨⟨by decide +kernel, by decide +kernel⟩, List.mem_of_getElem? (i := 66) (by decide +kernel), List.mem_of_getElem? (i := 369) (by decide +kernel), List.mem_of_getElem? (i := 370) (by decide +kernel)⟩
theorem lw_p18 : lw_okq (⟨"LightRays$Path", "turn", "(LLightRays$Boxes;)V"⟩, 13) := ⟨⟨by decide +kernel, by decide +kernel⟩, List.mem_of_getElem? (i := 66) (by decide +kernel), List.mem_of_getElem? (i := 380) (by decide +kernel), List.mem_of_getElem? (i := 381) (by decide +kernel)⟩
theorem lw_p19 : lw_okq (⟨"LightRays", "demandRay", "()V"⟩, 8) := ⟨⟨by decide +kernel, by decide +kernel⟩, List.mem_of_getElem? (i := 15) (by decide +kernel), List.mem_of_getElem? (i := 391) (by decide +kernel), List.mem_of_getElem? (i := 392) (by decide +kernel)⟩
theorem lw_p20 : lw_okq (⟨"LightRays$Path", "hasHit", "(I)Z"⟩, 13) := ⟨⟨by decide +kernel, by decide +kernel⟩, List.mem_of_getElem? (i := 66) (by decide +kernel), List.mem_of_getElem? (i := 403) (by decide +kernel), List.mem_of_getElem? (i := 404) (by decide +kernel)⟩
theorem lw_p21 : lw_okq (⟨"LightRays", "measureAt", "(III)J"⟩, 8) := ⟨⟨by decide +kernel, by decide +kernel⟩, List.mem_of_getElem? (i := 15) (by decide +kernel), List.mem_of_getElem? (i := 437) (by decide +kernel), List.mem_of_getElem? (i := 438) (by decide +kernel)⟩
theorem lw_p22 : lw_okq (⟨"LightRays$Path", "octant", "()I"⟩, 13) := ⟨⟨by decide +kernel, by decide +kernel⟩, List.mem_of_getElem? (i := 66) (by decide +kernel), List.mem_of_getElem? (i := 441) (by decide +kernel), List.mem_of_getElem? (i := 442) (by decide +kernel)⟩
theorem lw_p23 : lw_okq (⟨"LightRaysModel", "arePlaces", "(III)Z"⟩, 38) := ⟨⟨by decide +kernel, by decide +kernel⟩, List.mem_of_getElem? (i := 453) (by decide +kernel), List.mem_of_getElem? (i := 583) (by decide +kernel), List.mem_of_getElem? (i := 584) (by decide +kernel)⟩
theorem lw_p24 : lw_okq (⟨"LightRaysModel", "isPlace", "(I)Z"⟩, 38) := ⟨⟨by decide +kernel, by decide +kernel⟩, List.mem_of_getElem? (i := 453) (by decide +kernel), List.mem_of_getElem? (i := 587) (by decide +kernel), List.mem_of_getElem? (i := 588) (by decide +kernel)⟩
theorem lw_p25 : lw_okq (⟨"LightRaysModel", "isBox", "(I)Z"⟩, 38) := ⟨⟨by decide +kernel, by decide +kernel⟩, List.mem_of_getElem? (i := 453) (by decide +kernel), List.mem_of_getElem? (i := 598) (by decide +kernel), List.mem_of_getElem? (i := 599) (by decide +kernel)⟩
theorem lw_p26 : lw_okq (⟨"LightRaysModel", "go", "(IIIIII)I"⟩, 38) := ⟨⟨by decide +kernel, by decide +kernel⟩, List.mem_of_getElem? (i := 453) (by decide +kernel), List.mem_of_getElem? (i := 613) (by decide +kernel), List.mem_of_getElem? (i := 614) (by decide +kernel)⟩
theorem lw_p27 : lw_okq (⟨"LightRaysModel", "isInSolid", "()Z"⟩, 38) := ⟨⟨by decide +kernel, by decide +kernel⟩, List.mem_of_getElem? (i := 453) (by decide +kernel), List.mem_of_getElem? (i := 618) (by decide +kernel), List.mem_of_getElem? (i := 619) (by decide +kernel)⟩
theorem lw_p28 : lw_okq (⟨"LightRaysModel", "next", "()I"⟩, 38) := ⟨⟨by decide +kernel, by decide +kernel⟩, List.mem_of_getElem? (i := 453) (by decide +kernel), List.mem_of_getElem? (i := 622) (by decide +kernel), List.mem_of_getElem? (i := 623) (by decide +kernel)⟩
theorem lw_p29 : lw_okq (⟨"LightRaysModel", "counts", "(I)Z"⟩, 38) := ⟨⟨by decide +kernel, by decide +kernel⟩, List.mem_of_getElem? (i := 453) (by decide +kernel), List.mem_of_getElem? (i := 626) (by decide +kernel), List.mem_of_getElem? (i := 627) (by decide +kernel)⟩
theorem lw_p30 : lw_okq (⟨"LightRaysModel", "meets", "(I[I[I)Z"⟩, 38) := ⟨⟨by decide +kernel, by decide +kernel⟩, List.mem_of_getElem? (i := 453) (by decide +kernel), List.mem_of_getElem? (i := 630) (by decide +kernel), List.mem_of_getElem? (i := 631) (by decide +kernel)⟩
theorem lw_p31 : lw_okq (⟨"LightRaysModel", "wasIn", "(I)Z"⟩, 38) := ⟨⟨by decide +kernel, by decide +kernel⟩, List.mem_of_getElem? (i := 453) (by decide +kernel), List.mem_of_getElem? (i := 634) (by decide +kernel), List.mem_of_getElem? (i := 635) (by decide +kernel)⟩
def lw_privs_2 : List (MethodName × Nat) := [(⟨"LightRays$Meeting", "copy", "(LLightRays$Meeting;)V"⟩, 4), (⟨"LightRays$Path", "keepHit", "()V"⟩, 13), (⟨"LightRays$Path", "turn", "(LLightRays$Boxes;)V"⟩, 13), (⟨"LightRays", "demandRay", "()V"⟩, 8), (⟨"LightRays$Path", "hasHit", "(I)Z"⟩, 13), (⟨"LightRays", "measureAt", "(III)J"⟩, 8), (⟨"LightRays$Path", "octant", "()I"⟩, 13), (⟨"LightRaysModel", "arePlaces", "(III)Z"⟩, 38), (⟨"LightRaysModel", "isPlace", "(I)Z"⟩, 38), (⟨"LightRaysModel", "isBox", "(I)Z"⟩, 38), (⟨"LightRaysModel", "go", "(IIIIII)I"⟩, 38), (⟨"LightRaysModel", "isInSolid", "()Z"⟩, 38), (⟨"LightRaysModel", "next", "()I"⟩, 38), (⟨"LightRaysModel", "counts", "(I)Z"⟩, 38), (⟨"LightRaysModel", "meets", "(I[I[I)Z"⟩, 38), (⟨"LightRaysModel", "wasIn", "(I)Z"⟩, 38)]
theorem lw_r2 : ∀ q ∈ lw_privs_2, lw_okq q := List.forall_mem_cons.mpr ⟨lw_p16, List.forall_mem_cons.mpr ⟨lw_p17, List.forall_mem_cons.mpr ⟨lw_p18, List.forall_mem_cons.mpr ⟨lw_p19, List.forall_mem_cons.mpr ⟨lw_p20, List.forall_mem_cons.mpr ⟨lw_p21, List.forall_mem_cons.mpr ⟨lw_p22, List.forall_mem_cons.mpr ⟨lw_p23, List.forall_mem_cons.mpr ⟨lw_p24, List.forall_mem_cons.mpr ⟨lw_p25, List.forall_mem_cons.mpr ⟨lw_p26, List.forall_mem_cons.mpr ⟨lw_p27, List.forall_mem_cons.mpr ⟨lw_p28, List.forall_mem_cons.mpr ⟨lw_p29, List.forall_mem_cons.mpr ⟨lw_p30, List.forall_mem_cons.mpr ⟨lw_p31, fun _ h => absurd h List.not_mem_nil⟩⟩⟩⟩⟩⟩⟩⟩⟩⟩⟩⟩⟩⟩⟩⟩
theorem lw_p32 : lw_okq (⟨"LightRaysModel", "keepHit", "(I)V"⟩, 38) := ⟨⟨by decide +kernel, by decide +kernel⟩, List.mem_of_getElem? (i := 453) (by decide +kernel), List.mem_of_getElem? (i := 638) (by decide +kernel), List.mem_of_getElem? (i := 639) (by decide +kernel)⟩
theorem lw_p33 : lw_okq (⟨"LightRaysModel", "remember", "()V"⟩, 38) := ⟨⟨by decide +kernel, by decide +kernel⟩, List.mem_of_getElem? (i := 453) (by decide +kernel), List.mem_of_getElem? (i := 642) (by decide +kernel), List.mem_of_getElem? (i := 643) (by decide +kernel)⟩
theorem lw_p34 : lw_okq (⟨"LightRaysModel", "measureOf", "(III)J"⟩, 38) := ⟨⟨by decide +kernel, by decide +kernel⟩, List.mem_of_getElem? (i := 453) (by decide +kernel), List.mem_of_getElem? (i := 677) (by decide +kernel), List.mem_of_getElem? (i := 678) (by decide +kernel)⟩
def lw_privs_3 : List (MethodName × Nat) := [(⟨"LightRaysModel", "keepHit", "(I)V"⟩, 38), (⟨"LightRaysModel", "remember", "()V"⟩, 38), (⟨"LightRaysModel", "measureOf", "(III)J"⟩, 38)]
theorem lw_r3 : ∀ q ∈ lw_privs_3, lw_okq q := List.forall_mem_cons.mpr ⟨lw_p32, List.forall_mem_cons.mpr ⟨lw_p33, List.forall_mem_cons.mpr ⟨lw_p34, fun _ h => absurd h List.not_mem_nil⟩⟩⟩
def lw_privs : List (MethodName × Nat) := lw_privs_1 ++ (lw_privs_2 ++ (lw_privs_3))
def lw_tbl : List Cond := k2_sels lw_privs ++ tables_1
theorem lw_privs_ok : ∀ q ∈ lw_privs, lw_okq q := by
  show ∀ q ∈ lw_privs_1 ++ (lw_privs_2 ++ (lw_privs_3)), lw_okq q
  exact List.forall_mem_append.mpr ⟨lw_r1, List.forall_mem_append.mpr ⟨lw_r2, lw_r3⟩⟩
/-! ===== BEGIN words of one list among another's, by their places ===== -/
theorem goodIn_r {big : List Cond} (ws : List Cond) (ps : List Nat) (hp : ws = ps.filterMap (fun i => big[i]?)) (h : ws.all goodWord = true) : GoodIn big ws := by
  intro w hw
  have h1 := List.all_eq_true.mp h w hw
  rw [hp] at hw
  obtain ⟨i, -, hi⟩ := List.mem_filterMap.mp hw
  have hm : w ∈ big := by first | exact List.mem_of_getElem? hi | exact List.getElem?_mem hi
  exact ⟨hm, good_of_word h1⟩
theorem goodIn_app {big a b : List Cond} (ha : GoodIn big a) (hb : GoodIn big b) : GoodIn big (a ++ b) := fun w h => (List.mem_append.mp h).elim (ha w) (hb w)
theorem goodIn_ca {big a b : List Cond} {c : Cond} (ha : GoodIn big (c :: a)) (hb : GoodIn big b) : GoodIn big (c :: (a ++ b)) := fun w h => (List.mem_cons.mp h).elim (fun e => ha w (List.mem_cons.mpr (Or.inl e))) (fun h => (List.mem_append.mp h).elim (fun h => ha w (List.mem_cons.mpr (Or.inr h))) (hb w))
theorem goodIn_sub {big ws : List Cond} (hm : ∀ w ∈ ws, w ∈ big) (h : ws.all goodWord = true) : GoodIn big ws := fun w hw => ⟨hm w hw, good_of_word (List.all_eq_true.mp h w hw)⟩
/-! ===== END ===== -/

/-! ===== BEGIN exceptions that leave a method, and their catching by the caller (launches without stack traces) ===== -/
section VXA
/-! The laws vx_back, vx_callV, vx_callS, vx_callSW, vx_throw0, vx_throwS follow proofs of the library, with one case more: JvmDerived/Free/Laws.lean (Back.of_free), Shelf42/LK1.lean (callV, callS), Shelf/KitTraced.lean (throwNew0V, throwNewS). -/
/-- where a method has thrown q: the class by its name, the cell, what was written, the world -/
def vx_T (XC : String → State → State → Prop) (st : State) (q : Addr) (t : State) (mc ms : Nat) (free : Addr → Prop) : Prop :=
  ∃ (E : String) (ce : Cell) (L : List Loc), XC E st t ∧ t.heap[q]? = some ce ∧ ce.vm = .none ∧ st.vm.findClass E = some ce.cls ∧ st.WarmedH t.vm ∧ st.sameButNew ({ t with vm := st.vm } : State) L mc ms ∧ ∀ z ∈ L, free z.base
def vx_Q (Qc : Array Value → State → Outcome → State → Prop) (XC : String → State → State → Prop) (mc ms : Nat) (free : Addr → Prop) : Array Value → State → Outcome → State → Prop := fun a st o t =>
  (Qc a st o t ∧ ∃ L, FrameEnd st o t L mc ms ∧ ∀ q ∈ L, free q.base) ∨ ∃ q, o = .threw q ∧ vx_T XC st q t mc ms free
/-- a callee that returns or throws -/
def vx_Met (l : Launch) (y : MethodName) (ws : List Cond) (rm : Room) (Pc : Array Value → State → Prop) (Qc : Array Value → State → Outcome → State → Prop) (XC : String → State → State → Prop) (mc ms : Nat) (free : Addr → Prop) : Prop :=
  MetFree l y (headSpec ws rm) Pc (fun _ _ _ _ _ => True) (vx_Q Qc XC mc ms free)
def vx_Post (XC : String → State → State → Prop) (mc ms : Nat) (free : Addr → Prop) : Pt → Array Value → Addr → Pt → Prop := fun A a q B =>
  ∃ (g : JFrame) (mk : MethodId) (t : State) (L : List Loc) (E : String) (ce : Cell), B.U.heap = t.heap ∧ B.U.vm = t.vm ∧ XC E (A.U.calling g mk a) t ∧ t.heap[q]? = some ce ∧ ce.vm = .none ∧ A.U.vm.findClass E = some ce.cls ∧ B.locs = A.locs ++ L ∧ (∀ z ∈ L, free z.base) ∧ B.cells = A.cells + mc ∧ B.slots = A.slots + ms
def vx_Back (l : Launch) (R : Room) (p : Program) (e : Env) (below : List Frame) (s : State) (sargs : Array Value) (y : MethodName) (len W9 : Nat)
    (Pre : Pt → Array Value → Prop) (Post : Pt → Array Value → Option Value → Pt → Prop) (PostX : Pt → Array Value → Addr → Pt → Prop) : Prop :=
  ∀ (m : MethodId) (meth : Method) (c : Code) (A : Pt) (g : JFrame) (ig : Instr) (mk : MethodId) (a : Array Value),
    Stand p l e R s m sargs below meth c A.U A.locs A.cells A.slots → g.method = m → g.locals.size = c.maxLocals → decode c.code g.pc = .ok (ig, len) →
    2 * g.monitorRoom + (g.stack.map fun v => v.category).sum ≤ W9 → A.U.methodNamed? y = some mk → Pre A a →
    (∃ (v : Option Value) (B : Pt), Stand p l e R s m sargs below meth c B.U B.locs B.cells B.slots ∧ Post A a v B ∧
      Steps p.tables e below (doInvoke e (A.U.setTop g) [] mk a).1 (B.U.setTop { g with pc := g.pc + len, stack := v.toList ++ g.stack })) ∨
    (∃ (q : Addr) (B : Pt), Stand p l e R s m sargs below meth c B.U B.locs B.cells B.slots ∧ PostX A a q B ∧
      Steps p.tables e below (doInvoke e (A.U.setTop g) [] mk a).1 ((B.U.setTop g).pushFrame (.throwing q)))
section Payer
variable {l : Launch} {R : Room} {p : Program} {e : Env} {below : List Frame} {s : State} {sargs : Array Value} {y : MethodName} {len W9 : Nat}
theorem vx_back {ws : List Cond} {rm : Room} {Pc : Array Value → State → Prop} {Qc : Array Value → State → Outcome → State → Prop} {XC : String → State → State → Prop} {mc ms : Nat} {free : Addr → Prop} {bytes : ByteArray} {maxL : Nat} {ret : Option FieldType}
    (hM : vx_Met l y ws rm Pc Qc XC mc ms free) (hblind : FrameBlind Pc) (hrc : rm.cells = mc) (hrs : rm.slots = ms)
    (hframes : rm.frames + 1 ≤ R.frames) (hlocals : W9 + (maxL + 11) + rm.locals ≤ R.locals)
    (hws : ∀ w ∈ ws, ∀ a' U, s.WarmedH U.vm → w.before a' U = true) (hcode : Cond.code y bytes maxL ret ∈ ws) (hinit : ∀ a' U, s.WarmedH U.vm → (Cond.initialized y.cls).before a' U = true) :
    vx_Back l R p e below s sargs y len W9 (PreOf R mc ms Pc) (PostOf Qc mc ms free) (vx_Post XC mc ms free) := by
  intro m meth c A g ig mk a X hg hsize hdg hW hn hp
  have h1 : (headSpec ws rm).pre.before a A.U = true := atoms_intro fun w hw => hws w hw _ _ X.warmed
  have h2 : (Cond.code y bytes maxL ret).before a A.U = true := hws _ hcode _ _ X.warmed
  have h3 : (Cond.initialized y.cls).before a A.U = true := hinit _ _ X.warmed
  have h4 : A.cells + (headSpec ws rm).room.cells ≤ R.cells := by rw [show (headSpec ws rm).room.cells = mc from hrc]; exact hp.1
  have h5 : A.slots + (headSpec ws rm).room.slots ≤ R.slots := by rw [show (headSpec ws rm).room.slots = ms from hrs]; exact hp.2.1
  have hPc : Pc a (A.U.calling g mk a) := hblind _ _ _ _ hp.2.2
  obtain ⟨U, Ls, c0, s0⟩ := A
  dsimp only [Pt.U, Pt.locs, Pt.cells, Pt.slots] at h1 h2 h3 h4 h5 X hn hPc ⊢
  obtain ⟨methY, cY, hmY, hcY, -, hlY, -, -, -, -⟩ := Cond.code_spec hn h2
  obtain ⟨kY, hkY, -⟩ := className_of_methodNamed hn
  have hinitY : kY.init = .initialized := Cond.initialized_spec (findClass_of_methodNamed hn) hkY h3
  have h : At U g.method c below := by rw [hg]; exact X.here
  have hlocals9 : W9 + (maxL + 11) + (headSpec ws rm).room.locals ≤ R.locals := hlocals
  have happ : (headSpec ws rm).appliesLoose y e.platform (U.calling g mk a) = true :=
    Spec.appliesLoose_calling (g := g) h hdg hn hkY hinitY
      (X.room_calling (g := g) (R' := (headSpec ws rm).room) hsize hmY hcY hframes (by rw [hlY]; omega) h4 h5) h1
  obtain ⟨mid, hmid⟩ := h.above
  have hfr : (U.setTop g).frames = (.java g :: mid) ++ below := by rw [State.frames_setTop' g h.top, hmid]; rfl
  obtain ⟨o, s₂, hsteps, -, hend, hq⟩ := Steps.callFree hM p X.admits X.cas X.clock (acts := []) hfr happ hPc trivial
  have hq' : vx_Q Qc XC mc ms free a (U.calling g mk a) o s₂ := hq
  rw [State.frames_setTop' g h.top] at hend
  obtain ⟨g₀, hg0⟩ := Option.isSome_iff_exists.mp h.top
  obtain ⟨r, hr⟩ := State.topJava?_eq_some.mp hg0
  have hr' : (({ U with heap := s₂.heap, slotsUsed := s₂.slotsUsed } : State).setVm s₂.vm).frames = .java g₀ :: r := hr
  rcases hq' with ⟨hqc, L, hfe, hL⟩ | ⟨q, rfl, E, ce, L, hx, hce, hcv, hcl, hW₂, hsm, hL⟩
  · obtain ⟨⟨v, rfl⟩, hW₂, e2, q2, q3, q4, q5, q6⟩ := id hfe
    have e3 : s₂ = ({ (U.calling g mk a).setFrames s₂.frames with heap := s₂.heap, slotsUsed := s₂.slotsUsed } : State).setVm s₂.vm := by
      have : s₂ = ({ s₂ with vm := (U.calling g mk a).vm } : State).setVm s₂.vm := rfl
      rw [e2] at this
      exact this
    obtain ⟨c₂, i₂, len₂, hc₂, hd₂, hf₂⟩ := hend
    have hW' : U.WarmedH s₂.vm := hW₂
    have hcc : c₂ = c := by
      have h1 : s₂.code? g.method = U.code? g.method := by
        rw [State.code?_eq, State.code?_eq, hW'.alike.method?]
      exact Option.some.inj (hc₂.symm.trans (h1.trans h.code))
    subst hcc
    have hlen : len₂ = len := by rw [hdg] at hd₂; cases hd₂; rfl
    subst hlen
    have hs₂ : s₂ = (({ U with heap := s₂.heap, slotsUsed := s₂.slotsUsed } : State).setVm s₂.vm).setTop { g with pc := g.pc + len₂, stack := v.toList ++ g.stack } := by
      refine e3.trans ?_
      rw [hf₂, State.calling_eq h.top, State.setFrames_setFrames, State.setTop_of_frames _ hr', hr]
      rfl
    have hsame : U.sameButNew ({ U with heap := s₂.heap, slotsUsed := s₂.slotsUsed } : State) L mc ms := by
      refine ⟨?_, q2, q3, q4, q5, q6⟩
      obtain ⟨t, ht, -⟩ := State.frames_cons hr
      show ({ U with heap := s₂.heap, slotsUsed := s₂.slotsUsed } : State) = { U.setFrames U.frames with heap := s₂.heap, slotsUsed := s₂.slotsUsed }
      rw [State.setFrames_self ht]
    subst hg
    refine Or.inl ⟨v, ⟨(({ U with heap := s₂.heap, slotsUsed := s₂.slotsUsed } : State).setVm s₂.vm), Ls ++ L, c0 + mc, s0 + ms⟩,
      ⟨X.admits, X.cas, X.clock, X.frames, X.room, X.hears, X.method, X.code, (X.here.setHeapUsed s₂.heap s₂.slotsUsed).setVm hW'.alike, X.tail, State.WarmedH.trans X.warmed hW', X.limits, X.bytes, X.same.trans (hsame.setVm s.vm)⟩,
      ⟨g, mk, s₂, L, rfl, rfl, hqc, rfl, hL, rfl, rfl⟩, ?_⟩
    show Steps p.tables e below _ ((({ U with heap := s₂.heap, slotsUsed := s₂.slotsUsed } : State).setVm s₂.vm).setTop { g with pc := g.pc + len₂, stack := v.toList ++ g.stack })
    rw [← hs₂]
    exact hsteps
  · obtain ⟨e2, q2, q3, q4, q5, q6⟩ := id hsm
    have e3 : s₂ = ({ (U.calling g mk a).setFrames s₂.frames with heap := s₂.heap, slotsUsed := s₂.slotsUsed } : State).setVm s₂.vm := by
      have : s₂ = ({ s₂ with vm := (U.calling g mk a).vm } : State).setVm s₂.vm := rfl
      rw [e2] at this
      exact this
    have hf₂ : s₂.frames = .throwing q :: .java g :: U.frames.tail := hend
    have hW' : U.WarmedH s₂.vm := hW₂
    have hs₂ : s₂ = ((({ U with heap := s₂.heap, slotsUsed := s₂.slotsUsed } : State).setVm s₂.vm).setTop g).pushFrame (.throwing q) := by
      refine e3.trans ?_
      rw [hf₂, State.calling_eq h.top, State.setFrames_setFrames, State.pushFrame, State.frames_setTop _ hr', State.setTop_of_frames _ hr', State.setFrames_setFrames, hr]
      rfl
    have hsame : U.sameButNew ({ U with heap := s₂.heap, slotsUsed := s₂.slotsUsed } : State) L mc ms := by
      refine ⟨?_, q2, q3, q4, q5, q6⟩
      obtain ⟨t, ht, -⟩ := State.frames_cons hr
      show ({ U with heap := s₂.heap, slotsUsed := s₂.slotsUsed } : State) = { U.setFrames U.frames with heap := s₂.heap, slotsUsed := s₂.slotsUsed }
      rw [State.setFrames_self ht]
    subst hg
    refine Or.inr ⟨q, ⟨(({ U with heap := s₂.heap, slotsUsed := s₂.slotsUsed } : State).setVm s₂.vm), Ls ++ L, c0 + mc, s0 + ms⟩,
      ⟨X.admits, X.cas, X.clock, X.frames, X.room, X.hears, X.method, X.code, (X.here.setHeapUsed s₂.heap s₂.slotsUsed).setVm hW'.alike, X.tail, State.WarmedH.trans X.warmed hW', X.limits, X.bytes, X.same.trans (hsame.setVm s.vm)⟩,
      ⟨g, mk, s₂, L, E, ce, rfl, rfl, hx, hce, hcv, hcl, rfl, hL, rfl, rfl⟩, ?_⟩
    show Steps p.tables e below _ (((({ U with heap := s₂.heap, slotsUsed := s₂.slotsUsed } : State).setVm s₂.vm).setTop g).pushFrame (.throwing q))
    rw [← hs₂]
    exact hsteps
end Payer
section Calls
variable {p : Program} {l : Launch} {e : Env} {R : Room} {s : State} {m : MethodId} {args : Array Value} {below : List Frame} {meth : Method} {c : Code} {T : State} {locs : List Loc} {cells slots : Nat}
theorem vx_callV (X : Stand p l e R s m args below meth c T locs cells slots) (hexec : p.tables.exec = Jvm.exec) {own C : String} {index : Nat} {y : MethodName} {bytes : ByteArray} {maxL : Nat} {ret : Option FieldType}
    (hown : s.vm.findClass own = some m.cls) (hlink : (Cond.methodLink own index y).before args s = true) (hinst : (Cond.instanceMethod y).before args s = true) (hsel : (Cond.selects C y y).before args s = true)
    (hcode : (Cond.code y bytes maxL ret).before args s = true) (hy : y.cls ≠ "java/lang/invoke/MethodHandle" ∧ y.cls ≠ "java/lang/invoke/VarHandle")
    {W9 : Nat} {Pre : Pt → Array Value → Prop} {Post : Pt → Array Value → Option Value → Pt → Prop} {PostX : Pt → Array Value → Addr → Pt → Prop} (hK : vx_Back l R p e below s args y 3 W9 Pre Post PostX)
    {b : Addr} {cellB : Cell} (hcell : T.heap[b]? = some cellB) (hobj : cellB.vm.isStatics = false) (hcls : s.vm.findClass C = some cellB.cls)
    {g : JFrame} (hg : g.method = m) (hsize : g.locals.size = c.maxLocals) {argsL rest : List Value} (hlen : ∀ sig, parseMethodDescriptor y.desc = some sig → argsL.length = sig.parameters.length)
    (hstack : g.stack = argsL.reverse ++ .ref b :: rest) (hW : 2 * g.monitorRoom + (rest.map fun v => v.category).sum ≤ W9) (hdg : decode c.code g.pc = .ok (.invokevirtual index, 3))
    (hpre : ∀ vm₁, s.WarmedH vm₁ → Pre ⟨T.setVm vm₁, locs, cells, slots⟩ (Value.ref b :: argsL).toArray) :
    (∃ (v : Option Value) (vm₁ : Vm) (B : Pt), s.WarmedH vm₁ ∧ Stand p l e R s m args below meth c B.U B.locs B.cells B.slots ∧ Post ⟨T.setVm vm₁, locs, cells, slots⟩ (Value.ref b :: argsL).toArray v B ∧
      ∀ target, Steps p.tables e below (B.U.setTop { g with pc := g.pc + 3, stack := v.toList ++ rest }) target → Steps p.tables e below (T.setTop g) target) ∨
    (∃ (q : Addr) (vm₁ : Vm) (B : Pt), s.WarmedH vm₁ ∧ Stand p l e R s m args below meth c B.U B.locs B.cells B.slots ∧ PostX ⟨T.setVm vm₁, locs, cells, slots⟩ (Value.ref b :: argsL).toArray q B ∧
      Steps p.tables e below (T.setTop g) ((B.U.setTop { g with stack := rest }).pushFrame (.throwing q))) := by
  obtain ⟨mk, methM, hnamed, hmethM, hstM, habM⟩ := Cond.instanceMethod_spec hinst
  obtain ⟨methM', cM, hmethM', -, -, -, -, -, -, hsigM⟩ := Cond.code_spec hnamed hcode
  cases hmethM.symm.trans hmethM'
  obtain ⟨c2, r2, m2, q1, q2, q3, q4, kP, hkP, hkPi⟩ := Cond.selects_spec hsel
  cases hcls.symm.trans q1
  cases (State.methodFound?_of_named hnamed hy).symm.trans q2
  cases hnamed.symm.trans q3
  have hselP : selectMethod e.platform s.vm cellB.cls mk = .method mk := by rw [Launch.admits_selectMethod X.admits]; exact q4
  obtain ⟨vm₁, X₁, hstep₁⟩ := X.invokevirtual hexec hown hlink hnamed hmethM hstM hkP hkPi hy (a := b) (cell := cellB) hcell
    (fun z h => by rw [h] at hobj; cases hobj) hselP hmethM habM hkP hkPi (g := g) hg (argsL := argsL) (rest := rest) (hlen _ hsigM) hstack hdg
  rcases hK m meth c ⟨T.setVm vm₁, locs, cells, slots⟩ { g with stack := rest } (.invokevirtual index) mk (Value.ref b :: argsL).toArray X₁ hg hsize hdg hW (X₁.named hnamed) (hpre vm₁ X₁.warmed) with ⟨v, B, X', hpost, hsteps⟩ | ⟨q, B, X', hpost, hsteps⟩
  · exact Or.inl ⟨v, vm₁, B, X₁.warmed, X', hpost, fun target h => hstep₁ _ fun acts => by rw [doInvoke_state]; exact hsteps.trans h⟩
  · exact Or.inr ⟨q, vm₁, B, X₁.warmed, X', hpost, hstep₁ _ fun acts => by rw [doInvoke_state]; exact hsteps⟩
theorem vx_callS (X : Stand p l e R s m args below meth c T locs cells slots) (hexec : p.tables.exec = Jvm.exec) {own : String} {index : Nat} {y : MethodName} {bytes : ByteArray} {maxL : Nat} {ret : Option FieldType}
    (hown : s.vm.findClass own = some m.cls) (hlink : (Cond.methodLink own index y).before args s = true) (hstat : (Cond.static y).before args s = true) (hinit : (Cond.initialized y.cls).before args s = true)
    (hcode : (Cond.code y bytes maxL ret).before args s = true) (hy : y.cls ≠ "java/lang/invoke/MethodHandle" ∧ y.cls ≠ "java/lang/invoke/VarHandle")
    {W9 : Nat} {Pre : Pt → Array Value → Prop} {Post : Pt → Array Value → Option Value → Pt → Prop} {PostX : Pt → Array Value → Addr → Pt → Prop} (hK : vx_Back l R p e below s args y 3 W9 Pre Post PostX)
    {g : JFrame} (hg : g.method = m) (hsize : g.locals.size = c.maxLocals) {argsL rest : List Value} (hlen : ∀ sig, parseMethodDescriptor y.desc = some sig → argsL.length = sig.parameters.length)
    (hstack : g.stack = argsL.reverse ++ rest) (hW : 2 * g.monitorRoom + (rest.map fun v => v.category).sum ≤ W9) (hdg : decode c.code g.pc = .ok (.invokestatic index, 3))
    (hpre : ∀ vm₁, s.WarmedH vm₁ → Pre ⟨T.setVm vm₁, locs, cells, slots⟩ argsL.toArray) :
    (∃ (v : Option Value) (vm₁ : Vm) (B : Pt), s.WarmedH vm₁ ∧ Stand p l e R s m args below meth c B.U B.locs B.cells B.slots ∧ Post ⟨T.setVm vm₁, locs, cells, slots⟩ argsL.toArray v B ∧
      ∀ target, Steps p.tables e below (B.U.setTop { g with pc := g.pc + 3, stack := v.toList ++ rest }) target → Steps p.tables e below (T.setTop g) target) ∨
    (∃ (q : Addr) (vm₁ : Vm) (B : Pt), s.WarmedH vm₁ ∧ Stand p l e R s m args below meth c B.U B.locs B.cells B.slots ∧ PostX ⟨T.setVm vm₁, locs, cells, slots⟩ argsL.toArray q B ∧
      Steps p.tables e below (T.setTop g) ((B.U.setTop { g with stack := rest }).pushFrame (.throwing q))) := by
  obtain ⟨mk, hnamed⟩ := Cond.code_named hcode
  obtain ⟨methM, cM, hmethM, -, -, -, -, -, -, hsigM⟩ := Cond.code_spec hnamed hcode
  have hstatic : methM.isStatic = true := Cond.static_spec hnamed hmethM hstat
  obtain ⟨kP, hkP, -⟩ := className_of_methodNamed hnamed
  have hinitP : kP.init = .initialized := Cond.initialized_spec (findClass_of_methodNamed hnamed) hkP hinit
  obtain ⟨vm₁, X₁, hstep₁⟩ := X.invokestatic hexec hown hlink hnamed hmethM hstatic hkP hinitP hy (g := g) hg (argsL := argsL) (rest := rest) (hlen _ hsigM) hstack hdg
  rcases hK m meth c ⟨T.setVm vm₁, locs, cells, slots⟩ { g with stack := rest } (.invokestatic index) mk argsL.toArray X₁ hg hsize hdg hW (X₁.named hnamed) (hpre vm₁ X₁.warmed) with ⟨v, B, X', hpost, hsteps⟩ | ⟨q, B, X', hpost, hsteps⟩
  · exact Or.inl ⟨v, vm₁, B, X₁.warmed, X', hpost, fun target h => hstep₁ _ fun acts => by rw [doInvoke_state]; exact hsteps.trans h⟩
  · exact Or.inr ⟨q, vm₁, B, X₁.warmed, X', hpost, hstep₁ _ fun acts => by rw [doInvoke_state]; exact hsteps⟩
end Calls
theorem vx_cls {s : State} {T : State} {vm₁ : Vm} {E : String} {k : ClassId} (hW : s.WarmedH vm₁) (h : (T.setVm vm₁).vm.findClass E = some k) : s.vm.findClass E = some k := by
  have h1 : vm₁.findClass E = some k := h
  rw [hW.alike.findClass] at h1
  exact h1
/-- the method's frame g, with q thrown over it -/
def vx_W (p : Program) (l : Launch) (e : Env) (R : Room) (s : State) (m : MethodId) (args : Array Value) (below : List Frame) (meth : Method) (c : Code) (H : Heap) (locs : List Loc) (cells slots : Nat) (Q : State → Prop) (g : JFrame) (q : Addr) : Prop :=
  ∀ T : State, T.heap = H → Stand p l e R s m args below meth c T locs cells slots → ∃ t, Steps p.tables e below ((T.setTop g).pushFrame (.throwing q)) t ∧ Q t
def vx_Run (p : Program) (l : Launch) (e : Env) (R : Room) (s : State) (m : MethodId) (args : Array Value) (below : List Frame) (meth : Method) (c : Code) (H : Heap) (locs : List Loc) (cells slots mc ms : Nat) (g : JFrame) (rest : List Value) (Qa : State → Outcome → State → Prop) (XC : String → State → State → Prop) (free : Addr → Prop) : Prop :=
  ∀ T : State, T.heap = H → Stand p l e R s m args below meth c T locs cells slots →
    (∃ (v : Option Value) (st₀ t T' : State) (L : List Loc), st₀.heap = H ∧ Stand p l e R s m args below meth c T' (locs ++ L) (cells + mc) (slots + ms) ∧ (∀ q ∈ L, free q.base) ∧ T'.heap = t.heap ∧ T'.vm = t.vm ∧ Qa st₀ (.returned v) t ∧
      Goes p e below T g T' { g with pc := g.pc + 3, stack := v.toList ++ rest }) ∨
    (∃ (q : Addr) (st₀ t T' : State) (L : List Loc) (E : String) (ce : Cell), st₀.heap = H ∧ Stand p l e R s m args below meth c T' (locs ++ L) (cells + mc) (slots + ms) ∧ (∀ z ∈ L, free z.base) ∧ T'.heap = t.heap ∧ T'.vm = t.vm ∧ XC E st₀ t ∧ t.heap[q]? = some ce ∧ ce.vm = .none ∧ s.vm.findClass E = some ce.cls ∧
      Steps p.tables e below (T.setTop g) ((T'.setTop { g with stack := rest }).pushFrame (.throwing q)))
def vx_X {S : Type} (px : S → Prop) (B : String → S → State → Prop) (A : Nat → Prop) : String → State → State → Prop := fun E st t => ∃ u : S, px u ∧ B E u t ∧ va_F A st t
section Runs
variable {p : Program} {l : Launch} {e : Env} {R : Room} {s : State} {m : MethodId} {args : Array Value} {below : List Frame} {meth : Method} {c : Code} {H : Heap} {locs : List Loc} {cells slots : Nat}
variable {y : MethodName} {bytes cc : ByteArray} {maxL nL mc ms n index : Nat} {ret : Option FieldType} {ws : List Cond} {rm : Room} {Pc : Array Value → State → Prop} {Qc : Array Value → State → Outcome → State → Prop} {XC : String → State → State → Prop} {free : Addr → Prop} {Ts : List Cond} {own C : String} {b : Addr} {As rest : List Value} {g : JFrame}
theorem vx_callBack (cb : CallB R s args own index y bytes maxL ret ws rm mc ms n) (hM : vx_Met l y ws rm Pc Qc XC mc ms free) (hbl : FrameBlind Pc) : vx_Back l R p e below s args y 3 8 (PreOf R mc ms Pc) (PostOf Qc mc ms free) (vx_Post XC mc ms free) := by
  obtain ⟨hrc, hrs, hfr, hlo, hws, hcw, -, hini, -⟩ := cb
  exact vx_back (bytes := bytes) (maxL := maxL) (ret := ret) hM hbl hrc hrs hfr hlo hws hcw (fun a' U hW => word_at hW (Or.inl (by first | rfl | simp [Cond.onTables, Cond.keeps, Cond.steady])) hini)
theorem vx_runV (S : CallFix p m c cc nL s args Ts own) (hM : vx_Met l y ws rm Pc Qc XC mc ms free) (cw : CallW R s args own C index y bytes maxL ret ws rm mc ms n) (hp : PreV s H C b Pc As)
    (hg : g.method = m) (hn : As.length = n) (hsize : g.locals.size = nL) (hstack : g.stack = As.reverse ++ .ref b :: rest) (hW : 2 * g.monitorRoom + (rest.map fun v => v.category).sum ≤ 8) (hdg : decode cc g.pc = .ok (.invokevirtual index, 3)) (hf : cells + mc ≤ R.cells ∧ slots + ms ≤ R.slots) :
    vx_Run p l e R s m args below meth c H locs cells slots mc ms g rest (Qc (Value.ref b :: As).toArray) XC free := by
  have hK : vx_Back l R p e below s args y 3 8 (PreOf R mc ms Pc) (PostOf Qc mc ms free) (vx_Post XC mc ms free) := vx_callBack cw.1 hM hp.1
  obtain ⟨⟨-, -, -, -, -, -, hcode, -, hy, hlen, hl⟩, hin, hse⟩ := cw
  obtain ⟨hx, hb, hml, ho, -⟩ := S
  obtain ⟨-, ⟨cellB, hcB, hoB, hclB⟩, hPc⟩ := hp
  intro T hT X
  rcases vx_callV X hx (C := C) (bytes := bytes) (maxL := maxL) (ret := ret) ho hl hin hse hcode hy hK (by rw [hT]; exact hcB) hoB hclB hg (hsize.trans hml.symm) (argsL := As) (rest := rest) (fun sig h => hn.trans (hlen sig h)) hstack hW (by rw [hb]; exact hdg)
    (fun vm₁ hW₁ => ⟨hf.1, hf.2, hPc (T.setVm vm₁) hT hW₁⟩) with ⟨v, vm₁, ⟨U', l2, c2, s2⟩, hW₁, X', ⟨g', mk, t, L, e1, e2, hq, h1, hL, h2, h3⟩, st⟩ | ⟨q, vm₁, ⟨U', l2, c2, s2⟩, hW₁, X', ⟨g', mk, t, L, E, ce, e1, e2, hq, hce, hcv, hcl, h1, hL, h2, h3⟩, st⟩
  · dsimp only [Pt.U, Pt.locs, Pt.cells, Pt.slots] at X' e1 e2 h1 h2 h3 st
    subst h1; subst h2; subst h3
    exact Or.inl ⟨v, (T.setVm vm₁).calling g' mk (Value.ref b :: As).toArray, t, U', L, hT, X', hL, e1, e2, hq, st⟩
  · dsimp only [Pt.U, Pt.locs, Pt.cells, Pt.slots] at X' e1 e2 h1 h2 h3 st hcl
    subst h1; subst h2; subst h3
    exact Or.inr ⟨q, (T.setVm vm₁).calling g' mk (Value.ref b :: As).toArray, t, U', L, E, ce, hT, X', hL, e1, e2, hq, hce, hcv, vx_cls hW₁ hcl, st⟩
theorem vx_runS (S : CallFix p m c cc nL s args Ts own) (hM : vx_Met l y ws rm Pc Qc XC mc ms free) (cw : CallB R s args own index y bytes maxL ret ws rm mc ms n ∧ (Cond.static y).before args s = true) (hp : PreS s H Pc As)
    (hg : g.method = m) (hn : As.length = n) (hsize : g.locals.size = nL) (hstack : g.stack = As.reverse ++ rest) (hW : 2 * g.monitorRoom + (rest.map fun v => v.category).sum ≤ 8) (hdg : decode cc g.pc = .ok (.invokestatic index, 3)) (hf : cells + mc ≤ R.cells ∧ slots + ms ≤ R.slots) :
    vx_Run p l e R s m args below meth c H locs cells slots mc ms g rest (Qc As.toArray) XC free := by
  have hK : vx_Back l R p e below s args y 3 8 (PreOf R mc ms Pc) (PostOf Qc mc ms free) (vx_Post XC mc ms free) := vx_callBack cw.1 hM hp.1
  obtain ⟨⟨-, -, -, -, -, -, hcode, hini, hy, hlen, hl⟩, hstt⟩ := cw
  obtain ⟨hx, hb, hml, ho, -⟩ := S
  intro T hT X
  rcases vx_callS X hx (bytes := bytes) (maxL := maxL) (ret := ret) ho hl hstt hini hcode hy hK hg (hsize.trans hml.symm) (argsL := As) (rest := rest) (fun sig h => hn.trans (hlen sig h)) hstack hW (by rw [hb]; exact hdg)
    (fun vm₁ hW₁ => ⟨hf.1, hf.2, hp.2 (T.setVm vm₁) hT hW₁⟩) with ⟨v, vm₁, ⟨U', l2, c2, s2⟩, hW₁, X', ⟨g', mk, t, L, e1, e2, hq, h1, hL, h2, h3⟩, st⟩ | ⟨q, vm₁, ⟨U', l2, c2, s2⟩, hW₁, X', ⟨g', mk, t, L, E, ce, e1, e2, hq, hce, hcv, hcl, h1, hL, h2, h3⟩, st⟩
  · dsimp only [Pt.U, Pt.locs, Pt.cells, Pt.slots] at X' e1 e2 h1 h2 h3 st
    subst h1; subst h2; subst h3
    exact Or.inl ⟨v, (T.setVm vm₁).calling g' mk As.toArray, t, U', L, hT, X', hL, e1, e2, hq, st⟩
  · dsimp only [Pt.U, Pt.locs, Pt.cells, Pt.slots] at X' e1 e2 h1 h2 h3 st hcl
    subst h1; subst h2; subst h3
    exact Or.inr ⟨q, (T.setVm vm₁).calling g' mk As.toArray, t, U', L, E, ce, hT, X', hL, e1, e2, hq, hce, hcv, vx_cls hW₁ hcl, st⟩
end Runs
section Rows
variable {p : Program} {l : Launch} {e : Env} {R : Room} {s : State} {m : MethodId} {args : Array Value} {below : List Frame} {meth : Method} {c : Code} {H : Heap} {locs : List Loc} {cells slots : Nat} {Q : State → Prop}
variable {mc ms : Nat} {free : Addr → Prop} {A0 A1 : Nat → Prop} {H0 : Heap} {a : Array Value} {pc : Nat} {ls : Array Slot} {st0 rest : List Value}
theorem vx_keep {st₀ t T' : State} {L : List Loc} (h0 : st₀.heap = H) (e1 : T'.heap = t.heap) (hS : va_S A0 H0 H locs) (hA : ∀ q, q < H.size → A1 q → A0 q) (hf : ∀ q, free q → A0 q) (hL : ∀ q ∈ L, free q.base) (hF : va_F A1 st₀ t) :
    H.size ≤ T'.heap.size ∧ (∀ q : Nat, q < H.size → ¬ A1 q → T'.heap[q]? = H[q]?) ∧ va_S A0 H0 T'.heap (locs ++ L) := by
  obtain ⟨hz, hk⟩ := hF
  rw [h0] at hz hk
  exact ⟨by rw [e1]; exact hz, fun q h1 h2 => by rw [e1]; exact hk q h1 h2,
    ⟨Nat.le_trans hS.1 (by rw [e1]; exact hz), fun q h1 h2 => by rw [e1, hk q (Nat.lt_of_lt_of_le h1 hS.1) (fun z => h2 (hA q (Nat.lt_of_lt_of_le h1 hS.1) z))]; exact hS.2.1 q h1 h2, fun q hq => by
      rcases List.mem_append.mp hq with h | h
      · exact hS.2.2 q h
      · exact hf _ (hL q h)⟩⟩
theorem vx_calli {S SX : Type} {post : Int32 → S → Prop} {px : SX → Prop} {B : S → State → Prop} {BX : String → SX → State → Prop} {AX : Nat → Prop} (hr : vx_Run p l e R s m args below meth c H locs cells slots mc ms (F0 m pc ls st0) rest (va_Qi post B A1 a) (vx_X px BX AX) free) (hS : va_S A0 H0 H locs) (hA : ∀ q, q < H.size → A1 q → A0 q) (hf : ∀ q, free q → A0 q) (hAX : ∀ q, q < H.size → AX q → A0 q)
    (kx : ∀ (E : String) (ce : Cell) (q9 : Addr) (u : SX) (t : State) (H1 : Heap) (locs1 : List Loc), t.heap = H1 → s.vm.Alike t.vm → px u → BX E u t → H.size ≤ H1.size → (∀ q : Nat, q < H.size → ¬ AX q → H1[q]? = H[q]?) → va_S A0 H0 H1 locs1 → H1[q9]? = some ce → ce.vm = .none → s.vm.findClass E = some ce.cls → vx_W p l e R s m args below meth c H1 locs1 (cells + mc) (slots + ms) Q (F0 m pc ls rest) q9)
    (kk : ∀ (r : Int32) (u : S) (t : State) (H1 : Heap) (locs1 : List Loc), t.heap = H1 → s.vm.Alike t.vm → post r u → B u t → H.size ≤ H1.size → (∀ q : Nat, q < H.size → ¬ A1 q → H1[q]? = H[q]?) → va_S A0 H0 H1 locs1 → W p l e R s m args below meth c H1 locs1 (cells + mc) (slots + ms) Q (F0 m (pc + 3) ls (.int r :: rest))) : W p l e R s m args below meth c H locs cells slots Q (F0 m pc ls st0) := by
  intro T hT X
  rcases hr T hT X with ⟨v, st₀, t, T', L, h0, X', hL, e1, e2, ⟨⟨r, u, hv, hp, hb⟩, hF⟩, st⟩ | ⟨q, st₀, t, T', L, E, ce, h0, X', hL, e1, e2, ⟨u, hp, hb, hF⟩, hce, hcv, hcl, st⟩
  · cases hv
    obtain ⟨k1, k2, k3⟩ := vx_keep h0 e1 hS hA hf hL hF
    obtain ⟨t2, a1, b1⟩ := kk r u t T'.heap (locs ++ L) e1.symm (by rw [← e2]; exact X'.warmed.alike) hp hb k1 k2 k3 T' rfl X'
    exact ⟨t2, st t2 a1, b1⟩
  · obtain ⟨k1, k2, k3⟩ := vx_keep h0 e1 hS hAX hf hL hF
    obtain ⟨t2, a1, b1⟩ := kx E ce q u t T'.heap (locs ++ L) e1.symm (by rw [← e2]; exact X'.warmed.alike) hp hb k1 k2 k3 (by rw [e1]; exact hce) hcv hcl T' rfl X'
    exact ⟨t2, st.trans a1, b1⟩
theorem vx_calll {S SX : Type} {post : Int64 → S → Prop} {px : SX → Prop} {B : S → State → Prop} {BX : String → SX → State → Prop} {AX : Nat → Prop} (hr : vx_Run p l e R s m args below meth c H locs cells slots mc ms (F0 m pc ls st0) rest (va_Ql post B A1 a) (vx_X px BX AX) free) (hS : va_S A0 H0 H locs) (hA : ∀ q, q < H.size → A1 q → A0 q) (hf : ∀ q, free q → A0 q) (hAX : ∀ q, q < H.size → AX q → A0 q)
    (kx : ∀ (E : String) (ce : Cell) (q9 : Addr) (u : SX) (t : State) (H1 : Heap) (locs1 : List Loc), t.heap = H1 → s.vm.Alike t.vm → px u → BX E u t → H.size ≤ H1.size → (∀ q : Nat, q < H.size → ¬ AX q → H1[q]? = H[q]?) → va_S A0 H0 H1 locs1 → H1[q9]? = some ce → ce.vm = .none → s.vm.findClass E = some ce.cls → vx_W p l e R s m args below meth c H1 locs1 (cells + mc) (slots + ms) Q (F0 m pc ls rest) q9)
    (kk : ∀ (r : Int64) (u : S) (t : State) (H1 : Heap) (locs1 : List Loc), t.heap = H1 → s.vm.Alike t.vm → post r u → B u t → H.size ≤ H1.size → (∀ q : Nat, q < H.size → ¬ A1 q → H1[q]? = H[q]?) → va_S A0 H0 H1 locs1 → W p l e R s m args below meth c H1 locs1 (cells + mc) (slots + ms) Q (F0 m (pc + 3) ls (.long r :: rest))) : W p l e R s m args below meth c H locs cells slots Q (F0 m pc ls st0) := by
  intro T hT X
  rcases hr T hT X with ⟨v, st₀, t, T', L, h0, X', hL, e1, e2, ⟨⟨r, u, hv, hp, hb⟩, hF⟩, st⟩ | ⟨q, st₀, t, T', L, E, ce, h0, X', hL, e1, e2, ⟨u, hp, hb, hF⟩, hce, hcv, hcl, st⟩
  · cases hv
    obtain ⟨k1, k2, k3⟩ := vx_keep h0 e1 hS hA hf hL hF
    obtain ⟨t2, a1, b1⟩ := kk r u t T'.heap (locs ++ L) e1.symm (by rw [← e2]; exact X'.warmed.alike) hp hb k1 k2 k3 T' rfl X'
    exact ⟨t2, st t2 a1, b1⟩
  · obtain ⟨k1, k2, k3⟩ := vx_keep h0 e1 hS hAX hf hL hF
    obtain ⟨t2, a1, b1⟩ := kx E ce q u t T'.heap (locs ++ L) e1.symm (by rw [← e2]; exact X'.warmed.alike) hp hb k1 k2 k3 (by rw [e1]; exact hce) hcv hcl T' rfl X'
    exact ⟨t2, st.trans a1, b1⟩
theorem vx_callf {S SX : Type} {post : UInt32 → S → Prop} {px : SX → Prop} {B : S → State → Prop} {BX : String → SX → State → Prop} {AX : Nat → Prop} (hr : vx_Run p l e R s m args below meth c H locs cells slots mc ms (F0 m pc ls st0) rest (va_Qf post B A1 a) (vx_X px BX AX) free) (hS : va_S A0 H0 H locs) (hA : ∀ q, q < H.size → A1 q → A0 q) (hf : ∀ q, free q → A0 q) (hAX : ∀ q, q < H.size → AX q → A0 q)
    (kx : ∀ (E : String) (ce : Cell) (q9 : Addr) (u : SX) (t : State) (H1 : Heap) (locs1 : List Loc), t.heap = H1 → s.vm.Alike t.vm → px u → BX E u t → H.size ≤ H1.size → (∀ q : Nat, q < H.size → ¬ AX q → H1[q]? = H[q]?) → va_S A0 H0 H1 locs1 → H1[q9]? = some ce → ce.vm = .none → s.vm.findClass E = some ce.cls → vx_W p l e R s m args below meth c H1 locs1 (cells + mc) (slots + ms) Q (F0 m pc ls rest) q9)
    (kk : ∀ (r : UInt32) (u : S) (t : State) (H1 : Heap) (locs1 : List Loc), t.heap = H1 → s.vm.Alike t.vm → post r u → B u t → H.size ≤ H1.size → (∀ q : Nat, q < H.size → ¬ A1 q → H1[q]? = H[q]?) → va_S A0 H0 H1 locs1 → W p l e R s m args below meth c H1 locs1 (cells + mc) (slots + ms) Q (F0 m (pc + 3) ls (.float r :: rest))) : W p l e R s m args below meth c H locs cells slots Q (F0 m pc ls st0) := by
  intro T hT X
  rcases hr T hT X with ⟨v, st₀, t, T', L, h0, X', hL, e1, e2, ⟨⟨r, u, hv, hp, hb⟩, hF⟩, st⟩ | ⟨q, st₀, t, T', L, E, ce, h0, X', hL, e1, e2, ⟨u, hp, hb, hF⟩, hce, hcv, hcl, st⟩
  · cases hv
    obtain ⟨k1, k2, k3⟩ := vx_keep h0 e1 hS hA hf hL hF
    obtain ⟨t2, a1, b1⟩ := kk r u t T'.heap (locs ++ L) e1.symm (by rw [← e2]; exact X'.warmed.alike) hp hb k1 k2 k3 T' rfl X'
    exact ⟨t2, st t2 a1, b1⟩
  · obtain ⟨k1, k2, k3⟩ := vx_keep h0 e1 hS hAX hf hL hF
    obtain ⟨t2, a1, b1⟩ := kx E ce q u t T'.heap (locs ++ L) e1.symm (by rw [← e2]; exact X'.warmed.alike) hp hb k1 k2 k3 (by rw [e1]; exact hce) hcv hcl T' rfl X'
    exact ⟨t2, st.trans a1, b1⟩
theorem vx_calld {S SX : Type} {post : UInt64 → S → Prop} {px : SX → Prop} {B : S → State → Prop} {BX : String → SX → State → Prop} {AX : Nat → Prop} (hr : vx_Run p l e R s m args below meth c H locs cells slots mc ms (F0 m pc ls st0) rest (va_Qd post B A1 a) (vx_X px BX AX) free) (hS : va_S A0 H0 H locs) (hA : ∀ q, q < H.size → A1 q → A0 q) (hf : ∀ q, free q → A0 q) (hAX : ∀ q, q < H.size → AX q → A0 q)
    (kx : ∀ (E : String) (ce : Cell) (q9 : Addr) (u : SX) (t : State) (H1 : Heap) (locs1 : List Loc), t.heap = H1 → s.vm.Alike t.vm → px u → BX E u t → H.size ≤ H1.size → (∀ q : Nat, q < H.size → ¬ AX q → H1[q]? = H[q]?) → va_S A0 H0 H1 locs1 → H1[q9]? = some ce → ce.vm = .none → s.vm.findClass E = some ce.cls → vx_W p l e R s m args below meth c H1 locs1 (cells + mc) (slots + ms) Q (F0 m pc ls rest) q9)
    (kk : ∀ (r : UInt64) (u : S) (t : State) (H1 : Heap) (locs1 : List Loc), t.heap = H1 → s.vm.Alike t.vm → post r u → B u t → H.size ≤ H1.size → (∀ q : Nat, q < H.size → ¬ A1 q → H1[q]? = H[q]?) → va_S A0 H0 H1 locs1 → W p l e R s m args below meth c H1 locs1 (cells + mc) (slots + ms) Q (F0 m (pc + 3) ls (.double r :: rest))) : W p l e R s m args below meth c H locs cells slots Q (F0 m pc ls st0) := by
  intro T hT X
  rcases hr T hT X with ⟨v, st₀, t, T', L, h0, X', hL, e1, e2, ⟨⟨r, u, hv, hp, hb⟩, hF⟩, st⟩ | ⟨q, st₀, t, T', L, E, ce, h0, X', hL, e1, e2, ⟨u, hp, hb, hF⟩, hce, hcv, hcl, st⟩
  · cases hv
    obtain ⟨k1, k2, k3⟩ := vx_keep h0 e1 hS hA hf hL hF
    obtain ⟨t2, a1, b1⟩ := kk r u t T'.heap (locs ++ L) e1.symm (by rw [← e2]; exact X'.warmed.alike) hp hb k1 k2 k3 T' rfl X'
    exact ⟨t2, st t2 a1, b1⟩
  · obtain ⟨k1, k2, k3⟩ := vx_keep h0 e1 hS hAX hf hL hF
    obtain ⟨t2, a1, b1⟩ := kx E ce q u t T'.heap (locs ++ L) e1.symm (by rw [← e2]; exact X'.warmed.alike) hp hb k1 k2 k3 (by rw [e1]; exact hce) hcv hcl T' rfl X'
    exact ⟨t2, st.trans a1, b1⟩
theorem vx_callv {S SX : Type} {post : S → Prop} {px : SX → Prop} {B : S → State → Prop} {BX : String → SX → State → Prop} {AX : Nat → Prop} (hr : vx_Run p l e R s m args below meth c H locs cells slots mc ms (F0 m pc ls st0) rest (va_Qv post B A1 a) (vx_X px BX AX) free) (hS : va_S A0 H0 H locs) (hA : ∀ q, q < H.size → A1 q → A0 q) (hf : ∀ q, free q → A0 q) (hAX : ∀ q, q < H.size → AX q → A0 q)
    (kx : ∀ (E : String) (ce : Cell) (q9 : Addr) (u : SX) (t : State) (H1 : Heap) (locs1 : List Loc), t.heap = H1 → s.vm.Alike t.vm → px u → BX E u t → H.size ≤ H1.size → (∀ q : Nat, q < H.size → ¬ AX q → H1[q]? = H[q]?) → va_S A0 H0 H1 locs1 → H1[q9]? = some ce → ce.vm = .none → s.vm.findClass E = some ce.cls → vx_W p l e R s m args below meth c H1 locs1 (cells + mc) (slots + ms) Q (F0 m pc ls rest) q9)
    (kk : ∀ (u : S) (t : State) (H1 : Heap) (locs1 : List Loc), t.heap = H1 → s.vm.Alike t.vm → post u → B u t → H.size ≤ H1.size → (∀ q : Nat, q < H.size → ¬ A1 q → H1[q]? = H[q]?) → va_S A0 H0 H1 locs1 → W p l e R s m args below meth c H1 locs1 (cells + mc) (slots + ms) Q (F0 m (pc + 3) ls (rest))) : W p l e R s m args below meth c H locs cells slots Q (F0 m pc ls st0) := by
  intro T hT X
  rcases hr T hT X with ⟨v, st₀, t, T', L, h0, X', hL, e1, e2, ⟨⟨u, hv, hp, hb⟩, hF⟩, st⟩ | ⟨q, st₀, t, T', L, E, ce, h0, X', hL, e1, e2, ⟨u, hp, hb, hF⟩, hce, hcv, hcl, st⟩
  · cases hv
    obtain ⟨k1, k2, k3⟩ := vx_keep h0 e1 hS hA hf hL hF
    obtain ⟨t2, a1, b1⟩ := kk u t T'.heap (locs ++ L) e1.symm (by rw [← e2]; exact X'.warmed.alike) hp hb k1 k2 k3 T' rfl X'
    exact ⟨t2, st t2 a1, b1⟩
  · obtain ⟨k1, k2, k3⟩ := vx_keep h0 e1 hS hAX hf hL hF
    obtain ⟨t2, a1, b1⟩ := kx E ce q u t T'.heap (locs ++ L) e1.symm (by rw [← e2]; exact X'.warmed.alike) hp hb k1 k2 k3 (by rw [e1]; exact hce) hcv hcl T' rfl X'
    exact ⟨t2, st.trans a1, b1⟩
/-- caught by the row x of this method's table; the rows ahead don't take it -/
theorem vx_catch {own name : String} {E : String} {ce : Cell} {q : Addr} (hown : s.vm.findClass own = some m.cls) (pre : List ExceptionTableEntry) (x : ExceptionTableEntry) (suf : List ExceptionTableEntry) (hsplit : c.exceptionTable.toList = pre ++ x :: suf)
    (hpass : ∀ z ∈ pre, covers z pc = false ∨ (z.catchType ≠ 0 ∧ ∃ nm : String, (Cond.classLink own z.catchType nm).before args s = true ∧ va_Nc E nm s)) (hx : covers x pc = true) (h0 : x.catchType ≠ 0)
    (hlink : (Cond.classLink own x.catchType name).before args s = true) (hcast : (Cond.castable E name).before args s = true) (hcell : H[q]? = some ce) (hv : ce.vm = .none) (hcl : s.vm.findClass E = some ce.cls)
    (kk : W p l e R s m args below meth c H locs cells slots Q (F0 m x.handlerPc ls [.ref q])) : vx_W p l e R s m args below meth c H locs cells slots Q (F0 m pc ls rest) q := by
  intro T hT X
  have hpl : e.platform.magicAccessors = ({} : Platform).magicAccessors := by rw [X.admits.platform]
  obtain ⟨c3, c4, hc3, hc4, hasg⟩ := Cond.castable_spec hcast
  cases Option.some.inj (hc3.symm.trans hcl)
  obtain ⟨c5, hc5, hcl5⟩ := Cond.classLink_spec hown hlink e.platform hpl
  cases Option.some.inj (hc4.symm.trans hc5)
  obtain ⟨vm', X', st⟩ := X.thenCaughtThrough q (g := F0 m pc ls rest) rfl (Steps.refl _) (by rw [hT]; exact hcell) (by rw [hv]; rfl) (by obtain ⟨k9, h9, -⟩ := Vm.findClass_spec hcl; exact ⟨k9, h9⟩) pre x suf hsplit
    (fun z hz => by
      rcases hpass z hz with h | ⟨hz0, nm, hl1, hn1⟩
      · exact Or.inl h
      · obtain ⟨c6, hc6, hcl6⟩ := Cond.classLink_spec hown hl1 e.platform hpl
        obtain ⟨a8, b8, h1, h2, h3⟩ := hn1
        cases Option.some.inj (h1.symm.trans hcl)
        cases Option.some.inj (h2.symm.trans hc6)
        exact Or.inr ⟨hz0, _, hcl6, h3⟩) hx (Or.inr ⟨h0, c4, hcl5, hasg⟩)
  obtain ⟨t, a1, b1⟩ := kk (T.setVm vm') hT X'
  exact ⟨t, st.trans a1, b1⟩
end Rows
section Ends
variable {p : Program} {l : Launch} {e : Env} {R : Room} {s : State} {m : MethodId} {args : Array Value} {below : List Frame} {meth : Method} {c : Code} {H : Heap} {locs : List Loc} {cells slots : Nat} {Q : State → Prop}
variable {mc ms : Nat} {free : Addr → Prop} {A0 A1 : Nat → Prop} {H0 : Heap} {a : Array Value} {ls : Array Slot} {st0 rest : List Value}
variable {Qc : Array Value → State → Outcome → State → Prop} {XC : String → State → State → Prop}
/-- what a body that may throw owes at its end -/
def vx_MQ (below : List Frame) (Qc : Array Value → State → Outcome → State → Prop) (XC : String → State → State → Prop) (a : Array Value) (s : State) (mc ms : Nat) (free : Addr → Prop) : State → Prop := fun t =>
  ∃ o, t.status = .running ∧ Ended t below o ∧ vx_Q Qc XC mc ms free a s o t
theorem vx_ret {g : JFrame} {mc ms : Nat} (k : W p l e R s m args below meth c H locs cells slots (MQ below Qc args s mc ms free) g) : W p l e R s m args below meth c H locs cells slots (vx_MQ below Qc XC args s mc ms free) g := by
  intro T hT X
  obtain ⟨t, a1, o, b1, b2, b3, b4⟩ := k T hT X
  exact ⟨t, a1, o, b1, b2, Or.inl ⟨b3, b4⟩⟩
/-- not caught here: it goes on to the caller -/
theorem vx_widen {g : JFrame} {q : Addr} {k n : Nat} (h1 : cells ≤ k) (h2 : slots ≤ n) (kk : vx_W p l e R s m args below meth c H locs k n Q g q) : vx_W p l e R s m args below meth c H locs cells slots Q g q := fun T hT X => kk T hT (stand_widen X h1 h2)
theorem vx_out {pc : Nat} {E : String} {ce : Cell} {q : Addr} {mc ms : Nat} (hout : ∀ x ∈ c.exceptionTable.toList, covers x pc = false) (hlocks : meth.locks = false) (hcell : H[q]? = some ce) (hv : ce.vm = .none) (hcl : s.vm.findClass E = some ce.cls)
    (hx : ∀ t : State, t.heap = H → s.vm.Alike t.vm → XC E s t) (hf : ∀ z ∈ locs, free z.base) (hc : cells ≤ mc) (hs : slots ≤ ms) :
    vx_W p l e R s m args below meth c H locs cells slots (vx_MQ below Qc XC args s mc ms free) (F0 m pc ls rest) q := by
  intro T hT X
  obtain ⟨st1, hrun, hend, hW, hsm⟩ := X.leaveThrown q (g := F0 m pc ls rest) rfl rfl rfl hout hlocks
  have hcell9 : (T.setFrames (.throwing q :: below)).heap[q]? = some ce := by
    show T.heap[q]? = some ce
    rw [hT]; exact hcell
  exact ⟨_, st1, .threw q, hrun, hend, Or.inr ⟨q, rfl, E, ce, locs, hx _ hT hW.alike, hcell9, hv, hcl, hW, hsm.mono hc hs, hf⟩⟩
theorem vx_frame {U : State} {k n : Nat} (h : s.sameButNew ({ U with vm := s.vm } : State) locs k n) : s.heap.size ≤ U.heap.size ∧ ∀ q : Nat, q < s.heap.size → (∀ z ∈ locs, z.base ≠ q) → U.heap[q]? = s.heap[q]? := by
  obtain ⟨-, h2, -, -, -, h6⟩ := h
  refine ⟨h2, fun q hq hz => ?_⟩
  obtain ⟨c9, e1, e2, e3, e4⟩ := h6 q _ (Array.getElem?_eq_getElem hq)
  have hs : c9.slots = (s.heap[q]).slots := Array.ext_getElem? fun i => e4 i fun hm => hz _ hm rfl
  have h9 : c9 = s.heap[q] := by
    rw [hs] at e2
    exact e2
  have e5 : U.heap[q]? = some c9 := e1
  rw [e5, h9, Array.getElem?_eq_getElem hq]
/-- the words of a throw but the four that speak of the heap -/
def vx_no (w : Cond) : Bool := decide (w ≠ .isRef (.static Bundle.tN "UNASSIGNED_STACK" Bundle.steD)) && decide (w ≠ .isRef (.static Bundle.tN "SUPPRESSED_SENTINEL" Bundle.listD)) && decide (w ≠ .laysStatic Bundle.tN "UNASSIGNED_STACK" Bundle.steD) && decide (w ≠ .laysStatic Bundle.tN "SUPPRESSED_SENTINEL" Bundle.listD)
def vx_at0 (own : String) (ic : Nat) (X : String) (names : List String) : List Cond := (Bundle.ownAtoms0 own ic X names).filter vx_no
def vx_atS (own : String) (ic : Nat) (X : String) (names : List String) : List Cond := (Bundle.ownAtoms own ic X names).filter vx_no
/-- a word that the tables alone decide, or a good one -/
def vx_ot (w : Cond) : Bool := w.onTables || goodWord w
theorem vx_ot_at {args a' : Array Value} {s U : State} {w : Cond} (hW : s.WarmedH U.vm) (hvm : s.vm = U.vm) (hg : vx_ot w = true) (h : w.before args s = true) : w.before a' U = true := by
  simp only [vx_ot, Bool.or_eq_true] at hg
  rcases hg with hg | hg
  · exact va_tabs hg hvm h
  · exact word_at hW (good_of_word hg) h
/-- a list's words: the good ones out of the method's own list, the others by premises of their own -/
theorem vx_hat {args : Array Value} {s : State} {L B : List Cond} (h1 : ∀ w ∈ L.filter goodWord, w.before args s = true) (h2 : ∀ w ∈ L.filter (fun w => !goodWord w), w ∈ B) (h3 : ∀ w ∈ B, w.before args s = true) : ∀ w ∈ L, w.before args s = true := by
  intro w hw
  by_cases g : goodWord w = true
  · exact h1 w (List.mem_filter.mpr ⟨hw, g⟩)
  · refine h3 w (h2 w (List.mem_filter.mpr ⟨hw, ?_⟩))
    show (!goodWord w) = true
    cases hgw : goodWord w
    · rfl
    · exact absurd hgw g
theorem vx_c {args : Array Value} {s : State} {w : Cond} {B : List Cond} (h : w.before args s = true) (t : ∀ w ∈ B, w.before args s = true) : ∀ w' ∈ w :: B, w'.before args s = true := fun w' h' => (List.mem_cons.mp h').elim (fun e => by rw [e]; exact h) (t w')
theorem vx_n {args : Array Value} {s : State} : ∀ w ∈ ([] : List Cond), w.before args s = true := fun _ h => nomatch h
theorem vx_own {args : Array Value} {s : State} {L : List Cond} (h1 : ∀ w ∈ L.filter vx_no, w.before args s = true)
    (hU : (Cond.isRef (.static Bundle.tN "UNASSIGNED_STACK" Bundle.steD)).before args s = true) (hN : (Cond.isRef (.static Bundle.tN "SUPPRESSED_SENTINEL" Bundle.listD)).before args s = true)
    (lU : (Cond.laysStatic Bundle.tN "UNASSIGNED_STACK" Bundle.steD).before args s = true) (lN : (Cond.laysStatic Bundle.tN "SUPPRESSED_SENTINEL" Bundle.listD).before args s = true) : ∀ w ∈ L, w.before args s = true := by
  intro w hw
  by_cases e1 : w = .isRef (.static Bundle.tN "UNASSIGNED_STACK" Bundle.steD)
  · rw [e1]; exact hU
  · by_cases e2 : w = .isRef (.static Bundle.tN "SUPPRESSED_SENTINEL" Bundle.listD)
    · rw [e2]; exact hN
    · by_cases e3 : w = .laysStatic Bundle.tN "UNASSIGNED_STACK" Bundle.steD
      · rw [e3]; exact lU
      · by_cases e4 : w = .laysStatic Bundle.tN "SUPPRESSED_SENTINEL" Bundle.listD
        · rw [e4]; exact lN
        · exact h1 w (List.mem_filter.mpr ⟨hw, by unfold vx_no; rw [decide_eq_true e1, decide_eq_true e2, decide_eq_true e3, decide_eq_true e4]; rfl⟩)
/-- where a static field lies, its class's statics cell in H -/
def vx_L (C n d : String) (A : Nat → Prop) (U : State) (H : Heap) : Prop := ∃ (c : ClassId) (k : Class) (i : Nat) (f : Field) (a : Nat) (cell : Cell), U.vm.findClass C = some c ∧ U.fieldFound? C n d = some (c, k, i, f) ∧ f.isStatic = true ∧ k.statics = some a ∧ H[a]? = some cell ∧ cell.vm.isStatics = true ∧ cell.cls = c ∧ f.slot < cell.slots.size ∧ k.staticTypes[f.slot]? = some f.type ∧ ¬ A a
theorem vx_L.moved {C n d : String} {A : Nat → Prop} {u U : State} {H : Heap} (hvm : u.vm.Alike U.vm) (h : vx_L C n d A u H) : vx_L C n d A U H := by
  obtain ⟨c, k, i, f, a, cell, h1, h2, h3, h4, h5, h6, h7, h8, h9, h10⟩ := h
  obtain ⟨k', hi', he⟩ := State.fieldFound?_setVm hvm h2
  exact ⟨c, k', i, f, a, cell, by rw [hvm.findClass]; exact h1, hi', h3, by rw [he]; exact h4, h5, h6, h7, h8, by rw [he]; exact h9, h10⟩
theorem vx_L.kept {C n d : String} {A : Nat → Prop} {U : State} {H H1 : Heap} (h : vx_L C n d A U H) (hq : ∀ a : Nat, a < H.size → ¬ A a → H1[a]? = H[a]?) : vx_L C n d A U H1 := by
  obtain ⟨c, k, i, f, a, cell, h1, h2, h3, h4, h5, h6, h7, h8, h9, h10⟩ := h
  exact ⟨c, k, i, f, a, cell, h1, h2, h3, h4, by rw [hq a (Array.getElem?_eq_some_iff.mp h5).1 h10]; exact h5, h6, h7, h8, h9, h10⟩
theorem vx_L.narrow {C n d : String} {A B : Nat → Prop} {U : State} {H : Heap} (h : vx_L C n d A U H) (hAB : ∀ q, B q → A q) : vx_L C n d B U H := by
  obtain ⟨c, k, i, f, a, cell, h1, h2, h3, h4, h5, h6, h7, h8, h9, h10⟩ := h
  exact ⟨c, k, i, f, a, cell, h1, h2, h3, h4, h5, h6, h7, h8, h9, fun z => h10 (hAB _ z)⟩
theorem vx_L.word {C n d : String} {A : Nat → Prop} {s : State} {args : Array Value} (h : vx_L C n d A s s.heap) : (Cond.laysStatic C n d).before args s = true := by
  obtain ⟨c, k, i, f, a, cell, h1, h2, h3, h4, h5, h6, h7, h8, h9, -⟩ := h
  show (Cond.laysStatic C n d).holds args s none s [] = true
  exact Cond.laysStatic_of h1 h2 h3 h4 h5 h6 h7 h8 h9
/-- .. and what it holds: null or some reference -/
def vx_Zq (C n d : String) (A : Nat → Prop) (U : State) (H : Heap) : Prop := va_Zq C n d A U H ∧ vx_L C n d A U H
theorem vx_Zq.moved {C n d : String} {A : Nat → Prop} {u U : State} {H : Heap} (hvm : u.vm.Alike U.vm) (h : vx_Zq C n d A u H) : vx_Zq C n d A U H := ⟨va_Zq.moved hvm h.1, vx_L.moved hvm h.2⟩
theorem vx_Zq.kept {C n d : String} {A : Nat → Prop} {U : State} {H H1 : Heap} (h : vx_Zq C n d A U H) (hq : ∀ a : Nat, a < H.size → ¬ A a → H1[a]? = H[a]?) : vx_Zq C n d A U H1 := ⟨va_Zq.kept h.1 hq, vx_L.kept h.2 hq⟩
theorem vx_Zq.narrow {C n d : String} {A B : Nat → Prop} {U : State} {H : Heap} (h : vx_Zq C n d A U H) (hAB : ∀ q, B q → A q) : vx_Zq C n d B U H := ⟨va_Zq.narrow h.1 hAB, vx_L.narrow h.2 hAB⟩
theorem vx_Zqof {args : Array Value} {s : State} {C n d : String} {A : Nat → Prop} (hl : (Cond.laysStatic C n d).before args s = true) (hini : (Cond.initialized C).before args s = true) (h : (Cond.isRef (.static C n d)).before args s = true) (hA : ∀ a : Nat, a < s.heap.size → ¬ A a) : vx_Zq C n d A s s.heap := by
  refine ⟨va_Zqof hl hini h hA, ?_⟩
  obtain ⟨c, k, i, f, a, cell, h1, h2, h3, h4, h5, h6, h7, h8, h9⟩ := Cond.laysStatic_spec hl
  exact ⟨c, k, i, f, a, cell, h1, h2, h3, h4, h5, h6, h7, h8, h9, hA a (Array.getElem?_eq_some_iff.mp h5).1⟩
theorem vx_isRef {C n d : String} {v : Value} {A : Nat → Prop} {s : State} {args : Array Value} (h : va_Z C n d v A s s.heap) (hv : v.isRef = true) : (Cond.isRef (.static C n d)).before args s = true := by
  obtain ⟨cf, kf, fi, f, a, cell, h1, h2, h3, h4, h5, h6, h7, -⟩ := h
  have he : (Term.static C n d).eval args s none [] s = some v := by
    simp [Term.eval, State.fieldNamed?, h1, h2, h4, h5, h6, h7]
  simp only [Cond.before, Cond.holds, Cond.value, he]
  cases v <;> simp_all [Value.isRef]
theorem vx_isRefq {C n d : String} {A : Nat → Prop} {s : State} {args : Array Value} (h : va_Zq C n d A s s.heap) : (Cond.isRef (.static C n d)).before args s = true := by
  rcases h with h | ⟨t, h⟩
  · exact vx_isRef h rfl
  · exact vx_isRef h rfl
/-- the same frame, seen from here: as if the method were called anew in this heap -/
theorem vx_rebase {T : State} (X : Stand p l e R s m args below meth c T locs cells slots) {R' : Room} (hf : R'.frames ≤ R.frames) (hl : R'.locals ≤ R.locals) (hc : cells + R'.cells ≤ R.cells) (hs : slots + R'.slots ≤ R.slots) :
    Stand p l e R' ((T.setVm s.vm).setFrames (.invoking m args :: below)) m args below meth c T [] 0 0 := by
  have htop : (T.setVm s.vm).topJava?.isSome := X.here.top
  have hF : ((T.setVm s.vm).setFrames (.invoking m args :: below)).frames = .invoking m args :: below := State.frames_setFrames _ (State.cur_lt_of_top htop)
  obtain ⟨g₀, hg0⟩ := Option.isSome_iff_exists.mp htop
  obtain ⟨r, hr⟩ := State.topJava?_eq_some.mp hg0
  have hl9 : e.platform.stackLimits (T.setVm s.vm).me = e.platform.stackLimits s.me := X.limits
  have hb9 : (T.setVm s.vm).me.stackBytes = s.me.stackBytes := X.bytes
  refine ⟨X.admits, X.cas, X.clock, hF, ?_, X.hears, X.method, X.code, X.here, X.tail, X.warmed, ?_, ?_, ?_⟩
  · have h := X.room
    have hU : ((T.setVm s.vm).setFrames (.invoking m args :: below)).localsInUse = s.localsInUse := by
      rw [State.localsInUse_invoking hF (meth := meth) (c := c) X.method X.code, State.localsInUse_invoking X.frames X.method X.code]
    simp only [State.hasRoom, Bool.and_eq_true, decide_eq_true_eq] at h ⊢
    obtain ⟨⟨⟨⟨h1, h2, h3, h4, h5, h6⟩, h7⟩, h8⟩, h9⟩ := h
    rw [X.frames, List.length_cons] at h2 h3
    have q1 := X.heapSize
    have q2 := X.used
    simp only [hF, hU, List.length_cons, State.stackLimits_setFrames, State.stackBytes_setFrames, hl9, hb9]
    refine ⟨⟨⟨⟨by omega, by omega, by omega, by omega, by omega, h6⟩, ?_⟩, ?_⟩, X.book⟩
    · show T.heap.size + R'.cells ≤ e.platform.maxCells
      omega
    · show T.slotsUsed + R'.slots ≤ e.platform.maxSlots
      omega
  · rw [State.stackLimits_setFrames]; rfl
  · rw [State.stackBytes_setFrames]; rfl
  · refine ⟨?_, Nat.le_refl _, Nat.le_refl _, ?_, ?_, fun a c9 h9 => ⟨c9, h9, rfl, rfl, fun _ _ => rfl⟩⟩
    · obtain ⟨t, ht, -⟩ := State.frames_cons hr
      show T.setVm s.vm = { ((T.setVm s.vm).setFrames (.invoking m args :: below)).setFrames (T.setVm s.vm).frames with heap := T.heap, slotsUsed := T.slotsUsed }
      rw [State.setFrames_setFrames, State.setFrames_self ht]
      rfl
    · show T.slotsUsed = T.slotsUsed + ((T.heap.toList.drop T.heap.size).map (·.slots.size)).sum
      rw [List.drop_eq_nil_of_le (Nat.le_of_eq Array.length_toList)]
      rfl
    · show ((T.heap.toList.drop T.heap.size).map (·.slots.size)).sum ≤ 0
      rw [List.drop_eq_nil_of_le (Nat.le_of_eq Array.length_toList)]
      exact Nat.le_refl _
/-- 'throw new E()': new; dup; invokespecial; athrow -/
theorem vx_throw0 {cc : ByteArray} {pc : Nat} (hexec : p.tables.exec = Jvm.exec) (hb : c.code = cc) (hl : l.stackTraces = false) {own cls : String} {names : List String} {ik ic mc ms : Nat} {A : Nat → Prop}
    (hown : s.vm.findClass own = some m.cls) (hcls : Bundle.fit cls = true) (hnames : ∀ n ∈ names, Bundle.fit n = true)
    (hk : (Cond.classLink own ik cls).before args s = true) (hini : (Cond.initialized cls).before args s = true) (hat : ∀ w ∈ vx_at0 own ic cls names, w.before args s = true)
    (hgood : ∀ w ∈ Cond.classLink own ik cls :: Cond.initialized cls :: vx_at0 own ic cls names, vx_ot w = true)
    (hU : vx_Zq Bundle.tN "UNASSIGNED_STACK" Bundle.steD A s s.heap) (hN : vx_Zq Bundle.tN "SUPPRESSED_SENTINEL" Bundle.listD A s s.heap) (hS : va_S A s.heap H locs) (hsize : ls.size = c.maxLocals)
    (d0 : decode cc pc = .ok (.new ik, 3)) (d3 : decode cc (pc + 3) = .ok (.dup, 1)) (d4 : decode cc (pc + 4) = .ok (.invokespecial ic, 3)) (d7 : decode cc (pc + 7) = .ok (.athrow, 1))
    (hout : ∀ x ∈ c.exceptionTable.toList, covers x (pc + 7) = false)
    (hRframes : names.length + 3 < R.frames) (hRlocals : (rest.map fun v => v.category).sum + (13 * (names.length + 1) + 42) ≤ R.locals) (hRcells : cells + 1 ≤ R.cells) (hRslots : slots + 6 ≤ R.slots) (hlocks : meth.locks = false)
    (hx : ∀ t : State, s.vm.Alike t.vm → H.size ≤ t.heap.size → (∀ q : Nat, q < H.size → t.heap[q]? = H[q]?) → XC cls s t)
    (hf : ∀ z ∈ locs, free z.base) (hc : cells + 1 ≤ mc) (hs : slots + 6 ≤ ms) :
    W p l e R s m args below meth c H locs cells slots (vx_MQ below Qc XC args s mc ms free) (F0 m pc ls rest) := by
  intro T hT X
  have htr : e.platform.stackTraces = false := (show e.platform.stackTraces = l.stackTraces by rw [X.admits.platform]).trans hl
  have Y := vx_rebase X (R' := { frames := R.frames, locals := R.locals, cells := 1, slots := 6 }) (Nat.le_refl _) (Nat.le_refl _) hRcells hRslots
  obtain ⟨s', hA⟩ : ∃ z, z = (T.setVm s.vm).setFrames (.invoking m args :: below) := ⟨_, rfl⟩
  rw [← hA] at Y
  have hvm : s'.vm = s.vm := by rw [hA]; rfl
  have hhp : s'.heap = H := by rw [hA]; exact hT
  have hW0 : s.WarmedH s'.vm := by rw [hvm]; exact State.WarmedH.refl s
  have hat' : ∀ w ∈ vx_at0 own ic cls names, w.before args s' = true := fun w hw => vx_ot_at hW0 hvm.symm (hgood w (List.mem_cons_of_mem _ (List.mem_cons_of_mem _ hw))) (hat w hw)
  have hk' : (Cond.classLink own ik cls).before args s' = true := vx_ot_at hW0 hvm.symm (hgood _ List.mem_cons_self) hk
  have hini' : (Cond.initialized cls).before args s' = true := vx_ot_at hW0 hvm.symm (hgood _ (List.mem_cons_of_mem _ List.mem_cons_self)) hini
  have hU' : vx_Zq Bundle.tN "UNASSIGNED_STACK" Bundle.steD A s' s'.heap := by rw [hhp]; exact vx_Zq.moved hW0.alike (hU.kept hS.2.1)
  have hN' : vx_Zq Bundle.tN "SUPPRESSED_SENTINEL" Bundle.listD A s' s'.heap := by rw [hhp]; exact vx_Zq.moved hW0.alike (hN.kept hS.2.1)
  have h : ∀ w ∈ Bundle.ownAtoms0 own ic cls names, w.before args s' = true := vx_own hat' (vx_isRefq hU'.1) (vx_isRefq hN'.1) hU'.2.word hN'.2.word
  have hown' : s'.vm.findClass own = some m.cls := by rw [hvm]; exact hown
  have hins : (Cond.instantiable cls 6).before args s' = true := h _ (by simp [Bundle.ownAtoms0])
  obtain ⟨vm₁, cX, kX, hfX, hkX, -, -, X₁, st1⟩ := Y.newCold hexec (own := own) (C := cls) (index := ik) (n := 6) hown' hk' hins hini'
    (g := F0 m pc ls rest) rfl (by rw [hb]; exact d0) (Nat.le_refl _) (Nat.le_refl _)
  generalize hT1 : (T.setVm vm₁).pushCell { cls := cX, slots := kX.instanceTypes.map defaultValue, vm := .none } = T1 at X₁ st1
  have hcat : (Value.ref T.heap.size).category = 1 := rfl
  have hcellA : T1.heap[T.heap.size]? = some (freshCell cX kX) := by rw [← hT1]; exact State.heap_pushCell_size _ _
  have d3' : decode c.code (pc + 3) = .ok (.dup, 1) := by rw [hb]; exact d3
  obtain ⟨U, hsteps, hrun, hend, hW, hsame, ce, hce, hO⟩ := X₁.ctorThrow0 hexec htr (own := own) (cls := cls) (names := names) (ic := ic) hown' hcls hnames h (fun x hx => nomatch hx) hfX hkX hcellA (by rw [hhp, hT]; exact Nat.le_refl _)
    (g := { method := m, pc := pc + 4, locals := ls, stack := .ref T.heap.size :: .ref T.heap.size :: rest, locked := none }) rfl hsize rfl rfl (rest := rest) rfl
    (by rw [hb]; exact d4) (by rw [hb]; exact d7) hout hRframes (by simp only [List.map_cons, List.sum_cons, hcat]; omega) hlocks
  obtain ⟨f1, f2⟩ := vx_frame hsame
  rw [hhp] at f1 f2
  have hWs : s.WarmedH U.vm := State.WarmedH.trans hW0 hW
  have hcl : s.vm.findClass cls = some ce.cls := by
    have h9 := hO.cls
    rw [hvm] at h9
    exact h9
  have hall : s.sameButNew ({ U with vm := s.vm } : State) locs mc ms := by
    subst hA
    obtain ⟨e1, e2⟩ := hsame
    rw [State.setFrames_setFrames] at e1
    have h2 : (T.setVm s.vm).sameButNew ({ U with vm := s.vm } : State) [] (0 + 1) (0 + 6) := ⟨e1, e2⟩
    have h3 := X.same.trans h2
    rw [List.append_nil] at h3
    exact h3.mono hc hs
  refine ⟨U, ?_, .threw T.heap.size, hrun, hend, Or.inr ⟨T.heap.size, rfl, cls, ce, locs, hx U hWs.alike f1 (fun q hq => f2 q hq (fun z hz => nomatch hz)), hce, hO.vm, hcl, hWs, hall, hf⟩⟩
  refine st1 _ ?_
  show Steps p.tables e below (T1.setTop { method := m, pc := pc + 3, locals := ls, stack := .ref T.heap.size :: rest, locked := none }) _
  jvm_step X₁.here [X₁.here.top, hexec, d3', Value.category]
  exact hsteps
/-- 'throw new E("text")': new; dup; ldc; invokespecial; athrow -/
theorem vx_throwS {cc : ByteArray} {pc : Nat} (hexec : p.tables.exec = Jvm.exec) (hb : c.code = cc) (hl : l.stackTraces = false) {own cls text : String} {names : List String} {ik is ic mc ms sa : Nat} {A : Nat → Prop}
    (hown : s.vm.findClass own = some m.cls) (hcls : Bundle.fit cls = true) (hnames : ∀ n ∈ names, Bundle.fit n = true)
    (hk : (Cond.classLink own ik cls).before args s = true) (hini : (Cond.initialized cls).before args s = true) (hstr : vk_R own is text sa s) (hat : ∀ w ∈ vx_atS own ic cls names, w.before args s = true)
    (hgood : ∀ w ∈ Cond.classLink own ik cls :: Cond.initialized cls :: vx_atS own ic cls names, vx_ot w = true)
    (hU : vx_Zq Bundle.tN "UNASSIGNED_STACK" Bundle.steD A s s.heap) (hN : vx_Zq Bundle.tN "SUPPRESSED_SENTINEL" Bundle.listD A s s.heap) (hS : va_S A s.heap H locs) (hsize : ls.size = c.maxLocals)
    (d0 : decode cc pc = .ok (.new ik, 3)) (d3 : decode cc (pc + 3) = .ok (.dup, 1)) (d4 : decode cc (pc + 4) = .ok (.ldc is, 2)) (d6 : decode cc (pc + 6) = .ok (.invokespecial ic, 3)) (d9 : decode cc (pc + 9) = .ok (.athrow, 1))
    (hout : ∀ x ∈ c.exceptionTable.toList, covers x (pc + 9) = false)
    (hRframes : names.length + 3 < R.frames) (hRlocals : (rest.map fun v => v.category).sum + (13 * (names.length + 1) + 43) ≤ R.locals) (hRcells : cells + 1 ≤ R.cells) (hRslots : slots + 6 ≤ R.slots) (hlocks : meth.locks = false)
    (hx : ∀ t : State, s.vm.Alike t.vm → H.size ≤ t.heap.size → (∀ q : Nat, q < H.size → t.heap[q]? = H[q]?) → XC cls s t)
    (hf : ∀ z ∈ locs, free z.base) (hc : cells + 1 ≤ mc) (hs : slots + 6 ≤ ms) :
    W p l e R s m args below meth c H locs cells slots (vx_MQ below Qc XC args s mc ms free) (F0 m pc ls rest) := by
  intro T hT X
  have htr : e.platform.stackTraces = false := (show e.platform.stackTraces = l.stackTraces by rw [X.admits.platform]).trans hl
  have Y := vx_rebase X (R' := { frames := R.frames, locals := R.locals, cells := 1, slots := 6 }) (Nat.le_refl _) (Nat.le_refl _) hRcells hRslots
  obtain ⟨s', hA⟩ : ∃ z, z = (T.setVm s.vm).setFrames (.invoking m args :: below) := ⟨_, rfl⟩
  rw [← hA] at Y
  have hvm : s'.vm = s.vm := by rw [hA]; rfl
  have hhp : s'.heap = H := by rw [hA]; exact hT
  have hW0 : s.WarmedH s'.vm := by rw [hvm]; exact State.WarmedH.refl s
  have hat' : ∀ w ∈ vx_atS own ic cls names, w.before args s' = true := fun w hw => vx_ot_at hW0 hvm.symm (hgood w (List.mem_cons_of_mem _ (List.mem_cons_of_mem _ hw))) (hat w hw)
  have hk' : (Cond.classLink own ik cls).before args s' = true := vx_ot_at hW0 hvm.symm (hgood _ List.mem_cons_self) hk
  have hini' : (Cond.initialized cls).before args s' = true := vx_ot_at hW0 hvm.symm (hgood _ (List.mem_cons_of_mem _ List.mem_cons_self)) hini
  have hU' : vx_Zq Bundle.tN "UNASSIGNED_STACK" Bundle.steD A s' s'.heap := by rw [hhp]; exact vx_Zq.moved hW0.alike (hU.kept hS.2.1)
  have hN' : vx_Zq Bundle.tN "SUPPRESSED_SENTINEL" Bundle.listD A s' s'.heap := by rw [hhp]; exact vx_Zq.moved hW0.alike (hN.kept hS.2.1)
  have h : ∀ w ∈ Bundle.ownAtoms own ic cls names, w.before args s' = true := vx_own hat' (vx_isRefq hU'.1) (vx_isRefq hN'.1) hU'.2.word hN'.2.word
  have hown' : s'.vm.findClass own = some m.cls := by rw [hvm]; exact hown
  have hins : (Cond.instantiable cls 6).before args s' = true := h _ (by simp [Bundle.ownAtoms])
  obtain ⟨vm₁, cX, kX, hfX, hkX, -, -, X₁, st1⟩ := Y.newCold hexec (own := own) (C := cls) (index := ik) (n := 6) hown' hk' hins hini'
    (g := F0 m pc ls rest) rfl (by rw [hb]; exact d0) (Nat.le_refl _) (Nat.le_refl _)
  generalize hT1 : (T.setVm vm₁).pushCell { cls := cX, slots := kX.instanceTypes.map defaultValue, vm := .none } = T1 at X₁ st1
  have hcat : (Value.ref T.heap.size).category = 1 := rfl
  have hcellA : T1.heap[T.heap.size]? = some (freshCell cX kX) := by rw [← hT1]; exact State.heap_pushCell_size _ _
  have d3' : decode c.code (pc + 3) = .ok (.dup, 1) := by rw [hb]; exact d3
  have d4' : decode c.code (pc + 4) = .ok (.ldc is, 2) := by rw [hb]; exact d4
  have hstr' : vk_R own is text sa s' := vk_R.warm hW0 hstr
  obtain ⟨U, hsteps, hrun, hend, hW, hsame, ce, hce, hO⟩ := X₁.ctorThrowS hexec htr (own := own) (cls := cls) (names := names) (ic := ic) hown' hcls hnames h (fun x hx => nomatch hx) hfX hkX hcellA (by rw [hhp, hT]; exact Nat.le_refl _) (msg := .ref sa) rfl
    (g := { method := m, pc := pc + 6, locals := ls, stack := .ref sa :: .ref T.heap.size :: .ref T.heap.size :: rest, locked := none }) rfl hsize rfl rfl (rest := rest) rfl
    (by rw [hb]; exact d6) (by rw [hb]; exact d9) hout hRframes (by simp only [List.map_cons, List.sum_cons, hcat]; omega) hlocks
  obtain ⟨f1, f2⟩ := vx_frame hsame
  rw [hhp] at f1 f2
  have hWs : s.WarmedH U.vm := State.WarmedH.trans hW0 hW
  have hcl : s.vm.findClass cls = some ce.cls := by
    have h9 := hO.cls
    rw [hvm] at h9
    exact h9
  have hall : s.sameButNew ({ U with vm := s.vm } : State) locs mc ms := by
    subst hA
    obtain ⟨e1, e2⟩ := hsame
    rw [State.setFrames_setFrames] at e1
    have h2 : (T.setVm s.vm).sameButNew ({ U with vm := s.vm } : State) [] (0 + 1) (0 + 6) := ⟨e1, e2⟩
    have h3 := X.same.trans h2
    rw [List.append_nil] at h3
    exact h3.mono hc hs
  refine ⟨U, ?_, .threw T.heap.size, hrun, hend, Or.inr ⟨T.heap.size, rfl, cls, ce, locs, hx U hWs.alike f1 (fun q hq => f2 q hq (fun z hz => nomatch hz)), hce, hO.vm, hcl, hWs, hall, hf⟩⟩
  refine st1 _ ?_
  show Steps p.tables e below (T1.setTop { method := m, pc := pc + 3, locals := ls, stack := .ref T.heap.size :: rest, locked := none }) _
  jvm_step X₁.here [X₁.here.top, hexec, d3', Value.category]
  exact X₁.ldcString hexec (own := own) (text := text) (index := is) (a := sa) hown' hstr'.1 hstr'.2
    (g := { method := m, pc := pc + 4, locals := ls, stack := .ref T.heap.size :: .ref T.heap.size :: rest, locked := none }) rfl d4' _ hsteps
/-- 'throw new E("text")', the text by a wide index -/
theorem vx_throwSW {cc : ByteArray} {pc : Nat} (hexec : p.tables.exec = Jvm.exec) (hb : c.code = cc) (hl : l.stackTraces = false) {own cls text : String} {names : List String} {ik is ic mc ms sa : Nat} {A : Nat → Prop}
    (hown : s.vm.findClass own = some m.cls) (hcls : Bundle.fit cls = true) (hnames : ∀ n ∈ names, Bundle.fit n = true)
    (hk : (Cond.classLink own ik cls).before args s = true) (hini : (Cond.initialized cls).before args s = true) (hstr : vk_R own is text sa s) (hat : ∀ w ∈ vx_atS own ic cls names, w.before args s = true)
    (hgood : ∀ w ∈ Cond.classLink own ik cls :: Cond.initialized cls :: vx_atS own ic cls names, vx_ot w = true)
    (hU : vx_Zq Bundle.tN "UNASSIGNED_STACK" Bundle.steD A s s.heap) (hN : vx_Zq Bundle.tN "SUPPRESSED_SENTINEL" Bundle.listD A s s.heap) (hS : va_S A s.heap H locs) (hsize : ls.size = c.maxLocals)
    (d0 : decode cc pc = .ok (.new ik, 3)) (d3 : decode cc (pc + 3) = .ok (.dup, 1)) (d4 : decode cc (pc + 4) = .ok (.ldc_w is, 3)) (d7 : decode cc (pc + 7) = .ok (.invokespecial ic, 3)) (d10 : decode cc (pc + 10) = .ok (.athrow, 1))
    (hout : ∀ x ∈ c.exceptionTable.toList, covers x (pc + 10) = false)
    (hRframes : names.length + 3 < R.frames) (hRlocals : (rest.map fun v => v.category).sum + (13 * (names.length + 1) + 43) ≤ R.locals) (hRcells : cells + 1 ≤ R.cells) (hRslots : slots + 6 ≤ R.slots) (hlocks : meth.locks = false)
    (hx : ∀ t : State, s.vm.Alike t.vm → H.size ≤ t.heap.size → (∀ q : Nat, q < H.size → t.heap[q]? = H[q]?) → XC cls s t)
    (hf : ∀ z ∈ locs, free z.base) (hc : cells + 1 ≤ mc) (hs : slots + 6 ≤ ms) :
    W p l e R s m args below meth c H locs cells slots (vx_MQ below Qc XC args s mc ms free) (F0 m pc ls rest) := by
  intro T hT X
  have htr : e.platform.stackTraces = false := (show e.platform.stackTraces = l.stackTraces by rw [X.admits.platform]).trans hl
  have Y := vx_rebase X (R' := { frames := R.frames, locals := R.locals, cells := 1, slots := 6 }) (Nat.le_refl _) (Nat.le_refl _) hRcells hRslots
  obtain ⟨s', hA⟩ : ∃ z, z = (T.setVm s.vm).setFrames (.invoking m args :: below) := ⟨_, rfl⟩
  rw [← hA] at Y
  have hvm : s'.vm = s.vm := by rw [hA]; rfl
  have hhp : s'.heap = H := by rw [hA]; exact hT
  have hW0 : s.WarmedH s'.vm := by rw [hvm]; exact State.WarmedH.refl s
  have hat' : ∀ w ∈ vx_atS own ic cls names, w.before args s' = true := fun w hw => vx_ot_at hW0 hvm.symm (hgood w (List.mem_cons_of_mem _ (List.mem_cons_of_mem _ hw))) (hat w hw)
  have hk' : (Cond.classLink own ik cls).before args s' = true := vx_ot_at hW0 hvm.symm (hgood _ List.mem_cons_self) hk
  have hini' : (Cond.initialized cls).before args s' = true := vx_ot_at hW0 hvm.symm (hgood _ (List.mem_cons_of_mem _ List.mem_cons_self)) hini
  have hU' : vx_Zq Bundle.tN "UNASSIGNED_STACK" Bundle.steD A s' s'.heap := by rw [hhp]; exact vx_Zq.moved hW0.alike (hU.kept hS.2.1)
  have hN' : vx_Zq Bundle.tN "SUPPRESSED_SENTINEL" Bundle.listD A s' s'.heap := by rw [hhp]; exact vx_Zq.moved hW0.alike (hN.kept hS.2.1)
  have h : ∀ w ∈ Bundle.ownAtoms own ic cls names, w.before args s' = true := vx_own hat' (vx_isRefq hU'.1) (vx_isRefq hN'.1) hU'.2.word hN'.2.word
  have hown' : s'.vm.findClass own = some m.cls := by rw [hvm]; exact hown
  have hins : (Cond.instantiable cls 6).before args s' = true := h _ (by simp [Bundle.ownAtoms])
  obtain ⟨vm₁, cX, kX, hfX, hkX, -, -, X₁, st1⟩ := Y.newCold hexec (own := own) (C := cls) (index := ik) (n := 6) hown' hk' hins hini'
    (g := F0 m pc ls rest) rfl (by rw [hb]; exact d0) (Nat.le_refl _) (Nat.le_refl _)
  generalize hT1 : (T.setVm vm₁).pushCell { cls := cX, slots := kX.instanceTypes.map defaultValue, vm := .none } = T1 at X₁ st1
  have hcat : (Value.ref T.heap.size).category = 1 := rfl
  have hcellA : T1.heap[T.heap.size]? = some (freshCell cX kX) := by rw [← hT1]; exact State.heap_pushCell_size _ _
  have d3' : decode c.code (pc + 3) = .ok (.dup, 1) := by rw [hb]; exact d3
  have d4' : decode c.code (pc + 4) = .ok (.ldc_w is, 3) := by rw [hb]; exact d4
  have hstr' : vk_R own is text sa s' := vk_R.warm hW0 hstr
  obtain ⟨U, hsteps, hrun, hend, hW, hsame, ce, hce, hO⟩ := X₁.ctorThrowS hexec htr (own := own) (cls := cls) (names := names) (ic := ic) hown' hcls hnames h (fun x hx => nomatch hx) hfX hkX hcellA (by rw [hhp, hT]; exact Nat.le_refl _) (msg := .ref sa) rfl
    (g := { method := m, pc := pc + 7, locals := ls, stack := .ref sa :: .ref T.heap.size :: .ref T.heap.size :: rest, locked := none }) rfl hsize rfl rfl (rest := rest) rfl
    (by rw [hb]; exact d7) (by rw [hb]; exact d10) hout hRframes (by simp only [List.map_cons, List.sum_cons, hcat]; omega) hlocks
  obtain ⟨f1, f2⟩ := vx_frame hsame
  rw [hhp] at f1 f2
  have hWs : s.WarmedH U.vm := State.WarmedH.trans hW0 hW
  have hcl : s.vm.findClass cls = some ce.cls := by
    have h9 := hO.cls
    rw [hvm] at h9
    exact h9
  have hall : s.sameButNew ({ U with vm := s.vm } : State) locs mc ms := by
    subst hA
    obtain ⟨e1, e2⟩ := hsame
    rw [State.setFrames_setFrames] at e1
    have h2 : (T.setVm s.vm).sameButNew ({ U with vm := s.vm } : State) [] (0 + 1) (0 + 6) := ⟨e1, e2⟩
    have h3 := X.same.trans h2
    rw [List.append_nil] at h3
    exact h3.mono hc hs
  refine ⟨U, ?_, .threw T.heap.size, hrun, hend, Or.inr ⟨T.heap.size, rfl, cls, ce, locs, hx U hWs.alike f1 (fun q hq => f2 q hq (fun z hz => nomatch hz)), hce, hO.vm, hcl, hWs, hall, hf⟩⟩
  refine st1 _ ?_
  show Steps p.tables e below (T1.setTop { method := m, pc := pc + 3, locals := ls, stack := .ref T.heap.size :: rest, locked := none }) _
  jvm_step X₁.here [X₁.here.top, hexec, d3', Value.category]
  exact X₁.ldcStringW hexec (own := own) (text := text) (index := is) (a := sa) hown' hstr'.1 hstr'.2
    (g := { method := m, pc := pc + 4, locals := ls, stack := .ref T.heap.size :: .ref T.heap.size :: rest, locked := none }) rfl d4' _ hsteps
end Ends
section Bodies
variable {l : Launch}
theorem vx_ofW {y : MethodName} {ws ws' : List Cond} {rm : Room} {Pc : Array Value → State → Prop} {Qc : Array Value → State → Outcome → State → Prop} {XC : String → State → State → Prop} {mc ms : Nat} {free : Addr → Prop} {cc : ByteArray} {maxL : Nat} {ret : Option FieldType}
    (hy : plainName y.cls = true) (hw : ws = Cond.code y cc maxL ret :: ws')
    (body : ∀ p e s m args below meth c s₁, BodyLoose p l y (headSpec ws rm) cc maxL ret e s m args below meth c s₁ → c.maxLocals = maxL → (∀ x ∈ c.exceptionTable.toList, False) → Pc args s →
      W p l e (headSpec ws rm).room s m args below meth c s.heap [] 0 0 (vx_MQ below Qc XC args s mc ms free) (entryFrame m args maxL)) : vx_Met l y ws rm Pc Qc XC mc ms free := by
  refine MetFree.of_bodyS (code := cc) (maxLocals := maxL) (ret := ret) hy ?_ ?_
  · intro args s m h hn
    obtain ⟨meth, c, h1, h2, h3, h4, h5, h6, -, -⟩ := Cond.code_spec hn (atoms_spec (ws := ws) h _ (by rw [hw]; exact List.mem_cons_self))
    exact ⟨meth, c, h1, h2, h3, h4, h5, h6⟩
  · intro p e s m args below meth c s₁ B hml hP _
    have hh0 : s₁.heap = s.heap := by rw [B.state]; rfl
    have ht : ∀ x ∈ c.exceptionTable.toList, False := by
      obtain ⟨meth9, c9, h1, h2, -, -, -, -, h7, -⟩ := Cond.code_spec B.named (atoms_spec (ws := ws) B.pre _ (by rw [hw]; exact List.mem_cons_self))
      cases Option.some.inj (h1.symm.trans B.method)
      cases Option.some.inj (h2.symm.trans (Stand.of_body B).code)
      intro x hx
      rw [Array.isEmpty_iff.mp h7] at hx
      cases hx
    obtain ⟨t, a1, o, b1, b2, b3⟩ := body p e s m args below meth c s₁ B hml ht hP s₁ hh0 (Stand.of_body B)
    exact ⟨t, o, a1, b1, b2, b3⟩
/-- the table of a body with handlers -/
theorem vx_table {p : Program} {x y : MethodName} {S : Spec} {cc bytes : ByteArray} {maxL maxL' : Nat} {ret ret' : Option FieldType} {e : Env} {s s₁ : State} {m : MethodId} {args : Array Value} {below : List Frame} {meth : Method} {c : Code} {hh : List (Nat × Nat × Nat × Nat)}
    (B : BodyLoose p l y S cc maxL ret e s m args below meth c s₁) (h : (Cond.codeWith y bytes maxL' ret' hh).before args s = true) : c.exceptionTable.toList = tableOf hh := by
  obtain ⟨m9, meth9, c9, hn9, h1, h2, -, -, h6, -⟩ := Cond.codeWith_spec h
  cases Option.some.inj (hn9.symm.trans B.named)
  cases Option.some.inj (h1.symm.trans B.method)
  cases Option.some.inj (h2.symm.trans (Stand.of_body B).code)
  rw [← h6, table_eq]
end Bodies
end VXA
/-! ===== END ===== -/
/-! ===== BEGIN a static call of a method with an exception table ===== -/
section VXS
variable {p : Program} {l : Launch} {e : Env} {R : Room} {s : State} {m : MethodId} {args : Array Value} {below : List Frame} {meth : Method} {c : Code} {T : State} {H : Heap} {locs : List Loc} {cells slots : Nat}
abbrev vx_CSW (R : Room) (s : State) (args : Array Value) (own : String) (index : Nat) (y : MethodName) (bytes : ByteArray) (maxL : Nat) (ret : Option FieldType) (hh : List (Nat × Nat × Nat × Nat)) (ws : List Cond) (rm : Room) (mc ms n : Nat) : Prop :=
  (rm.cells = mc ∧ rm.slots = ms ∧ rm.frames + 1 ≤ R.frames ∧ 8 + (maxL + 11) + rm.locals ≤ R.locals ∧ (∀ w ∈ ws, ∀ (a' : Array Value) (U : State), s.WarmedH U.vm → w.before a' U = true) ∧ Cond.codeWith y bytes maxL ret hh ∈ ws) ∧
  (Cond.codeWith y bytes maxL ret hh).before args s = true ∧ (Cond.initialized y.cls).before args s = true ∧ (y.cls ≠ "java/lang/invoke/MethodHandle" ∧ y.cls ≠ "java/lang/invoke/VarHandle") ∧
  (∀ sig, parseMethodDescriptor y.desc = some sig → n = sig.parameters.length) ∧ (Cond.methodLink own index y).before args s = true ∧ (Cond.static y).before args s = true
theorem vx_cwSW {own : String} {index maxL mc ms : Nat} {y : MethodName} {bytes : ByteArray} {ret : Option FieldType} {hh : List (Nat × Nat × Nat × Nat)} {Ts ws ws' : List Cond} {rm : Room} (n : Nat) (ht : ∀ w ∈ Ts, w.before args s = true) (hT : GoodIn Ts (va_wsS own index y ws)) (hw : ws = Cond.codeWith y bytes maxL ret hh :: ws') (hrc : rm.cells = mc) (hrs : rm.slots = ms)
    (hd : y.cls ≠ "java/lang/invoke/MethodHandle" ∧ y.cls ≠ "java/lang/invoke/VarHandle" ∧ (parseMethodDescriptor y.desc).map (fun d => d.parameters.length) = some n) (hR : rm.frames + 1 ≤ R.frames ∧ 8 + (maxL + 11) + rm.locals ≤ R.locals) :
    vx_CSW R s args own index y bytes maxL ret hh ws rm mc ms n := by
  have ok : ∀ w ∈ va_wsS own index y ws, w.before args s = true := fun w h => ht w (hT w h).1
  have hG : GoodIn Ts ws := fun w h => hT w (by unfold va_wsS; exact List.mem_append_right _ h)
  have hc : Cond.codeWith y bytes maxL ret hh ∈ ws := by rw [hw]; exact List.mem_cons_self
  refine ⟨⟨hrc, hrs, hR.1, hR.2, pay_in ht hG, hc⟩, ht _ (hG _ hc).1, ok _ (by simp [va_wsS]), ⟨hd.1, hd.2.1⟩, fun sig h => ?_, ok _ (by simp [va_wsS]), ok _ (by simp [va_wsS])⟩
  have h2 := hd.2.2
  rw [h] at h2
  exact (Option.some.inj h2).symm
theorem vx_callSW (X : Stand p l e R s m args below meth c T locs cells slots) (hexec : p.tables.exec = Jvm.exec) {own : String} {index : Nat} {y : MethodName} {bytes : ByteArray} {maxL : Nat} {ret : Option FieldType} {hh : List (Nat × Nat × Nat × Nat)}
    (hown : s.vm.findClass own = some m.cls) (hlink : (Cond.methodLink own index y).before args s = true) (hstat : (Cond.static y).before args s = true) (hinit : (Cond.initialized y.cls).before args s = true)
    (hcode : (Cond.codeWith y bytes maxL ret hh).before args s = true) (hy : y.cls ≠ "java/lang/invoke/MethodHandle" ∧ y.cls ≠ "java/lang/invoke/VarHandle")
    {W9 : Nat} {Pre : Pt → Array Value → Prop} {Post : Pt → Array Value → Option Value → Pt → Prop} (hK : Back l R p e below s args y 3 W9 Pre Post)
    {g : JFrame} (hg : g.method = m) (hsize : g.locals.size = c.maxLocals) {argsL rest : List Value} (hlen : ∀ sig, parseMethodDescriptor y.desc = some sig → argsL.length = sig.parameters.length)
    (hstack : g.stack = argsL.reverse ++ rest) (hW : 2 * g.monitorRoom + (rest.map fun v => v.category).sum ≤ W9) (hdg : decode c.code g.pc = .ok (.invokestatic index, 3))
    (hpre : ∀ vm₁, s.WarmedH vm₁ → Pre ⟨T.setVm vm₁, locs, cells, slots⟩ argsL.toArray) :
    ∃ (v : Option Value) (vm₁ : Vm) (B : Pt), s.WarmedH vm₁ ∧ Stand p l e R s m args below meth c B.U B.locs B.cells B.slots ∧ Post ⟨T.setVm vm₁, locs, cells, slots⟩ argsL.toArray v B ∧
      ∀ target, Steps p.tables e below (B.U.setTop { g with pc := g.pc + 3, stack := v.toList ++ rest }) target → Steps p.tables e below (T.setTop g) target := by
  obtain ⟨mk, methM, cM, hnamed, hmethM, -, -, -, -, -, -, hsigM⟩ := Cond.codeWith_spec hcode
  have hstatic : methM.isStatic = true := Cond.static_spec hnamed hmethM hstat
  obtain ⟨kP, hkP, -⟩ := className_of_methodNamed hnamed
  have hinitP : kP.init = .initialized := Cond.initialized_spec (findClass_of_methodNamed hnamed) hkP hinit
  obtain ⟨vm₁, X₁, hstep₁⟩ := X.invokestatic hexec hown hlink hnamed hmethM hstatic hkP hinitP hy (g := g) hg (argsL := argsL) (rest := rest) (hlen _ hsigM) hstack hdg
  obtain ⟨v, B, X', hpost, hsteps⟩ := hK m meth c ⟨T.setVm vm₁, locs, cells, slots⟩ { g with stack := rest } (.invokestatic index) mk argsL.toArray X₁ hg hsize hdg hW (X₁.named hnamed) (hpre vm₁ X₁.warmed)
  exact ⟨v, vm₁, B, X₁.warmed, X', hpost, fun target h => hstep₁ _ fun acts => by rw [doInvoke_state]; exact hsteps.trans h⟩
theorem vx_runSW {y : MethodName} {bytes cc : ByteArray} {maxL nL mc ms n index : Nat} {ret : Option FieldType} {hh : List (Nat × Nat × Nat × Nat)} {ws : List Cond} {rm : Room} {Pc : Array Value → State → Prop} {Qc : Array Value → State → Outcome → State → Prop} {free : Addr → Prop} {Ts : List Cond} {own : String} {As rest : List Value} {g : JFrame}
    (S : CallFix p m c cc nL s args Ts own) (hM : Met l y ws rm Pc Qc mc ms free) (cw : vx_CSW R s args own index y bytes maxL ret hh ws rm mc ms n) (hp : PreS s H Pc As)
    (hg : g.method = m) (hn : As.length = n) (hsize : g.locals.size = nL) (hstack : g.stack = As.reverse ++ rest) (hW : 2 * g.monitorRoom + (rest.map fun v => v.category).sum ≤ 8) (hdg : decode cc g.pc = .ok (.invokestatic index, 3)) (hf : cells + mc ≤ R.cells ∧ slots + ms ≤ R.slots) :
    va_Run p l e R s m args below meth c H locs cells slots mc ms g rest (Qc As.toArray) (free) := by
  obtain ⟨⟨hrc, hrs, hfr, hlo, hws, hcw⟩, hcode, hini, hy, hlen, hl, hstt⟩ := cw
  have hK : Back l R p e below s args y 3 8 (PreOf R mc ms Pc) (PostOf Qc mc ms free) := va_backW (hh := hh) (bytes := bytes) (maxL := maxL) (ret := ret) hM hp.1 hrc hrs hfr hlo hws hcw (fun a' U hW => word_at hW (Or.inl (by first | rfl | simp [Cond.onTables, Cond.keeps, Cond.steady])) hini)
  obtain ⟨hx, hb, hml, ho, -⟩ := S
  intro T hT X
  obtain ⟨v, vm₁, ⟨U', l2, c2, s2⟩, hW₁, X', ⟨g', mk, t, L, e1, e2, hq, h1, hL, h2, h3⟩, st⟩ := vx_callSW X hx (hh := hh) (bytes := bytes) (maxL := maxL) (ret := ret) ho hl hstt hini hcode hy hK hg (hsize.trans hml.symm) (argsL := As) (rest := rest) (fun sig h => hn.trans (hlen sig h)) hstack hW (by rw [hb]; exact hdg)
    (fun vm₁ hW₁ => ⟨hf.1, hf.2, hp.2 (T.setVm vm₁) hT hW₁⟩)
  dsimp only [Pt.U, Pt.locs, Pt.cells, Pt.slots] at X' e1 e2 h1 h2 h3 st
  subst h1; subst h2; subst h3
  exact ⟨v, (T.setVm vm₁).calling g' mk As.toArray, t, U', L, hT, X', hL, e1, e2, hq, st⟩
/-- not caught here, past rows that name other classes: it goes on to the caller -/
theorem vx_outP {p : Program} {l : Launch} {e : Env} {R : Room} {s : State} {m : MethodId} {args : Array Value} {below : List Frame} {meth : Method} {c : Code} {H : Heap} {locs : List Loc} {cells slots : Nat} {free : Addr → Prop} {ls : Array Slot} {rest : List Value} {Qc : Array Value → State → Outcome → State → Prop} {XC : String → State → State → Prop}
    {pc : Nat} {own E : String} {ce : Cell} {q : Addr} {mc ms : Nat} (hown : s.vm.findClass own = some m.cls) (hlocks : meth.locks = false)
    (hpass : ∀ z ∈ c.exceptionTable.toList, covers z pc = false ∨ (z.catchType ≠ 0 ∧ ∃ nm : String, (Cond.classLink own z.catchType nm).before args s = true ∧ va_Nc E nm s)) (hcell : H[q]? = some ce) (hv : ce.vm = .none) (hcl : s.vm.findClass E = some ce.cls)
    (hx : ∀ t : State, t.heap = H → s.vm.Alike t.vm → XC E s t) (hf : ∀ z ∈ locs, free z.base) (hc : cells ≤ mc) (hs : slots ≤ ms) :
    vx_W p l e R s m args below meth c H locs cells slots (vx_MQ below Qc XC args s mc ms free) (F0 m pc ls rest) q := by
  intro T hT X
  have hpl : e.platform.magicAccessors = ({} : Platform).magicAccessors := by rw [X.admits.platform]
  obtain ⟨vm', hW', X', st⟩ := X.outThrough hlocks q (g := F0 m pc ls rest) rfl rfl rfl (cell := ce) (by rw [hT]; exact hcell) (by rw [hv]; rfl)
    (by obtain ⟨k9, h9, -⟩ := Vm.findClass_spec hcl; exact ⟨k9, h9⟩) (fun z hz => by
      rcases hpass z hz with h | ⟨hz0, nm, hl1, hn1⟩
      · exact Or.inl h
      · obtain ⟨c6, hc6, hcl6⟩ := Cond.classLink_spec hown hl1 e.platform hpl
        obtain ⟨a8, b8, h1, h2, h3⟩ := hn1
        cases Option.some.inj (h1.symm.trans hcl)
        cases Option.some.inj (h2.symm.trans hc6)
        exact Or.inr ⟨hz0, _, hcl6, h3⟩)
  obtain ⟨g₀, hfr⟩ := X'.frames_eq
  have hcell9 : ((T.setVm vm').setFrames (.throwing q :: below)).heap[q]? = some ce := by
    show T.heap[q]? = some ce
    rw [hT]; exact hcell
  have hend : Ended ((T.setVm vm').setFrames (.throwing q :: below)) below (.threw q) := State.frames_setFrames _ (State.cur_lt_of_frames hfr)
  refine ⟨(T.setVm vm').setFrames (.throwing q :: below), ?_, .threw q, X'.here.running, hend, Or.inr ⟨q, rfl, E, ce, locs, hx _ hT (X'.ends _).1.alike, hcell9, hv, hcl, (X'.ends _).1, (X'.ends _).2.mono hc hs, hf⟩⟩
  rw [X.pushThrowing_eq]
  exact st
/-- a thing of a world lies in the heap -/
theorem vx_lt {D : va_G} {cl : List vw_C} {ws : va_W} {H1 : Heap} (h : va_P D cl ws H1) {k : Nat} {q : Nat × va_E} (hk : ws[k]? = some q) : q.1 < H1.size := (h k q hk).lt
end VXS
/-! ===== END ===== -/
/-! ===== BEGIN methods with a table of their own: called by a name, returning or throwing ===== -/
section VXH
/-! vx_backW, vx_callVX, vx_callSX, vx_callVW, vx_runVW, vx_runVX, vx_runSX, vx_ofWH follow the same proofs as their sisters above (Free/Laws.lean, Shelf42/LK1.lean); vx_outP calls Shelf42/NT130.lean (outThrough). -/
section
variable {l : Launch} {R : Room} {p : Program} {e : Env} {below : List Frame} {s : State} {sargs : Array Value} {y : MethodName} {len W9 : Nat}
theorem vx_backW {ws : List Cond} {rm : Room} {Pc : Array Value → State → Prop} {Qc : Array Value → State → Outcome → State → Prop} {XC : String → State → State → Prop} {mc ms : Nat} {free : Addr → Prop} {bytes : ByteArray} {maxL : Nat} {ret : Option FieldType} {hh : List (Nat × Nat × Nat × Nat)}
    (hM : vx_Met l y ws rm Pc Qc XC mc ms free) (hblind : FrameBlind Pc) (hrc : rm.cells = mc) (hrs : rm.slots = ms)
    (hframes : rm.frames + 1 ≤ R.frames) (hlocals : W9 + (maxL + 11) + rm.locals ≤ R.locals)
    (hws : ∀ w ∈ ws, ∀ a' U, s.WarmedH U.vm → w.before a' U = true) (hcode : Cond.codeWith y bytes maxL ret hh ∈ ws) (hinit : ∀ a' U, s.WarmedH U.vm → (Cond.initialized y.cls).before a' U = true) :
    vx_Back l R p e below s sargs y len W9 (PreOf R mc ms Pc) (PostOf Qc mc ms free) (vx_Post XC mc ms free) := by
  intro m meth c A g ig mk a X hg hsize hdg hW hn hp
  have h1 : (headSpec ws rm).pre.before a A.U = true := atoms_intro fun w hw => hws w hw _ _ X.warmed
  have h2 : (Cond.codeWith y bytes maxL ret hh).before a A.U = true := hws _ hcode _ _ X.warmed
  have h3 : (Cond.initialized y.cls).before a A.U = true := hinit _ _ X.warmed
  have h4 : A.cells + (headSpec ws rm).room.cells ≤ R.cells := by rw [show (headSpec ws rm).room.cells = mc from hrc]; exact hp.1
  have h5 : A.slots + (headSpec ws rm).room.slots ≤ R.slots := by rw [show (headSpec ws rm).room.slots = ms from hrs]; exact hp.2.1
  have hPc : Pc a (A.U.calling g mk a) := hblind _ _ _ _ hp.2.2
  obtain ⟨U, Ls, c0, s0⟩ := A
  dsimp only [Pt.U, Pt.locs, Pt.cells, Pt.slots] at h1 h2 h3 h4 h5 X hn hPc ⊢
  obtain ⟨m9, methY, cY, hn9, hmY, hcY, -, hlY, -⟩ := Cond.codeWith_spec h2
  cases Option.some.inj (hn9.symm.trans hn)
  obtain ⟨kY, hkY, -⟩ := className_of_methodNamed hn
  have hinitY : kY.init = .initialized := Cond.initialized_spec (findClass_of_methodNamed hn) hkY h3
  have h : At U g.method c below := by rw [hg]; exact X.here
  have hlocals9 : W9 + (maxL + 11) + (headSpec ws rm).room.locals ≤ R.locals := hlocals
  have happ : (headSpec ws rm).appliesLoose y e.platform (U.calling g mk a) = true :=
    Spec.appliesLoose_calling (g := g) h hdg hn hkY hinitY
      (X.room_calling (g := g) (R' := (headSpec ws rm).room) hsize hmY hcY hframes (by rw [hlY]; omega) h4 h5) h1
  obtain ⟨mid, hmid⟩ := h.above
  have hfr : (U.setTop g).frames = (.java g :: mid) ++ below := by rw [State.frames_setTop' g h.top, hmid]; rfl
  obtain ⟨o, s₂, hsteps, -, hend, hq⟩ := Steps.callFree hM p X.admits X.cas X.clock (acts := []) hfr happ hPc trivial
  have hq' : vx_Q Qc XC mc ms free a (U.calling g mk a) o s₂ := hq
  rw [State.frames_setTop' g h.top] at hend
  obtain ⟨g₀, hg0⟩ := Option.isSome_iff_exists.mp h.top
  obtain ⟨r, hr⟩ := State.topJava?_eq_some.mp hg0
  have hr' : (({ U with heap := s₂.heap, slotsUsed := s₂.slotsUsed } : State).setVm s₂.vm).frames = .java g₀ :: r := hr
  rcases hq' with ⟨hqc, L, hfe, hL⟩ | ⟨q, rfl, E, ce, L, hx, hce, hcv, hcl, hW₂, hsm, hL⟩
  · obtain ⟨⟨v, rfl⟩, hW₂, e2, q2, q3, q4, q5, q6⟩ := id hfe
    have e3 : s₂ = ({ (U.calling g mk a).setFrames s₂.frames with heap := s₂.heap, slotsUsed := s₂.slotsUsed } : State).setVm s₂.vm := by
      have : s₂ = ({ s₂ with vm := (U.calling g mk a).vm } : State).setVm s₂.vm := rfl
      rw [e2] at this
      exact this
    obtain ⟨c₂, i₂, len₂, hc₂, hd₂, hf₂⟩ := hend
    have hW' : U.WarmedH s₂.vm := hW₂
    have hcc : c₂ = c := by
      have h1 : s₂.code? g.method = U.code? g.method := by
        rw [State.code?_eq, State.code?_eq, hW'.alike.method?]
      exact Option.some.inj (hc₂.symm.trans (h1.trans h.code))
    subst hcc
    have hlen : len₂ = len := by rw [hdg] at hd₂; cases hd₂; rfl
    subst hlen
    have hs₂ : s₂ = (({ U with heap := s₂.heap, slotsUsed := s₂.slotsUsed } : State).setVm s₂.vm).setTop { g with pc := g.pc + len₂, stack := v.toList ++ g.stack } := by
      refine e3.trans ?_
      rw [hf₂, State.calling_eq h.top, State.setFrames_setFrames, State.setTop_of_frames _ hr', hr]
      rfl
    have hsame : U.sameButNew ({ U with heap := s₂.heap, slotsUsed := s₂.slotsUsed } : State) L mc ms := by
      refine ⟨?_, q2, q3, q4, q5, q6⟩
      obtain ⟨t, ht, -⟩ := State.frames_cons hr
      show ({ U with heap := s₂.heap, slotsUsed := s₂.slotsUsed } : State) = { U.setFrames U.frames with heap := s₂.heap, slotsUsed := s₂.slotsUsed }
      rw [State.setFrames_self ht]
    subst hg
    refine Or.inl ⟨v, ⟨(({ U with heap := s₂.heap, slotsUsed := s₂.slotsUsed } : State).setVm s₂.vm), Ls ++ L, c0 + mc, s0 + ms⟩,
      ⟨X.admits, X.cas, X.clock, X.frames, X.room, X.hears, X.method, X.code, (X.here.setHeapUsed s₂.heap s₂.slotsUsed).setVm hW'.alike, X.tail, State.WarmedH.trans X.warmed hW', X.limits, X.bytes, X.same.trans (hsame.setVm s.vm)⟩,
      ⟨g, mk, s₂, L, rfl, rfl, hqc, rfl, hL, rfl, rfl⟩, ?_⟩
    show Steps p.tables e below _ ((({ U with heap := s₂.heap, slotsUsed := s₂.slotsUsed } : State).setVm s₂.vm).setTop { g with pc := g.pc + len₂, stack := v.toList ++ g.stack })
    rw [← hs₂]
    exact hsteps
  · obtain ⟨e2, q2, q3, q4, q5, q6⟩ := id hsm
    have e3 : s₂ = ({ (U.calling g mk a).setFrames s₂.frames with heap := s₂.heap, slotsUsed := s₂.slotsUsed } : State).setVm s₂.vm := by
      have : s₂ = ({ s₂ with vm := (U.calling g mk a).vm } : State).setVm s₂.vm := rfl
      rw [e2] at this
      exact this
    have hf₂ : s₂.frames = .throwing q :: .java g :: U.frames.tail := hend
    have hW' : U.WarmedH s₂.vm := hW₂
    have hs₂ : s₂ = ((({ U with heap := s₂.heap, slotsUsed := s₂.slotsUsed } : State).setVm s₂.vm).setTop g).pushFrame (.throwing q) := by
      refine e3.trans ?_
      rw [hf₂, State.calling_eq h.top, State.setFrames_setFrames, State.pushFrame, State.frames_setTop _ hr', State.setTop_of_frames _ hr', State.setFrames_setFrames, hr]
      rfl
    have hsame : U.sameButNew ({ U with heap := s₂.heap, slotsUsed := s₂.slotsUsed } : State) L mc ms := by
      refine ⟨?_, q2, q3, q4, q5, q6⟩
      obtain ⟨t, ht, -⟩ := State.frames_cons hr
      show ({ U with heap := s₂.heap, slotsUsed := s₂.slotsUsed } : State) = { U.setFrames U.frames with heap := s₂.heap, slotsUsed := s₂.slotsUsed }
      rw [State.setFrames_self ht]
    subst hg
    refine Or.inr ⟨q, ⟨(({ U with heap := s₂.heap, slotsUsed := s₂.slotsUsed } : State).setVm s₂.vm), Ls ++ L, c0 + mc, s0 + ms⟩,
      ⟨X.admits, X.cas, X.clock, X.frames, X.room, X.hears, X.method, X.code, (X.here.setHeapUsed s₂.heap s₂.slotsUsed).setVm hW'.alike, X.tail, State.WarmedH.trans X.warmed hW', X.limits, X.bytes, X.same.trans (hsame.setVm s.vm)⟩,
      ⟨g, mk, s₂, L, E, ce, rfl, rfl, hx, hce, hcv, hcl, rfl, hL, rfl, rfl⟩, ?_⟩
    show Steps p.tables e below _ (((({ U with heap := s₂.heap, slotsUsed := s₂.slotsUsed } : State).setVm s₂.vm).setTop g).pushFrame (.throwing q))
    rw [← hs₂]
    exact hsteps
end
variable {p : Program} {l : Launch} {e : Env} {R : Room} {s : State} {m : MethodId} {args : Array Value} {below : List Frame} {meth : Method} {c : Code} {T : State} {H : Heap} {locs : List Loc} {cells slots : Nat}
theorem vx_callVX (X : Stand p l e R s m args below meth c T locs cells slots) (hexec : p.tables.exec = Jvm.exec) {own C : String} {index : Nat} {y : MethodName} {bytes : ByteArray} {maxL : Nat} {ret : Option FieldType} {hh : List (Nat × Nat × Nat × Nat)}
    (hown : s.vm.findClass own = some m.cls) (hlink : (Cond.methodLink own index y).before args s = true) (hinst : (Cond.instanceMethod y).before args s = true) (hsel : (Cond.selects C y y).before args s = true)
    (hcode : (Cond.codeWith y bytes maxL ret hh).before args s = true) (hy : y.cls ≠ "java/lang/invoke/MethodHandle" ∧ y.cls ≠ "java/lang/invoke/VarHandle")
    {W9 : Nat} {Pre : Pt → Array Value → Prop} {Post : Pt → Array Value → Option Value → Pt → Prop} {PostX : Pt → Array Value → Addr → Pt → Prop} (hK : vx_Back l R p e below s args y 3 W9 Pre Post PostX)
    {b : Addr} {cellB : Cell} (hcell : T.heap[b]? = some cellB) (hobj : cellB.vm.isStatics = false) (hcls : s.vm.findClass C = some cellB.cls)
    {g : JFrame} (hg : g.method = m) (hsize : g.locals.size = c.maxLocals) {argsL rest : List Value} (hlen : ∀ sig, parseMethodDescriptor y.desc = some sig → argsL.length = sig.parameters.length)
    (hstack : g.stack = argsL.reverse ++ .ref b :: rest) (hW : 2 * g.monitorRoom + (rest.map fun v => v.category).sum ≤ W9) (hdg : decode c.code g.pc = .ok (.invokevirtual index, 3))
    (hpre : ∀ vm₁, s.WarmedH vm₁ → Pre ⟨T.setVm vm₁, locs, cells, slots⟩ (Value.ref b :: argsL).toArray) :
    (∃ (v : Option Value) (vm₁ : Vm) (B : Pt), s.WarmedH vm₁ ∧ Stand p l e R s m args below meth c B.U B.locs B.cells B.slots ∧ Post ⟨T.setVm vm₁, locs, cells, slots⟩ (Value.ref b :: argsL).toArray v B ∧
      ∀ target, Steps p.tables e below (B.U.setTop { g with pc := g.pc + 3, stack := v.toList ++ rest }) target → Steps p.tables e below (T.setTop g) target) ∨
    (∃ (q : Addr) (vm₁ : Vm) (B : Pt), s.WarmedH vm₁ ∧ Stand p l e R s m args below meth c B.U B.locs B.cells B.slots ∧ PostX ⟨T.setVm vm₁, locs, cells, slots⟩ (Value.ref b :: argsL).toArray q B ∧
      Steps p.tables e below (T.setTop g) ((B.U.setTop { g with stack := rest }).pushFrame (.throwing q))) := by
  obtain ⟨mk, methM, hnamed, hmethM, hstM, habM⟩ := Cond.instanceMethod_spec hinst
  obtain ⟨m8, methM', cM, hn8, hmethM', -, -, -, -, -, -, hsigM⟩ := Cond.codeWith_spec hcode
  cases Option.some.inj (hn8.symm.trans hnamed)
  cases hmethM.symm.trans hmethM'
  obtain ⟨c2, r2, m2, q1, q2, q3, q4, kP, hkP, hkPi⟩ := Cond.selects_spec hsel
  cases hcls.symm.trans q1
  cases (State.methodFound?_of_named hnamed hy).symm.trans q2
  cases hnamed.symm.trans q3
  have hselP : selectMethod e.platform s.vm cellB.cls mk = .method mk := by rw [Launch.admits_selectMethod X.admits]; exact q4
  obtain ⟨vm₁, X₁, hstep₁⟩ := X.invokevirtual hexec hown hlink hnamed hmethM hstM hkP hkPi hy (a := b) (cell := cellB) hcell
    (fun z h => by rw [h] at hobj; cases hobj) hselP hmethM habM hkP hkPi (g := g) hg (argsL := argsL) (rest := rest) (hlen _ hsigM) hstack hdg
  rcases hK m meth c ⟨T.setVm vm₁, locs, cells, slots⟩ { g with stack := rest } (.invokevirtual index) mk (Value.ref b :: argsL).toArray X₁ hg hsize hdg hW (X₁.named hnamed) (hpre vm₁ X₁.warmed) with ⟨v, B, X', hpost, hsteps⟩ | ⟨q, B, X', hpost, hsteps⟩
  · exact Or.inl ⟨v, vm₁, B, X₁.warmed, X', hpost, fun target h => hstep₁ _ fun acts => by rw [doInvoke_state]; exact hsteps.trans h⟩
  · exact Or.inr ⟨q, vm₁, B, X₁.warmed, X', hpost, hstep₁ _ fun acts => by rw [doInvoke_state]; exact hsteps⟩
theorem vx_callSX (X : Stand p l e R s m args below meth c T locs cells slots) (hexec : p.tables.exec = Jvm.exec) {own : String} {index : Nat} {y : MethodName} {bytes : ByteArray} {maxL : Nat} {ret : Option FieldType} {hh : List (Nat × Nat × Nat × Nat)}
    (hown : s.vm.findClass own = some m.cls) (hlink : (Cond.methodLink own index y).before args s = true) (hstat : (Cond.static y).before args s = true) (hinit : (Cond.initialized y.cls).before args s = true)
    (hcode : (Cond.codeWith y bytes maxL ret hh).before args s = true) (hy : y.cls ≠ "java/lang/invoke/MethodHandle" ∧ y.cls ≠ "java/lang/invoke/VarHandle")
    {W9 : Nat} {Pre : Pt → Array Value → Prop} {Post : Pt → Array Value → Option Value → Pt → Prop} {PostX : Pt → Array Value → Addr → Pt → Prop} (hK : vx_Back l R p e below s args y 3 W9 Pre Post PostX)
    {g : JFrame} (hg : g.method = m) (hsize : g.locals.size = c.maxLocals) {argsL rest : List Value} (hlen : ∀ sig, parseMethodDescriptor y.desc = some sig → argsL.length = sig.parameters.length)
    (hstack : g.stack = argsL.reverse ++ rest) (hW : 2 * g.monitorRoom + (rest.map fun v => v.category).sum ≤ W9) (hdg : decode c.code g.pc = .ok (.invokestatic index, 3))
    (hpre : ∀ vm₁, s.WarmedH vm₁ → Pre ⟨T.setVm vm₁, locs, cells, slots⟩ argsL.toArray) :
    (∃ (v : Option Value) (vm₁ : Vm) (B : Pt), s.WarmedH vm₁ ∧ Stand p l e R s m args below meth c B.U B.locs B.cells B.slots ∧ Post ⟨T.setVm vm₁, locs, cells, slots⟩ argsL.toArray v B ∧
      ∀ target, Steps p.tables e below (B.U.setTop { g with pc := g.pc + 3, stack := v.toList ++ rest }) target → Steps p.tables e below (T.setTop g) target) ∨
    (∃ (q : Addr) (vm₁ : Vm) (B : Pt), s.WarmedH vm₁ ∧ Stand p l e R s m args below meth c B.U B.locs B.cells B.slots ∧ PostX ⟨T.setVm vm₁, locs, cells, slots⟩ argsL.toArray q B ∧
      Steps p.tables e below (T.setTop g) ((B.U.setTop { g with stack := rest }).pushFrame (.throwing q))) := by
  obtain ⟨mk, methM, cM, hnamed, hmethM, -, -, -, -, -, -, hsigM⟩ := Cond.codeWith_spec hcode
  have hstatic : methM.isStatic = true := Cond.static_spec hnamed hmethM hstat
  obtain ⟨kP, hkP, -⟩ := className_of_methodNamed hnamed
  have hinitP : kP.init = .initialized := Cond.initialized_spec (findClass_of_methodNamed hnamed) hkP hinit
  obtain ⟨vm₁, X₁, hstep₁⟩ := X.invokestatic hexec hown hlink hnamed hmethM hstatic hkP hinitP hy (g := g) hg (argsL := argsL) (rest := rest) (hlen _ hsigM) hstack hdg
  rcases hK m meth c ⟨T.setVm vm₁, locs, cells, slots⟩ { g with stack := rest } (.invokestatic index) mk argsL.toArray X₁ hg hsize hdg hW (X₁.named hnamed) (hpre vm₁ X₁.warmed) with ⟨v, B, X', hpost, hsteps⟩ | ⟨q, B, X', hpost, hsteps⟩
  · exact Or.inl ⟨v, vm₁, B, X₁.warmed, X', hpost, fun target h => hstep₁ _ fun acts => by rw [doInvoke_state]; exact hsteps.trans h⟩
  · exact Or.inr ⟨q, vm₁, B, X₁.warmed, X', hpost, hstep₁ _ fun acts => by rw [doInvoke_state]; exact hsteps⟩
theorem vx_callVW (X : Stand p l e R s m args below meth c T locs cells slots) (hexec : p.tables.exec = Jvm.exec) {own C : String} {index : Nat} {y : MethodName} {bytes : ByteArray} {maxL : Nat} {ret : Option FieldType} {hh : List (Nat × Nat × Nat × Nat)}
    (hown : s.vm.findClass own = some m.cls) (hlink : (Cond.methodLink own index y).before args s = true) (hinst : (Cond.instanceMethod y).before args s = true) (hsel : (Cond.selects C y y).before args s = true)
    (hcode : (Cond.codeWith y bytes maxL ret hh).before args s = true) (hy : y.cls ≠ "java/lang/invoke/MethodHandle" ∧ y.cls ≠ "java/lang/invoke/VarHandle")
    {W9 : Nat} {Pre : Pt → Array Value → Prop} {Post : Pt → Array Value → Option Value → Pt → Prop} (hK : Back l R p e below s args y 3 W9 Pre Post)
    {b : Addr} {cellB : Cell} (hcell : T.heap[b]? = some cellB) (hobj : cellB.vm.isStatics = false) (hcls : s.vm.findClass C = some cellB.cls)
    {g : JFrame} (hg : g.method = m) (hsize : g.locals.size = c.maxLocals) {argsL rest : List Value} (hlen : ∀ sig, parseMethodDescriptor y.desc = some sig → argsL.length = sig.parameters.length)
    (hstack : g.stack = argsL.reverse ++ .ref b :: rest) (hW : 2 * g.monitorRoom + (rest.map fun v => v.category).sum ≤ W9) (hdg : decode c.code g.pc = .ok (.invokevirtual index, 3))
    (hpre : ∀ vm₁, s.WarmedH vm₁ → Pre ⟨T.setVm vm₁, locs, cells, slots⟩ (Value.ref b :: argsL).toArray) :
    ∃ (v : Option Value) (vm₁ : Vm) (B : Pt), s.WarmedH vm₁ ∧ Stand p l e R s m args below meth c B.U B.locs B.cells B.slots ∧ Post ⟨T.setVm vm₁, locs, cells, slots⟩ (Value.ref b :: argsL).toArray v B ∧
      ∀ target, Steps p.tables e below (B.U.setTop { g with pc := g.pc + 3, stack := v.toList ++ rest }) target → Steps p.tables e below (T.setTop g) target := by
  obtain ⟨mk, methM, hnamed, hmethM, hstM, habM⟩ := Cond.instanceMethod_spec hinst
  obtain ⟨m8, methM', cM, hn8, hmethM', -, -, -, -, -, -, hsigM⟩ := Cond.codeWith_spec hcode
  cases Option.some.inj (hn8.symm.trans hnamed)
  cases hmethM.symm.trans hmethM'
  obtain ⟨c2, r2, m2, q1, q2, q3, q4, kP, hkP, hkPi⟩ := Cond.selects_spec hsel
  cases hcls.symm.trans q1
  cases (State.methodFound?_of_named hnamed hy).symm.trans q2
  cases hnamed.symm.trans q3
  have hselP : selectMethod e.platform s.vm cellB.cls mk = .method mk := by rw [Launch.admits_selectMethod X.admits]; exact q4
  obtain ⟨vm₁, X₁, hstep₁⟩ := X.invokevirtual hexec hown hlink hnamed hmethM hstM hkP hkPi hy (a := b) (cell := cellB) hcell
    (fun z h => by rw [h] at hobj; cases hobj) hselP hmethM habM hkP hkPi (g := g) hg (argsL := argsL) (rest := rest) (hlen _ hsigM) hstack hdg
  obtain ⟨v, B, X', hpost, hsteps⟩ := hK m meth c ⟨T.setVm vm₁, locs, cells, slots⟩ { g with stack := rest } (.invokevirtual index) mk (Value.ref b :: argsL).toArray X₁ hg hsize hdg hW (X₁.named hnamed) (hpre vm₁ X₁.warmed)
  exact ⟨v, vm₁, B, X₁.warmed, X', hpost, fun target h => hstep₁ _ fun acts => by rw [doInvoke_state]; exact hsteps.trans h⟩
abbrev vx_CVW (R : Room) (s : State) (args : Array Value) (own C : String) (index : Nat) (y : MethodName) (bytes : ByteArray) (maxL : Nat) (ret : Option FieldType) (hh : List (Nat × Nat × Nat × Nat)) (ws : List Cond) (rm : Room) (mc ms n : Nat) : Prop :=
  (rm.cells = mc ∧ rm.slots = ms ∧ rm.frames + 1 ≤ R.frames ∧ 8 + (maxL + 11) + rm.locals ≤ R.locals ∧ (∀ w ∈ ws, ∀ (a' : Array Value) (U : State), s.WarmedH U.vm → w.before a' U = true) ∧ Cond.codeWith y bytes maxL ret hh ∈ ws) ∧
  (Cond.codeWith y bytes maxL ret hh).before args s = true ∧ (Cond.initialized y.cls).before args s = true ∧ (y.cls ≠ "java/lang/invoke/MethodHandle" ∧ y.cls ≠ "java/lang/invoke/VarHandle") ∧
  (∀ sig, parseMethodDescriptor y.desc = some sig → n = sig.parameters.length) ∧ (Cond.methodLink own index y).before args s = true ∧ (Cond.instanceMethod y).before args s = true ∧ (Cond.selects C y y).before args s = true
theorem vx_cwVW {own C : String} {index maxL mc ms : Nat} {y : MethodName} {bytes : ByteArray} {ret : Option FieldType} {hh : List (Nat × Nat × Nat × Nat)} {Ts ws ws' : List Cond} {rm : Room} (n : Nat) (ht : ∀ w ∈ Ts, w.before args s = true) (hT : GoodIn Ts (wsV own index C y ws)) (hw : ws = Cond.codeWith y bytes maxL ret hh :: ws') (hrc : rm.cells = mc) (hrs : rm.slots = ms)
    (hd : y.cls = C ∧ y.cls ≠ "java/lang/invoke/MethodHandle" ∧ y.cls ≠ "java/lang/invoke/VarHandle" ∧ (parseMethodDescriptor y.desc).map (fun d => d.parameters.length) = some n) (hR : rm.frames + 1 ≤ R.frames ∧ 8 + (maxL + 11) + rm.locals ≤ R.locals) :
    vx_CVW R s args own C index y bytes maxL ret hh ws rm mc ms n := by
  obtain ⟨hC, hd⟩ := hd
  subst hC
  have ok : ∀ w ∈ wsV own index y.cls y ws, w.before args s = true := fun w h => ht w (hT w h).1
  have hG : GoodIn Ts ws := fun w h => hT w (by unfold wsV; exact List.mem_append_right _ h)
  have hc : Cond.codeWith y bytes maxL ret hh ∈ ws := by rw [hw]; exact List.mem_cons_self
  refine ⟨⟨hrc, hrs, hR.1, hR.2, pay_in ht hG, hc⟩, ht _ (hG _ hc).1, ok _ (by simp [wsV]), ⟨hd.1, hd.2.1⟩, fun sig h => ?_, ok _ (by simp [wsV]), ok _ (by simp [wsV]), ok _ (by simp [wsV])⟩
  have h2 := hd.2.2
  rw [h] at h2
  exact (Option.some.inj h2).symm
theorem vx_runVW {y : MethodName} {bytes cc : ByteArray} {maxL nL mc ms n index : Nat} {ret : Option FieldType} {hh : List (Nat × Nat × Nat × Nat)} {ws : List Cond} {rm : Room} {Pc : Array Value → State → Prop} {Qc : Array Value → State → Outcome → State → Prop} {free : Addr → Prop} {Ts : List Cond} {own C : String} {b : Addr} {As rest : List Value} {g : JFrame}
    (S : CallFix p m c cc nL s args Ts own) (hM : Met l y ws rm Pc Qc mc ms free) (cw : vx_CVW R s args own C index y bytes maxL ret hh ws rm mc ms n) (hp : PreV s H C b Pc As)
    (hg : g.method = m) (hn : As.length = n) (hsize : g.locals.size = nL) (hstack : g.stack = As.reverse ++ .ref b :: rest) (hW : 2 * g.monitorRoom + (rest.map fun v => v.category).sum ≤ 8) (hdg : decode cc g.pc = .ok (.invokevirtual index, 3)) (hf : cells + mc ≤ R.cells ∧ slots + ms ≤ R.slots) :
    va_Run p l e R s m args below meth c H locs cells slots mc ms g rest (Qc (Value.ref b :: As).toArray) free := by
  obtain ⟨⟨hrc, hrs, hfr, hlo, hws, hcw⟩, hcode, hini, hy, hlen, hl, hin, hse⟩ := cw
  have hK : Back l R p e below s args y 3 8 (PreOf R mc ms Pc) (PostOf Qc mc ms free) := va_backW (hh := hh) (bytes := bytes) (maxL := maxL) (ret := ret) hM hp.1 hrc hrs hfr hlo hws hcw (fun a' U hW => word_at hW (Or.inl (by first | rfl | simp [Cond.onTables, Cond.keeps, Cond.steady])) hini)
  obtain ⟨hx, hb, hml, ho, -⟩ := S
  obtain ⟨-, ⟨cellB, hcB, hoB, hclB⟩, hPc⟩ := hp
  intro T hT X
  obtain ⟨v, vm₁, ⟨U', l2, c2, s2⟩, hW₁, X', ⟨g', mk, t, L, e1, e2, hq, h1, hL, h2, h3⟩, st⟩ := vx_callVW X hx (C := C) (hh := hh) (bytes := bytes) (maxL := maxL) (ret := ret) ho hl hin hse hcode hy hK (by rw [hT]; exact hcB) hoB hclB hg (hsize.trans hml.symm) (argsL := As) (rest := rest) (fun sig h => hn.trans (hlen sig h)) hstack hW (by rw [hb]; exact hdg)
    (fun vm₁ hW₁ => ⟨hf.1, hf.2, hPc (T.setVm vm₁) hT hW₁⟩)
  dsimp only [Pt.U, Pt.locs, Pt.cells, Pt.slots] at X' e1 e2 h1 h2 h3 st
  subst h1; subst h2; subst h3
  exact ⟨v, (T.setVm vm₁).calling g' mk (Value.ref b :: As).toArray, t, U', L, hT, X', hL, e1, e2, hq, st⟩
section
variable {y : MethodName} {bytes cc : ByteArray} {maxL nL mc ms n index : Nat} {ret : Option FieldType} {ws : List Cond} {rm : Room} {Pc : Array Value → State → Prop} {Qc : Array Value → State → Outcome → State → Prop} {XC : String → State → State → Prop} {free : Addr → Prop} {Ts : List Cond} {own C : String} {b : Addr} {As rest : List Value} {g : JFrame}
theorem vx_runVX {hh : List (Nat × Nat × Nat × Nat)} (S : CallFix p m c cc nL s args Ts own) (hM : vx_Met l y ws rm Pc Qc XC mc ms free) (cw : vx_CVW R s args own C index y bytes maxL ret hh ws rm mc ms n) (hp : PreV s H C b Pc As)
    (hg : g.method = m) (hn : As.length = n) (hsize : g.locals.size = nL) (hstack : g.stack = As.reverse ++ .ref b :: rest) (hW : 2 * g.monitorRoom + (rest.map fun v => v.category).sum ≤ 8) (hdg : decode cc g.pc = .ok (.invokevirtual index, 3)) (hf : cells + mc ≤ R.cells ∧ slots + ms ≤ R.slots) :
    vx_Run p l e R s m args below meth c H locs cells slots mc ms g rest (Qc (Value.ref b :: As).toArray) XC free := by
  obtain ⟨⟨hrc, hrs, hfr, hlo, hws, hcw⟩, hcode, hini, hy, hlen, hl, hin, hse⟩ := cw
  have hK : vx_Back l R p e below s args y 3 8 (PreOf R mc ms Pc) (PostOf Qc mc ms free) (vx_Post XC mc ms free) := vx_backW (hh := hh) (bytes := bytes) (maxL := maxL) (ret := ret) hM hp.1 hrc hrs hfr hlo hws hcw (fun a' U hW => word_at hW (Or.inl (by first | rfl | simp [Cond.onTables, Cond.keeps, Cond.steady])) hini)
  obtain ⟨hx, hb, hml, ho, -⟩ := S
  obtain ⟨-, ⟨cellB, hcB, hoB, hclB⟩, hPc⟩ := hp
  intro T hT X
  rcases vx_callVX X hx (C := C) (hh := hh) (bytes := bytes) (maxL := maxL) (ret := ret) ho hl hin hse hcode hy hK (by rw [hT]; exact hcB) hoB hclB hg (hsize.trans hml.symm) (argsL := As) (rest := rest) (fun sig h => hn.trans (hlen sig h)) hstack hW (by rw [hb]; exact hdg)
    (fun vm₁ hW₁ => ⟨hf.1, hf.2, hPc (T.setVm vm₁) hT hW₁⟩) with ⟨v, vm₁, ⟨U', l2, c2, s2⟩, hW₁, X', ⟨g', mk, t, L, e1, e2, hq, h1, hL, h2, h3⟩, st⟩ | ⟨q, vm₁, ⟨U', l2, c2, s2⟩, hW₁, X', ⟨g', mk, t, L, E, ce, e1, e2, hq, hce, hcv, hcl, h1, hL, h2, h3⟩, st⟩
  · dsimp only [Pt.U, Pt.locs, Pt.cells, Pt.slots] at X' e1 e2 h1 h2 h3 st
    subst h1; subst h2; subst h3
    exact Or.inl ⟨v, (T.setVm vm₁).calling g' mk (Value.ref b :: As).toArray, t, U', L, hT, X', hL, e1, e2, hq, st⟩
  · dsimp only [Pt.U, Pt.locs, Pt.cells, Pt.slots] at X' e1 e2 h1 h2 h3 st hcl
    subst h1; subst h2; subst h3
    exact Or.inr ⟨q, (T.setVm vm₁).calling g' mk (Value.ref b :: As).toArray, t, U', L, E, ce, hT, X', hL, e1, e2, hq, hce, hcv, vx_cls hW₁ hcl, st⟩
theorem vx_runSX {hh : List (Nat × Nat × Nat × Nat)} (S : CallFix p m c cc nL s args Ts own) (hM : vx_Met l y ws rm Pc Qc XC mc ms free) (cw : vx_CSW R s args own index y bytes maxL ret hh ws rm mc ms n) (hp : PreS s H Pc As)
    (hg : g.method = m) (hn : As.length = n) (hsize : g.locals.size = nL) (hstack : g.stack = As.reverse ++ rest) (hW : 2 * g.monitorRoom + (rest.map fun v => v.category).sum ≤ 8) (hdg : decode cc g.pc = .ok (.invokestatic index, 3)) (hf : cells + mc ≤ R.cells ∧ slots + ms ≤ R.slots) :
    vx_Run p l e R s m args below meth c H locs cells slots mc ms g rest (Qc As.toArray) XC free := by
  obtain ⟨⟨hrc, hrs, hfr, hlo, hws, hcw⟩, hcode, hini, hy, hlen, hl, hstt⟩ := cw
  have hK : vx_Back l R p e below s args y 3 8 (PreOf R mc ms Pc) (PostOf Qc mc ms free) (vx_Post XC mc ms free) := vx_backW (hh := hh) (bytes := bytes) (maxL := maxL) (ret := ret) hM hp.1 hrc hrs hfr hlo hws hcw (fun a' U hW => word_at hW (Or.inl (by first | rfl | simp [Cond.onTables, Cond.keeps, Cond.steady])) hini)
  obtain ⟨hx, hb, hml, ho, -⟩ := S
  intro T hT X
  rcases vx_callSX X hx (hh := hh) (bytes := bytes) (maxL := maxL) (ret := ret) ho hl hstt hini hcode hy hK hg (hsize.trans hml.symm) (argsL := As) (rest := rest) (fun sig h => hn.trans (hlen sig h)) hstack hW (by rw [hb]; exact hdg)
    (fun vm₁ hW₁ => ⟨hf.1, hf.2, hp.2 (T.setVm vm₁) hT hW₁⟩) with ⟨v, vm₁, ⟨U', l2, c2, s2⟩, hW₁, X', ⟨g', mk, t, L, e1, e2, hq, h1, hL, h2, h3⟩, st⟩ | ⟨q, vm₁, ⟨U', l2, c2, s2⟩, hW₁, X', ⟨g', mk, t, L, E, ce, e1, e2, hq, hce, hcv, hcl, h1, hL, h2, h3⟩, st⟩
  · dsimp only [Pt.U, Pt.locs, Pt.cells, Pt.slots] at X' e1 e2 h1 h2 h3 st
    subst h1; subst h2; subst h3
    exact Or.inl ⟨v, (T.setVm vm₁).calling g' mk As.toArray, t, U', L, hT, X', hL, e1, e2, hq, st⟩
  · dsimp only [Pt.U, Pt.locs, Pt.cells, Pt.slots] at X' e1 e2 h1 h2 h3 st hcl
    subst h1; subst h2; subst h3
    exact Or.inr ⟨q, (T.setVm vm₁).calling g' mk As.toArray, t, U', L, E, ce, hT, X', hL, e1, e2, hq, hce, hcv, vx_cls hW₁ hcl, st⟩
end
end VXH
theorem vx_ofWH {l : Launch} {y : MethodName} {ws ws' : List Cond} {rm : Room} {Pc : Array Value → State → Prop} {Qc : Array Value → State → Outcome → State → Prop} {XC : String → State → State → Prop} {mc ms : Nat} {free : Addr → Prop} {cc : ByteArray} {maxL : Nat} {ret : Option FieldType} {hh : List (Nat × Nat × Nat × Nat)}
    (hy : plainName y.cls = true) (hw : ws = Cond.codeWith y cc maxL ret hh :: ws')
    (body : ∀ p e s m args below meth c s₁, BodyLoose p l y (headSpec ws rm) cc maxL ret e s m args below meth c s₁ → c.maxLocals = maxL → Pc args s →
      W p l e (headSpec ws rm).room s m args below meth c s.heap [] 0 0 (vx_MQ below Qc XC args s mc ms free) (entryFrame m args maxL)) : vx_Met l y ws rm Pc Qc XC mc ms free := by
  refine MetFree.of_bodyS (code := cc) (maxLocals := maxL) (ret := ret) hy ?_ ?_
  · intro args s m h hn
    obtain ⟨m9, meth, c, hn9, h1, h2, h3, h4, -, h5, h6, -⟩ := Cond.codeWith_spec (atoms_spec (ws := ws) h _ (by rw [hw]; exact List.mem_cons_self))
    cases hn.symm.trans hn9
    exact ⟨meth, c, h1, h2, h3, h4, h5, h6⟩
  · intro p e s m args below meth c s₁ B hml hP _
    have hh0 : s₁.heap = s.heap := by rw [B.state]; rfl
    obtain ⟨t, a1, o, b1, b2, b3⟩ := body p e s m args below meth c s₁ B hml hP s₁ hh0 (Stand.of_body B)
    exact ⟨t, o, a1, b1, b2, b3⟩
/-! ===== END ===== -/
end
section
def RX0 : String := "LightRays$Boxes"
def RX1 : String := "LightRays$Meeting"
def RX2 : String := "LightRays$Path"
def RX3 : String := "LightRays"
def RX4 : String := "LightRaysModel"
def RL : String := "LightRaysLaw"
def RJI : String := "java/lang/Integer"
def RJM : String := "java/lang/Math"
def TX0 : u_T := fun k => match k with
  | 0 => (RX0, "lows", "[I", true)
  | 1 => (RX0, "highs", "[I", true)
  | 2 => (RX0, "kinds", "[I", true)
  | 3 => (RX0, "shares", "[I", true)
  | 4 => (RX0, "offs", "[Z", true)
  | _ => (RX0, "count", "I", false)
def tyX0 : Nat → FieldType := fun k => match k with
  | 0 => .array .int
  | 1 => .array .int
  | 2 => .array .int
  | 3 => .array .int
  | 4 => .array .boolean
  | _ => .int
theorem nmX0 : ∀ a, a < 6 → ∀ b, b < 6 → a ≠ b → (TX0 a).2.1 ≠ (TX0 b).2.1 := by decide +kernel
theorem tyX0_ok : ∀ k, k < 6 → parseFieldDescriptor (TX0 k).2.2.1 = some (tyX0 k) := by decide +kernel
def TX1 : u_T := fun k => match k with
  | 0 => (RX1, "box", "I", false)
  | 1 => (RX1, "axis", "I", false)
  | 2 => (RX1, "above", "I", false)
  | _ => (RX1, "below", "I", false)
def tyX1 : Nat → FieldType := fun k => match k with
  | 0 => .int
  | 1 => .int
  | 2 => .int
  | _ => .int
theorem nmX1 : ∀ a, a < 4 → ∀ b, b < 4 → a ≠ b → (TX1 a).2.1 ≠ (TX1 b).2.1 := by decide +kernel
theorem tyX1_ok : ∀ k, k < 4 → parseFieldDescriptor (TX1 k).2.2.1 = some (tyX1 k) := by decide +kernel
def TX2 : u_T := fun k => match k with
  | 0 => (RX2, "origin", "[I", true)
  | 1 => (RX2, "direction", "[I", true)
  | 2 => (RX2, "arrival", "[I", true)
  | 3 => (RX2, "hitBoxes", "[I", true)
  | 4 => (RX2, "hitAxes", "[I", true)
  | 5 => (RX2, "hitAbove", "[I", true)
  | 6 => (RX2, "hitBelow", "[I", true)
  | 7 => (RX2, "hitSpots", "[I", true)
  | 8 => (RX2, "latest", "LLightRays$Meeting;", true)
  | 9 => (RX2, "next", "LLightRays$Meeting;", true)
  | 10 => (RX2, "trial", "LLightRays$Meeting;", true)
  | 11 => (RX2, "hits", "I", false)
  | _ => (RX2, "light", "I", false)
def tyX2 : Nat → FieldType := fun k => match k with
  | 0 => .array .int
  | 1 => .array .int
  | 2 => .array .int
  | 3 => .array .int
  | 4 => .array .int
  | 5 => .array .int
  | 6 => .array .int
  | 7 => .array .int
  | 8 => .object "LightRays$Meeting"
  | 9 => .object "LightRays$Meeting"
  | 10 => .object "LightRays$Meeting"
  | 11 => .int
  | _ => .int
theorem nmX2 : ∀ a, a < 13 → ∀ b, b < 13 → a ≠ b → (TX2 a).2.1 ≠ (TX2 b).2.1 := by decide +kernel
theorem tyX2_ok : ∀ k, k < 13 → parseFieldDescriptor (TX2 k).2.2.1 = some (tyX2 k) := by decide +kernel
def TX3 : u_T := fun k => match k with
  | 0 => (RX3, "size", "I", true)
  | 1 => (RX3, "boxes", "LLightRays$Boxes;", true)
  | 2 => (RX3, "brightness", "[I", true)
  | 3 => (RX3, "fanDirections", "[I", true)
  | 4 => (RX3, "fanCount", "I", false)
  | 5 => (RX3, "latestRay", "LLightRays$Path;", true)
  | 6 => (RX3, "rayWas", "Z", false)
  | _ => (RX3, "fanRay", "LLightRays$Path;", true)
def tyX3 : Nat → FieldType := fun k => match k with
  | 0 => .int
  | 1 => .object "LightRays$Boxes"
  | 2 => .array .int
  | 3 => .array .int
  | 4 => .int
  | 5 => .object "LightRays$Path"
  | 6 => .boolean
  | _ => .object "LightRays$Path"
theorem nmX3 : ∀ a, a < 8 → ∀ b, b < 8 → a ≠ b → (TX3 a).2.1 ≠ (TX3 b).2.1 := by decide +kernel
theorem tyX3_ok : ∀ k, k < 8 → parseFieldDescriptor (TX3 k).2.2.1 = some (tyX3 k) := by decide +kernel
def TX4 : u_T := fun k => match k with
  | 0 => (RX4, "thrown", "I", false)
  | 1 => (RX4, "size", "I", true)
  | 2 => (RX4, "boxes", "I", false)
  | 3 => (RX4, "corners", "[I", true)
  | 4 => (RX4, "kinds", "[I", true)
  | 5 => (RX4, "shares", "[I", true)
  | 6 => (RX4, "isOff", "[Z", true)
  | 7 => (RX4, "at", "[I", true)
  | 8 => (RX4, "by", "[I", true)
  | 9 => (RX4, "atBefore", "[I", true)
  | 10 => (RX4, "byBefore", "[I", true)
  | 11 => (RX4, "light", "I", false)
  | 12 => (RX4, "hits", "I", false)
  | 13 => (RX4, "lastAbove", "J", false)
  | 14 => (RX4, "lastBelow", "J", false)
  | 15 => (RX4, "lastBox", "I", false)
  | 16 => (RX4, "inAbove", "J", false)
  | 17 => (RX4, "inBelow", "J", false)
  | 18 => (RX4, "inAxis", "I", false)
  | 19 => (RX4, "outAbove", "J", false)
  | 20 => (RX4, "outBelow", "J", false)
  | 21 => (RX4, "hitBox", "[I", true)
  | 22 => (RX4, "hitAxis", "[I", true)
  | 23 => (RX4, "hitAbove", "[J", true)
  | 24 => (RX4, "hitBelow", "[J", true)
  | 25 => (RX4, "hitPlace", "[J", true)
  | 26 => (RX4, "hasRay", "Z", false)
  | 27 => (RX4, "rayHits", "I", false)
  | 28 => (RX4, "rayLight", "I", false)
  | 29 => (RX4, "rayBy", "[I", true)
  | 30 => (RX4, "rayBox", "[I", true)
  | 31 => (RX4, "rayAxis", "[I", true)
  | 32 => (RX4, "rayAbove", "[J", true)
  | 33 => (RX4, "rayBelow", "[J", true)
  | 34 => (RX4, "rayPlace", "[J", true)
  | 35 => (RX4, "sky", "[I", true)
  | 36 => (RX4, "fans", "I", false)
  | _ => (RX4, "fan", "[I", true)
def tyX4 : Nat → FieldType := fun k => match k with
  | 0 => .int
  | 1 => .int
  | 2 => .int
  | 3 => .array .int
  | 4 => .array .int
  | 5 => .array .int
  | 6 => .array .boolean
  | 7 => .array .int
  | 8 => .array .int
  | 9 => .array .int
  | 10 => .array .int
  | 11 => .int
  | 12 => .int
  | 13 => .long
  | 14 => .long
  | 15 => .int
  | 16 => .long
  | 17 => .long
  | 18 => .int
  | 19 => .long
  | 20 => .long
  | 21 => .array .int
  | 22 => .array .int
  | 23 => .array .long
  | 24 => .array .long
  | 25 => .array .long
  | 26 => .boolean
  | 27 => .int
  | 28 => .int
  | 29 => .array .int
  | 30 => .array .int
  | 31 => .array .int
  | 32 => .array .long
  | 33 => .array .long
  | 34 => .array .long
  | 35 => .array .int
  | 36 => .int
  | _ => .array .int
theorem nmX4 : ∀ a, a < 38 → ∀ b, b < 38 → a ≠ b → (TX4 a).2.1 ≠ (TX4 b).2.1 := by decide +kernel
theorem tyX4_ok : ∀ k, k < 38 → parseFieldDescriptor (TX4 k).2.2.1 = some (tyX4 k) := by decide +kernel
abbrev vwCl : List vw_C := [(RX0, TX0, 6), (RX1, TX1, 4), (RX2, TX2, 13), (RX3, TX3, 8), (RX4, TX4, 38)]
abbrev cX3_init : ByteArray := prog_1_method_1_code
def yX3_init : MethodName := ⟨RX3, "<init>", "(I)V"⟩
abbrev cJM_min : ByteArray := prog_11_method_69_code
def yJM_min : MethodName := ⟨RJM, "min", "(II)I"⟩
abbrev cJM_max : ByteArray := prog_11_method_65_code
def yJM_max : MethodName := ⟨RJM, "max", "(II)I"⟩
abbrev cX0_init : ByteArray := prog_2_method_1_code
def yX0_init : MethodName := ⟨RX0, "<init>", "()V"⟩
abbrev cX2_init : ByteArray := prog_4_method_1_code
def yX2_init : MethodName := ⟨RX2, "<init>", "()V"⟩
abbrev cX1_init : ByteArray := prog_3_method_1_code
def yX1_init : MethodName := ⟨RX1, "<init>", "()V"⟩
abbrev cX3_noFan : ByteArray := prog_1_method_11_code
def yX3_noFan : MethodName := ⟨RX3, "noFan", "()I"⟩
abbrev cL_cell : ByteArray := method_2_code
def yL_cell : MethodName := ⟨RL, "cell", "([II)I"⟩
abbrev cL_box : ByteArray := method_3_code
def yL_box : MethodName := ⟨RL, "box", "(LLightRays;IIIIII[J)I"⟩
abbrev cX3_box : ByteArray := prog_1_method_2_code
def yX3_box : MethodName := ⟨RX3, "box", "(IIIIII)I"⟩
abbrev cX3_demandPoint : ByteArray := prog_1_method_17_code
def yX3_demandPoint : MethodName := ⟨RX3, "demandPoint", "(III)V"⟩
abbrev cX3_demandWithin : ByteArray := prog_1_method_16_code
def yX3_demandWithin : MethodName := ⟨RX3, "demandWithin", "(III)V"⟩
abbrev cX3_demand : ByteArray := prog_1_method_15_code
def yX3_demand : MethodName := ⟨RX3, "demand", "(Z)V"⟩
abbrev cX0_add : ByteArray := prog_2_method_2_code
def yX0_add : MethodName := ⟨RX0, "add", "(IIIIII)I"⟩
abbrev cL_kind : ByteArray := method_4_code
def yL_kind : MethodName := ⟨RL, "kind", "(LLightRays;III[J)I"⟩
abbrev cX3_kind : ByteArray := prog_1_method_3_code
def yX3_kind : MethodName := ⟨RX3, "kind", "(III)I"⟩
abbrev cX3_demandBox : ByteArray := prog_1_method_19_code
def yX3_demandBox : MethodName := ⟨RX3, "demandBox", "(I)V"⟩
abbrev cL_off : ByteArray := method_5_code
def yL_off : MethodName := ⟨RL, "off", "(LLightRays;IZ[J)I"⟩
abbrev cX3_off : ByteArray := prog_1_method_4_code
def yX3_off : MethodName := ⟨RX3, "off", "(IZ)Z"⟩
abbrev cL_ray : ByteArray := method_6_code
def yL_ray : MethodName := ⟨RL, "ray", "(LLightRays;IIIIII[J)I"⟩
abbrev cX3_ray : ByteArray := prog_1_method_5_code
def yX3_ray : MethodName := ⟨RX3, "ray", "(IIIIII)I"⟩
abbrev cX3_demandDirection : ByteArray := prog_1_method_18_code
def yX3_demandDirection : MethodName := ⟨RX3, "demandDirection", "(III)V"⟩
abbrev cX2_begin : ByteArray := prog_4_method_2_code
def yX2_begin : MethodName := ⟨RX2, "begin", "(III)V"⟩
abbrev cX1_set : ByteArray := prog_3_method_2_code
def yX1_set : MethodName := ⟨RX1, "set", "(IIII)V"⟩
abbrev cX2_aim : ByteArray := prog_4_method_3_code
def yX2_aim : MethodName := ⟨RX2, "aim", "(III)V"⟩
abbrev cX2_follow : ByteArray := prog_4_method_6_code
def yX2_follow : MethodName := ⟨RX2, "follow", "(LLightRays$Boxes;)I"⟩
abbrev cX0_anySolidRound : ByteArray := prog_2_method_3_code
def yX0_anySolidRound : MethodName := ⟨RX0, "anySolidRound", "([I)Z"⟩
abbrev cX0_isInside : ByteArray := prog_2_method_4_code
def yX0_isInside : MethodName := ⟨RX0, "isInside", "(I[I)Z"⟩
abbrev cX2_findNext : ByteArray := prog_4_method_7_code
def yX2_findNext : MethodName := ⟨RX2, "findNext", "(LLightRays$Boxes;)Z"⟩
abbrev cX2_crosses : ByteArray := prog_4_method_8_code
def yX2_crosses : MethodName := ⟨RX2, "crosses", "(LLightRays$Boxes;I)Z"⟩
abbrev cJM_abs : ByteArray := prog_11_method_59_code
def yJM_abs : MethodName := ⟨RJM, "abs", "(I)I"⟩
abbrev cX2_countsNow : ByteArray := prog_4_method_9_code
def yX2_countsNow : MethodName := ⟨RX2, "countsNow", "(LLightRays$Boxes;)Z"⟩
abbrev cX1_compareTime : ByteArray := prog_3_method_4_code
def yX1_compareTime : MethodName := ⟨RX1, "compareTime", "(LLightRays$Meeting;)I"⟩
abbrev cJI_compare : ByteArray := prog_10_method_40_code
def yJI_compare : MethodName := ⟨RJI, "compare", "(II)I"⟩
abbrev cX2_cameInside : ByteArray := prog_4_method_10_code
def yX2_cameInside : MethodName := ⟨RX2, "cameInside", "(LLightRays$Boxes;I)Z"⟩
abbrev cX2_spotAtLatest : ByteArray := prog_4_method_11_code
def yX2_spotAtLatest : MethodName := ⟨RX2, "spotAtLatest", "(I)I"⟩
abbrev cX1_copy : ByteArray := prog_3_method_3_code
def yX1_copy : MethodName := ⟨RX1, "copy", "(LLightRays$Meeting;)V"⟩
abbrev cX2_keepHit : ByteArray := prog_4_method_12_code
def yX2_keepHit : MethodName := ⟨RX2, "keepHit", "()V"⟩
abbrev cX3_commonDivisor : ByteArray := prog_1_method_21_code
def yX3_commonDivisor : MethodName := ⟨RX3, "commonDivisor", "(II)I"⟩
abbrev cX2_turn : ByteArray := prog_4_method_13_code
def yX2_turn : MethodName := ⟨RX2, "turn", "(LLightRays$Boxes;)V"⟩
abbrev cL_told : ByteArray := method_7_code
def yL_told : MethodName := ⟨RL, "told", "(LLightRays;I[J)I"⟩
abbrev cX3_told : ByteArray := prog_1_method_6_code
def yX3_told : MethodName := ⟨RX3, "told", "(I)I"⟩
abbrev cX3_demandRay : ByteArray := prog_1_method_20_code
def yX3_demandRay : MethodName := ⟨RX3, "demandRay", "()V"⟩
abbrev cL_hit : ByteArray := method_8_code
def yL_hit : MethodName := ⟨RL, "hit", "(LLightRays;II[J)I"⟩
abbrev cX3_hit : ByteArray := prog_1_method_7_code
def yX3_hit : MethodName := ⟨RX3, "hit", "(II)I"⟩
abbrev cX2_hasHit : ByteArray := prog_4_method_4_code
def yX2_hasHit : MethodName := ⟨RX2, "hasHit", "(I)Z"⟩
abbrev cL_place : ByteArray := method_9_code
def yL_place : MethodName := ⟨RL, "place", "(LLightRays;III[J)I"⟩
abbrev cX3_place : ByteArray := prog_1_method_8_code
def yX3_place : MethodName := ⟨RX3, "place", "(III)J"⟩
abbrev cL_sky : ByteArray := method_10_code
def yL_sky : MethodName := ⟨RL, "sky", "(LLightRays;II[J)I"⟩
abbrev cX3_sky : ByteArray := prog_1_method_9_code
def yX3_sky : MethodName := ⟨RX3, "sky", "(II)I"⟩
abbrev cL_fan : ByteArray := method_11_code
def yL_fan : MethodName := ⟨RL, "fan", "(LLightRays;III[J)I"⟩
abbrev cX3_fan : ByteArray := prog_1_method_10_code
def yX3_fan : MethodName := ⟨RX3, "fan", "(III)I"⟩
abbrev cL_measure : ByteArray := method_12_code
def yL_measure : MethodName := ⟨RL, "measure", "(LLightRays;III[J)I"⟩
abbrev cX3_measure : ByteArray := prog_1_method_12_code
def yX3_measure : MethodName := ⟨RX3, "measure", "(III)J"⟩
abbrev cX3_measureAt : ByteArray := prog_1_method_14_code
def yX3_measureAt : MethodName := ⟨RX3, "measureAt", "(III)J"⟩
abbrev cX2_octant : ByteArray := prog_4_method_5_code
def yX2_octant : MethodName := ⟨RX2, "octant", "()I"⟩
abbrev cL_best : ByteArray := method_13_code
def yL_best : MethodName := ⟨RL, "best", "(LLightRays;IIIIIII[J)I"⟩
abbrev cX3_best : ByteArray := prog_1_method_13_code
def yX3_best : MethodName := ⟨RX3, "best", "(IIIIIII)I"⟩
abbrev cX4_init : ByteArray := prog_6_method_1_code
def yX4_init : MethodName := ⟨RX4, "<init>", "(I)V"⟩
abbrev cX4_thrown : ByteArray := prog_6_method_2_code
def yX4_thrown : MethodName := ⟨RX4, "thrown", "()I"⟩
abbrev cX4_box : ByteArray := prog_6_method_8_code
def yX4_box : MethodName := ⟨RX4, "box", "(IIIIII)I"⟩
abbrev cX4_arePlaces : ByteArray := prog_6_method_5_code
def yX4_arePlaces : MethodName := ⟨RX4, "arePlaces", "(III)Z"⟩
abbrev cX4_isPlace : ByteArray := prog_6_method_4_code
def yX4_isPlace : MethodName := ⟨RX4, "isPlace", "(I)Z"⟩
abbrev cX4_in : ByteArray := prog_6_method_3_code
def yX4_in : MethodName := ⟨RX4, "in", "(III)Z"⟩
abbrev cX4_kind : ByteArray := prog_6_method_9_code
def yX4_kind : MethodName := ⟨RX4, "kind", "(III)I"⟩
abbrev cX4_isBox : ByteArray := prog_6_method_7_code
def yX4_isBox : MethodName := ⟨RX4, "isBox", "(I)Z"⟩
abbrev cX4_off : ByteArray := prog_6_method_10_code
def yX4_off : MethodName := ⟨RX4, "off", "(IZ)Z"⟩
abbrev cX4_ray : ByteArray := prog_6_method_19_code
def yX4_ray : MethodName := ⟨RX4, "ray", "(IIIIII)I"⟩
abbrev cX4_isDirection : ByteArray := prog_6_method_6_code
def yX4_isDirection : MethodName := ⟨RX4, "isDirection", "(III)Z"⟩
abbrev cX4_go : ByteArray := prog_6_method_18_code
def yX4_go : MethodName := ⟨RX4, "go", "(IIIIII)I"⟩
abbrev cX4_isInSolid : ByteArray := prog_6_method_15_code
def yX4_isInSolid : MethodName := ⟨RX4, "isInSolid", "()Z"⟩
abbrev cX4_next : ByteArray := prog_6_method_14_code
def yX4_next : MethodName := ⟨RX4, "next", "()I"⟩
abbrev cX4_counts : ByteArray := prog_6_method_13_code
def yX4_counts : MethodName := ⟨RX4, "counts", "(I)Z"⟩
abbrev cX4_meets : ByteArray := prog_6_method_11_code
def yX4_meets : MethodName := ⟨RX4, "meets", "(I[I[I)Z"⟩
abbrev cX4_wasIn : ByteArray := prog_6_method_12_code
def yX4_wasIn : MethodName := ⟨RX4, "wasIn", "(I)Z"⟩
abbrev cX4_keepHit : ByteArray := prog_6_method_16_code
def yX4_keepHit : MethodName := ⟨RX4, "keepHit", "(I)V"⟩
abbrev cX4_remember : ByteArray := prog_6_method_17_code
def yX4_remember : MethodName := ⟨RX4, "remember", "()V"⟩
abbrev cX4_told : ByteArray := prog_6_method_20_code
def yX4_told : MethodName := ⟨RX4, "told", "(I)I"⟩
abbrev cX4_hit : ByteArray := prog_6_method_22_code
def yX4_hit : MethodName := ⟨RX4, "hit", "(II)I"⟩
abbrev cX4_common : ByteArray := prog_6_method_21_code
def yX4_common : MethodName := ⟨RX4, "common", "(JJ)J"⟩
abbrev cX4_place : ByteArray := prog_6_method_23_code
def yX4_place : MethodName := ⟨RX4, "place", "(III)J"⟩
abbrev cX4_sky : ByteArray := prog_6_method_24_code
def yX4_sky : MethodName := ⟨RX4, "sky", "(II)I"⟩
abbrev cX4_fan : ByteArray := prog_6_method_25_code
def yX4_fan : MethodName := ⟨RX4, "fan", "(III)I"⟩
abbrev cX4_noFan : ByteArray := prog_6_method_26_code
def yX4_noFan : MethodName := ⟨RX4, "noFan", "()I"⟩
abbrev cX4_measure : ByteArray := prog_6_method_28_code
def yX4_measure : MethodName := ⟨RX4, "measure", "(III)J"⟩
abbrev cX4_measureOf : ByteArray := prog_6_method_27_code
def yX4_measureOf : MethodName := ⟨RX4, "measureOf", "(III)J"⟩
abbrev cX4_best : ByteArray := prog_6_method_29_code
def yX4_best : MethodName := ⟨RX4, "best", "(IIIIIII)I"⟩
/-- the tables' good words -/
def gw : List Cond := lw_tbl.filter goodWord
theorem gw_mem {w : Cond} (i : Nat) (h : lw_tbl[i]? = some w) (hg : goodWord w = true) : w ∈ gw := List.mem_filter.mpr ⟨List.mem_of_getElem? h, hg⟩
theorem gw_tbl {w : Cond} (h : w ∈ gw) : w ∈ lw_tbl := (List.mem_filter.mp h).1
theorem gw_good {w : Cond} (h : w ∈ gw) : (w.onTables && w.keeps) = true ∨ ∃ ty, w = .arrayClass ty := good_of_word (List.mem_filter.mp h).2
theorem gw_in {c : Cond} (h : c ∈ gw) : GoodIn gw (c :: gw) := fun w hw => (List.mem_cons.mp hw).elim (fun e => by rw [e]; exact ⟨h, gw_good h⟩) (fun h => ⟨h, gw_good h⟩)
theorem gw_list {ws : List Cond} (h : ∀ w ∈ ws, w ∈ gw) : GoodIn gw ws := fun w hw => ⟨h w hw, gw_good (h w hw)⟩
theorem gw_V {own C : String} {i : Nat} {y : MethodName} {c : Cond} (h1 : Cond.methodLink own i y ∈ gw) (h2 : Cond.instanceMethod y ∈ gw) (h3 : Cond.selects C y y ∈ gw) (h4 : Cond.initialized C ∈ gw) (h5 : c ∈ gw) : GoodIn gw (wsV own i C y (c :: gw)) := gw_list (List.forall_mem_cons.mpr ⟨h1, List.forall_mem_cons.mpr ⟨h2, List.forall_mem_cons.mpr ⟨h3, List.forall_mem_cons.mpr ⟨h4, List.forall_mem_cons.mpr ⟨h5, fun _ h => h⟩⟩⟩⟩⟩)
theorem gw_S {own : String} {i : Nat} {y : MethodName} {c : Cond} (h1 : Cond.methodLink own i y ∈ gw) (h2 : Cond.static y ∈ gw) (h3 : Cond.initialized y.cls ∈ gw) (h5 : c ∈ gw) : GoodIn gw (va_wsS own i y (c :: gw)) := gw_list (List.forall_mem_cons.mpr ⟨h1, List.forall_mem_cons.mpr ⟨h2, List.forall_mem_cons.mpr ⟨h3, List.forall_mem_cons.mpr ⟨h5, fun _ h => h⟩⟩⟩⟩)
theorem kw0 : Cond.selects RX3 yX3_demandPoint yX3_demandPoint ∈ gw := gw_mem 0 (by decide +kernel) rfl
theorem kw1 : Cond.selects "java/lang/Throwable" (⟨"java/lang/Throwable", "fillInStackTrace", "(I)Ljava/lang/Throwable;"⟩ : MethodName) (⟨"java/lang/Throwable", "fillInStackTrace", "(I)Ljava/lang/Throwable;"⟩ : MethodName) ∈ gw := gw_mem 1 (by decide +kernel) rfl
theorem kw2 : Cond.selects RX0 yX0_add yX0_add ∈ gw := gw_mem 2 (by decide +kernel) rfl
theorem kw3 : Cond.selects RX3 yX3_demandBox yX3_demandBox ∈ gw := gw_mem 3 (by decide +kernel) rfl
theorem kw4 : Cond.selects RX2 yX2_begin yX2_begin ∈ gw := gw_mem 4 (by decide +kernel) rfl
theorem kw5 : Cond.selects RX1 yX1_set yX1_set ∈ gw := gw_mem 5 (by decide +kernel) rfl
theorem kw6 : Cond.selects RX2 yX2_aim yX2_aim ∈ gw := gw_mem 6 (by decide +kernel) rfl
theorem kw7 : Cond.selects RX2 yX2_follow yX2_follow ∈ gw := gw_mem 7 (by decide +kernel) rfl
theorem kw8 : Cond.selects RX0 yX0_anySolidRound yX0_anySolidRound ∈ gw := gw_mem 8 (by decide +kernel) rfl
theorem kw9 : Cond.selects RX0 yX0_isInside yX0_isInside ∈ gw := gw_mem 9 (by decide +kernel) rfl
theorem kw10 : Cond.selects RX2 yX2_findNext yX2_findNext ∈ gw := gw_mem 10 (by decide +kernel) rfl
theorem kw11 : Cond.selects RX2 yX2_crosses yX2_crosses ∈ gw := gw_mem 11 (by decide +kernel) rfl
theorem kw12 : Cond.selects RX2 yX2_countsNow yX2_countsNow ∈ gw := gw_mem 12 (by decide +kernel) rfl
theorem kw13 : Cond.selects RX1 yX1_compareTime yX1_compareTime ∈ gw := gw_mem 13 (by decide +kernel) rfl
theorem kw14 : Cond.selects RX2 yX2_cameInside yX2_cameInside ∈ gw := gw_mem 14 (by decide +kernel) rfl
theorem kw15 : Cond.selects RX2 yX2_spotAtLatest yX2_spotAtLatest ∈ gw := gw_mem 15 (by decide +kernel) rfl
theorem kw16 : Cond.selects RX1 yX1_copy yX1_copy ∈ gw := gw_mem 16 (by decide +kernel) rfl
theorem kw17 : Cond.selects RX2 yX2_keepHit yX2_keepHit ∈ gw := gw_mem 17 (by decide +kernel) rfl
theorem kw18 : Cond.selects RX2 yX2_turn yX2_turn ∈ gw := gw_mem 18 (by decide +kernel) rfl
theorem kw19 : Cond.selects RX3 yX3_demandRay yX3_demandRay ∈ gw := gw_mem 19 (by decide +kernel) rfl
theorem kw20 : Cond.selects RX2 yX2_hasHit yX2_hasHit ∈ gw := gw_mem 20 (by decide +kernel) rfl
theorem kw21 : Cond.selects RX3 yX3_measureAt yX3_measureAt ∈ gw := gw_mem 21 (by decide +kernel) rfl
theorem kw22 : Cond.selects RX2 yX2_octant yX2_octant ∈ gw := gw_mem 22 (by decide +kernel) rfl
theorem kw23 : Cond.selects RX4 yX4_arePlaces yX4_arePlaces ∈ gw := gw_mem 23 (by decide +kernel) rfl
theorem kw24 : Cond.selects RX4 yX4_isPlace yX4_isPlace ∈ gw := gw_mem 24 (by decide +kernel) rfl
theorem kw25 : Cond.selects RX4 yX4_isBox yX4_isBox ∈ gw := gw_mem 25 (by decide +kernel) rfl
theorem kw26 : Cond.selects RX4 yX4_go yX4_go ∈ gw := gw_mem 26 (by decide +kernel) rfl
theorem kw27 : Cond.selects RX4 yX4_isInSolid yX4_isInSolid ∈ gw := gw_mem 27 (by decide +kernel) rfl
theorem kw28 : Cond.selects RX4 yX4_next yX4_next ∈ gw := gw_mem 28 (by decide +kernel) rfl
theorem kw29 : Cond.selects RX4 yX4_counts yX4_counts ∈ gw := gw_mem 29 (by decide +kernel) rfl
theorem kw30 : Cond.selects RX4 yX4_meets yX4_meets ∈ gw := gw_mem 30 (by decide +kernel) rfl
theorem kw31 : Cond.selects RX4 yX4_wasIn yX4_wasIn ∈ gw := gw_mem 31 (by decide +kernel) rfl
theorem kw32 : Cond.selects RX4 yX4_keepHit yX4_keepHit ∈ gw := gw_mem 32 (by decide +kernel) rfl
theorem kw33 : Cond.selects RX4 yX4_remember yX4_remember ∈ gw := gw_mem 33 (by decide +kernel) rfl
theorem kw34 : Cond.selects RX4 yX4_measureOf yX4_measureOf ∈ gw := gw_mem 34 (by decide +kernel) rfl
theorem kw35 : Cond.initialized RL ∈ gw := gw_mem 35 (by decide +kernel) rfl
theorem kw36 : Cond.initialized RX3 ∈ gw := gw_mem 36 (by decide +kernel) rfl
theorem kw37 : Cond.initialized RJM ∈ gw := gw_mem 37 (by decide +kernel) rfl
theorem kw38 : Cond.initialized RX0 ∈ gw := gw_mem 38 (by decide +kernel) rfl
theorem kw39 : Cond.initialized RX2 ∈ gw := gw_mem 39 (by decide +kernel) rfl
theorem kw40 : Cond.initialized RX1 ∈ gw := gw_mem 40 (by decide +kernel) rfl
theorem kw41 : Cond.initialized RX4 ∈ gw := gw_mem 41 (by decide +kernel) rfl
theorem kw42 : Cond.initialized "java/lang/Throwable" ∈ gw := gw_mem 42 (by decide +kernel) rfl
theorem kw43 : Cond.initialized "java/lang/Exception" ∈ gw := gw_mem 43 (by decide +kernel) rfl
theorem kw44 : Cond.initialized "java/lang/RuntimeException" ∈ gw := gw_mem 44 (by decide +kernel) rfl
theorem kw45 : Cond.initialized "java/lang/IllegalArgumentException" ∈ gw := gw_mem 45 (by decide +kernel) rfl
theorem kw46 : Cond.initialized "java/lang/IllegalStateException" ∈ gw := gw_mem 46 (by decide +kernel) rfl
theorem kw47 : Cond.initialized RJI ∈ gw := gw_mem 47 (by decide +kernel) rfl
theorem kw48 : Cond.initialized "java/lang/System" ∈ gw := gw_mem 48 (by decide +kernel) rfl
theorem kw49 : Cond.classLink RL 8 RX3 ∈ gw := gw_mem 49 (by decide +kernel) rfl
theorem kw50 : Cond.instantiable RX3 8 ∈ gw := gw_mem 50 (by decide +kernel) rfl
theorem kw51 : Cond.methodLink RL 59 yX3_init ∈ gw := gw_mem 51 (by decide +kernel) rfl
theorem kw52 : Cond.instanceMethod yX3_init ∈ gw := gw_mem 52 (by decide +kernel) rfl
theorem kw53 : Cond.code yX3_init cX3_init 2 none ∈ gw := gw_mem 53 (by decide +kernel) rfl
theorem kw54 : Cond.methodLink RX3 1 objectInit ∈ gw := gw_mem 54 (by decide +kernel) rfl
theorem kw55 : Cond.instanceMethod objectInit ∈ gw := gw_mem 55 (by decide +kernel) rfl
theorem kw56 : Cond.code objectInit ⟨#[0xb1]⟩ 1 none ∈ gw := gw_mem 56 (by decide +kernel) rfl
theorem kw57 : Cond.methodLink RX3 9 yJM_min ∈ gw := gw_mem 57 (by decide +kernel) rfl
theorem kw58 : Cond.static yJM_min ∈ gw := gw_mem 58 (by decide +kernel) rfl
theorem kw59 : Cond.code yJM_min cJM_min 2 (some .int) ∈ gw := gw_mem 59 (by decide +kernel) rfl
theorem kw60 : Cond.methodLink RX3 15 yJM_max ∈ gw := gw_mem 60 (by decide +kernel) rfl
theorem kw61 : Cond.static yJM_max ∈ gw := gw_mem 61 (by decide +kernel) rfl
theorem kw62 : Cond.code yJM_max cJM_max 2 (some .int) ∈ gw := gw_mem 62 (by decide +kernel) rfl
theorem kw63 : Cond.classLink RX3 22 RX0 ∈ gw := gw_mem 63 (by decide +kernel) rfl
theorem kw64 : Cond.instantiable RX0 6 ∈ gw := gw_mem 64 (by decide +kernel) rfl
theorem kw66 : Cond.instanceMethod yX0_init ∈ gw := gw_mem 66 (by decide +kernel) rfl
theorem kw67 : Cond.code yX0_init cX0_init 1 none ∈ gw := gw_mem 67 (by decide +kernel) rfl
theorem kw68 : Cond.methodLink RX0 3 objectInit ∈ gw := gw_mem 68 (by decide +kernel) rfl
theorem kw69 : Cond.fieldLink RX0 9 RX0 "lows" "[I" ∈ gw := gw_mem 69 (by decide +kernel) rfl
theorem kw71 : Cond.fieldLink RX0 15 RX0 "highs" "[I" ∈ gw := gw_mem 71 (by decide +kernel) rfl
theorem kw73 : Cond.fieldLink RX0 18 RX0 "kinds" "[I" ∈ gw := gw_mem 73 (by decide +kernel) rfl
theorem kw76 : Cond.fieldLink RX0 21 RX0 "shares" "[I" ∈ gw := gw_mem 76 (by decide +kernel) rfl
theorem kw79 : Cond.fieldLink RX0 24 RX0 "offs" "[Z" ∈ gw := gw_mem 79 (by decide +kernel) rfl
theorem kw82 : Cond.fieldLink RX0 28 RX0 "count" "I" ∈ gw := gw_mem 82 (by decide +kernel) rfl
theorem kw85 : Cond.laysFinal RX0 RX0 "lows" "[I" ∈ gw := gw_mem 85 (by decide +kernel) rfl
theorem kw87 : Cond.laysFinal RX0 RX0 "highs" "[I" ∈ gw := gw_mem 87 (by decide +kernel) rfl
theorem kw89 : Cond.laysFinal RX0 RX0 "kinds" "[I" ∈ gw := gw_mem 89 (by decide +kernel) rfl
theorem kw91 : Cond.laysFinal RX0 RX0 "shares" "[I" ∈ gw := gw_mem 91 (by decide +kernel) rfl
theorem kw93 : Cond.laysFinal RX0 RX0 "offs" "[Z" ∈ gw := gw_mem 93 (by decide +kernel) rfl
theorem kw95 : Cond.lays RX0 RX0 "count" "I" ∈ gw := gw_mem 95 (by decide +kernel) rfl
theorem kw98 : Cond.arrayClass .int ∈ gw := gw_mem 98 (by decide +kernel) rfl
theorem kw99 : Cond.arrayClass .boolean ∈ gw := gw_mem 99 (by decide +kernel) rfl
theorem kw100 : Cond.classLink RX3 39 RX2 ∈ gw := gw_mem 100 (by decide +kernel) rfl
theorem kw101 : Cond.instantiable RX2 13 ∈ gw := gw_mem 101 (by decide +kernel) rfl
theorem kw103 : Cond.instanceMethod yX2_init ∈ gw := gw_mem 103 (by decide +kernel) rfl
theorem kw104 : Cond.code yX2_init cX2_init 1 none ∈ gw := gw_mem 104 (by decide +kernel) rfl
theorem kw105 : Cond.methodLink RX2 3 objectInit ∈ gw := gw_mem 105 (by decide +kernel) rfl
theorem kw106 : Cond.classLink RX2 36 RX1 ∈ gw := gw_mem 106 (by decide +kernel) rfl
theorem kw107 : Cond.instantiable RX1 4 ∈ gw := gw_mem 107 (by decide +kernel) rfl
theorem kw109 : Cond.instanceMethod yX1_init ∈ gw := gw_mem 109 (by decide +kernel) rfl
theorem kw110 : Cond.code yX1_init cX1_init 1 none ∈ gw := gw_mem 110 (by decide +kernel) rfl
theorem kw111 : Cond.methodLink RX1 1 objectInit ∈ gw := gw_mem 111 (by decide +kernel) rfl
theorem kw112 : Cond.fieldLink RX1 7 RX1 "box" "I" ∈ gw := gw_mem 112 (by decide +kernel) rfl
theorem kw114 : Cond.fieldLink RX1 13 RX1 "axis" "I" ∈ gw := gw_mem 114 (by decide +kernel) rfl
theorem kw116 : Cond.fieldLink RX1 16 RX1 "above" "I" ∈ gw := gw_mem 116 (by decide +kernel) rfl
theorem kw118 : Cond.fieldLink RX1 19 RX1 "below" "I" ∈ gw := gw_mem 118 (by decide +kernel) rfl
theorem kw120 : Cond.lays RX1 RX1 "box" "I" ∈ gw := gw_mem 120 (by decide +kernel) rfl
theorem kw122 : Cond.lays RX1 RX1 "axis" "I" ∈ gw := gw_mem 122 (by decide +kernel) rfl
theorem kw124 : Cond.lays RX1 RX1 "above" "I" ∈ gw := gw_mem 124 (by decide +kernel) rfl
theorem kw126 : Cond.lays RX1 RX1 "below" "I" ∈ gw := gw_mem 126 (by decide +kernel) rfl
theorem kw129 : Cond.fieldLink RX2 9 RX2 "origin" "[I" ∈ gw := gw_mem 129 (by decide +kernel) rfl
theorem kw130 : Cond.fieldLink RX2 15 RX2 "direction" "[I" ∈ gw := gw_mem 130 (by decide +kernel) rfl
theorem kw132 : Cond.fieldLink RX2 18 RX2 "arrival" "[I" ∈ gw := gw_mem 132 (by decide +kernel) rfl
theorem kw133 : Cond.fieldLink RX2 21 RX2 "hitBoxes" "[I" ∈ gw := gw_mem 133 (by decide +kernel) rfl
theorem kw135 : Cond.fieldLink RX2 24 RX2 "hitAxes" "[I" ∈ gw := gw_mem 135 (by decide +kernel) rfl
theorem kw137 : Cond.fieldLink RX2 27 RX2 "hitAbove" "[I" ∈ gw := gw_mem 137 (by decide +kernel) rfl
theorem kw139 : Cond.fieldLink RX2 30 RX2 "hitBelow" "[I" ∈ gw := gw_mem 139 (by decide +kernel) rfl
theorem kw141 : Cond.fieldLink RX2 33 RX2 "hitSpots" "[I" ∈ gw := gw_mem 141 (by decide +kernel) rfl
theorem kw143 : Cond.fieldLink RX2 39 RX2 "latest" "LLightRays$Meeting;" ∈ gw := gw_mem 143 (by decide +kernel) rfl
theorem kw144 : Cond.fieldLink RX2 43 RX2 "next" "LLightRays$Meeting;" ∈ gw := gw_mem 144 (by decide +kernel) rfl
theorem kw145 : Cond.fieldLink RX2 46 RX2 "trial" "LLightRays$Meeting;" ∈ gw := gw_mem 145 (by decide +kernel) rfl
theorem kw146 : Cond.fieldLink RX2 49 RX2 "hits" "I" ∈ gw := gw_mem 146 (by decide +kernel) rfl
theorem kw148 : Cond.fieldLink RX2 53 RX2 "light" "I" ∈ gw := gw_mem 148 (by decide +kernel) rfl
theorem kw150 : Cond.laysFinal RX2 RX2 "origin" "[I" ∈ gw := gw_mem 150 (by decide +kernel) rfl
theorem kw152 : Cond.laysFinal RX2 RX2 "direction" "[I" ∈ gw := gw_mem 152 (by decide +kernel) rfl
theorem kw154 : Cond.laysFinal RX2 RX2 "arrival" "[I" ∈ gw := gw_mem 154 (by decide +kernel) rfl
theorem kw156 : Cond.laysFinal RX2 RX2 "hitBoxes" "[I" ∈ gw := gw_mem 156 (by decide +kernel) rfl
theorem kw158 : Cond.laysFinal RX2 RX2 "hitAxes" "[I" ∈ gw := gw_mem 158 (by decide +kernel) rfl
theorem kw160 : Cond.laysFinal RX2 RX2 "hitAbove" "[I" ∈ gw := gw_mem 160 (by decide +kernel) rfl
theorem kw162 : Cond.laysFinal RX2 RX2 "hitBelow" "[I" ∈ gw := gw_mem 162 (by decide +kernel) rfl
theorem kw164 : Cond.laysFinal RX2 RX2 "hitSpots" "[I" ∈ gw := gw_mem 164 (by decide +kernel) rfl
theorem kw166 : Cond.laysFinal RX2 RX2 "latest" "LLightRays$Meeting;" ∈ gw := gw_mem 166 (by decide +kernel) rfl
theorem kw168 : Cond.laysFinal RX2 RX2 "next" "LLightRays$Meeting;" ∈ gw := gw_mem 168 (by decide +kernel) rfl
theorem kw170 : Cond.laysFinal RX2 RX2 "trial" "LLightRays$Meeting;" ∈ gw := gw_mem 170 (by decide +kernel) rfl
theorem kw172 : Cond.lays RX2 RX2 "hits" "I" ∈ gw := gw_mem 172 (by decide +kernel) rfl
theorem kw174 : Cond.lays RX2 RX2 "light" "I" ∈ gw := gw_mem 174 (by decide +kernel) rfl
theorem kw177 : Cond.fieldLink RX3 18 RX3 "size" "I" ∈ gw := gw_mem 177 (by decide +kernel) rfl
theorem kw178 : Cond.fieldLink RX3 25 RX3 "boxes" "LLightRays$Boxes;" ∈ gw := gw_mem 178 (by decide +kernel) rfl
theorem kw179 : Cond.fieldLink RX3 29 RX3 "brightness" "[I" ∈ gw := gw_mem 179 (by decide +kernel) rfl
theorem kw180 : Cond.fieldLink RX3 33 RX3 "fanDirections" "[I" ∈ gw := gw_mem 180 (by decide +kernel) rfl
theorem kw181 : Cond.fieldLink RX3 36 RX3 "fanCount" "I" ∈ gw := gw_mem 181 (by decide +kernel) rfl
theorem kw182 : Cond.fieldLink RX3 42 RX3 "latestRay" "LLightRays$Path;" ∈ gw := gw_mem 182 (by decide +kernel) rfl
theorem kw183 : Cond.fieldLink RX3 46 RX3 "rayWas" "Z" ∈ gw := gw_mem 183 (by decide +kernel) rfl
theorem kw184 : Cond.fieldLink RX3 50 RX3 "fanRay" "LLightRays$Path;" ∈ gw := gw_mem 184 (by decide +kernel) rfl
theorem kw185 : Cond.laysFinal RX3 RX3 "size" "I" ∈ gw := gw_mem 185 (by decide +kernel) rfl
theorem kw187 : Cond.laysFinal RX3 RX3 "boxes" "LLightRays$Boxes;" ∈ gw := gw_mem 187 (by decide +kernel) rfl
theorem kw189 : Cond.laysFinal RX3 RX3 "brightness" "[I" ∈ gw := gw_mem 189 (by decide +kernel) rfl
theorem kw191 : Cond.laysFinal RX3 RX3 "fanDirections" "[I" ∈ gw := gw_mem 191 (by decide +kernel) rfl
theorem kw193 : Cond.lays RX3 RX3 "fanCount" "I" ∈ gw := gw_mem 193 (by decide +kernel) rfl
theorem kw195 : Cond.laysFinal RX3 RX3 "latestRay" "LLightRays$Path;" ∈ gw := gw_mem 195 (by decide +kernel) rfl
theorem kw197 : Cond.lays RX3 RX3 "rayWas" "Z" ∈ gw := gw_mem 197 (by decide +kernel) rfl
theorem kw199 : Cond.laysFinal RX3 RX3 "fanRay" "LLightRays$Path;" ∈ gw := gw_mem 199 (by decide +kernel) rfl
theorem kw202 : Cond.methodLink RL 101 yX3_noFan ∈ gw := gw_mem 202 (by decide +kernel) rfl
theorem kw203 : Cond.instanceMethod yX3_noFan ∈ gw := gw_mem 203 (by decide +kernel) rfl
theorem kw204 : Cond.selects RX3 yX3_noFan yX3_noFan ∈ gw := gw_mem 204 (by decide +kernel) rfl
theorem kw205 : Cond.code yX3_noFan cX3_noFan 2 (some .int) ∈ gw := gw_mem 205 (by decide +kernel) rfl
theorem kw206 : Cond.methodLink RL 53 yL_cell ∈ gw := gw_mem 206 (by decide +kernel) rfl
theorem kw207 : Cond.static yL_cell ∈ gw := gw_mem 207 (by decide +kernel) rfl
theorem kw208 : Cond.code yL_cell cL_cell 2 (some .int) ∈ gw := gw_mem 208 (by decide +kernel) rfl
theorem kw209 : Cond.methodLink RL 65 yL_box ∈ gw := gw_mem 209 (by decide +kernel) rfl
theorem kw210 : Cond.static yL_box ∈ gw := gw_mem 210 (by decide +kernel) rfl
theorem kw211 : Cond.codeWith yL_box cL_box 9 (some .int) [(0, 18, 21, 13), (0, 18, 25, 15)] ∈ gw := gw_mem 211 (by decide +kernel) rfl
theorem kw212 : Cond.classLink RL 13 "java/lang/IllegalArgumentException" ∈ gw := gw_mem 212 (by decide +kernel) rfl
theorem kw213 : Cond.classLink RL 15 "java/lang/IllegalStateException" ∈ gw := gw_mem 213 (by decide +kernel) rfl
theorem kw214 : Cond.methodLink RL 7 yX3_box ∈ gw := gw_mem 214 (by decide +kernel) rfl
theorem kw215 : Cond.instanceMethod yX3_box ∈ gw := gw_mem 215 (by decide +kernel) rfl
theorem kw216 : Cond.selects RX3 yX3_box yX3_box ∈ gw := gw_mem 216 (by decide +kernel) rfl
theorem kw217 : Cond.code yX3_box cX3_box 7 (some .int) ∈ gw := gw_mem 217 (by decide +kernel) rfl
theorem kw218 : Cond.methodLink RX3 53 yX3_demandPoint ∈ gw := gw_mem 218 (by decide +kernel) rfl
theorem kw220 : Cond.instanceMethod yX3_demandPoint ∈ gw := gw_mem 220 (by decide +kernel) rfl
theorem kw221 : Cond.code yX3_demandPoint cX3_demandPoint 4 none ∈ gw := gw_mem 221 (by decide +kernel) rfl
theorem kw222 : Cond.methodLink RX3 79 yX3_demandWithin ∈ gw := gw_mem 222 (by decide +kernel) rfl
theorem kw223 : Cond.static yX3_demandWithin ∈ gw := gw_mem 223 (by decide +kernel) rfl
theorem kw224 : Cond.code yX3_demandWithin cX3_demandWithin 3 none ∈ gw := gw_mem 224 (by decide +kernel) rfl
theorem kw225 : Cond.methodLink RX3 57 yX3_demand ∈ gw := gw_mem 225 (by decide +kernel) rfl
theorem kw226 : Cond.static yX3_demand ∈ gw := gw_mem 226 (by decide +kernel) rfl
theorem kw227 : Cond.code yX3_demand cX3_demand 1 none ∈ gw := gw_mem 227 (by decide +kernel) rfl
theorem kw228 : Cond.classLink RX3 151 "java/lang/IllegalArgumentException" ∈ gw := gw_mem 228 (by decide +kernel) rfl
theorem kw229 : Cond.instantiable "java/lang/IllegalArgumentException" 6 ∈ gw := gw_mem 229 (by decide +kernel) rfl
theorem kw237 : Cond.selects "java/lang/IllegalArgumentException" (⟨"java/lang/Throwable", "fillInStackTrace", "(I)Ljava/lang/Throwable;"⟩ : MethodName) (⟨"java/lang/Throwable", "fillInStackTrace", "(I)Ljava/lang/Throwable;"⟩ : MethodName) ∈ gw := gw_mem 237 (by decide +kernel) rfl
theorem kw238 : Cond.selects "java/lang/IllegalArgumentException" (⟨"java/lang/Throwable", "fillInStackTrace", "()Ljava/lang/Throwable;"⟩ : MethodName) (⟨"java/lang/Throwable", "fillInStackTrace", "()Ljava/lang/Throwable;"⟩ : MethodName) ∈ gw := gw_mem 238 (by decide +kernel) rfl
theorem kw239 : Cond.lays "java/lang/IllegalArgumentException" "java/lang/Throwable" "cause" "Ljava/lang/Throwable;" ∈ gw := gw_mem 239 (by decide +kernel) rfl
theorem kw240 : Cond.lays "java/lang/Throwable" "java/lang/Throwable" "cause" "Ljava/lang/Throwable;" ∈ gw := gw_mem 240 (by decide +kernel) rfl
theorem kw241 : Cond.lays "java/lang/IllegalArgumentException" "java/lang/Throwable" "stackTrace" "[Ljava/lang/StackTraceElement;" ∈ gw := gw_mem 241 (by decide +kernel) rfl
theorem kw242 : Cond.lays "java/lang/Throwable" "java/lang/Throwable" "stackTrace" "[Ljava/lang/StackTraceElement;" ∈ gw := gw_mem 242 (by decide +kernel) rfl
theorem kw243 : Cond.lays "java/lang/IllegalArgumentException" "java/lang/Throwable" "suppressedExceptions" "Ljava/util/List;" ∈ gw := gw_mem 243 (by decide +kernel) rfl
theorem kw244 : Cond.lays "java/lang/Throwable" "java/lang/Throwable" "suppressedExceptions" "Ljava/util/List;" ∈ gw := gw_mem 244 (by decide +kernel) rfl
theorem kw245 : Cond.lays "java/lang/IllegalArgumentException" "java/lang/Throwable" "detailMessage" "Ljava/lang/String;" ∈ gw := gw_mem 245 (by decide +kernel) rfl
theorem kw246 : Cond.lays "java/lang/Throwable" "java/lang/Throwable" "detailMessage" "Ljava/lang/String;" ∈ gw := gw_mem 246 (by decide +kernel) rfl
theorem kw247 : Cond.lays "java/lang/IllegalArgumentException" "java/lang/Throwable" "backtrace" "Ljava/lang/Object;" ∈ gw := gw_mem 247 (by decide +kernel) rfl
theorem kw248 : Cond.lays "java/lang/Throwable" "java/lang/Throwable" "backtrace" "Ljava/lang/Object;" ∈ gw := gw_mem 248 (by decide +kernel) rfl
theorem kw249 : Cond.fieldLink "java/lang/Throwable" 198 "java/lang/Throwable" "backtrace" "Ljava/lang/Object;" ∈ gw := gw_mem 249 (by decide +kernel) rfl
theorem kw251 : Cond.instanceMethod (⟨"java/lang/Throwable", "<init>", "()V"⟩ : MethodName) ∈ gw := gw_mem 251 (by decide +kernel) rfl
theorem kw252 : Cond.code (⟨"java/lang/Throwable", "<init>", "()V"⟩ : MethodName) prog_15_method_1_code 1 none ∈ gw := gw_mem 252 (by decide +kernel) rfl
theorem kw253 : Cond.methodLink "java/lang/Throwable" 1 objectInit ∈ gw := gw_mem 253 (by decide +kernel) rfl
theorem kw254 : Cond.fieldLink "java/lang/Throwable" 13 "java/lang/Throwable" "UNASSIGNED_STACK" "[Ljava/lang/StackTraceElement;" ∈ gw := gw_mem 254 (by decide +kernel) rfl
theorem kw256 : Cond.fieldLink "java/lang/Throwable" 20 "java/lang/Throwable" "SUPPRESSED_SENTINEL" "Ljava/util/List;" ∈ gw := gw_mem 256 (by decide +kernel) rfl
theorem kw258 : Cond.methodLink "java/lang/Throwable" 27 (⟨"java/lang/Throwable", "fillInStackTrace", "()Ljava/lang/Throwable;"⟩ : MethodName) ∈ gw := gw_mem 258 (by decide +kernel) rfl
theorem kw259 : Cond.instanceMethod (⟨"java/lang/Throwable", "fillInStackTrace", "()Ljava/lang/Throwable;"⟩ : MethodName) ∈ gw := gw_mem 259 (by decide +kernel) rfl
theorem kw261 : Cond.selects "java/lang/IllegalStateException" (⟨"java/lang/Throwable", "fillInStackTrace", "()Ljava/lang/Throwable;"⟩ : MethodName) (⟨"java/lang/Throwable", "fillInStackTrace", "()Ljava/lang/Throwable;"⟩ : MethodName) ∈ gw := gw_mem 261 (by decide +kernel) rfl
theorem kw263 : Cond.methodLink "java/lang/Throwable" 202 (⟨"java/lang/Throwable", "fillInStackTrace", "(I)Ljava/lang/Throwable;"⟩ : MethodName) ∈ gw := gw_mem 263 (by decide +kernel) rfl
theorem kw265 : Cond.instanceMethod (⟨"java/lang/Throwable", "fillInStackTrace", "(I)Ljava/lang/Throwable;"⟩ : MethodName) ∈ gw := gw_mem 265 (by decide +kernel) rfl
theorem kw266 : Cond.instantiable "java/lang/Throwable" 6 ∈ gw := gw_mem 266 (by decide +kernel) rfl
theorem kw267 : Cond.native (⟨"java/lang/Throwable", "fillInStackTrace", "(I)Ljava/lang/Throwable;"⟩ : MethodName) ∈ gw := gw_mem 267 (by decide +kernel) rfl
theorem kw269 : Cond.methodLink RX3 155 (⟨"java/lang/IllegalArgumentException", "<init>", "(Ljava/lang/String;)V"⟩ : MethodName) ∈ gw := gw_mem 269 (by decide +kernel) rfl
theorem kw270 : Cond.instanceMethod (⟨"java/lang/IllegalArgumentException", "<init>", "(Ljava/lang/String;)V"⟩ : MethodName) ∈ gw := gw_mem 270 (by decide +kernel) rfl
theorem kw271 : Cond.code (⟨"java/lang/IllegalArgumentException", "<init>", "(Ljava/lang/String;)V"⟩ : MethodName) prog_8_method_2_code 2 none ∈ gw := gw_mem 271 (by decide +kernel) rfl
theorem kw272 : Cond.methodLink "java/lang/IllegalArgumentException" 7 (⟨"java/lang/RuntimeException", "<init>", "(Ljava/lang/String;)V"⟩ : MethodName) ∈ gw := gw_mem 272 (by decide +kernel) rfl
theorem kw273 : Cond.instanceMethod (⟨"java/lang/RuntimeException", "<init>", "(Ljava/lang/String;)V"⟩ : MethodName) ∈ gw := gw_mem 273 (by decide +kernel) rfl
theorem kw274 : Cond.code (⟨"java/lang/RuntimeException", "<init>", "(Ljava/lang/String;)V"⟩ : MethodName) prog_12_method_2_code 2 none ∈ gw := gw_mem 274 (by decide +kernel) rfl
theorem kw275 : Cond.methodLink "java/lang/RuntimeException" 7 (⟨"java/lang/Exception", "<init>", "(Ljava/lang/String;)V"⟩ : MethodName) ∈ gw := gw_mem 275 (by decide +kernel) rfl
theorem kw276 : Cond.instanceMethod (⟨"java/lang/Exception", "<init>", "(Ljava/lang/String;)V"⟩ : MethodName) ∈ gw := gw_mem 276 (by decide +kernel) rfl
theorem kw277 : Cond.code (⟨"java/lang/Exception", "<init>", "(Ljava/lang/String;)V"⟩ : MethodName) prog_7_method_2_code 2 none ∈ gw := gw_mem 277 (by decide +kernel) rfl
theorem kw278 : Cond.methodLink "java/lang/Exception" 7 (⟨"java/lang/Throwable", "<init>", "(Ljava/lang/String;)V"⟩ : MethodName) ∈ gw := gw_mem 278 (by decide +kernel) rfl
theorem kw279 : Cond.instanceMethod (⟨"java/lang/Throwable", "<init>", "(Ljava/lang/String;)V"⟩ : MethodName) ∈ gw := gw_mem 279 (by decide +kernel) rfl
theorem kw280 : Cond.code (⟨"java/lang/Throwable", "<init>", "(Ljava/lang/String;)V"⟩ : MethodName) prog_15_method_2_code 2 none ∈ gw := gw_mem 280 (by decide +kernel) rfl
theorem kw282 : Cond.fieldLink "java/lang/Throwable" 31 "java/lang/Throwable" "detailMessage" "Ljava/lang/String;" ∈ gw := gw_mem 282 (by decide +kernel) rfl
theorem kw283 : Cond.fieldLink "java/lang/Throwable" 7 "java/lang/Throwable" "cause" "Ljava/lang/Throwable;" ∈ gw := gw_mem 283 (by decide +kernel) rfl
theorem kw284 : Cond.fieldLink "java/lang/Throwable" 17 "java/lang/Throwable" "stackTrace" "[Ljava/lang/StackTraceElement;" ∈ gw := gw_mem 284 (by decide +kernel) rfl
theorem kw285 : Cond.fieldLink "java/lang/Throwable" 24 "java/lang/Throwable" "suppressedExceptions" "Ljava/util/List;" ∈ gw := gw_mem 285 (by decide +kernel) rfl
theorem kw290 : Cond.lays "java/lang/IllegalArgumentException" "java/lang/Throwable" "depth" "I" ∈ gw := gw_mem 290 (by decide +kernel) rfl
theorem kw294 : Cond.arrayClass .byte ∈ gw := gw_mem 294 (by decide +kernel) rfl
theorem kw295 : Cond.classLink RX3 64 "java/lang/IllegalStateException" ∈ gw := gw_mem 295 (by decide +kernel) rfl
theorem kw296 : Cond.instantiable "java/lang/IllegalStateException" 6 ∈ gw := gw_mem 296 (by decide +kernel) rfl
theorem kw298 : Cond.selects "java/lang/IllegalStateException" (⟨"java/lang/Throwable", "fillInStackTrace", "(I)Ljava/lang/Throwable;"⟩ : MethodName) (⟨"java/lang/Throwable", "fillInStackTrace", "(I)Ljava/lang/Throwable;"⟩ : MethodName) ∈ gw := gw_mem 298 (by decide +kernel) rfl
theorem kw299 : Cond.lays "java/lang/IllegalStateException" "java/lang/Throwable" "cause" "Ljava/lang/Throwable;" ∈ gw := gw_mem 299 (by decide +kernel) rfl
theorem kw300 : Cond.lays "java/lang/IllegalStateException" "java/lang/Throwable" "stackTrace" "[Ljava/lang/StackTraceElement;" ∈ gw := gw_mem 300 (by decide +kernel) rfl
theorem kw301 : Cond.lays "java/lang/IllegalStateException" "java/lang/Throwable" "suppressedExceptions" "Ljava/util/List;" ∈ gw := gw_mem 301 (by decide +kernel) rfl
theorem kw302 : Cond.lays "java/lang/IllegalStateException" "java/lang/Throwable" "detailMessage" "Ljava/lang/String;" ∈ gw := gw_mem 302 (by decide +kernel) rfl
theorem kw303 : Cond.lays "java/lang/IllegalStateException" "java/lang/Throwable" "backtrace" "Ljava/lang/Object;" ∈ gw := gw_mem 303 (by decide +kernel) rfl
theorem kw305 : Cond.methodLink RX3 68 (⟨"java/lang/IllegalStateException", "<init>", "(Ljava/lang/String;)V"⟩ : MethodName) ∈ gw := gw_mem 305 (by decide +kernel) rfl
theorem kw306 : Cond.instanceMethod (⟨"java/lang/IllegalStateException", "<init>", "(Ljava/lang/String;)V"⟩ : MethodName) ∈ gw := gw_mem 306 (by decide +kernel) rfl
theorem kw307 : Cond.code (⟨"java/lang/IllegalStateException", "<init>", "(Ljava/lang/String;)V"⟩ : MethodName) prog_9_method_2_code 2 none ∈ gw := gw_mem 307 (by decide +kernel) rfl
theorem kw308 : Cond.methodLink "java/lang/IllegalStateException" 7 (⟨"java/lang/RuntimeException", "<init>", "(Ljava/lang/String;)V"⟩ : MethodName) ∈ gw := gw_mem 308 (by decide +kernel) rfl
theorem kw309 : Cond.lays "java/lang/IllegalStateException" "java/lang/Throwable" "depth" "I" ∈ gw := gw_mem 309 (by decide +kernel) rfl
theorem kw313 : Cond.instanceMethod yX0_add ∈ gw := gw_mem 313 (by decide +kernel) rfl
theorem kw314 : Cond.code yX0_add cX0_add 8 (some .int) ∈ gw := gw_mem 314 (by decide +kernel) rfl
theorem kw315 : Cond.methodLink RL 73 yL_kind ∈ gw := gw_mem 315 (by decide +kernel) rfl
theorem kw316 : Cond.static yL_kind ∈ gw := gw_mem 316 (by decide +kernel) rfl
theorem kw317 : Cond.codeWith yL_kind cL_kind 6 (some .int) [(0, 12, 15, 13)] ∈ gw := gw_mem 317 (by decide +kernel) rfl
theorem kw318 : Cond.methodLink RL 17 yX3_kind ∈ gw := gw_mem 318 (by decide +kernel) rfl
theorem kw319 : Cond.instanceMethod yX3_kind ∈ gw := gw_mem 319 (by decide +kernel) rfl
theorem kw320 : Cond.selects RX3 yX3_kind yX3_kind ∈ gw := gw_mem 320 (by decide +kernel) rfl
theorem kw321 : Cond.code yX3_kind cX3_kind 5 (some .int) ∈ gw := gw_mem 321 (by decide +kernel) rfl
theorem kw322 : Cond.methodLink RX3 75 yX3_demandBox ∈ gw := gw_mem 322 (by decide +kernel) rfl
theorem kw324 : Cond.instanceMethod yX3_demandBox ∈ gw := gw_mem 324 (by decide +kernel) rfl
theorem kw325 : Cond.code yX3_demandBox cX3_demandBox 2 none ∈ gw := gw_mem 325 (by decide +kernel) rfl
theorem kw326 : Cond.methodLink RL 77 yL_off ∈ gw := gw_mem 326 (by decide +kernel) rfl
theorem kw327 : Cond.static yL_off ∈ gw := gw_mem 327 (by decide +kernel) rfl
theorem kw328 : Cond.codeWith yL_off cL_off 5 (some .int) [(0, 17, 20, 13)] ∈ gw := gw_mem 328 (by decide +kernel) rfl
theorem kw329 : Cond.methodLink RL 21 yX3_off ∈ gw := gw_mem 329 (by decide +kernel) rfl
theorem kw330 : Cond.instanceMethod yX3_off ∈ gw := gw_mem 330 (by decide +kernel) rfl
theorem kw331 : Cond.selects RX3 yX3_off yX3_off ∈ gw := gw_mem 331 (by decide +kernel) rfl
theorem kw332 : Cond.code yX3_off cX3_off 4 (some .boolean) ∈ gw := gw_mem 332 (by decide +kernel) rfl
theorem kw333 : Cond.methodLink RL 81 yL_ray ∈ gw := gw_mem 333 (by decide +kernel) rfl
theorem kw334 : Cond.static yL_ray ∈ gw := gw_mem 334 (by decide +kernel) rfl
theorem kw335 : Cond.codeWith yL_ray cL_ray 9 (some .int) [(0, 18, 21, 13)] ∈ gw := gw_mem 335 (by decide +kernel) rfl
theorem kw336 : Cond.methodLink RL 25 yX3_ray ∈ gw := gw_mem 336 (by decide +kernel) rfl
theorem kw337 : Cond.instanceMethod yX3_ray ∈ gw := gw_mem 337 (by decide +kernel) rfl
theorem kw338 : Cond.selects RX3 yX3_ray yX3_ray ∈ gw := gw_mem 338 (by decide +kernel) rfl
theorem kw339 : Cond.code yX3_ray cX3_ray 7 (some .int) ∈ gw := gw_mem 339 (by decide +kernel) rfl
theorem kw340 : Cond.methodLink RX3 92 yX3_demandDirection ∈ gw := gw_mem 340 (by decide +kernel) rfl
theorem kw341 : Cond.static yX3_demandDirection ∈ gw := gw_mem 341 (by decide +kernel) rfl
theorem kw342 : Cond.code yX3_demandDirection cX3_demandDirection 3 none ∈ gw := gw_mem 342 (by decide +kernel) rfl
theorem kw345 : Cond.instanceMethod yX2_begin ∈ gw := gw_mem 345 (by decide +kernel) rfl
theorem kw346 : Cond.code yX2_begin cX2_begin 4 none ∈ gw := gw_mem 346 (by decide +kernel) rfl
theorem kw347 : Cond.constant RX2 56 1000000 ∈ gw := gw_mem 347 (by decide +kernel) rfl
theorem kw350 : Cond.instanceMethod yX1_set ∈ gw := gw_mem 350 (by decide +kernel) rfl
theorem kw351 : Cond.code yX1_set cX1_set 5 none ∈ gw := gw_mem 351 (by decide +kernel) rfl
theorem kw354 : Cond.instanceMethod yX2_aim ∈ gw := gw_mem 354 (by decide +kernel) rfl
theorem kw355 : Cond.code yX2_aim cX2_aim 4 none ∈ gw := gw_mem 355 (by decide +kernel) rfl
theorem kw358 : Cond.instanceMethod yX2_follow ∈ gw := gw_mem 358 (by decide +kernel) rfl
theorem kw359 : Cond.code yX2_follow cX2_follow 3 (some .int) ∈ gw := gw_mem 359 (by decide +kernel) rfl
theorem kw362 : Cond.instanceMethod yX0_anySolidRound ∈ gw := gw_mem 362 (by decide +kernel) rfl
theorem kw363 : Cond.code yX0_anySolidRound cX0_anySolidRound 3 (some .boolean) ∈ gw := gw_mem 363 (by decide +kernel) rfl
theorem kw364 : Cond.methodLink RX0 32 yX0_isInside ∈ gw := gw_mem 364 (by decide +kernel) rfl
theorem kw366 : Cond.instanceMethod yX0_isInside ∈ gw := gw_mem 366 (by decide +kernel) rfl
theorem kw367 : Cond.code yX0_isInside cX0_isInside 5 (some .boolean) ∈ gw := gw_mem 367 (by decide +kernel) rfl
theorem kw368 : Cond.methodLink RX2 67 yX2_findNext ∈ gw := gw_mem 368 (by decide +kernel) rfl
theorem kw370 : Cond.instanceMethod yX2_findNext ∈ gw := gw_mem 370 (by decide +kernel) rfl
theorem kw371 : Cond.code yX2_findNext cX2_findNext 3 (some .boolean) ∈ gw := gw_mem 371 (by decide +kernel) rfl
theorem kw372 : Cond.methodLink RX2 94 yX2_crosses ∈ gw := gw_mem 372 (by decide +kernel) rfl
theorem kw374 : Cond.instanceMethod yX2_crosses ∈ gw := gw_mem 374 (by decide +kernel) rfl
theorem kw375 : Cond.code yX2_crosses cX2_crosses 11 (some .boolean) ∈ gw := gw_mem 375 (by decide +kernel) rfl
theorem kw376 : Cond.methodLink RX2 115 yJM_abs ∈ gw := gw_mem 376 (by decide +kernel) rfl
theorem kw377 : Cond.static yJM_abs ∈ gw := gw_mem 377 (by decide +kernel) rfl
theorem kw378 : Cond.code yJM_abs cJM_abs 1 (some .int) ∈ gw := gw_mem 378 (by decide +kernel) rfl
theorem kw379 : Cond.methodLink RX2 98 yX2_countsNow ∈ gw := gw_mem 379 (by decide +kernel) rfl
theorem kw381 : Cond.instanceMethod yX2_countsNow ∈ gw := gw_mem 381 (by decide +kernel) rfl
theorem kw382 : Cond.code yX2_countsNow cX2_countsNow 3 (some .boolean) ∈ gw := gw_mem 382 (by decide +kernel) rfl
theorem kw385 : Cond.instanceMethod yX1_compareTime ∈ gw := gw_mem 385 (by decide +kernel) rfl
theorem kw386 : Cond.code yX1_compareTime cX1_compareTime 2 (some .int) ∈ gw := gw_mem 386 (by decide +kernel) rfl
theorem kw387 : Cond.methodLink RX1 26 yJI_compare ∈ gw := gw_mem 387 (by decide +kernel) rfl
theorem kw388 : Cond.static yJI_compare ∈ gw := gw_mem 388 (by decide +kernel) rfl
theorem kw389 : Cond.code yJI_compare cJI_compare 2 (some .int) ∈ gw := gw_mem 389 (by decide +kernel) rfl
theorem kw390 : Cond.methodLink RX2 130 yX2_cameInside ∈ gw := gw_mem 390 (by decide +kernel) rfl
theorem kw392 : Cond.instanceMethod yX2_cameInside ∈ gw := gw_mem 392 (by decide +kernel) rfl
theorem kw393 : Cond.code yX2_cameInside cX2_cameInside 9 (some .boolean) ∈ gw := gw_mem 393 (by decide +kernel) rfl
theorem kw394 : Cond.methodLink RX2 133 yX2_spotAtLatest ∈ gw := gw_mem 394 (by decide +kernel) rfl
theorem kw396 : Cond.instanceMethod yX2_spotAtLatest ∈ gw := gw_mem 396 (by decide +kernel) rfl
theorem kw397 : Cond.code yX2_spotAtLatest cX2_spotAtLatest 2 (some .int) ∈ gw := gw_mem 397 (by decide +kernel) rfl
theorem kw400 : Cond.instanceMethod yX1_copy ∈ gw := gw_mem 400 (by decide +kernel) rfl
theorem kw401 : Cond.code yX1_copy cX1_copy 2 none ∈ gw := gw_mem 401 (by decide +kernel) rfl
theorem kw402 : Cond.methodLink RX1 22 yX1_set ∈ gw := gw_mem 402 (by decide +kernel) rfl
theorem kw403 : Cond.methodLink RX2 71 yX2_keepHit ∈ gw := gw_mem 403 (by decide +kernel) rfl
theorem kw405 : Cond.instanceMethod yX2_keepHit ∈ gw := gw_mem 405 (by decide +kernel) rfl
theorem kw406 : Cond.code yX2_keepHit cX2_keepHit 3 none ∈ gw := gw_mem 406 (by decide +kernel) rfl
theorem kw407 : Cond.methodLink RX2 136 (⟨"java/lang/System", "arraycopy", "(Ljava/lang/Object;ILjava/lang/Object;II)V"⟩ : MethodName) ∈ gw := gw_mem 407 (by decide +kernel) rfl
theorem kw408 : Cond.static (⟨"java/lang/System", "arraycopy", "(Ljava/lang/Object;ILjava/lang/Object;II)V"⟩ : MethodName) ∈ gw := gw_mem 408 (by decide +kernel) rfl
theorem kw409 : Cond.native (⟨"java/lang/System", "arraycopy", "(Ljava/lang/Object;ILjava/lang/Object;II)V"⟩ : MethodName) ∈ gw := gw_mem 409 (by decide +kernel) rfl
theorem kw411 : Cond.static yX3_commonDivisor ∈ gw := gw_mem 411 (by decide +kernel) rfl
theorem kw412 : Cond.code yX3_commonDivisor cX3_commonDivisor 6 (some .int) ∈ gw := gw_mem 412 (by decide +kernel) rfl
theorem kw413 : Cond.methodLink RX3 158 yJM_abs ∈ gw := gw_mem 413 (by decide +kernel) rfl
theorem kw414 : Cond.methodLink RX2 83 yX2_turn ∈ gw := gw_mem 414 (by decide +kernel) rfl
theorem kw416 : Cond.instanceMethod yX2_turn ∈ gw := gw_mem 416 (by decide +kernel) rfl
theorem kw417 : Cond.code yX2_turn cX2_turn 4 none ∈ gw := gw_mem 417 (by decide +kernel) rfl
theorem kw418 : Cond.methodLink RL 84 yL_told ∈ gw := gw_mem 418 (by decide +kernel) rfl
theorem kw419 : Cond.static yL_told ∈ gw := gw_mem 419 (by decide +kernel) rfl
theorem kw420 : Cond.codeWith yL_told cL_told 4 (some .int) [(0, 9, 12, 13), (0, 9, 15, 15)] ∈ gw := gw_mem 420 (by decide +kernel) rfl
theorem kw421 : Cond.methodLink RL 28 yX3_told ∈ gw := gw_mem 421 (by decide +kernel) rfl
theorem kw422 : Cond.instanceMethod yX3_told ∈ gw := gw_mem 422 (by decide +kernel) rfl
theorem kw423 : Cond.selects RX3 yX3_told yX3_told ∈ gw := gw_mem 423 (by decide +kernel) rfl
theorem kw424 : Cond.code yX3_told cX3_told 2 (some .int) ∈ gw := gw_mem 424 (by decide +kernel) rfl
theorem kw425 : Cond.methodLink RX3 105 yX3_demandRay ∈ gw := gw_mem 425 (by decide +kernel) rfl
theorem kw427 : Cond.instanceMethod yX3_demandRay ∈ gw := gw_mem 427 (by decide +kernel) rfl
theorem kw428 : Cond.code yX3_demandRay cX3_demandRay 1 none ∈ gw := gw_mem 428 (by decide +kernel) rfl
theorem kw430 : Cond.methodLink RL 88 yL_hit ∈ gw := gw_mem 430 (by decide +kernel) rfl
theorem kw431 : Cond.static yL_hit ∈ gw := gw_mem 431 (by decide +kernel) rfl
theorem kw432 : Cond.codeWith yL_hit cL_hit 5 (some .int) [(0, 10, 13, 13), (0, 10, 17, 15)] ∈ gw := gw_mem 432 (by decide +kernel) rfl
theorem kw433 : Cond.methodLink RL 32 yX3_hit ∈ gw := gw_mem 433 (by decide +kernel) rfl
theorem kw434 : Cond.instanceMethod yX3_hit ∈ gw := gw_mem 434 (by decide +kernel) rfl
theorem kw435 : Cond.selects RX3 yX3_hit yX3_hit ∈ gw := gw_mem 435 (by decide +kernel) rfl
theorem kw436 : Cond.code yX3_hit cX3_hit 3 (some .int) ∈ gw := gw_mem 436 (by decide +kernel) rfl
theorem kw439 : Cond.instanceMethod yX2_hasHit ∈ gw := gw_mem 439 (by decide +kernel) rfl
theorem kw440 : Cond.code yX2_hasHit cX2_hasHit 2 (some .boolean) ∈ gw := gw_mem 440 (by decide +kernel) rfl
theorem kw441 : Cond.methodLink RL 92 yL_place ∈ gw := gw_mem 441 (by decide +kernel) rfl
theorem kw442 : Cond.static yL_place ∈ gw := gw_mem 442 (by decide +kernel) rfl
theorem kw443 : Cond.codeWith yL_place cL_place 6 (some .int) [(0, 11, 14, 13)] ∈ gw := gw_mem 443 (by decide +kernel) rfl
theorem kw444 : Cond.methodLink RL 36 yX3_place ∈ gw := gw_mem 444 (by decide +kernel) rfl
theorem kw445 : Cond.instanceMethod yX3_place ∈ gw := gw_mem 445 (by decide +kernel) rfl
theorem kw446 : Cond.selects RX3 yX3_place yX3_place ∈ gw := gw_mem 446 (by decide +kernel) rfl
theorem kw447 : Cond.code yX3_place cX3_place 7 (some .long) ∈ gw := gw_mem 447 (by decide +kernel) rfl
theorem kw448 : Cond.methodLink RX3 136 yX3_commonDivisor ∈ gw := gw_mem 448 (by decide +kernel) rfl
theorem kw449 : Cond.methodLink RL 95 yL_sky ∈ gw := gw_mem 449 (by decide +kernel) rfl
theorem kw450 : Cond.static yL_sky ∈ gw := gw_mem 450 (by decide +kernel) rfl
theorem kw451 : Cond.codeWith yL_sky cL_sky 5 (some .int) [(0, 10, 13, 13)] ∈ gw := gw_mem 451 (by decide +kernel) rfl
theorem kw452 : Cond.methodLink RL 40 yX3_sky ∈ gw := gw_mem 452 (by decide +kernel) rfl
theorem kw453 : Cond.instanceMethod yX3_sky ∈ gw := gw_mem 453 (by decide +kernel) rfl
theorem kw454 : Cond.selects RX3 yX3_sky yX3_sky ∈ gw := gw_mem 454 (by decide +kernel) rfl
theorem kw455 : Cond.code yX3_sky cX3_sky 4 (some .int) ∈ gw := gw_mem 455 (by decide +kernel) rfl
theorem kw456 : Cond.methodLink RL 98 yL_fan ∈ gw := gw_mem 456 (by decide +kernel) rfl
theorem kw457 : Cond.static yL_fan ∈ gw := gw_mem 457 (by decide +kernel) rfl
theorem kw458 : Cond.codeWith yL_fan cL_fan 6 (some .int) [(0, 12, 15, 13), (0, 12, 19, 15)] ∈ gw := gw_mem 458 (by decide +kernel) rfl
theorem kw459 : Cond.methodLink RL 43 yX3_fan ∈ gw := gw_mem 459 (by decide +kernel) rfl
theorem kw460 : Cond.instanceMethod yX3_fan ∈ gw := gw_mem 460 (by decide +kernel) rfl
theorem kw461 : Cond.selects RX3 yX3_fan yX3_fan ∈ gw := gw_mem 461 (by decide +kernel) rfl
theorem kw462 : Cond.code yX3_fan cX3_fan 5 (some .int) ∈ gw := gw_mem 462 (by decide +kernel) rfl
theorem kw464 : Cond.methodLink RL 105 yL_measure ∈ gw := gw_mem 464 (by decide +kernel) rfl
theorem kw465 : Cond.static yL_measure ∈ gw := gw_mem 465 (by decide +kernel) rfl
theorem kw466 : Cond.codeWith yL_measure cL_measure 6 (some .int) [(0, 11, 14, 13)] ∈ gw := gw_mem 466 (by decide +kernel) rfl
theorem kw467 : Cond.methodLink RL 46 yX3_measure ∈ gw := gw_mem 467 (by decide +kernel) rfl
theorem kw468 : Cond.instanceMethod yX3_measure ∈ gw := gw_mem 468 (by decide +kernel) rfl
theorem kw469 : Cond.selects RX3 yX3_measure yX3_measure ∈ gw := gw_mem 469 (by decide +kernel) rfl
theorem kw470 : Cond.code yX3_measure cX3_measure 4 (some .long) ∈ gw := gw_mem 470 (by decide +kernel) rfl
theorem kw471 : Cond.methodLink RX3 141 yX3_measureAt ∈ gw := gw_mem 471 (by decide +kernel) rfl
theorem kw473 : Cond.instanceMethod yX3_measureAt ∈ gw := gw_mem 473 (by decide +kernel) rfl
theorem kw474 : Cond.code yX3_measureAt cX3_measureAt 7 (some .long) ∈ gw := gw_mem 474 (by decide +kernel) rfl
theorem kw477 : Cond.instanceMethod yX2_octant ∈ gw := gw_mem 477 (by decide +kernel) rfl
theorem kw478 : Cond.code yX2_octant cX2_octant 1 (some .int) ∈ gw := gw_mem 478 (by decide +kernel) rfl
theorem kw479 : Cond.methodLink RL 108 yL_best ∈ gw := gw_mem 479 (by decide +kernel) rfl
theorem kw480 : Cond.static yL_best ∈ gw := gw_mem 480 (by decide +kernel) rfl
theorem kw481 : Cond.codeWith yL_best cL_best 10 (some .int) [(0, 20, 23, 13)] ∈ gw := gw_mem 481 (by decide +kernel) rfl
theorem kw482 : Cond.methodLink RL 49 yX3_best ∈ gw := gw_mem 482 (by decide +kernel) rfl
theorem kw483 : Cond.instanceMethod yX3_best ∈ gw := gw_mem 483 (by decide +kernel) rfl
theorem kw484 : Cond.selects RX3 yX3_best yX3_best ∈ gw := gw_mem 484 (by decide +kernel) rfl
theorem kw485 : Cond.code yX3_best cX3_best 16 (some .int) ∈ gw := gw_mem 485 (by decide +kernel) rfl
theorem kw486 : Cond.constantLong RX3 145 (-1) ∈ gw := gw_mem 486 (by decide +kernel) rfl
theorem kw487 : Cond.classLink RL 62 RX4 ∈ gw := gw_mem 487 (by decide +kernel) rfl
theorem kw488 : Cond.instantiable RX4 38 ∈ gw := gw_mem 488 (by decide +kernel) rfl
theorem kw489 : Cond.methodLink RL 64 yX4_init ∈ gw := gw_mem 489 (by decide +kernel) rfl
theorem kw490 : Cond.instanceMethod yX4_init ∈ gw := gw_mem 490 (by decide +kernel) rfl
theorem kw491 : Cond.code yX4_init cX4_init 2 none ∈ gw := gw_mem 491 (by decide +kernel) rfl
theorem kw492 : Cond.methodLink RX4 1 objectInit ∈ gw := gw_mem 492 (by decide +kernel) rfl
theorem kw493 : Cond.fieldLink RX4 79 RX4 "thrown" "I" ∈ gw := gw_mem 493 (by decide +kernel) rfl
theorem kw494 : Cond.fieldLink RX4 75 RX4 "size" "I" ∈ gw := gw_mem 494 (by decide +kernel) rfl
theorem kw495 : Cond.fieldLink RX4 90 RX4 "boxes" "I" ∈ gw := gw_mem 495 (by decide +kernel) rfl
theorem kw496 : Cond.fieldLink RX4 7 RX4 "corners" "[I" ∈ gw := gw_mem 496 (by decide +kernel) rfl
theorem kw497 : Cond.fieldLink RX4 13 RX4 "kinds" "[I" ∈ gw := gw_mem 497 (by decide +kernel) rfl
theorem kw498 : Cond.fieldLink RX4 16 RX4 "shares" "[I" ∈ gw := gw_mem 498 (by decide +kernel) rfl
theorem kw499 : Cond.fieldLink RX4 19 RX4 "isOff" "[Z" ∈ gw := gw_mem 499 (by decide +kernel) rfl
theorem kw500 : Cond.fieldLink RX4 23 RX4 "at" "[I" ∈ gw := gw_mem 500 (by decide +kernel) rfl
theorem kw501 : Cond.fieldLink RX4 26 RX4 "by" "[I" ∈ gw := gw_mem 501 (by decide +kernel) rfl
theorem kw502 : Cond.fieldLink RX4 29 RX4 "atBefore" "[I" ∈ gw := gw_mem 502 (by decide +kernel) rfl
theorem kw503 : Cond.fieldLink RX4 32 RX4 "byBefore" "[I" ∈ gw := gw_mem 503 (by decide +kernel) rfl
theorem kw504 : Cond.fieldLink RX4 138 RX4 "light" "I" ∈ gw := gw_mem 504 (by decide +kernel) rfl
theorem kw505 : Cond.fieldLink RX4 134 RX4 "hits" "I" ∈ gw := gw_mem 505 (by decide +kernel) rfl
theorem kw506 : Cond.fieldLink RX4 115 RX4 "lastAbove" "J" ∈ gw := gw_mem 506 (by decide +kernel) rfl
theorem kw507 : Cond.fieldLink RX4 122 RX4 "lastBelow" "J" ∈ gw := gw_mem 507 (by decide +kernel) rfl
theorem kw508 : Cond.fieldLink RX4 125 RX4 "lastBox" "I" ∈ gw := gw_mem 508 (by decide +kernel) rfl
theorem kw509 : Cond.fieldLink RX4 109 RX4 "inAbove" "J" ∈ gw := gw_mem 509 (by decide +kernel) rfl
theorem kw510 : Cond.fieldLink RX4 106 RX4 "inBelow" "J" ∈ gw := gw_mem 510 (by decide +kernel) rfl
theorem kw511 : Cond.fieldLink RX4 99 RX4 "inAxis" "I" ∈ gw := gw_mem 511 (by decide +kernel) rfl
theorem kw512 : Cond.fieldLink RX4 112 RX4 "outAbove" "J" ∈ gw := gw_mem 512 (by decide +kernel) rfl
theorem kw513 : Cond.fieldLink RX4 102 RX4 "outBelow" "J" ∈ gw := gw_mem 513 (by decide +kernel) rfl
theorem kw514 : Cond.fieldLink RX4 35 RX4 "hitBox" "[I" ∈ gw := gw_mem 514 (by decide +kernel) rfl
theorem kw515 : Cond.fieldLink RX4 38 RX4 "hitAxis" "[I" ∈ gw := gw_mem 515 (by decide +kernel) rfl
theorem kw516 : Cond.fieldLink RX4 41 RX4 "hitAbove" "[J" ∈ gw := gw_mem 516 (by decide +kernel) rfl
theorem kw517 : Cond.fieldLink RX4 45 RX4 "hitBelow" "[J" ∈ gw := gw_mem 517 (by decide +kernel) rfl
theorem kw518 : Cond.fieldLink RX4 48 RX4 "hitPlace" "[J" ∈ gw := gw_mem 518 (by decide +kernel) rfl
theorem kw519 : Cond.fieldLink RX4 163 RX4 "hasRay" "Z" ∈ gw := gw_mem 519 (by decide +kernel) rfl
theorem kw520 : Cond.fieldLink RX4 167 RX4 "rayHits" "I" ∈ gw := gw_mem 520 (by decide +kernel) rfl
theorem kw521 : Cond.fieldLink RX4 170 RX4 "rayLight" "I" ∈ gw := gw_mem 521 (by decide +kernel) rfl
theorem kw522 : Cond.fieldLink RX4 51 RX4 "rayBy" "[I" ∈ gw := gw_mem 522 (by decide +kernel) rfl
theorem kw523 : Cond.fieldLink RX4 54 RX4 "rayBox" "[I" ∈ gw := gw_mem 523 (by decide +kernel) rfl
theorem kw524 : Cond.fieldLink RX4 57 RX4 "rayAxis" "[I" ∈ gw := gw_mem 524 (by decide +kernel) rfl
theorem kw525 : Cond.fieldLink RX4 60 RX4 "rayAbove" "[J" ∈ gw := gw_mem 525 (by decide +kernel) rfl
theorem kw526 : Cond.fieldLink RX4 63 RX4 "rayBelow" "[J" ∈ gw := gw_mem 526 (by decide +kernel) rfl
theorem kw527 : Cond.fieldLink RX4 66 RX4 "rayPlace" "[J" ∈ gw := gw_mem 527 (by decide +kernel) rfl
theorem kw528 : Cond.fieldLink RX4 69 RX4 "sky" "[I" ∈ gw := gw_mem 528 (by decide +kernel) rfl
theorem kw529 : Cond.fieldLink RX4 177 RX4 "fans" "I" ∈ gw := gw_mem 529 (by decide +kernel) rfl
theorem kw530 : Cond.fieldLink RX4 72 RX4 "fan" "[I" ∈ gw := gw_mem 530 (by decide +kernel) rfl
theorem kw531 : Cond.lays RX4 RX4 "thrown" "I" ∈ gw := gw_mem 531 (by decide +kernel) rfl
theorem kw533 : Cond.laysFinal RX4 RX4 "size" "I" ∈ gw := gw_mem 533 (by decide +kernel) rfl
theorem kw535 : Cond.lays RX4 RX4 "boxes" "I" ∈ gw := gw_mem 535 (by decide +kernel) rfl
theorem kw537 : Cond.laysFinal RX4 RX4 "corners" "[I" ∈ gw := gw_mem 537 (by decide +kernel) rfl
theorem kw539 : Cond.laysFinal RX4 RX4 "kinds" "[I" ∈ gw := gw_mem 539 (by decide +kernel) rfl
theorem kw541 : Cond.laysFinal RX4 RX4 "shares" "[I" ∈ gw := gw_mem 541 (by decide +kernel) rfl
theorem kw543 : Cond.laysFinal RX4 RX4 "isOff" "[Z" ∈ gw := gw_mem 543 (by decide +kernel) rfl
theorem kw545 : Cond.laysFinal RX4 RX4 "at" "[I" ∈ gw := gw_mem 545 (by decide +kernel) rfl
theorem kw547 : Cond.laysFinal RX4 RX4 "by" "[I" ∈ gw := gw_mem 547 (by decide +kernel) rfl
theorem kw549 : Cond.laysFinal RX4 RX4 "atBefore" "[I" ∈ gw := gw_mem 549 (by decide +kernel) rfl
theorem kw551 : Cond.laysFinal RX4 RX4 "byBefore" "[I" ∈ gw := gw_mem 551 (by decide +kernel) rfl
theorem kw553 : Cond.lays RX4 RX4 "light" "I" ∈ gw := gw_mem 553 (by decide +kernel) rfl
theorem kw555 : Cond.lays RX4 RX4 "hits" "I" ∈ gw := gw_mem 555 (by decide +kernel) rfl
theorem kw557 : Cond.lays RX4 RX4 "lastAbove" "J" ∈ gw := gw_mem 557 (by decide +kernel) rfl
theorem kw559 : Cond.lays RX4 RX4 "lastBelow" "J" ∈ gw := gw_mem 559 (by decide +kernel) rfl
theorem kw561 : Cond.lays RX4 RX4 "lastBox" "I" ∈ gw := gw_mem 561 (by decide +kernel) rfl
theorem kw563 : Cond.lays RX4 RX4 "inAbove" "J" ∈ gw := gw_mem 563 (by decide +kernel) rfl
theorem kw565 : Cond.lays RX4 RX4 "inBelow" "J" ∈ gw := gw_mem 565 (by decide +kernel) rfl
theorem kw567 : Cond.lays RX4 RX4 "inAxis" "I" ∈ gw := gw_mem 567 (by decide +kernel) rfl
theorem kw569 : Cond.lays RX4 RX4 "outAbove" "J" ∈ gw := gw_mem 569 (by decide +kernel) rfl
theorem kw571 : Cond.lays RX4 RX4 "outBelow" "J" ∈ gw := gw_mem 571 (by decide +kernel) rfl
theorem kw573 : Cond.laysFinal RX4 RX4 "hitBox" "[I" ∈ gw := gw_mem 573 (by decide +kernel) rfl
theorem kw575 : Cond.laysFinal RX4 RX4 "hitAxis" "[I" ∈ gw := gw_mem 575 (by decide +kernel) rfl
theorem kw577 : Cond.laysFinal RX4 RX4 "hitAbove" "[J" ∈ gw := gw_mem 577 (by decide +kernel) rfl
theorem kw579 : Cond.laysFinal RX4 RX4 "hitBelow" "[J" ∈ gw := gw_mem 579 (by decide +kernel) rfl
theorem kw581 : Cond.laysFinal RX4 RX4 "hitPlace" "[J" ∈ gw := gw_mem 581 (by decide +kernel) rfl
theorem kw583 : Cond.lays RX4 RX4 "hasRay" "Z" ∈ gw := gw_mem 583 (by decide +kernel) rfl
theorem kw585 : Cond.lays RX4 RX4 "rayHits" "I" ∈ gw := gw_mem 585 (by decide +kernel) rfl
theorem kw587 : Cond.lays RX4 RX4 "rayLight" "I" ∈ gw := gw_mem 587 (by decide +kernel) rfl
theorem kw589 : Cond.laysFinal RX4 RX4 "rayBy" "[I" ∈ gw := gw_mem 589 (by decide +kernel) rfl
theorem kw591 : Cond.laysFinal RX4 RX4 "rayBox" "[I" ∈ gw := gw_mem 591 (by decide +kernel) rfl
theorem kw593 : Cond.laysFinal RX4 RX4 "rayAxis" "[I" ∈ gw := gw_mem 593 (by decide +kernel) rfl
theorem kw595 : Cond.laysFinal RX4 RX4 "rayAbove" "[J" ∈ gw := gw_mem 595 (by decide +kernel) rfl
theorem kw597 : Cond.laysFinal RX4 RX4 "rayBelow" "[J" ∈ gw := gw_mem 597 (by decide +kernel) rfl
theorem kw599 : Cond.laysFinal RX4 RX4 "rayPlace" "[J" ∈ gw := gw_mem 599 (by decide +kernel) rfl
theorem kw601 : Cond.laysFinal RX4 RX4 "sky" "[I" ∈ gw := gw_mem 601 (by decide +kernel) rfl
theorem kw603 : Cond.lays RX4 RX4 "fans" "I" ∈ gw := gw_mem 603 (by decide +kernel) rfl
theorem kw605 : Cond.laysFinal RX4 RX4 "fan" "[I" ∈ gw := gw_mem 605 (by decide +kernel) rfl
theorem kw608 : Cond.arrayClass .long ∈ gw := gw_mem 608 (by decide +kernel) rfl
theorem kw609 : Cond.methodLink RL 69 yX4_thrown ∈ gw := gw_mem 609 (by decide +kernel) rfl
theorem kw610 : Cond.instanceMethod yX4_thrown ∈ gw := gw_mem 610 (by decide +kernel) rfl
theorem kw611 : Cond.selects RX4 yX4_thrown yX4_thrown ∈ gw := gw_mem 611 (by decide +kernel) rfl
theorem kw612 : Cond.code yX4_thrown cX4_thrown 1 (some .int) ∈ gw := gw_mem 612 (by decide +kernel) rfl
theorem kw613 : Cond.methodLink RL 68 yX4_box ∈ gw := gw_mem 613 (by decide +kernel) rfl
theorem kw614 : Cond.instanceMethod yX4_box ∈ gw := gw_mem 614 (by decide +kernel) rfl
theorem kw615 : Cond.selects RX4 yX4_box yX4_box ∈ gw := gw_mem 615 (by decide +kernel) rfl
theorem kw616 : Cond.code yX4_box cX4_box 9 (some .int) ∈ gw := gw_mem 616 (by decide +kernel) rfl
theorem kw617 : Cond.methodLink RX4 93 yX4_arePlaces ∈ gw := gw_mem 617 (by decide +kernel) rfl
theorem kw619 : Cond.instanceMethod yX4_arePlaces ∈ gw := gw_mem 619 (by decide +kernel) rfl
theorem kw620 : Cond.code yX4_arePlaces cX4_arePlaces 4 (some .boolean) ∈ gw := gw_mem 620 (by decide +kernel) rfl
theorem kw621 : Cond.methodLink RX4 86 yX4_isPlace ∈ gw := gw_mem 621 (by decide +kernel) rfl
theorem kw623 : Cond.instanceMethod yX4_isPlace ∈ gw := gw_mem 623 (by decide +kernel) rfl
theorem kw624 : Cond.code yX4_isPlace cX4_isPlace 2 (some .boolean) ∈ gw := gw_mem 624 (by decide +kernel) rfl
theorem kw625 : Cond.methodLink RX4 82 yX4_in ∈ gw := gw_mem 625 (by decide +kernel) rfl
theorem kw626 : Cond.static yX4_in ∈ gw := gw_mem 626 (by decide +kernel) rfl
theorem kw627 : Cond.code yX4_in cX4_in 3 (some .boolean) ∈ gw := gw_mem 627 (by decide +kernel) rfl
theorem kw628 : Cond.methodLink RL 76 yX4_kind ∈ gw := gw_mem 628 (by decide +kernel) rfl
theorem kw629 : Cond.instanceMethod yX4_kind ∈ gw := gw_mem 629 (by decide +kernel) rfl
theorem kw630 : Cond.selects RX4 yX4_kind yX4_kind ∈ gw := gw_mem 630 (by decide +kernel) rfl
theorem kw631 : Cond.code yX4_kind cX4_kind 5 (some .int) ∈ gw := gw_mem 631 (by decide +kernel) rfl
theorem kw632 : Cond.methodLink RX4 96 yX4_isBox ∈ gw := gw_mem 632 (by decide +kernel) rfl
theorem kw634 : Cond.instanceMethod yX4_isBox ∈ gw := gw_mem 634 (by decide +kernel) rfl
theorem kw635 : Cond.code yX4_isBox cX4_isBox 2 (some .boolean) ∈ gw := gw_mem 635 (by decide +kernel) rfl
theorem kw636 : Cond.methodLink RL 80 yX4_off ∈ gw := gw_mem 636 (by decide +kernel) rfl
theorem kw637 : Cond.instanceMethod yX4_off ∈ gw := gw_mem 637 (by decide +kernel) rfl
theorem kw638 : Cond.selects RX4 yX4_off yX4_off ∈ gw := gw_mem 638 (by decide +kernel) rfl
theorem kw639 : Cond.code yX4_off cX4_off 4 (some .boolean) ∈ gw := gw_mem 639 (by decide +kernel) rfl
theorem kw640 : Cond.methodLink RL 83 yX4_ray ∈ gw := gw_mem 640 (by decide +kernel) rfl
theorem kw641 : Cond.instanceMethod yX4_ray ∈ gw := gw_mem 641 (by decide +kernel) rfl
theorem kw642 : Cond.selects RX4 yX4_ray yX4_ray ∈ gw := gw_mem 642 (by decide +kernel) rfl
theorem kw643 : Cond.code yX4_ray cX4_ray 9 (some .int) ∈ gw := gw_mem 643 (by decide +kernel) rfl
theorem kw644 : Cond.methodLink RX4 156 yX4_isDirection ∈ gw := gw_mem 644 (by decide +kernel) rfl
theorem kw645 : Cond.static yX4_isDirection ∈ gw := gw_mem 645 (by decide +kernel) rfl
theorem kw646 : Cond.code yX4_isDirection cX4_isDirection 3 (some .boolean) ∈ gw := gw_mem 646 (by decide +kernel) rfl
theorem kw647 : Cond.methodLink RX4 159 yX4_go ∈ gw := gw_mem 647 (by decide +kernel) rfl
theorem kw649 : Cond.instanceMethod yX4_go ∈ gw := gw_mem 649 (by decide +kernel) rfl
theorem kw650 : Cond.code yX4_go cX4_go 9 (some .int) ∈ gw := gw_mem 650 (by decide +kernel) rfl
theorem kw651 : Cond.constant RX4 137 1000000 ∈ gw := gw_mem 651 (by decide +kernel) rfl
theorem kw652 : Cond.methodLink RX4 141 yX4_isInSolid ∈ gw := gw_mem 652 (by decide +kernel) rfl
theorem kw654 : Cond.instanceMethod yX4_isInSolid ∈ gw := gw_mem 654 (by decide +kernel) rfl
theorem kw655 : Cond.code yX4_isInSolid cX4_isInSolid 4 (some .boolean) ∈ gw := gw_mem 655 (by decide +kernel) rfl
theorem kw656 : Cond.methodLink RX4 145 yX4_next ∈ gw := gw_mem 656 (by decide +kernel) rfl
theorem kw658 : Cond.instanceMethod yX4_next ∈ gw := gw_mem 658 (by decide +kernel) rfl
theorem kw659 : Cond.code yX4_next cX4_next 8 (some .int) ∈ gw := gw_mem 659 (by decide +kernel) rfl
theorem kw660 : Cond.methodLink RX4 131 yX4_counts ∈ gw := gw_mem 660 (by decide +kernel) rfl
theorem kw662 : Cond.instanceMethod yX4_counts ∈ gw := gw_mem 662 (by decide +kernel) rfl
theorem kw663 : Cond.code yX4_counts cX4_counts 4 (some .boolean) ∈ gw := gw_mem 663 (by decide +kernel) rfl
theorem kw664 : Cond.methodLink RX4 118 yX4_meets ∈ gw := gw_mem 664 (by decide +kernel) rfl
theorem kw666 : Cond.instanceMethod yX4_meets ∈ gw := gw_mem 666 (by decide +kernel) rfl
theorem kw667 : Cond.code yX4_meets cX4_meets 15 (some .boolean) ∈ gw := gw_mem 667 (by decide +kernel) rfl
theorem kw668 : Cond.methodLink RX4 128 yX4_wasIn ∈ gw := gw_mem 668 (by decide +kernel) rfl
theorem kw670 : Cond.instanceMethod yX4_wasIn ∈ gw := gw_mem 670 (by decide +kernel) rfl
theorem kw671 : Cond.code yX4_wasIn cX4_wasIn 2 (some .boolean) ∈ gw := gw_mem 671 (by decide +kernel) rfl
theorem kw672 : Cond.methodLink RX4 149 yX4_keepHit ∈ gw := gw_mem 672 (by decide +kernel) rfl
theorem kw674 : Cond.instanceMethod yX4_keepHit ∈ gw := gw_mem 674 (by decide +kernel) rfl
theorem kw675 : Cond.code yX4_keepHit cX4_keepHit 3 none ∈ gw := gw_mem 675 (by decide +kernel) rfl
theorem kw676 : Cond.methodLink RX4 153 yX4_remember ∈ gw := gw_mem 676 (by decide +kernel) rfl
theorem kw678 : Cond.instanceMethod yX4_remember ∈ gw := gw_mem 678 (by decide +kernel) rfl
theorem kw679 : Cond.code yX4_remember cX4_remember 3 none ∈ gw := gw_mem 679 (by decide +kernel) rfl
theorem kw680 : Cond.methodLink RL 87 yX4_told ∈ gw := gw_mem 680 (by decide +kernel) rfl
theorem kw681 : Cond.instanceMethod yX4_told ∈ gw := gw_mem 681 (by decide +kernel) rfl
theorem kw682 : Cond.selects RX4 yX4_told yX4_told ∈ gw := gw_mem 682 (by decide +kernel) rfl
theorem kw683 : Cond.code yX4_told cX4_told 2 (some .int) ∈ gw := gw_mem 683 (by decide +kernel) rfl
theorem kw684 : Cond.methodLink RL 91 yX4_hit ∈ gw := gw_mem 684 (by decide +kernel) rfl
theorem kw685 : Cond.instanceMethod yX4_hit ∈ gw := gw_mem 685 (by decide +kernel) rfl
theorem kw686 : Cond.selects RX4 yX4_hit yX4_hit ∈ gw := gw_mem 686 (by decide +kernel) rfl
theorem kw687 : Cond.code yX4_hit cX4_hit 5 (some .int) ∈ gw := gw_mem 687 (by decide +kernel) rfl
theorem kw688 : Cond.methodLink RX4 173 yX4_common ∈ gw := gw_mem 688 (by decide +kernel) rfl
theorem kw689 : Cond.static yX4_common ∈ gw := gw_mem 689 (by decide +kernel) rfl
theorem kw690 : Cond.code yX4_common cX4_common 10 (some .long) ∈ gw := gw_mem 690 (by decide +kernel) rfl
theorem kw691 : Cond.methodLink RL 94 yX4_place ∈ gw := gw_mem 691 (by decide +kernel) rfl
theorem kw692 : Cond.instanceMethod yX4_place ∈ gw := gw_mem 692 (by decide +kernel) rfl
theorem kw693 : Cond.selects RX4 yX4_place yX4_place ∈ gw := gw_mem 693 (by decide +kernel) rfl
theorem kw694 : Cond.code yX4_place cX4_place 8 (some .long) ∈ gw := gw_mem 694 (by decide +kernel) rfl
theorem kw695 : Cond.methodLink RL 97 yX4_sky ∈ gw := gw_mem 695 (by decide +kernel) rfl
theorem kw696 : Cond.instanceMethod yX4_sky ∈ gw := gw_mem 696 (by decide +kernel) rfl
theorem kw697 : Cond.selects RX4 yX4_sky yX4_sky ∈ gw := gw_mem 697 (by decide +kernel) rfl
theorem kw698 : Cond.code yX4_sky cX4_sky 4 (some .int) ∈ gw := gw_mem 698 (by decide +kernel) rfl
theorem kw699 : Cond.methodLink RL 100 yX4_fan ∈ gw := gw_mem 699 (by decide +kernel) rfl
theorem kw700 : Cond.instanceMethod yX4_fan ∈ gw := gw_mem 700 (by decide +kernel) rfl
theorem kw701 : Cond.selects RX4 yX4_fan yX4_fan ∈ gw := gw_mem 701 (by decide +kernel) rfl
theorem kw702 : Cond.code yX4_fan cX4_fan 4 (some .int) ∈ gw := gw_mem 702 (by decide +kernel) rfl
theorem kw703 : Cond.methodLink RL 104 yX4_noFan ∈ gw := gw_mem 703 (by decide +kernel) rfl
theorem kw704 : Cond.instanceMethod yX4_noFan ∈ gw := gw_mem 704 (by decide +kernel) rfl
theorem kw705 : Cond.selects RX4 yX4_noFan yX4_noFan ∈ gw := gw_mem 705 (by decide +kernel) rfl
theorem kw706 : Cond.code yX4_noFan cX4_noFan 2 (some .int) ∈ gw := gw_mem 706 (by decide +kernel) rfl
theorem kw707 : Cond.methodLink RL 107 yX4_measure ∈ gw := gw_mem 707 (by decide +kernel) rfl
theorem kw708 : Cond.instanceMethod yX4_measure ∈ gw := gw_mem 708 (by decide +kernel) rfl
theorem kw709 : Cond.selects RX4 yX4_measure yX4_measure ∈ gw := gw_mem 709 (by decide +kernel) rfl
theorem kw710 : Cond.code yX4_measure cX4_measure 4 (some .long) ∈ gw := gw_mem 710 (by decide +kernel) rfl
theorem kw711 : Cond.methodLink RX4 180 yX4_measureOf ∈ gw := gw_mem 711 (by decide +kernel) rfl
theorem kw713 : Cond.instanceMethod yX4_measureOf ∈ gw := gw_mem 713 (by decide +kernel) rfl
theorem kw714 : Cond.code yX4_measureOf cX4_measureOf 9 (some .long) ∈ gw := gw_mem 714 (by decide +kernel) rfl
theorem kw715 : Cond.methodLink RL 111 yX4_best ∈ gw := gw_mem 715 (by decide +kernel) rfl
theorem kw716 : Cond.instanceMethod yX4_best ∈ gw := gw_mem 716 (by decide +kernel) rfl
theorem kw717 : Cond.selects RX4 yX4_best yX4_best ∈ gw := gw_mem 717 (by decide +kernel) rfl
theorem kw718 : Cond.code yX4_best cX4_best 15 (some .int) ∈ gw := gw_mem 718 (by decide +kernel) rfl
theorem kw719 : Cond.constantLong RX4 184 (-1) ∈ gw := gw_mem 719 (by decide +kernel) rfl
/-- words of the tables that warm up by laws of their own -/
def nzF : List (String × Nat × String × String × String × String) := [(RX2, 109, RX0, "lows", "[I", RX3), (RX2, 112, RX0, "highs", "[I", RX3), (RX3, 82, RX0, "kinds", "[I", RX3), (RX2, 74, RX0, "kinds", "[I", RX3), (RX3, 85, RX0, "shares", "[I", RX3), (RX2, 80, RX0, "shares", "[I", RX3), (RX3, 88, RX0, "offs", "[Z", RX3), (RX2, 90, RX0, "offs", "[Z", RX3), (RX3, 61, RX0, "count", "I", RX3), (RX2, 87, RX0, "count", "I", RX3), (RX2, 77, RX1, "box", "I", RX3), (RX2, 121, RX1, "axis", "I", RX3), (RX2, 127, RX1, "above", "I", RX3), (RX2, 124, RX1, "below", "I", RX3), (RX3, 114, RX2, "direction", "[I", RX3), (RX3, 121, RX2, "hitBoxes", "[I", RX3), (RX3, 124, RX2, "hitAxes", "[I", RX3), (RX3, 127, RX2, "hitAbove", "[I", RX3), (RX3, 130, RX2, "hitBelow", "[I", RX3), (RX3, 133, RX2, "hitSpots", "[I", RX3), (RX3, 108, RX2, "hits", "I", RX3), (RX3, 111, RX2, "light", "I", RX3)]
def nzM : List (String × Nat × MethodName × String) := [(RX3, 24, yX0_init, RX3), (RX3, 41, yX2_init, RX3), (RX2, 38, yX1_init, RX3), (RX3, 71, yX0_add, RX3), (RX3, 95, yX2_begin, RX3), (RX2, 57, yX1_set, RX3), (RX3, 98, yX2_aim, RX3), (RX3, 101, yX2_follow, RX3), (RX2, 61, yX0_anySolidRound, RX3), (RX2, 101, yX1_compareTime, RX3), (RX2, 105, yX1_copy, RX3), (RX2, 142, yX3_commonDivisor, RX3), (RX3, 117, yX2_hasHit, RX3), (RX3, 147, yX2_octant, RX3)]
def nzC : List (String × String) := [("java/lang/IllegalArgumentException", "java/lang/IllegalArgumentException"), ("java/lang/IllegalStateException", "java/lang/IllegalStateException")]
def nzD : List (MethodName) := [(⟨"java/lang/RuntimeException", "<init>", "()V"⟩ : MethodName), (⟨"java/lang/RuntimeException", "<init>", "(Ljava/lang/String;)V"⟩ : MethodName), (⟨"java/lang/Exception", "<init>", "()V"⟩ : MethodName), (⟨"java/lang/Exception", "<init>", "(Ljava/lang/String;)V"⟩ : MethodName), (⟨"java/lang/Throwable", "<init>", "()V"⟩ : MethodName), (⟨"java/lang/Throwable", "<init>", "(Ljava/lang/String;)V"⟩ : MethodName)]
end
section
theorem dX3_init_0 : decode cX3_init 0 = .ok (.aload_n 0, 1) := by decide +kernel
theorem dX3_init_1 : decode cX3_init 1 = .ok (.invokespecial 1, 3) := by decide +kernel
theorem dX3_init_4 : decode cX3_init 4 = .ok (.aload_n 0, 1) := by decide +kernel
theorem dX3_init_5 : decode cX3_init 5 = .ok (.iconst 1, 1) := by decide +kernel
theorem dX3_init_6 : decode cX3_init 6 = .ok (.sipush 1000, 3) := by decide +kernel
theorem dX3_init_9 : decode cX3_init 9 = .ok (.iload_n 1, 1) := by decide +kernel
theorem dX3_init_10 : decode cX3_init 10 = .ok (.invokestatic 9, 3) := by decide +kernel
theorem dX3_init_13 : decode cX3_init 13 = .ok (.invokestatic 15, 3) := by decide +kernel
theorem dX3_init_16 : decode cX3_init 16 = .ok (.putfield 18, 3) := by decide +kernel
theorem dX3_init_19 : decode cX3_init 19 = .ok (.aload_n 0, 1) := by decide +kernel
theorem dX3_init_20 : decode cX3_init 20 = .ok (.new 22, 3) := by decide +kernel
theorem dX3_init_23 : decode cX3_init 23 = .ok (.dup, 1) := by decide +kernel
theorem dX3_init_24 : decode cX3_init 24 = .ok (.invokespecial 24, 3) := by decide +kernel
theorem dX3_init_27 : decode cX3_init 27 = .ok (.putfield 25, 3) := by decide +kernel
theorem dX3_init_30 : decode cX3_init 30 = .ok (.aload_n 0, 1) := by decide +kernel
theorem dX3_init_31 : decode cX3_init 31 = .ok (.bipush 8, 2) := by decide +kernel
theorem dX3_init_33 : decode cX3_init 33 = .ok (.newarray .int, 2) := by decide +kernel
theorem dX3_init_35 : decode cX3_init 35 = .ok (.putfield 29, 3) := by decide +kernel
theorem dX3_init_38 : decode cX3_init 38 = .ok (.aload_n 0, 1) := by decide +kernel
theorem dX3_init_39 : decode cX3_init 39 = .ok (.bipush 120, 2) := by decide +kernel
theorem dX3_init_41 : decode cX3_init 41 = .ok (.newarray .int, 2) := by decide +kernel
theorem dX3_init_43 : decode cX3_init 43 = .ok (.putfield 33, 3) := by decide +kernel
theorem dX3_init_46 : decode cX3_init 46 = .ok (.aload_n 0, 1) := by decide +kernel
theorem dX3_init_47 : decode cX3_init 47 = .ok (.iconst 0, 1) := by decide +kernel
theorem dX3_init_48 : decode cX3_init 48 = .ok (.putfield 36, 3) := by decide +kernel
theorem dX3_init_51 : decode cX3_init 51 = .ok (.aload_n 0, 1) := by decide +kernel
theorem dX3_init_52 : decode cX3_init 52 = .ok (.new 39, 3) := by decide +kernel
theorem dX3_init_55 : decode cX3_init 55 = .ok (.dup, 1) := by decide +kernel
theorem dX3_init_56 : decode cX3_init 56 = .ok (.invokespecial 41, 3) := by decide +kernel
theorem dX3_init_59 : decode cX3_init 59 = .ok (.putfield 42, 3) := by decide +kernel
theorem dX3_init_62 : decode cX3_init 62 = .ok (.aload_n 0, 1) := by decide +kernel
theorem dX3_init_63 : decode cX3_init 63 = .ok (.iconst 0, 1) := by decide +kernel
theorem dX3_init_64 : decode cX3_init 64 = .ok (.putfield 46, 3) := by decide +kernel
theorem dX3_init_67 : decode cX3_init 67 = .ok (.aload_n 0, 1) := by decide +kernel
theorem dX3_init_68 : decode cX3_init 68 = .ok (.new 39, 3) := by decide +kernel
theorem dX3_init_71 : decode cX3_init 71 = .ok (.dup, 1) := by decide +kernel
theorem dX3_init_72 : decode cX3_init 72 = .ok (.invokespecial 41, 3) := by decide +kernel
theorem dX3_init_75 : decode cX3_init 75 = .ok (.putfield 50, 3) := by decide +kernel
theorem dX3_init_78 : decode cX3_init 78 = .ok (.return_, 1) := by decide +kernel
theorem dJM_min_0 : decode cJM_min 0 = .ok (.iload_n 0, 1) := by decide +kernel
theorem dJM_min_1 : decode cJM_min 1 = .ok (.iload_n 1, 1) := by decide +kernel
theorem dJM_min_2 : decode cJM_min 2 = .ok (.if_icmp .gt 7, 3) := by decide +kernel
theorem dJM_min_5 : decode cJM_min 5 = .ok (.iload_n 0, 1) := by decide +kernel
theorem dJM_min_6 : decode cJM_min 6 = .ok (.goto 4, 3) := by decide +kernel
theorem dJM_min_9 : decode cJM_min 9 = .ok (.iload_n 1, 1) := by decide +kernel
theorem dJM_min_10 : decode cJM_min 10 = .ok (.ireturn, 1) := by decide +kernel
theorem dJM_max_0 : decode cJM_max 0 = .ok (.iload_n 0, 1) := by decide +kernel
theorem dJM_max_1 : decode cJM_max 1 = .ok (.iload_n 1, 1) := by decide +kernel
theorem dJM_max_2 : decode cJM_max 2 = .ok (.if_icmp .lt 7, 3) := by decide +kernel
theorem dJM_max_5 : decode cJM_max 5 = .ok (.iload_n 0, 1) := by decide +kernel
theorem dJM_max_6 : decode cJM_max 6 = .ok (.goto 4, 3) := by decide +kernel
theorem dJM_max_9 : decode cJM_max 9 = .ok (.iload_n 1, 1) := by decide +kernel
theorem dJM_max_10 : decode cJM_max 10 = .ok (.ireturn, 1) := by decide +kernel
theorem dX0_init_0 : decode cX0_init 0 = .ok (.aload_n 0, 1) := by decide +kernel
theorem dX0_init_1 : decode cX0_init 1 = .ok (.invokespecial 3, 3) := by decide +kernel
theorem dX0_init_4 : decode cX0_init 4 = .ok (.aload_n 0, 1) := by decide +kernel
theorem dX0_init_5 : decode cX0_init 5 = .ok (.bipush 60, 2) := by decide +kernel
theorem dX0_init_7 : decode cX0_init 7 = .ok (.newarray .int, 2) := by decide +kernel
theorem dX0_init_9 : decode cX0_init 9 = .ok (.putfield 9, 3) := by decide +kernel
theorem dX0_init_12 : decode cX0_init 12 = .ok (.aload_n 0, 1) := by decide +kernel
theorem dX0_init_13 : decode cX0_init 13 = .ok (.bipush 60, 2) := by decide +kernel
theorem dX0_init_15 : decode cX0_init 15 = .ok (.newarray .int, 2) := by decide +kernel
theorem dX0_init_17 : decode cX0_init 17 = .ok (.putfield 15, 3) := by decide +kernel
theorem dX0_init_20 : decode cX0_init 20 = .ok (.aload_n 0, 1) := by decide +kernel
theorem dX0_init_21 : decode cX0_init 21 = .ok (.bipush 20, 2) := by decide +kernel
theorem dX0_init_23 : decode cX0_init 23 = .ok (.newarray .int, 2) := by decide +kernel
theorem dX0_init_25 : decode cX0_init 25 = .ok (.putfield 18, 3) := by decide +kernel
theorem dX0_init_28 : decode cX0_init 28 = .ok (.aload_n 0, 1) := by decide +kernel
theorem dX0_init_29 : decode cX0_init 29 = .ok (.bipush 20, 2) := by decide +kernel
theorem dX0_init_31 : decode cX0_init 31 = .ok (.newarray .int, 2) := by decide +kernel
theorem dX0_init_33 : decode cX0_init 33 = .ok (.putfield 21, 3) := by decide +kernel
theorem dX0_init_36 : decode cX0_init 36 = .ok (.aload_n 0, 1) := by decide +kernel
theorem dX0_init_37 : decode cX0_init 37 = .ok (.bipush 20, 2) := by decide +kernel
theorem dX0_init_39 : decode cX0_init 39 = .ok (.newarray .boolean, 2) := by decide +kernel
theorem dX0_init_41 : decode cX0_init 41 = .ok (.putfield 24, 3) := by decide +kernel
theorem dX0_init_44 : decode cX0_init 44 = .ok (.aload_n 0, 1) := by decide +kernel
theorem dX0_init_45 : decode cX0_init 45 = .ok (.iconst 0, 1) := by decide +kernel
theorem dX0_init_46 : decode cX0_init 46 = .ok (.putfield 28, 3) := by decide +kernel
theorem dX0_init_49 : decode cX0_init 49 = .ok (.return_, 1) := by decide +kernel
theorem dX2_init_0 : decode cX2_init 0 = .ok (.aload_n 0, 1) := by decide +kernel
theorem dX2_init_1 : decode cX2_init 1 = .ok (.invokespecial 3, 3) := by decide +kernel
theorem dX2_init_4 : decode cX2_init 4 = .ok (.aload_n 0, 1) := by decide +kernel
theorem dX2_init_5 : decode cX2_init 5 = .ok (.iconst 3, 1) := by decide +kernel
theorem dX2_init_6 : decode cX2_init 6 = .ok (.newarray .int, 2) := by decide +kernel
theorem dX2_init_8 : decode cX2_init 8 = .ok (.putfield 9, 3) := by decide +kernel
theorem dX2_init_11 : decode cX2_init 11 = .ok (.aload_n 0, 1) := by decide +kernel
theorem dX2_init_12 : decode cX2_init 12 = .ok (.iconst 3, 1) := by decide +kernel
theorem dX2_init_13 : decode cX2_init 13 = .ok (.newarray .int, 2) := by decide +kernel
theorem dX2_init_15 : decode cX2_init 15 = .ok (.putfield 15, 3) := by decide +kernel
theorem dX2_init_18 : decode cX2_init 18 = .ok (.aload_n 0, 1) := by decide +kernel
theorem dX2_init_19 : decode cX2_init 19 = .ok (.iconst 3, 1) := by decide +kernel
theorem dX2_init_20 : decode cX2_init 20 = .ok (.newarray .int, 2) := by decide +kernel
theorem dX2_init_22 : decode cX2_init 22 = .ok (.putfield 18, 3) := by decide +kernel
theorem dX2_init_25 : decode cX2_init 25 = .ok (.aload_n 0, 1) := by decide +kernel
theorem dX2_init_26 : decode cX2_init 26 = .ok (.bipush 30, 2) := by decide +kernel
theorem dX2_init_28 : decode cX2_init 28 = .ok (.newarray .int, 2) := by decide +kernel
theorem dX2_init_30 : decode cX2_init 30 = .ok (.putfield 21, 3) := by decide +kernel
theorem dX2_init_33 : decode cX2_init 33 = .ok (.aload_n 0, 1) := by decide +kernel
theorem dX2_init_34 : decode cX2_init 34 = .ok (.bipush 30, 2) := by decide +kernel
theorem dX2_init_36 : decode cX2_init 36 = .ok (.newarray .int, 2) := by decide +kernel
theorem dX2_init_38 : decode cX2_init 38 = .ok (.putfield 24, 3) := by decide +kernel
theorem dX2_init_41 : decode cX2_init 41 = .ok (.aload_n 0, 1) := by decide +kernel
theorem dX2_init_42 : decode cX2_init 42 = .ok (.bipush 30, 2) := by decide +kernel
theorem dX2_init_44 : decode cX2_init 44 = .ok (.newarray .int, 2) := by decide +kernel
theorem dX2_init_46 : decode cX2_init 46 = .ok (.putfield 27, 3) := by decide +kernel
theorem dX2_init_49 : decode cX2_init 49 = .ok (.aload_n 0, 1) := by decide +kernel
theorem dX2_init_50 : decode cX2_init 50 = .ok (.bipush 30, 2) := by decide +kernel
theorem dX2_init_52 : decode cX2_init 52 = .ok (.newarray .int, 2) := by decide +kernel
theorem dX2_init_54 : decode cX2_init 54 = .ok (.putfield 30, 3) := by decide +kernel
theorem dX2_init_57 : decode cX2_init 57 = .ok (.aload_n 0, 1) := by decide +kernel
theorem dX2_init_58 : decode cX2_init 58 = .ok (.bipush 90, 2) := by decide +kernel
theorem dX2_init_60 : decode cX2_init 60 = .ok (.newarray .int, 2) := by decide +kernel
theorem dX2_init_62 : decode cX2_init 62 = .ok (.putfield 33, 3) := by decide +kernel
theorem dX2_init_65 : decode cX2_init 65 = .ok (.aload_n 0, 1) := by decide +kernel
theorem dX2_init_66 : decode cX2_init 66 = .ok (.new 36, 3) := by decide +kernel
theorem dX2_init_69 : decode cX2_init 69 = .ok (.dup, 1) := by decide +kernel
theorem dX2_init_70 : decode cX2_init 70 = .ok (.invokespecial 38, 3) := by decide +kernel
theorem dX2_init_73 : decode cX2_init 73 = .ok (.putfield 39, 3) := by decide +kernel
theorem dX2_init_76 : decode cX2_init 76 = .ok (.aload_n 0, 1) := by decide +kernel
theorem dX2_init_77 : decode cX2_init 77 = .ok (.new 36, 3) := by decide +kernel
theorem dX2_init_80 : decode cX2_init 80 = .ok (.dup, 1) := by decide +kernel
theorem dX2_init_81 : decode cX2_init 81 = .ok (.invokespecial 38, 3) := by decide +kernel
theorem dX2_init_84 : decode cX2_init 84 = .ok (.putfield 43, 3) := by decide +kernel
theorem dX2_init_87 : decode cX2_init 87 = .ok (.aload_n 0, 1) := by decide +kernel
theorem dX2_init_88 : decode cX2_init 88 = .ok (.new 36, 3) := by decide +kernel
theorem dX2_init_91 : decode cX2_init 91 = .ok (.dup, 1) := by decide +kernel
theorem dX2_init_92 : decode cX2_init 92 = .ok (.invokespecial 38, 3) := by decide +kernel
theorem dX2_init_95 : decode cX2_init 95 = .ok (.putfield 46, 3) := by decide +kernel
theorem dX2_init_98 : decode cX2_init 98 = .ok (.aload_n 0, 1) := by decide +kernel
theorem dX2_init_99 : decode cX2_init 99 = .ok (.iconst 0, 1) := by decide +kernel
theorem dX2_init_100 : decode cX2_init 100 = .ok (.putfield 49, 3) := by decide +kernel
theorem dX2_init_103 : decode cX2_init 103 = .ok (.aload_n 0, 1) := by decide +kernel
theorem dX2_init_104 : decode cX2_init 104 = .ok (.iconst 0, 1) := by decide +kernel
theorem dX2_init_105 : decode cX2_init 105 = .ok (.putfield 53, 3) := by decide +kernel
theorem dX2_init_108 : decode cX2_init 108 = .ok (.return_, 1) := by decide +kernel
theorem dX1_init_0 : decode cX1_init 0 = .ok (.aload_n 0, 1) := by decide +kernel
theorem dX1_init_1 : decode cX1_init 1 = .ok (.invokespecial 1, 3) := by decide +kernel
theorem dX1_init_4 : decode cX1_init 4 = .ok (.return_, 1) := by decide +kernel
theorem dX3_noFan_0 : decode cX3_noFan 0 = .ok (.aload_n 0, 1) := by decide +kernel
theorem dX3_noFan_1 : decode cX3_noFan 1 = .ok (.getfield 36, 3) := by decide +kernel
theorem dX3_noFan_4 : decode cX3_noFan 4 = .ok (.istore_n 1, 1) := by decide +kernel
theorem dX3_noFan_5 : decode cX3_noFan 5 = .ok (.aload_n 0, 1) := by decide +kernel
theorem dX3_noFan_6 : decode cX3_noFan 6 = .ok (.iconst 0, 1) := by decide +kernel
theorem dX3_noFan_7 : decode cX3_noFan 7 = .ok (.putfield 36, 3) := by decide +kernel
theorem dX3_noFan_10 : decode cX3_noFan 10 = .ok (.iload_n 1, 1) := by decide +kernel
theorem dX3_noFan_11 : decode cX3_noFan 11 = .ok (.ireturn, 1) := by decide +kernel
theorem dL_cell_0 : decode cL_cell 0 = .ok (.iload_n 1, 1) := by decide +kernel
theorem dL_cell_1 : decode cL_cell 1 = .ok (.aload_n 0, 1) := by decide +kernel
theorem dL_cell_2 : decode cL_cell 2 = .ok (.arraylength, 1) := by decide +kernel
theorem dL_cell_3 : decode cL_cell 3 = .ok (.if_icmp .ge 9, 3) := by decide +kernel
theorem dL_cell_6 : decode cL_cell 6 = .ok (.aload_n 0, 1) := by decide +kernel
theorem dL_cell_7 : decode cL_cell 7 = .ok (.iload_n 1, 1) := by decide +kernel
theorem dL_cell_8 : decode cL_cell 8 = .ok (.iaload, 1) := by decide +kernel
theorem dL_cell_9 : decode cL_cell 9 = .ok (.goto 4, 3) := by decide +kernel
theorem dL_cell_12 : decode cL_cell 12 = .ok (.iconst 0, 1) := by decide +kernel
theorem dL_cell_13 : decode cL_cell 13 = .ok (.ireturn, 1) := by decide +kernel
theorem dL_box_0 : decode cL_box 0 = .ok (.aload 7, 2) := by decide +kernel
theorem dL_box_2 : decode cL_box 2 = .ok (.iconst 0, 1) := by decide +kernel
theorem dL_box_3 : decode cL_box 3 = .ok (.aload_n 0, 1) := by decide +kernel
theorem dL_box_4 : decode cL_box 4 = .ok (.iload_n 1, 1) := by decide +kernel
theorem dL_box_5 : decode cL_box 5 = .ok (.iload_n 2, 1) := by decide +kernel
theorem dL_box_6 : decode cL_box 6 = .ok (.iload_n 3, 1) := by decide +kernel
theorem dL_box_7 : decode cL_box 7 = .ok (.iload 4, 2) := by decide +kernel
theorem dL_box_9 : decode cL_box 9 = .ok (.iload 5, 2) := by decide +kernel
theorem dL_box_11 : decode cL_box 11 = .ok (.iload 6, 2) := by decide +kernel
theorem dL_box_13 : decode cL_box 13 = .ok (.invokevirtual 7, 3) := by decide +kernel
theorem dL_box_16 : decode cL_box 16 = .ok (.i2l, 1) := by decide +kernel
theorem dL_box_17 : decode cL_box 17 = .ok (.lastore, 1) := by decide +kernel
theorem dL_box_18 : decode cL_box 18 = .ok (.goto 11, 3) := by decide +kernel
theorem dL_box_21 : decode cL_box 21 = .ok (.astore 8, 2) := by decide +kernel
theorem dL_box_23 : decode cL_box 23 = .ok (.iconst 1, 1) := by decide +kernel
theorem dL_box_24 : decode cL_box 24 = .ok (.ireturn, 1) := by decide +kernel
theorem dL_box_25 : decode cL_box 25 = .ok (.astore 8, 2) := by decide +kernel
theorem dL_box_27 : decode cL_box 27 = .ok (.iconst 2, 1) := by decide +kernel
theorem dL_box_28 : decode cL_box 28 = .ok (.ireturn, 1) := by decide +kernel
theorem dL_box_29 : decode cL_box 29 = .ok (.iconst 0, 1) := by decide +kernel
theorem dL_box_30 : decode cL_box 30 = .ok (.ireturn, 1) := by decide +kernel
theorem dX3_box_0 : decode cX3_box 0 = .ok (.aload_n 0, 1) := by decide +kernel
theorem dX3_box_1 : decode cX3_box 1 = .ok (.iload_n 1, 1) := by decide +kernel
theorem dX3_box_2 : decode cX3_box 2 = .ok (.iload_n 2, 1) := by decide +kernel
theorem dX3_box_3 : decode cX3_box 3 = .ok (.iload_n 3, 1) := by decide +kernel
theorem dX3_box_4 : decode cX3_box 4 = .ok (.invokevirtual 53, 3) := by decide +kernel
theorem dX3_box_7 : decode cX3_box 7 = .ok (.aload_n 0, 1) := by decide +kernel
theorem dX3_box_8 : decode cX3_box 8 = .ok (.iload 4, 2) := by decide +kernel
theorem dX3_box_10 : decode cX3_box 10 = .ok (.iload 5, 2) := by decide +kernel
theorem dX3_box_12 : decode cX3_box 12 = .ok (.iload 6, 2) := by decide +kernel
theorem dX3_box_14 : decode cX3_box 14 = .ok (.invokevirtual 53, 3) := by decide +kernel
theorem dX3_box_17 : decode cX3_box 17 = .ok (.iload_n 1, 1) := by decide +kernel
theorem dX3_box_18 : decode cX3_box 18 = .ok (.iload 4, 2) := by decide +kernel
theorem dX3_box_20 : decode cX3_box 20 = .ok (.if_icmp .ge 19, 3) := by decide +kernel
theorem dX3_box_23 : decode cX3_box 23 = .ok (.iload_n 2, 1) := by decide +kernel
theorem dX3_box_24 : decode cX3_box 24 = .ok (.iload 5, 2) := by decide +kernel
theorem dX3_box_26 : decode cX3_box 26 = .ok (.if_icmp .ge 13, 3) := by decide +kernel
theorem dX3_box_29 : decode cX3_box 29 = .ok (.iload_n 3, 1) := by decide +kernel
theorem dX3_box_30 : decode cX3_box 30 = .ok (.iload 6, 2) := by decide +kernel
theorem dX3_box_32 : decode cX3_box 32 = .ok (.if_icmp .ge 7, 3) := by decide +kernel
theorem dX3_box_35 : decode cX3_box 35 = .ok (.iconst 1, 1) := by decide +kernel
theorem dX3_box_36 : decode cX3_box 36 = .ok (.goto 4, 3) := by decide +kernel
theorem dX3_box_39 : decode cX3_box 39 = .ok (.iconst 0, 1) := by decide +kernel
theorem dX3_box_40 : decode cX3_box 40 = .ok (.invokestatic 57, 3) := by decide +kernel
theorem dX3_box_43 : decode cX3_box 43 = .ok (.aload_n 0, 1) := by decide +kernel
theorem dX3_box_44 : decode cX3_box 44 = .ok (.getfield 25, 3) := by decide +kernel
theorem dX3_box_47 : decode cX3_box 47 = .ok (.getfield 61, 3) := by decide +kernel
theorem dX3_box_50 : decode cX3_box 50 = .ok (.bipush 20, 2) := by decide +kernel
theorem dX3_box_52 : decode cX3_box 52 = .ok (.if_icmp .lt 13, 3) := by decide +kernel
theorem dX3_box_55 : decode cX3_box 55 = .ok (.new 64, 3) := by decide +kernel
theorem dX3_box_58 : decode cX3_box 58 = .ok (.dup, 1) := by decide +kernel
theorem dX3_box_59 : decode cX3_box 59 = .ok (.ldc 66, 2) := by decide +kernel
theorem dX3_box_61 : decode cX3_box 61 = .ok (.invokespecial 68, 3) := by decide +kernel
theorem dX3_box_64 : decode cX3_box 64 = .ok (.athrow, 1) := by decide +kernel
theorem dX3_box_65 : decode cX3_box 65 = .ok (.aload_n 0, 1) := by decide +kernel
theorem dX3_box_66 : decode cX3_box 66 = .ok (.getfield 25, 3) := by decide +kernel
theorem dX3_box_69 : decode cX3_box 69 = .ok (.iload_n 1, 1) := by decide +kernel
theorem dX3_box_70 : decode cX3_box 70 = .ok (.iload_n 2, 1) := by decide +kernel
theorem dX3_box_71 : decode cX3_box 71 = .ok (.iload_n 3, 1) := by decide +kernel
theorem dX3_box_72 : decode cX3_box 72 = .ok (.iload 4, 2) := by decide +kernel
theorem dX3_box_74 : decode cX3_box 74 = .ok (.iload 5, 2) := by decide +kernel
theorem dX3_box_76 : decode cX3_box 76 = .ok (.iload 6, 2) := by decide +kernel
theorem dX3_box_78 : decode cX3_box 78 = .ok (.invokevirtual 71, 3) := by decide +kernel
theorem dX3_box_81 : decode cX3_box 81 = .ok (.ireturn, 1) := by decide +kernel
theorem dX3_demandPoint_0 : decode cX3_demandPoint 0 = .ok (.iload_n 1, 1) := by decide +kernel
theorem dX3_demandPoint_1 : decode cX3_demandPoint 1 = .ok (.aload_n 0, 1) := by decide +kernel
theorem dX3_demandPoint_2 : decode cX3_demandPoint 2 = .ok (.getfield 18, 3) := by decide +kernel
theorem dX3_demandPoint_5 : decode cX3_demandPoint 5 = .ok (.ineg, 1) := by decide +kernel
theorem dX3_demandPoint_6 : decode cX3_demandPoint 6 = .ok (.aload_n 0, 1) := by decide +kernel
theorem dX3_demandPoint_7 : decode cX3_demandPoint 7 = .ok (.getfield 18, 3) := by decide +kernel
theorem dX3_demandPoint_10 : decode cX3_demandPoint 10 = .ok (.invokestatic 79, 3) := by decide +kernel
theorem dX3_demandPoint_13 : decode cX3_demandPoint 13 = .ok (.iload_n 2, 1) := by decide +kernel
theorem dX3_demandPoint_14 : decode cX3_demandPoint 14 = .ok (.aload_n 0, 1) := by decide +kernel
theorem dX3_demandPoint_15 : decode cX3_demandPoint 15 = .ok (.getfield 18, 3) := by decide +kernel
theorem dX3_demandPoint_18 : decode cX3_demandPoint 18 = .ok (.ineg, 1) := by decide +kernel
theorem dX3_demandPoint_19 : decode cX3_demandPoint 19 = .ok (.aload_n 0, 1) := by decide +kernel
theorem dX3_demandPoint_20 : decode cX3_demandPoint 20 = .ok (.getfield 18, 3) := by decide +kernel
theorem dX3_demandPoint_23 : decode cX3_demandPoint 23 = .ok (.invokestatic 79, 3) := by decide +kernel
theorem dX3_demandPoint_26 : decode cX3_demandPoint 26 = .ok (.iload_n 3, 1) := by decide +kernel
theorem dX3_demandPoint_27 : decode cX3_demandPoint 27 = .ok (.aload_n 0, 1) := by decide +kernel
theorem dX3_demandPoint_28 : decode cX3_demandPoint 28 = .ok (.getfield 18, 3) := by decide +kernel
theorem dX3_demandPoint_31 : decode cX3_demandPoint 31 = .ok (.ineg, 1) := by decide +kernel
theorem dX3_demandPoint_32 : decode cX3_demandPoint 32 = .ok (.aload_n 0, 1) := by decide +kernel
theorem dX3_demandPoint_33 : decode cX3_demandPoint 33 = .ok (.getfield 18, 3) := by decide +kernel
theorem dX3_demandPoint_36 : decode cX3_demandPoint 36 = .ok (.invokestatic 79, 3) := by decide +kernel
theorem dX3_demandPoint_39 : decode cX3_demandPoint 39 = .ok (.return_, 1) := by decide +kernel
theorem dX3_demandWithin_0 : decode cX3_demandWithin 0 = .ok (.iload_n 1, 1) := by decide +kernel
theorem dX3_demandWithin_1 : decode cX3_demandWithin 1 = .ok (.iload_n 0, 1) := by decide +kernel
theorem dX3_demandWithin_2 : decode cX3_demandWithin 2 = .ok (.if_icmp .gt 12, 3) := by decide +kernel
theorem dX3_demandWithin_5 : decode cX3_demandWithin 5 = .ok (.iload_n 0, 1) := by decide +kernel
theorem dX3_demandWithin_6 : decode cX3_demandWithin 6 = .ok (.iload_n 2, 1) := by decide +kernel
theorem dX3_demandWithin_7 : decode cX3_demandWithin 7 = .ok (.if_icmp .gt 7, 3) := by decide +kernel
theorem dX3_demandWithin_10 : decode cX3_demandWithin 10 = .ok (.iconst 1, 1) := by decide +kernel
theorem dX3_demandWithin_11 : decode cX3_demandWithin 11 = .ok (.goto 4, 3) := by decide +kernel
theorem dX3_demandWithin_14 : decode cX3_demandWithin 14 = .ok (.iconst 0, 1) := by decide +kernel
theorem dX3_demandWithin_15 : decode cX3_demandWithin 15 = .ok (.invokestatic 57, 3) := by decide +kernel
theorem dX3_demandWithin_18 : decode cX3_demandWithin 18 = .ok (.return_, 1) := by decide +kernel
theorem dX3_demand_0 : decode cX3_demand 0 = .ok (.iload_n 0, 1) := by decide +kernel
theorem dX3_demand_1 : decode cX3_demand 1 = .ok (.ifCond .ne 13, 3) := by decide +kernel
theorem dX3_demand_4 : decode cX3_demand 4 = .ok (.new 151, 3) := by decide +kernel
theorem dX3_demand_7 : decode cX3_demand 7 = .ok (.dup, 1) := by decide +kernel
theorem dX3_demand_8 : decode cX3_demand 8 = .ok (.ldc 153, 2) := by decide +kernel
theorem dX3_demand_10 : decode cX3_demand 10 = .ok (.invokespecial 155, 3) := by decide +kernel
theorem dX3_demand_13 : decode cX3_demand 13 = .ok (.athrow, 1) := by decide +kernel
theorem dX3_demand_14 : decode cX3_demand 14 = .ok (.return_, 1) := by decide +kernel
theorem dX0_add_0 : decode cX0_add 0 = .ok (.aload_n 0, 1) := by decide +kernel
theorem dX0_add_1 : decode cX0_add 1 = .ok (.getfield 28, 3) := by decide +kernel
theorem dX0_add_4 : decode cX0_add 4 = .ok (.iconst 3, 1) := by decide +kernel
theorem dX0_add_5 : decode cX0_add 5 = .ok (.imul, 1) := by decide +kernel
theorem dX0_add_6 : decode cX0_add 6 = .ok (.istore 7, 2) := by decide +kernel
theorem dX0_add_8 : decode cX0_add 8 = .ok (.aload_n 0, 1) := by decide +kernel
theorem dX0_add_9 : decode cX0_add 9 = .ok (.getfield 9, 3) := by decide +kernel
theorem dX0_add_12 : decode cX0_add 12 = .ok (.iload 7, 2) := by decide +kernel
theorem dX0_add_14 : decode cX0_add 14 = .ok (.iload_n 1, 1) := by decide +kernel
theorem dX0_add_15 : decode cX0_add 15 = .ok (.iastore, 1) := by decide +kernel
theorem dX0_add_16 : decode cX0_add 16 = .ok (.aload_n 0, 1) := by decide +kernel
theorem dX0_add_17 : decode cX0_add 17 = .ok (.getfield 9, 3) := by decide +kernel
theorem dX0_add_20 : decode cX0_add 20 = .ok (.iload 7, 2) := by decide +kernel
theorem dX0_add_22 : decode cX0_add 22 = .ok (.iconst 1, 1) := by decide +kernel
theorem dX0_add_23 : decode cX0_add 23 = .ok (.iadd, 1) := by decide +kernel
theorem dX0_add_24 : decode cX0_add 24 = .ok (.iload_n 2, 1) := by decide +kernel
theorem dX0_add_25 : decode cX0_add 25 = .ok (.iastore, 1) := by decide +kernel
theorem dX0_add_26 : decode cX0_add 26 = .ok (.aload_n 0, 1) := by decide +kernel
theorem dX0_add_27 : decode cX0_add 27 = .ok (.getfield 9, 3) := by decide +kernel
theorem dX0_add_30 : decode cX0_add 30 = .ok (.iload 7, 2) := by decide +kernel
theorem dX0_add_32 : decode cX0_add 32 = .ok (.iconst 2, 1) := by decide +kernel
theorem dX0_add_33 : decode cX0_add 33 = .ok (.iadd, 1) := by decide +kernel
theorem dX0_add_34 : decode cX0_add 34 = .ok (.iload_n 3, 1) := by decide +kernel
theorem dX0_add_35 : decode cX0_add 35 = .ok (.iastore, 1) := by decide +kernel
theorem dX0_add_36 : decode cX0_add 36 = .ok (.aload_n 0, 1) := by decide +kernel
theorem dX0_add_37 : decode cX0_add 37 = .ok (.getfield 15, 3) := by decide +kernel
theorem dX0_add_40 : decode cX0_add 40 = .ok (.iload 7, 2) := by decide +kernel
theorem dX0_add_42 : decode cX0_add 42 = .ok (.iload 4, 2) := by decide +kernel
theorem dX0_add_44 : decode cX0_add 44 = .ok (.iastore, 1) := by decide +kernel
theorem dX0_add_45 : decode cX0_add 45 = .ok (.aload_n 0, 1) := by decide +kernel
theorem dX0_add_46 : decode cX0_add 46 = .ok (.getfield 15, 3) := by decide +kernel
theorem dX0_add_49 : decode cX0_add 49 = .ok (.iload 7, 2) := by decide +kernel
theorem dX0_add_51 : decode cX0_add 51 = .ok (.iconst 1, 1) := by decide +kernel
theorem dX0_add_52 : decode cX0_add 52 = .ok (.iadd, 1) := by decide +kernel
theorem dX0_add_53 : decode cX0_add 53 = .ok (.iload 5, 2) := by decide +kernel
theorem dX0_add_55 : decode cX0_add 55 = .ok (.iastore, 1) := by decide +kernel
theorem dX0_add_56 : decode cX0_add 56 = .ok (.aload_n 0, 1) := by decide +kernel
theorem dX0_add_57 : decode cX0_add 57 = .ok (.getfield 15, 3) := by decide +kernel
theorem dX0_add_60 : decode cX0_add 60 = .ok (.iload 7, 2) := by decide +kernel
theorem dX0_add_62 : decode cX0_add 62 = .ok (.iconst 2, 1) := by decide +kernel
theorem dX0_add_63 : decode cX0_add 63 = .ok (.iadd, 1) := by decide +kernel
theorem dX0_add_64 : decode cX0_add 64 = .ok (.iload 6, 2) := by decide +kernel
theorem dX0_add_66 : decode cX0_add 66 = .ok (.iastore, 1) := by decide +kernel
theorem dX0_add_67 : decode cX0_add 67 = .ok (.aload_n 0, 1) := by decide +kernel
theorem dX0_add_68 : decode cX0_add 68 = .ok (.getfield 18, 3) := by decide +kernel
theorem dX0_add_71 : decode cX0_add 71 = .ok (.aload_n 0, 1) := by decide +kernel
theorem dX0_add_72 : decode cX0_add 72 = .ok (.getfield 28, 3) := by decide +kernel
theorem dX0_add_75 : decode cX0_add 75 = .ok (.iconst 0, 1) := by decide +kernel
theorem dX0_add_76 : decode cX0_add 76 = .ok (.iastore, 1) := by decide +kernel
theorem dX0_add_77 : decode cX0_add 77 = .ok (.aload_n 0, 1) := by decide +kernel
theorem dX0_add_78 : decode cX0_add 78 = .ok (.getfield 21, 3) := by decide +kernel
theorem dX0_add_81 : decode cX0_add 81 = .ok (.aload_n 0, 1) := by decide +kernel
theorem dX0_add_82 : decode cX0_add 82 = .ok (.getfield 28, 3) := by decide +kernel
theorem dX0_add_85 : decode cX0_add 85 = .ok (.sipush 1000, 3) := by decide +kernel
theorem dX0_add_88 : decode cX0_add 88 = .ok (.iastore, 1) := by decide +kernel
theorem dX0_add_89 : decode cX0_add 89 = .ok (.aload_n 0, 1) := by decide +kernel
theorem dX0_add_90 : decode cX0_add 90 = .ok (.getfield 24, 3) := by decide +kernel
theorem dX0_add_93 : decode cX0_add 93 = .ok (.aload_n 0, 1) := by decide +kernel
theorem dX0_add_94 : decode cX0_add 94 = .ok (.getfield 28, 3) := by decide +kernel
theorem dX0_add_97 : decode cX0_add 97 = .ok (.iconst 0, 1) := by decide +kernel
theorem dX0_add_98 : decode cX0_add 98 = .ok (.bastore, 1) := by decide +kernel
theorem dX0_add_99 : decode cX0_add 99 = .ok (.aload_n 0, 1) := by decide +kernel
theorem dX0_add_100 : decode cX0_add 100 = .ok (.dup, 1) := by decide +kernel
theorem dX0_add_101 : decode cX0_add 101 = .ok (.getfield 28, 3) := by decide +kernel
theorem dX0_add_104 : decode cX0_add 104 = .ok (.iconst 1, 1) := by decide +kernel
theorem dX0_add_105 : decode cX0_add 105 = .ok (.iadd, 1) := by decide +kernel
theorem dX0_add_106 : decode cX0_add 106 = .ok (.putfield 28, 3) := by decide +kernel
theorem dX0_add_109 : decode cX0_add 109 = .ok (.aload_n 0, 1) := by decide +kernel
theorem dX0_add_110 : decode cX0_add 110 = .ok (.getfield 28, 3) := by decide +kernel
theorem dX0_add_113 : decode cX0_add 113 = .ok (.iconst 1, 1) := by decide +kernel
theorem dX0_add_114 : decode cX0_add 114 = .ok (.isub, 1) := by decide +kernel
theorem dX0_add_115 : decode cX0_add 115 = .ok (.ireturn, 1) := by decide +kernel
theorem dL_kind_0 : decode cL_kind 0 = .ok (.aload 4, 2) := by decide +kernel
theorem dL_kind_2 : decode cL_kind 2 = .ok (.iconst 0, 1) := by decide +kernel
theorem dL_kind_3 : decode cL_kind 3 = .ok (.aload_n 0, 1) := by decide +kernel
theorem dL_kind_4 : decode cL_kind 4 = .ok (.iload_n 1, 1) := by decide +kernel
theorem dL_kind_5 : decode cL_kind 5 = .ok (.iload_n 2, 1) := by decide +kernel
theorem dL_kind_6 : decode cL_kind 6 = .ok (.iload_n 3, 1) := by decide +kernel
theorem dL_kind_7 : decode cL_kind 7 = .ok (.invokevirtual 17, 3) := by decide +kernel
theorem dL_kind_10 : decode cL_kind 10 = .ok (.i2l, 1) := by decide +kernel
theorem dL_kind_11 : decode cL_kind 11 = .ok (.lastore, 1) := by decide +kernel
theorem dL_kind_12 : decode cL_kind 12 = .ok (.goto 7, 3) := by decide +kernel
theorem dL_kind_15 : decode cL_kind 15 = .ok (.astore 5, 2) := by decide +kernel
theorem dL_kind_17 : decode cL_kind 17 = .ok (.iconst 1, 1) := by decide +kernel
theorem dL_kind_18 : decode cL_kind 18 = .ok (.ireturn, 1) := by decide +kernel
theorem dL_kind_19 : decode cL_kind 19 = .ok (.iconst 0, 1) := by decide +kernel
theorem dL_kind_20 : decode cL_kind 20 = .ok (.ireturn, 1) := by decide +kernel
theorem dX3_kind_0 : decode cX3_kind 0 = .ok (.aload_n 0, 1) := by decide +kernel
theorem dX3_kind_1 : decode cX3_kind 1 = .ok (.iload_n 1, 1) := by decide +kernel
theorem dX3_kind_2 : decode cX3_kind 2 = .ok (.invokevirtual 75, 3) := by decide +kernel
theorem dX3_kind_5 : decode cX3_kind 5 = .ok (.iload_n 2, 1) := by decide +kernel
theorem dX3_kind_6 : decode cX3_kind 6 = .ok (.iconst 0, 1) := by decide +kernel
theorem dX3_kind_7 : decode cX3_kind 7 = .ok (.iconst 2, 1) := by decide +kernel
theorem dX3_kind_8 : decode cX3_kind 8 = .ok (.invokestatic 79, 3) := by decide +kernel
theorem dX3_kind_11 : decode cX3_kind 11 = .ok (.iload_n 3, 1) := by decide +kernel
theorem dX3_kind_12 : decode cX3_kind 12 = .ok (.iconst 0, 1) := by decide +kernel
theorem dX3_kind_13 : decode cX3_kind 13 = .ok (.sipush 1000, 3) := by decide +kernel
theorem dX3_kind_16 : decode cX3_kind 16 = .ok (.invokestatic 79, 3) := by decide +kernel
theorem dX3_kind_19 : decode cX3_kind 19 = .ok (.aload_n 0, 1) := by decide +kernel
theorem dX3_kind_20 : decode cX3_kind 20 = .ok (.getfield 25, 3) := by decide +kernel
theorem dX3_kind_23 : decode cX3_kind 23 = .ok (.getfield 82, 3) := by decide +kernel
theorem dX3_kind_26 : decode cX3_kind 26 = .ok (.iload_n 1, 1) := by decide +kernel
theorem dX3_kind_27 : decode cX3_kind 27 = .ok (.iaload, 1) := by decide +kernel
theorem dX3_kind_28 : decode cX3_kind 28 = .ok (.istore 4, 2) := by decide +kernel
theorem dX3_kind_30 : decode cX3_kind 30 = .ok (.aload_n 0, 1) := by decide +kernel
theorem dX3_kind_31 : decode cX3_kind 31 = .ok (.getfield 25, 3) := by decide +kernel
theorem dX3_kind_34 : decode cX3_kind 34 = .ok (.getfield 82, 3) := by decide +kernel
theorem dX3_kind_37 : decode cX3_kind 37 = .ok (.iload_n 1, 1) := by decide +kernel
theorem dX3_kind_38 : decode cX3_kind 38 = .ok (.iload_n 2, 1) := by decide +kernel
theorem dX3_kind_39 : decode cX3_kind 39 = .ok (.iastore, 1) := by decide +kernel
theorem dX3_kind_40 : decode cX3_kind 40 = .ok (.aload_n 0, 1) := by decide +kernel
theorem dX3_kind_41 : decode cX3_kind 41 = .ok (.getfield 25, 3) := by decide +kernel
theorem dX3_kind_44 : decode cX3_kind 44 = .ok (.getfield 85, 3) := by decide +kernel
theorem dX3_kind_47 : decode cX3_kind 47 = .ok (.iload_n 1, 1) := by decide +kernel
theorem dX3_kind_48 : decode cX3_kind 48 = .ok (.iload_n 3, 1) := by decide +kernel
theorem dX3_kind_49 : decode cX3_kind 49 = .ok (.iastore, 1) := by decide +kernel
theorem dX3_kind_50 : decode cX3_kind 50 = .ok (.iload 4, 2) := by decide +kernel
theorem dX3_kind_52 : decode cX3_kind 52 = .ok (.ireturn, 1) := by decide +kernel
theorem dX3_demandBox_0 : decode cX3_demandBox 0 = .ok (.iconst 0, 1) := by decide +kernel
theorem dX3_demandBox_1 : decode cX3_demandBox 1 = .ok (.iload_n 1, 1) := by decide +kernel
theorem dX3_demandBox_2 : decode cX3_demandBox 2 = .ok (.if_icmp .gt 18, 3) := by decide +kernel
theorem dX3_demandBox_5 : decode cX3_demandBox 5 = .ok (.iload_n 1, 1) := by decide +kernel
theorem dX3_demandBox_6 : decode cX3_demandBox 6 = .ok (.aload_n 0, 1) := by decide +kernel
theorem dX3_demandBox_7 : decode cX3_demandBox 7 = .ok (.getfield 25, 3) := by decide +kernel
theorem dX3_demandBox_10 : decode cX3_demandBox 10 = .ok (.getfield 61, 3) := by decide +kernel
theorem dX3_demandBox_13 : decode cX3_demandBox 13 = .ok (.if_icmp .ge 7, 3) := by decide +kernel
theorem dX3_demandBox_16 : decode cX3_demandBox 16 = .ok (.iconst 1, 1) := by decide +kernel
theorem dX3_demandBox_17 : decode cX3_demandBox 17 = .ok (.goto 4, 3) := by decide +kernel
theorem dX3_demandBox_20 : decode cX3_demandBox 20 = .ok (.iconst 0, 1) := by decide +kernel
theorem dX3_demandBox_21 : decode cX3_demandBox 21 = .ok (.invokestatic 57, 3) := by decide +kernel
theorem dX3_demandBox_24 : decode cX3_demandBox 24 = .ok (.return_, 1) := by decide +kernel
theorem dL_off_0 : decode cL_off 0 = .ok (.aload_n 3, 1) := by decide +kernel
theorem dL_off_1 : decode cL_off 1 = .ok (.iconst 0, 1) := by decide +kernel
theorem dL_off_2 : decode cL_off 2 = .ok (.aload_n 0, 1) := by decide +kernel
theorem dL_off_3 : decode cL_off 3 = .ok (.iload_n 1, 1) := by decide +kernel
theorem dL_off_4 : decode cL_off 4 = .ok (.iload_n 2, 1) := by decide +kernel
theorem dL_off_5 : decode cL_off 5 = .ok (.invokevirtual 21, 3) := by decide +kernel
theorem dL_off_8 : decode cL_off 8 = .ok (.ifCond .eq 7, 3) := by decide +kernel
theorem dL_off_11 : decode cL_off 11 = .ok (.lconst 1, 1) := by decide +kernel
theorem dL_off_12 : decode cL_off 12 = .ok (.goto 4, 3) := by decide +kernel
theorem dL_off_15 : decode cL_off 15 = .ok (.lconst 0, 1) := by decide +kernel
theorem dL_off_16 : decode cL_off 16 = .ok (.lastore, 1) := by decide +kernel
theorem dL_off_17 : decode cL_off 17 = .ok (.goto 7, 3) := by decide +kernel
theorem dL_off_20 : decode cL_off 20 = .ok (.astore 4, 2) := by decide +kernel
theorem dL_off_22 : decode cL_off 22 = .ok (.iconst 1, 1) := by decide +kernel
theorem dL_off_23 : decode cL_off 23 = .ok (.ireturn, 1) := by decide +kernel
theorem dL_off_24 : decode cL_off 24 = .ok (.iconst 0, 1) := by decide +kernel
theorem dL_off_25 : decode cL_off 25 = .ok (.ireturn, 1) := by decide +kernel
theorem dX3_off_0 : decode cX3_off 0 = .ok (.aload_n 0, 1) := by decide +kernel
theorem dX3_off_1 : decode cX3_off 1 = .ok (.iload_n 1, 1) := by decide +kernel
theorem dX3_off_2 : decode cX3_off 2 = .ok (.invokevirtual 75, 3) := by decide +kernel
theorem dX3_off_5 : decode cX3_off 5 = .ok (.aload_n 0, 1) := by decide +kernel
theorem dX3_off_6 : decode cX3_off 6 = .ok (.getfield 25, 3) := by decide +kernel
theorem dX3_off_9 : decode cX3_off 9 = .ok (.getfield 88, 3) := by decide +kernel
theorem dX3_off_12 : decode cX3_off 12 = .ok (.iload_n 1, 1) := by decide +kernel
theorem dX3_off_13 : decode cX3_off 13 = .ok (.baload, 1) := by decide +kernel
theorem dX3_off_14 : decode cX3_off 14 = .ok (.istore_n 3, 1) := by decide +kernel
theorem dX3_off_15 : decode cX3_off 15 = .ok (.aload_n 0, 1) := by decide +kernel
theorem dX3_off_16 : decode cX3_off 16 = .ok (.getfield 25, 3) := by decide +kernel
theorem dX3_off_19 : decode cX3_off 19 = .ok (.getfield 88, 3) := by decide +kernel
theorem dX3_off_22 : decode cX3_off 22 = .ok (.iload_n 1, 1) := by decide +kernel
theorem dX3_off_23 : decode cX3_off 23 = .ok (.iload_n 2, 1) := by decide +kernel
theorem dX3_off_24 : decode cX3_off 24 = .ok (.bastore, 1) := by decide +kernel
theorem dX3_off_25 : decode cX3_off 25 = .ok (.iload_n 3, 1) := by decide +kernel
theorem dX3_off_26 : decode cX3_off 26 = .ok (.ireturn, 1) := by decide +kernel
theorem dL_ray_0 : decode cL_ray 0 = .ok (.aload 7, 2) := by decide +kernel
theorem dL_ray_2 : decode cL_ray 2 = .ok (.iconst 0, 1) := by decide +kernel
theorem dL_ray_3 : decode cL_ray 3 = .ok (.aload_n 0, 1) := by decide +kernel
theorem dL_ray_4 : decode cL_ray 4 = .ok (.iload_n 1, 1) := by decide +kernel
theorem dL_ray_5 : decode cL_ray 5 = .ok (.iload_n 2, 1) := by decide +kernel
theorem dL_ray_6 : decode cL_ray 6 = .ok (.iload_n 3, 1) := by decide +kernel
theorem dL_ray_7 : decode cL_ray 7 = .ok (.iload 4, 2) := by decide +kernel
theorem dL_ray_9 : decode cL_ray 9 = .ok (.iload 5, 2) := by decide +kernel
theorem dL_ray_11 : decode cL_ray 11 = .ok (.iload 6, 2) := by decide +kernel
theorem dL_ray_13 : decode cL_ray 13 = .ok (.invokevirtual 25, 3) := by decide +kernel
theorem dL_ray_16 : decode cL_ray 16 = .ok (.i2l, 1) := by decide +kernel
theorem dL_ray_17 : decode cL_ray 17 = .ok (.lastore, 1) := by decide +kernel
theorem dL_ray_18 : decode cL_ray 18 = .ok (.goto 7, 3) := by decide +kernel
theorem dL_ray_21 : decode cL_ray 21 = .ok (.astore 8, 2) := by decide +kernel
theorem dL_ray_23 : decode cL_ray 23 = .ok (.iconst 1, 1) := by decide +kernel
theorem dL_ray_24 : decode cL_ray 24 = .ok (.ireturn, 1) := by decide +kernel
theorem dL_ray_25 : decode cL_ray 25 = .ok (.iconst 0, 1) := by decide +kernel
theorem dL_ray_26 : decode cL_ray 26 = .ok (.ireturn, 1) := by decide +kernel
theorem dX3_ray_0 : decode cX3_ray 0 = .ok (.aload_n 0, 1) := by decide +kernel
theorem dX3_ray_1 : decode cX3_ray 1 = .ok (.iload_n 1, 1) := by decide +kernel
theorem dX3_ray_2 : decode cX3_ray 2 = .ok (.iload_n 2, 1) := by decide +kernel
theorem dX3_ray_3 : decode cX3_ray 3 = .ok (.iload_n 3, 1) := by decide +kernel
theorem dX3_ray_4 : decode cX3_ray 4 = .ok (.invokevirtual 53, 3) := by decide +kernel
theorem dX3_ray_7 : decode cX3_ray 7 = .ok (.iload 4, 2) := by decide +kernel
theorem dX3_ray_9 : decode cX3_ray 9 = .ok (.iload 5, 2) := by decide +kernel
theorem dX3_ray_11 : decode cX3_ray 11 = .ok (.iload 6, 2) := by decide +kernel
theorem dX3_ray_13 : decode cX3_ray 13 = .ok (.invokestatic 92, 3) := by decide +kernel
theorem dX3_ray_16 : decode cX3_ray 16 = .ok (.aload_n 0, 1) := by decide +kernel
theorem dX3_ray_17 : decode cX3_ray 17 = .ok (.getfield 42, 3) := by decide +kernel
theorem dX3_ray_20 : decode cX3_ray 20 = .ok (.iload_n 1, 1) := by decide +kernel
theorem dX3_ray_21 : decode cX3_ray 21 = .ok (.iload_n 2, 1) := by decide +kernel
theorem dX3_ray_22 : decode cX3_ray 22 = .ok (.iload_n 3, 1) := by decide +kernel
theorem dX3_ray_23 : decode cX3_ray 23 = .ok (.invokevirtual 95, 3) := by decide +kernel
theorem dX3_ray_26 : decode cX3_ray 26 = .ok (.aload_n 0, 1) := by decide +kernel
theorem dX3_ray_27 : decode cX3_ray 27 = .ok (.getfield 42, 3) := by decide +kernel
theorem dX3_ray_30 : decode cX3_ray 30 = .ok (.iload 4, 2) := by decide +kernel
theorem dX3_ray_32 : decode cX3_ray 32 = .ok (.iload 5, 2) := by decide +kernel
theorem dX3_ray_34 : decode cX3_ray 34 = .ok (.iload 6, 2) := by decide +kernel
theorem dX3_ray_36 : decode cX3_ray 36 = .ok (.invokevirtual 98, 3) := by decide +kernel
theorem dX3_ray_39 : decode cX3_ray 39 = .ok (.aload_n 0, 1) := by decide +kernel
theorem dX3_ray_40 : decode cX3_ray 40 = .ok (.iconst 1, 1) := by decide +kernel
theorem dX3_ray_41 : decode cX3_ray 41 = .ok (.putfield 46, 3) := by decide +kernel
theorem dX3_ray_44 : decode cX3_ray 44 = .ok (.aload_n 0, 1) := by decide +kernel
theorem dX3_ray_45 : decode cX3_ray 45 = .ok (.getfield 42, 3) := by decide +kernel
theorem dX3_ray_48 : decode cX3_ray 48 = .ok (.aload_n 0, 1) := by decide +kernel
theorem dX3_ray_49 : decode cX3_ray 49 = .ok (.getfield 25, 3) := by decide +kernel
theorem dX3_ray_52 : decode cX3_ray 52 = .ok (.invokevirtual 101, 3) := by decide +kernel
theorem dX3_ray_55 : decode cX3_ray 55 = .ok (.ireturn, 1) := by decide +kernel
theorem dX3_demandDirection_0 : decode cX3_demandDirection 0 = .ok (.iload_n 0, 1) := by decide +kernel
theorem dX3_demandDirection_1 : decode cX3_demandDirection 1 = .ok (.bipush (-100), 2) := by decide +kernel
theorem dX3_demandDirection_3 : decode cX3_demandDirection 3 = .ok (.bipush 100, 2) := by decide +kernel
theorem dX3_demandDirection_5 : decode cX3_demandDirection 5 = .ok (.invokestatic 79, 3) := by decide +kernel
theorem dX3_demandDirection_8 : decode cX3_demandDirection 8 = .ok (.iload_n 1, 1) := by decide +kernel
theorem dX3_demandDirection_9 : decode cX3_demandDirection 9 = .ok (.bipush (-100), 2) := by decide +kernel
theorem dX3_demandDirection_11 : decode cX3_demandDirection 11 = .ok (.bipush 100, 2) := by decide +kernel
theorem dX3_demandDirection_13 : decode cX3_demandDirection 13 = .ok (.invokestatic 79, 3) := by decide +kernel
theorem dX3_demandDirection_16 : decode cX3_demandDirection 16 = .ok (.iload_n 2, 1) := by decide +kernel
theorem dX3_demandDirection_17 : decode cX3_demandDirection 17 = .ok (.bipush (-100), 2) := by decide +kernel
theorem dX3_demandDirection_19 : decode cX3_demandDirection 19 = .ok (.bipush 100, 2) := by decide +kernel
theorem dX3_demandDirection_21 : decode cX3_demandDirection 21 = .ok (.invokestatic 79, 3) := by decide +kernel
theorem dX3_demandDirection_24 : decode cX3_demandDirection 24 = .ok (.iload_n 0, 1) := by decide +kernel
theorem dX3_demandDirection_25 : decode cX3_demandDirection 25 = .ok (.ifCond .ne 11, 3) := by decide +kernel
theorem dX3_demandDirection_28 : decode cX3_demandDirection 28 = .ok (.iload_n 1, 1) := by decide +kernel
theorem dX3_demandDirection_29 : decode cX3_demandDirection 29 = .ok (.ifCond .ne 7, 3) := by decide +kernel
theorem dX3_demandDirection_32 : decode cX3_demandDirection 32 = .ok (.iload_n 2, 1) := by decide +kernel
theorem dX3_demandDirection_33 : decode cX3_demandDirection 33 = .ok (.ifCond .eq 7, 3) := by decide +kernel
theorem dX3_demandDirection_36 : decode cX3_demandDirection 36 = .ok (.iconst 1, 1) := by decide +kernel
theorem dX3_demandDirection_37 : decode cX3_demandDirection 37 = .ok (.goto 4, 3) := by decide +kernel
theorem dX3_demandDirection_40 : decode cX3_demandDirection 40 = .ok (.iconst 0, 1) := by decide +kernel
theorem dX3_demandDirection_41 : decode cX3_demandDirection 41 = .ok (.invokestatic 57, 3) := by decide +kernel
theorem dX3_demandDirection_44 : decode cX3_demandDirection 44 = .ok (.return_, 1) := by decide +kernel
theorem dX2_begin_0 : decode cX2_begin 0 = .ok (.aload_n 0, 1) := by decide +kernel
theorem dX2_begin_1 : decode cX2_begin 1 = .ok (.getfield 9, 3) := by decide +kernel
theorem dX2_begin_4 : decode cX2_begin 4 = .ok (.iconst 0, 1) := by decide +kernel
theorem dX2_begin_5 : decode cX2_begin 5 = .ok (.iload_n 1, 1) := by decide +kernel
theorem dX2_begin_6 : decode cX2_begin 6 = .ok (.iastore, 1) := by decide +kernel
theorem dX2_begin_7 : decode cX2_begin 7 = .ok (.aload_n 0, 1) := by decide +kernel
theorem dX2_begin_8 : decode cX2_begin 8 = .ok (.getfield 9, 3) := by decide +kernel
theorem dX2_begin_11 : decode cX2_begin 11 = .ok (.iconst 1, 1) := by decide +kernel
theorem dX2_begin_12 : decode cX2_begin 12 = .ok (.iload_n 2, 1) := by decide +kernel
theorem dX2_begin_13 : decode cX2_begin 13 = .ok (.iastore, 1) := by decide +kernel
theorem dX2_begin_14 : decode cX2_begin 14 = .ok (.aload_n 0, 1) := by decide +kernel
theorem dX2_begin_15 : decode cX2_begin 15 = .ok (.getfield 9, 3) := by decide +kernel
theorem dX2_begin_18 : decode cX2_begin 18 = .ok (.iconst 2, 1) := by decide +kernel
theorem dX2_begin_19 : decode cX2_begin 19 = .ok (.iload_n 3, 1) := by decide +kernel
theorem dX2_begin_20 : decode cX2_begin 20 = .ok (.iastore, 1) := by decide +kernel
theorem dX2_begin_21 : decode cX2_begin 21 = .ok (.aload_n 0, 1) := by decide +kernel
theorem dX2_begin_22 : decode cX2_begin 22 = .ok (.iconst 0, 1) := by decide +kernel
theorem dX2_begin_23 : decode cX2_begin 23 = .ok (.putfield 49, 3) := by decide +kernel
theorem dX2_begin_26 : decode cX2_begin 26 = .ok (.aload_n 0, 1) := by decide +kernel
theorem dX2_begin_27 : decode cX2_begin 27 = .ok (.ldc 56, 2) := by decide +kernel
theorem dX2_begin_29 : decode cX2_begin 29 = .ok (.putfield 53, 3) := by decide +kernel
theorem dX2_begin_32 : decode cX2_begin 32 = .ok (.aload_n 0, 1) := by decide +kernel
theorem dX2_begin_33 : decode cX2_begin 33 = .ok (.getfield 39, 3) := by decide +kernel
theorem dX2_begin_36 : decode cX2_begin 36 = .ok (.iconst (-1), 1) := by decide +kernel
theorem dX2_begin_37 : decode cX2_begin 37 = .ok (.iconst (-1), 1) := by decide +kernel
theorem dX2_begin_38 : decode cX2_begin 38 = .ok (.iconst 0, 1) := by decide +kernel
theorem dX2_begin_39 : decode cX2_begin 39 = .ok (.iconst 1, 1) := by decide +kernel
theorem dX2_begin_40 : decode cX2_begin 40 = .ok (.invokevirtual 57, 3) := by decide +kernel
theorem dX2_begin_43 : decode cX2_begin 43 = .ok (.return_, 1) := by decide +kernel
theorem dX1_set_0 : decode cX1_set 0 = .ok (.aload_n 0, 1) := by decide +kernel
theorem dX1_set_1 : decode cX1_set 1 = .ok (.iload_n 1, 1) := by decide +kernel
theorem dX1_set_2 : decode cX1_set 2 = .ok (.putfield 7, 3) := by decide +kernel
theorem dX1_set_5 : decode cX1_set 5 = .ok (.aload_n 0, 1) := by decide +kernel
theorem dX1_set_6 : decode cX1_set 6 = .ok (.iload_n 2, 1) := by decide +kernel
theorem dX1_set_7 : decode cX1_set 7 = .ok (.putfield 13, 3) := by decide +kernel
theorem dX1_set_10 : decode cX1_set 10 = .ok (.aload_n 0, 1) := by decide +kernel
theorem dX1_set_11 : decode cX1_set 11 = .ok (.iload_n 3, 1) := by decide +kernel
theorem dX1_set_12 : decode cX1_set 12 = .ok (.putfield 16, 3) := by decide +kernel
theorem dX1_set_15 : decode cX1_set 15 = .ok (.aload_n 0, 1) := by decide +kernel
theorem dX1_set_16 : decode cX1_set 16 = .ok (.iload 4, 2) := by decide +kernel
theorem dX1_set_18 : decode cX1_set 18 = .ok (.putfield 19, 3) := by decide +kernel
theorem dX1_set_21 : decode cX1_set 21 = .ok (.return_, 1) := by decide +kernel
theorem dX2_aim_0 : decode cX2_aim 0 = .ok (.aload_n 0, 1) := by decide +kernel
theorem dX2_aim_1 : decode cX2_aim 1 = .ok (.getfield 15, 3) := by decide +kernel
theorem dX2_aim_4 : decode cX2_aim 4 = .ok (.iconst 0, 1) := by decide +kernel
theorem dX2_aim_5 : decode cX2_aim 5 = .ok (.iload_n 1, 1) := by decide +kernel
theorem dX2_aim_6 : decode cX2_aim 6 = .ok (.iastore, 1) := by decide +kernel
theorem dX2_aim_7 : decode cX2_aim 7 = .ok (.aload_n 0, 1) := by decide +kernel
theorem dX2_aim_8 : decode cX2_aim 8 = .ok (.getfield 15, 3) := by decide +kernel
theorem dX2_aim_11 : decode cX2_aim 11 = .ok (.iconst 1, 1) := by decide +kernel
theorem dX2_aim_12 : decode cX2_aim 12 = .ok (.iload_n 2, 1) := by decide +kernel
theorem dX2_aim_13 : decode cX2_aim 13 = .ok (.iastore, 1) := by decide +kernel
theorem dX2_aim_14 : decode cX2_aim 14 = .ok (.aload_n 0, 1) := by decide +kernel
theorem dX2_aim_15 : decode cX2_aim 15 = .ok (.getfield 15, 3) := by decide +kernel
theorem dX2_aim_18 : decode cX2_aim 18 = .ok (.iconst 2, 1) := by decide +kernel
theorem dX2_aim_19 : decode cX2_aim 19 = .ok (.iload_n 3, 1) := by decide +kernel
theorem dX2_aim_20 : decode cX2_aim 20 = .ok (.iastore, 1) := by decide +kernel
theorem dX2_aim_21 : decode cX2_aim 21 = .ok (.return_, 1) := by decide +kernel
theorem dX2_follow_0 : decode cX2_follow 0 = .ok (.aload_n 1, 1) := by decide +kernel
theorem dX2_follow_1 : decode cX2_follow 1 = .ok (.aload_n 0, 1) := by decide +kernel
theorem dX2_follow_2 : decode cX2_follow 2 = .ok (.getfield 9, 3) := by decide +kernel
theorem dX2_follow_5 : decode cX2_follow 5 = .ok (.invokevirtual 61, 3) := by decide +kernel
theorem dX2_follow_8 : decode cX2_follow 8 = .ok (.ifCond .eq 5, 3) := by decide +kernel
theorem dX2_follow_11 : decode cX2_follow 11 = .ok (.iconst 1, 1) := by decide +kernel
theorem dX2_follow_12 : decode cX2_follow 12 = .ok (.ireturn, 1) := by decide +kernel
theorem dX2_follow_13 : decode cX2_follow 13 = .ok (.iconst 0, 1) := by decide +kernel
theorem dX2_follow_14 : decode cX2_follow 14 = .ok (.istore_n 2, 1) := by decide +kernel
theorem dX2_follow_15 : decode cX2_follow 15 = .ok (.iload_n 2, 1) := by decide +kernel
theorem dX2_follow_16 : decode cX2_follow 16 = .ok (.bipush 30, 2) := by decide +kernel
theorem dX2_follow_18 : decode cX2_follow 18 = .ok (.if_icmp .ge 95, 3) := by decide +kernel
theorem dX2_follow_21 : decode cX2_follow 21 = .ok (.aload_n 0, 1) := by decide +kernel
theorem dX2_follow_22 : decode cX2_follow 22 = .ok (.aload_n 1, 1) := by decide +kernel
theorem dX2_follow_23 : decode cX2_follow 23 = .ok (.invokevirtual 67, 3) := by decide +kernel
theorem dX2_follow_26 : decode cX2_follow 26 = .ok (.ifCond .ne 5, 3) := by decide +kernel
theorem dX2_follow_29 : decode cX2_follow 29 = .ok (.iconst 0, 1) := by decide +kernel
theorem dX2_follow_30 : decode cX2_follow 30 = .ok (.ireturn, 1) := by decide +kernel
theorem dX2_follow_31 : decode cX2_follow 31 = .ok (.aload_n 0, 1) := by decide +kernel
theorem dX2_follow_32 : decode cX2_follow 32 = .ok (.invokevirtual 71, 3) := by decide +kernel
theorem dX2_follow_35 : decode cX2_follow 35 = .ok (.aload_n 1, 1) := by decide +kernel
theorem dX2_follow_36 : decode cX2_follow 36 = .ok (.getfield 74, 3) := by decide +kernel
theorem dX2_follow_39 : decode cX2_follow 39 = .ok (.aload_n 0, 1) := by decide +kernel
theorem dX2_follow_40 : decode cX2_follow 40 = .ok (.getfield 39, 3) := by decide +kernel
theorem dX2_follow_43 : decode cX2_follow 43 = .ok (.getfield 77, 3) := by decide +kernel
theorem dX2_follow_46 : decode cX2_follow 46 = .ok (.iaload, 1) := by decide +kernel
theorem dX2_follow_47 : decode cX2_follow 47 = .ok (.ifCond .ne 5, 3) := by decide +kernel
theorem dX2_follow_50 : decode cX2_follow 50 = .ok (.iconst 1, 1) := by decide +kernel
theorem dX2_follow_51 : decode cX2_follow 51 = .ok (.ireturn, 1) := by decide +kernel
theorem dX2_follow_52 : decode cX2_follow 52 = .ok (.aload_n 0, 1) := by decide +kernel
theorem dX2_follow_53 : decode cX2_follow 53 = .ok (.aload_n 0, 1) := by decide +kernel
theorem dX2_follow_54 : decode cX2_follow 54 = .ok (.getfield 53, 3) := by decide +kernel
theorem dX2_follow_57 : decode cX2_follow 57 = .ok (.aload_n 1, 1) := by decide +kernel
theorem dX2_follow_58 : decode cX2_follow 58 = .ok (.getfield 80, 3) := by decide +kernel
theorem dX2_follow_61 : decode cX2_follow 61 = .ok (.aload_n 0, 1) := by decide +kernel
theorem dX2_follow_62 : decode cX2_follow 62 = .ok (.getfield 39, 3) := by decide +kernel
theorem dX2_follow_65 : decode cX2_follow 65 = .ok (.getfield 77, 3) := by decide +kernel
theorem dX2_follow_68 : decode cX2_follow 68 = .ok (.iaload, 1) := by decide +kernel
theorem dX2_follow_69 : decode cX2_follow 69 = .ok (.imul, 1) := by decide +kernel
theorem dX2_follow_70 : decode cX2_follow 70 = .ok (.sipush 1000, 3) := by decide +kernel
theorem dX2_follow_73 : decode cX2_follow 73 = .ok (.idiv, 1) := by decide +kernel
theorem dX2_follow_74 : decode cX2_follow 74 = .ok (.putfield 53, 3) := by decide +kernel
theorem dX2_follow_77 : decode cX2_follow 77 = .ok (.aload_n 1, 1) := by decide +kernel
theorem dX2_follow_78 : decode cX2_follow 78 = .ok (.getfield 74, 3) := by decide +kernel
theorem dX2_follow_81 : decode cX2_follow 81 = .ok (.aload_n 0, 1) := by decide +kernel
theorem dX2_follow_82 : decode cX2_follow 82 = .ok (.getfield 39, 3) := by decide +kernel
theorem dX2_follow_85 : decode cX2_follow 85 = .ok (.getfield 77, 3) := by decide +kernel
theorem dX2_follow_88 : decode cX2_follow 88 = .ok (.iaload, 1) := by decide +kernel
theorem dX2_follow_89 : decode cX2_follow 89 = .ok (.iconst 1, 1) := by decide +kernel
theorem dX2_follow_90 : decode cX2_follow 90 = .ok (.if_icmp .ne 8, 3) := by decide +kernel
theorem dX2_follow_93 : decode cX2_follow 93 = .ok (.aload_n 0, 1) := by decide +kernel
theorem dX2_follow_94 : decode cX2_follow 94 = .ok (.aload_n 1, 1) := by decide +kernel
theorem dX2_follow_95 : decode cX2_follow 95 = .ok (.invokevirtual 83, 3) := by decide +kernel
theorem dX2_follow_98 : decode cX2_follow 98 = .ok (.aload_n 0, 1) := by decide +kernel
theorem dX2_follow_99 : decode cX2_follow 99 = .ok (.getfield 53, 3) := by decide +kernel
theorem dX2_follow_102 : decode cX2_follow 102 = .ok (.ifCond .ne 5, 3) := by decide +kernel
theorem dX2_follow_105 : decode cX2_follow 105 = .ok (.iconst 2, 1) := by decide +kernel
theorem dX2_follow_106 : decode cX2_follow 106 = .ok (.ireturn, 1) := by decide +kernel
theorem dX2_follow_107 : decode cX2_follow 107 = .ok (.iinc 2 1, 3) := by decide +kernel
theorem dX2_follow_110 : decode cX2_follow 110 = .ok (.goto (-95), 3) := by decide +kernel
theorem dX2_follow_113 : decode cX2_follow 113 = .ok (.iconst 2, 1) := by decide +kernel
theorem dX2_follow_114 : decode cX2_follow 114 = .ok (.ireturn, 1) := by decide +kernel
theorem dX0_anySolidRound_0 : decode cX0_anySolidRound 0 = .ok (.iconst 0, 1) := by decide +kernel
theorem dX0_anySolidRound_1 : decode cX0_anySolidRound 1 = .ok (.istore_n 2, 1) := by decide +kernel
theorem dX0_anySolidRound_2 : decode cX0_anySolidRound 2 = .ok (.iload_n 2, 1) := by decide +kernel
theorem dX0_anySolidRound_3 : decode cX0_anySolidRound 3 = .ok (.aload_n 0, 1) := by decide +kernel
theorem dX0_anySolidRound_4 : decode cX0_anySolidRound 4 = .ok (.getfield 28, 3) := by decide +kernel
theorem dX0_anySolidRound_7 : decode cX0_anySolidRound 7 = .ok (.if_icmp .ge 38, 3) := by decide +kernel
theorem dX0_anySolidRound_10 : decode cX0_anySolidRound 10 = .ok (.aload_n 0, 1) := by decide +kernel
theorem dX0_anySolidRound_11 : decode cX0_anySolidRound 11 = .ok (.getfield 24, 3) := by decide +kernel
theorem dX0_anySolidRound_14 : decode cX0_anySolidRound 14 = .ok (.iload_n 2, 1) := by decide +kernel
theorem dX0_anySolidRound_15 : decode cX0_anySolidRound 15 = .ok (.baload, 1) := by decide +kernel
theorem dX0_anySolidRound_16 : decode cX0_anySolidRound 16 = .ok (.ifCond .ne 23, 3) := by decide +kernel
theorem dX0_anySolidRound_19 : decode cX0_anySolidRound 19 = .ok (.aload_n 0, 1) := by decide +kernel
theorem dX0_anySolidRound_20 : decode cX0_anySolidRound 20 = .ok (.getfield 18, 3) := by decide +kernel
theorem dX0_anySolidRound_23 : decode cX0_anySolidRound 23 = .ok (.iload_n 2, 1) := by decide +kernel
theorem dX0_anySolidRound_24 : decode cX0_anySolidRound 24 = .ok (.iaload, 1) := by decide +kernel
theorem dX0_anySolidRound_25 : decode cX0_anySolidRound 25 = .ok (.ifCond .ne 14, 3) := by decide +kernel
theorem dX0_anySolidRound_28 : decode cX0_anySolidRound 28 = .ok (.aload_n 0, 1) := by decide +kernel
theorem dX0_anySolidRound_29 : decode cX0_anySolidRound 29 = .ok (.iload_n 2, 1) := by decide +kernel
theorem dX0_anySolidRound_30 : decode cX0_anySolidRound 30 = .ok (.aload_n 1, 1) := by decide +kernel
theorem dX0_anySolidRound_31 : decode cX0_anySolidRound 31 = .ok (.invokevirtual 32, 3) := by decide +kernel
theorem dX0_anySolidRound_34 : decode cX0_anySolidRound 34 = .ok (.ifCond .eq 5, 3) := by decide +kernel
theorem dX0_anySolidRound_37 : decode cX0_anySolidRound 37 = .ok (.iconst 1, 1) := by decide +kernel
theorem dX0_anySolidRound_38 : decode cX0_anySolidRound 38 = .ok (.ireturn, 1) := by decide +kernel
theorem dX0_anySolidRound_39 : decode cX0_anySolidRound 39 = .ok (.iinc 2 1, 3) := by decide +kernel
theorem dX0_anySolidRound_42 : decode cX0_anySolidRound 42 = .ok (.goto (-40), 3) := by decide +kernel
theorem dX0_anySolidRound_45 : decode cX0_anySolidRound 45 = .ok (.iconst 0, 1) := by decide +kernel
theorem dX0_anySolidRound_46 : decode cX0_anySolidRound 46 = .ok (.ireturn, 1) := by decide +kernel
theorem dX0_isInside_0 : decode cX0_isInside 0 = .ok (.iconst 0, 1) := by decide +kernel
theorem dX0_isInside_1 : decode cX0_isInside 1 = .ok (.istore_n 3, 1) := by decide +kernel
theorem dX0_isInside_2 : decode cX0_isInside 2 = .ok (.iload_n 3, 1) := by decide +kernel
theorem dX0_isInside_3 : decode cX0_isInside 3 = .ok (.iconst 3, 1) := by decide +kernel
theorem dX0_isInside_4 : decode cX0_isInside 4 = .ok (.if_icmp .ge 46, 3) := by decide +kernel
theorem dX0_isInside_7 : decode cX0_isInside 7 = .ok (.aload_n 2, 1) := by decide +kernel
theorem dX0_isInside_8 : decode cX0_isInside 8 = .ok (.iload_n 3, 1) := by decide +kernel
theorem dX0_isInside_9 : decode cX0_isInside 9 = .ok (.iaload, 1) := by decide +kernel
theorem dX0_isInside_10 : decode cX0_isInside 10 = .ok (.istore 4, 2) := by decide +kernel
theorem dX0_isInside_12 : decode cX0_isInside 12 = .ok (.iload 4, 2) := by decide +kernel
theorem dX0_isInside_14 : decode cX0_isInside 14 = .ok (.aload_n 0, 1) := by decide +kernel
theorem dX0_isInside_15 : decode cX0_isInside 15 = .ok (.getfield 9, 3) := by decide +kernel
theorem dX0_isInside_18 : decode cX0_isInside 18 = .ok (.iload_n 1, 1) := by decide +kernel
theorem dX0_isInside_19 : decode cX0_isInside 19 = .ok (.iconst 3, 1) := by decide +kernel
theorem dX0_isInside_20 : decode cX0_isInside 20 = .ok (.imul, 1) := by decide +kernel
theorem dX0_isInside_21 : decode cX0_isInside 21 = .ok (.iload_n 3, 1) := by decide +kernel
theorem dX0_isInside_22 : decode cX0_isInside 22 = .ok (.iadd, 1) := by decide +kernel
theorem dX0_isInside_23 : decode cX0_isInside 23 = .ok (.iaload, 1) := by decide +kernel
theorem dX0_isInside_24 : decode cX0_isInside 24 = .ok (.if_icmp .le 18, 3) := by decide +kernel
theorem dX0_isInside_27 : decode cX0_isInside 27 = .ok (.iload 4, 2) := by decide +kernel
theorem dX0_isInside_29 : decode cX0_isInside 29 = .ok (.aload_n 0, 1) := by decide +kernel
theorem dX0_isInside_30 : decode cX0_isInside 30 = .ok (.getfield 15, 3) := by decide +kernel
theorem dX0_isInside_33 : decode cX0_isInside 33 = .ok (.iload_n 1, 1) := by decide +kernel
theorem dX0_isInside_34 : decode cX0_isInside 34 = .ok (.iconst 3, 1) := by decide +kernel
theorem dX0_isInside_35 : decode cX0_isInside 35 = .ok (.imul, 1) := by decide +kernel
theorem dX0_isInside_36 : decode cX0_isInside 36 = .ok (.iload_n 3, 1) := by decide +kernel
theorem dX0_isInside_37 : decode cX0_isInside 37 = .ok (.iadd, 1) := by decide +kernel
theorem dX0_isInside_38 : decode cX0_isInside 38 = .ok (.iaload, 1) := by decide +kernel
theorem dX0_isInside_39 : decode cX0_isInside 39 = .ok (.if_icmp .lt 5, 3) := by decide +kernel
theorem dX0_isInside_42 : decode cX0_isInside 42 = .ok (.iconst 0, 1) := by decide +kernel
theorem dX0_isInside_43 : decode cX0_isInside 43 = .ok (.ireturn, 1) := by decide +kernel
theorem dX0_isInside_44 : decode cX0_isInside 44 = .ok (.iinc 3 1, 3) := by decide +kernel
theorem dX0_isInside_47 : decode cX0_isInside 47 = .ok (.goto (-45), 3) := by decide +kernel
theorem dX0_isInside_50 : decode cX0_isInside 50 = .ok (.iconst 1, 1) := by decide +kernel
theorem dX0_isInside_51 : decode cX0_isInside 51 = .ok (.ireturn, 1) := by decide +kernel
theorem dX2_findNext_0 : decode cX2_findNext 0 = .ok (.aload_n 0, 1) := by decide +kernel
theorem dX2_findNext_1 : decode cX2_findNext 1 = .ok (.getfield 43, 3) := by decide +kernel
theorem dX2_findNext_4 : decode cX2_findNext 4 = .ok (.iconst (-1), 1) := by decide +kernel
theorem dX2_findNext_5 : decode cX2_findNext 5 = .ok (.putfield 77, 3) := by decide +kernel
theorem dX2_findNext_8 : decode cX2_findNext 8 = .ok (.iconst 0, 1) := by decide +kernel
theorem dX2_findNext_9 : decode cX2_findNext 9 = .ok (.istore_n 2, 1) := by decide +kernel
theorem dX2_findNext_10 : decode cX2_findNext 10 = .ok (.iload_n 2, 1) := by decide +kernel
theorem dX2_findNext_11 : decode cX2_findNext 11 = .ok (.aload_n 1, 1) := by decide +kernel
theorem dX2_findNext_12 : decode cX2_findNext 12 = .ok (.getfield 87, 3) := by decide +kernel
theorem dX2_findNext_15 : decode cX2_findNext 15 = .ok (.if_icmp .ge 71, 3) := by decide +kernel
theorem dX2_findNext_18 : decode cX2_findNext 18 = .ok (.aload_n 1, 1) := by decide +kernel
theorem dX2_findNext_19 : decode cX2_findNext 19 = .ok (.getfield 90, 3) := by decide +kernel
theorem dX2_findNext_22 : decode cX2_findNext 22 = .ok (.iload_n 2, 1) := by decide +kernel
theorem dX2_findNext_23 : decode cX2_findNext 23 = .ok (.baload, 1) := by decide +kernel
theorem dX2_findNext_24 : decode cX2_findNext 24 = .ok (.ifCond .ne 56, 3) := by decide +kernel
theorem dX2_findNext_27 : decode cX2_findNext 27 = .ok (.aload_n 0, 1) := by decide +kernel
theorem dX2_findNext_28 : decode cX2_findNext 28 = .ok (.aload_n 1, 1) := by decide +kernel
theorem dX2_findNext_29 : decode cX2_findNext 29 = .ok (.iload_n 2, 1) := by decide +kernel
theorem dX2_findNext_30 : decode cX2_findNext 30 = .ok (.invokevirtual 94, 3) := by decide +kernel
theorem dX2_findNext_33 : decode cX2_findNext 33 = .ok (.ifCond .eq 47, 3) := by decide +kernel
theorem dX2_findNext_36 : decode cX2_findNext 36 = .ok (.aload_n 0, 1) := by decide +kernel
theorem dX2_findNext_37 : decode cX2_findNext 37 = .ok (.aload_n 1, 1) := by decide +kernel
theorem dX2_findNext_38 : decode cX2_findNext 38 = .ok (.invokevirtual 98, 3) := by decide +kernel
theorem dX2_findNext_41 : decode cX2_findNext 41 = .ok (.ifCond .eq 39, 3) := by decide +kernel
theorem dX2_findNext_44 : decode cX2_findNext 44 = .ok (.aload_n 0, 1) := by decide +kernel
theorem dX2_findNext_45 : decode cX2_findNext 45 = .ok (.getfield 43, 3) := by decide +kernel
theorem dX2_findNext_48 : decode cX2_findNext 48 = .ok (.getfield 77, 3) := by decide +kernel
theorem dX2_findNext_51 : decode cX2_findNext 51 = .ok (.iconst (-1), 1) := by decide +kernel
theorem dX2_findNext_52 : decode cX2_findNext 52 = .ok (.if_icmp .eq 17, 3) := by decide +kernel
theorem dX2_findNext_55 : decode cX2_findNext 55 = .ok (.aload_n 0, 1) := by decide +kernel
theorem dX2_findNext_56 : decode cX2_findNext 56 = .ok (.getfield 46, 3) := by decide +kernel
theorem dX2_findNext_59 : decode cX2_findNext 59 = .ok (.aload_n 0, 1) := by decide +kernel
theorem dX2_findNext_60 : decode cX2_findNext 60 = .ok (.getfield 43, 3) := by decide +kernel
theorem dX2_findNext_63 : decode cX2_findNext 63 = .ok (.invokevirtual 101, 3) := by decide +kernel
theorem dX2_findNext_66 : decode cX2_findNext 66 = .ok (.ifCond .ge 14, 3) := by decide +kernel
theorem dX2_findNext_69 : decode cX2_findNext 69 = .ok (.aload_n 0, 1) := by decide +kernel
theorem dX2_findNext_70 : decode cX2_findNext 70 = .ok (.getfield 43, 3) := by decide +kernel
theorem dX2_findNext_73 : decode cX2_findNext 73 = .ok (.aload_n 0, 1) := by decide +kernel
theorem dX2_findNext_74 : decode cX2_findNext 74 = .ok (.getfield 46, 3) := by decide +kernel
theorem dX2_findNext_77 : decode cX2_findNext 77 = .ok (.invokevirtual 105, 3) := by decide +kernel
theorem dX2_findNext_80 : decode cX2_findNext 80 = .ok (.iinc 2 1, 3) := by decide +kernel
theorem dX2_findNext_83 : decode cX2_findNext 83 = .ok (.goto (-73), 3) := by decide +kernel
theorem dX2_findNext_86 : decode cX2_findNext 86 = .ok (.aload_n 0, 1) := by decide +kernel
theorem dX2_findNext_87 : decode cX2_findNext 87 = .ok (.getfield 43, 3) := by decide +kernel
theorem dX2_findNext_90 : decode cX2_findNext 90 = .ok (.getfield 77, 3) := by decide +kernel
theorem dX2_findNext_93 : decode cX2_findNext 93 = .ok (.iconst (-1), 1) := by decide +kernel
theorem dX2_findNext_94 : decode cX2_findNext 94 = .ok (.if_icmp .eq 7, 3) := by decide +kernel
theorem dX2_findNext_97 : decode cX2_findNext 97 = .ok (.iconst 1, 1) := by decide +kernel
theorem dX2_findNext_98 : decode cX2_findNext 98 = .ok (.goto 4, 3) := by decide +kernel
theorem dX2_findNext_101 : decode cX2_findNext 101 = .ok (.iconst 0, 1) := by decide +kernel
theorem dX2_findNext_102 : decode cX2_findNext 102 = .ok (.ireturn, 1) := by decide +kernel
end
section
theorem dX2_crosses_0 : decode cX2_crosses 0 = .ok (.iconst 0, 1) := by decide +kernel
theorem dX2_crosses_1 : decode cX2_crosses 1 = .ok (.istore_n 3, 1) := by decide +kernel
theorem dX2_crosses_2 : decode cX2_crosses 2 = .ok (.iconst 0, 1) := by decide +kernel
theorem dX2_crosses_3 : decode cX2_crosses 3 = .ok (.istore 4, 2) := by decide +kernel
theorem dX2_crosses_5 : decode cX2_crosses 5 = .ok (.aload_n 0, 1) := by decide +kernel
theorem dX2_crosses_6 : decode cX2_crosses 6 = .ok (.getfield 46, 3) := by decide +kernel
theorem dX2_crosses_9 : decode cX2_crosses 9 = .ok (.iload_n 2, 1) := by decide +kernel
theorem dX2_crosses_10 : decode cX2_crosses 10 = .ok (.iconst (-1), 1) := by decide +kernel
theorem dX2_crosses_11 : decode cX2_crosses 11 = .ok (.iconst 0, 1) := by decide +kernel
theorem dX2_crosses_12 : decode cX2_crosses 12 = .ok (.iconst 1, 1) := by decide +kernel
theorem dX2_crosses_13 : decode cX2_crosses 13 = .ok (.invokevirtual 57, 3) := by decide +kernel
theorem dX2_crosses_16 : decode cX2_crosses 16 = .ok (.iconst 0, 1) := by decide +kernel
theorem dX2_crosses_17 : decode cX2_crosses 17 = .ok (.istore 5, 2) := by decide +kernel
theorem dX2_crosses_19 : decode cX2_crosses 19 = .ok (.iload 5, 2) := by decide +kernel
theorem dX2_crosses_21 : decode cX2_crosses 21 = .ok (.iconst 3, 1) := by decide +kernel
theorem dX2_crosses_22 : decode cX2_crosses 22 = .ok (.if_icmp .ge 192, 3) := by decide +kernel
theorem dX2_crosses_25 : decode cX2_crosses 25 = .ok (.aload_n 1, 1) := by decide +kernel
theorem dX2_crosses_26 : decode cX2_crosses 26 = .ok (.getfield 109, 3) := by decide +kernel
theorem dX2_crosses_29 : decode cX2_crosses 29 = .ok (.iload_n 2, 1) := by decide +kernel
theorem dX2_crosses_30 : decode cX2_crosses 30 = .ok (.iconst 3, 1) := by decide +kernel
theorem dX2_crosses_31 : decode cX2_crosses 31 = .ok (.imul, 1) := by decide +kernel
theorem dX2_crosses_32 : decode cX2_crosses 32 = .ok (.iload 5, 2) := by decide +kernel
theorem dX2_crosses_34 : decode cX2_crosses 34 = .ok (.iadd, 1) := by decide +kernel
theorem dX2_crosses_35 : decode cX2_crosses 35 = .ok (.iaload, 1) := by decide +kernel
theorem dX2_crosses_36 : decode cX2_crosses 36 = .ok (.aload_n 0, 1) := by decide +kernel
theorem dX2_crosses_37 : decode cX2_crosses 37 = .ok (.getfield 9, 3) := by decide +kernel
theorem dX2_crosses_40 : decode cX2_crosses 40 = .ok (.iload 5, 2) := by decide +kernel
theorem dX2_crosses_42 : decode cX2_crosses 42 = .ok (.iaload, 1) := by decide +kernel
theorem dX2_crosses_43 : decode cX2_crosses 43 = .ok (.isub, 1) := by decide +kernel
theorem dX2_crosses_44 : decode cX2_crosses 44 = .ok (.istore 6, 2) := by decide +kernel
theorem dX2_crosses_46 : decode cX2_crosses 46 = .ok (.aload_n 1, 1) := by decide +kernel
theorem dX2_crosses_47 : decode cX2_crosses 47 = .ok (.getfield 112, 3) := by decide +kernel
theorem dX2_crosses_50 : decode cX2_crosses 50 = .ok (.iload_n 2, 1) := by decide +kernel
theorem dX2_crosses_51 : decode cX2_crosses 51 = .ok (.iconst 3, 1) := by decide +kernel
theorem dX2_crosses_52 : decode cX2_crosses 52 = .ok (.imul, 1) := by decide +kernel
theorem dX2_crosses_53 : decode cX2_crosses 53 = .ok (.iload 5, 2) := by decide +kernel
theorem dX2_crosses_55 : decode cX2_crosses 55 = .ok (.iadd, 1) := by decide +kernel
theorem dX2_crosses_56 : decode cX2_crosses 56 = .ok (.iaload, 1) := by decide +kernel
theorem dX2_crosses_57 : decode cX2_crosses 57 = .ok (.aload_n 0, 1) := by decide +kernel
theorem dX2_crosses_58 : decode cX2_crosses 58 = .ok (.getfield 9, 3) := by decide +kernel
theorem dX2_crosses_61 : decode cX2_crosses 61 = .ok (.iload 5, 2) := by decide +kernel
theorem dX2_crosses_63 : decode cX2_crosses 63 = .ok (.iaload, 1) := by decide +kernel
theorem dX2_crosses_64 : decode cX2_crosses 64 = .ok (.isub, 1) := by decide +kernel
theorem dX2_crosses_65 : decode cX2_crosses 65 = .ok (.istore 7, 2) := by decide +kernel
theorem dX2_crosses_67 : decode cX2_crosses 67 = .ok (.aload_n 0, 1) := by decide +kernel
theorem dX2_crosses_68 : decode cX2_crosses 68 = .ok (.getfield 15, 3) := by decide +kernel
theorem dX2_crosses_71 : decode cX2_crosses 71 = .ok (.iload 5, 2) := by decide +kernel
theorem dX2_crosses_73 : decode cX2_crosses 73 = .ok (.iaload, 1) := by decide +kernel
theorem dX2_crosses_74 : decode cX2_crosses 74 = .ok (.invokestatic 115, 3) := by decide +kernel
theorem dX2_crosses_77 : decode cX2_crosses 77 = .ok (.istore 8, 2) := by decide +kernel
theorem dX2_crosses_79 : decode cX2_crosses 79 = .ok (.iload 8, 2) := by decide +kernel
theorem dX2_crosses_81 : decode cX2_crosses 81 = .ok (.ifCond .ne 15, 3) := by decide +kernel
theorem dX2_crosses_84 : decode cX2_crosses 84 = .ok (.iload 6, 2) := by decide +kernel
theorem dX2_crosses_86 : decode cX2_crosses 86 = .ok (.ifCond .ge 8, 3) := by decide +kernel
theorem dX2_crosses_89 : decode cX2_crosses 89 = .ok (.iload 7, 2) := by decide +kernel
theorem dX2_crosses_91 : decode cX2_crosses 91 = .ok (.ifCond .gt 117, 3) := by decide +kernel
theorem dX2_crosses_94 : decode cX2_crosses 94 = .ok (.iconst 0, 1) := by decide +kernel
theorem dX2_crosses_95 : decode cX2_crosses 95 = .ok (.ireturn, 1) := by decide +kernel
theorem dX2_crosses_96 : decode cX2_crosses 96 = .ok (.aload_n 0, 1) := by decide +kernel
theorem dX2_crosses_97 : decode cX2_crosses 97 = .ok (.getfield 15, 3) := by decide +kernel
theorem dX2_crosses_100 : decode cX2_crosses 100 = .ok (.iload 5, 2) := by decide +kernel
theorem dX2_crosses_102 : decode cX2_crosses 102 = .ok (.iaload, 1) := by decide +kernel
theorem dX2_crosses_103 : decode cX2_crosses 103 = .ok (.ifCond .le 8, 3) := by decide +kernel
theorem dX2_crosses_106 : decode cX2_crosses 106 = .ok (.iload 6, 2) := by decide +kernel
theorem dX2_crosses_108 : decode cX2_crosses 108 = .ok (.goto 6, 3) := by decide +kernel
theorem dX2_crosses_111 : decode cX2_crosses 111 = .ok (.iload 7, 2) := by decide +kernel
theorem dX2_crosses_113 : decode cX2_crosses 113 = .ok (.ineg, 1) := by decide +kernel
theorem dX2_crosses_114 : decode cX2_crosses 114 = .ok (.istore 9, 2) := by decide +kernel
theorem dX2_crosses_116 : decode cX2_crosses 116 = .ok (.aload_n 0, 1) := by decide +kernel
theorem dX2_crosses_117 : decode cX2_crosses 117 = .ok (.getfield 15, 3) := by decide +kernel
theorem dX2_crosses_120 : decode cX2_crosses 120 = .ok (.iload 5, 2) := by decide +kernel
theorem dX2_crosses_122 : decode cX2_crosses 122 = .ok (.iaload, 1) := by decide +kernel
theorem dX2_crosses_123 : decode cX2_crosses 123 = .ok (.ifCond .le 8, 3) := by decide +kernel
theorem dX2_crosses_126 : decode cX2_crosses 126 = .ok (.iload 7, 2) := by decide +kernel
theorem dX2_crosses_128 : decode cX2_crosses 128 = .ok (.goto 6, 3) := by decide +kernel
theorem dX2_crosses_131 : decode cX2_crosses 131 = .ok (.iload 6, 2) := by decide +kernel
theorem dX2_crosses_133 : decode cX2_crosses 133 = .ok (.ineg, 1) := by decide +kernel
theorem dX2_crosses_134 : decode cX2_crosses 134 = .ok (.istore 10, 2) := by decide +kernel
theorem dX2_crosses_136 : decode cX2_crosses 136 = .ok (.aload_n 0, 1) := by decide +kernel
theorem dX2_crosses_137 : decode cX2_crosses 137 = .ok (.getfield 46, 3) := by decide +kernel
theorem dX2_crosses_140 : decode cX2_crosses 140 = .ok (.getfield 121, 3) := by decide +kernel
theorem dX2_crosses_143 : decode cX2_crosses 143 = .ok (.iconst (-1), 1) := by decide +kernel
theorem dX2_crosses_144 : decode cX2_crosses 144 = .ok (.if_icmp .eq 26, 3) := by decide +kernel
theorem dX2_crosses_147 : decode cX2_crosses 147 = .ok (.iload 9, 2) := by decide +kernel
theorem dX2_crosses_149 : decode cX2_crosses 149 = .ok (.aload_n 0, 1) := by decide +kernel
theorem dX2_crosses_150 : decode cX2_crosses 150 = .ok (.getfield 46, 3) := by decide +kernel
theorem dX2_crosses_153 : decode cX2_crosses 153 = .ok (.getfield 124, 3) := by decide +kernel
theorem dX2_crosses_156 : decode cX2_crosses 156 = .ok (.imul, 1) := by decide +kernel
theorem dX2_crosses_157 : decode cX2_crosses 157 = .ok (.aload_n 0, 1) := by decide +kernel
theorem dX2_crosses_158 : decode cX2_crosses 158 = .ok (.getfield 46, 3) := by decide +kernel
theorem dX2_crosses_161 : decode cX2_crosses 161 = .ok (.getfield 127, 3) := by decide +kernel
theorem dX2_crosses_164 : decode cX2_crosses 164 = .ok (.iload 8, 2) := by decide +kernel
theorem dX2_crosses_166 : decode cX2_crosses 166 = .ok (.imul, 1) := by decide +kernel
theorem dX2_crosses_167 : decode cX2_crosses 167 = .ok (.if_icmp .le 17, 3) := by decide +kernel
theorem dX2_crosses_170 : decode cX2_crosses 170 = .ok (.aload_n 0, 1) := by decide +kernel
theorem dX2_crosses_171 : decode cX2_crosses 171 = .ok (.getfield 46, 3) := by decide +kernel
theorem dX2_crosses_174 : decode cX2_crosses 174 = .ok (.iload_n 2, 1) := by decide +kernel
theorem dX2_crosses_175 : decode cX2_crosses 175 = .ok (.iload 5, 2) := by decide +kernel
theorem dX2_crosses_177 : decode cX2_crosses 177 = .ok (.iload 9, 2) := by decide +kernel
theorem dX2_crosses_179 : decode cX2_crosses 179 = .ok (.iload 8, 2) := by decide +kernel
theorem dX2_crosses_181 : decode cX2_crosses 181 = .ok (.invokevirtual 57, 3) := by decide +kernel
theorem dX2_crosses_184 : decode cX2_crosses 184 = .ok (.iload 4, 2) := by decide +kernel
theorem dX2_crosses_186 : decode cX2_crosses 186 = .ok (.ifCond .eq 15, 3) := by decide +kernel
theorem dX2_crosses_189 : decode cX2_crosses 189 = .ok (.iload 10, 2) := by decide +kernel
theorem dX2_crosses_191 : decode cX2_crosses 191 = .ok (.iload 4, 2) := by decide +kernel
theorem dX2_crosses_193 : decode cX2_crosses 193 = .ok (.imul, 1) := by decide +kernel
theorem dX2_crosses_194 : decode cX2_crosses 194 = .ok (.iload_n 3, 1) := by decide +kernel
theorem dX2_crosses_195 : decode cX2_crosses 195 = .ok (.iload 8, 2) := by decide +kernel
theorem dX2_crosses_197 : decode cX2_crosses 197 = .ok (.imul, 1) := by decide +kernel
theorem dX2_crosses_198 : decode cX2_crosses 198 = .ok (.if_icmp .ge 10, 3) := by decide +kernel
theorem dX2_crosses_201 : decode cX2_crosses 201 = .ok (.iload 10, 2) := by decide +kernel
theorem dX2_crosses_203 : decode cX2_crosses 203 = .ok (.istore_n 3, 1) := by decide +kernel
theorem dX2_crosses_204 : decode cX2_crosses 204 = .ok (.iload 8, 2) := by decide +kernel
theorem dX2_crosses_206 : decode cX2_crosses 206 = .ok (.istore 4, 2) := by decide +kernel
theorem dX2_crosses_208 : decode cX2_crosses 208 = .ok (.iinc 5 1, 3) := by decide +kernel
theorem dX2_crosses_211 : decode cX2_crosses 211 = .ok (.goto (-192), 3) := by decide +kernel
theorem dX2_crosses_214 : decode cX2_crosses 214 = .ok (.aload_n 0, 1) := by decide +kernel
theorem dX2_crosses_215 : decode cX2_crosses 215 = .ok (.getfield 46, 3) := by decide +kernel
theorem dX2_crosses_218 : decode cX2_crosses 218 = .ok (.getfield 121, 3) := by decide +kernel
theorem dX2_crosses_221 : decode cX2_crosses 221 = .ok (.iconst (-1), 1) := by decide +kernel
theorem dX2_crosses_222 : decode cX2_crosses 222 = .ok (.if_icmp .eq 29, 3) := by decide +kernel
theorem dX2_crosses_225 : decode cX2_crosses 225 = .ok (.aload_n 0, 1) := by decide +kernel
theorem dX2_crosses_226 : decode cX2_crosses 226 = .ok (.getfield 46, 3) := by decide +kernel
theorem dX2_crosses_229 : decode cX2_crosses 229 = .ok (.getfield 127, 3) := by decide +kernel
theorem dX2_crosses_232 : decode cX2_crosses 232 = .ok (.iload 4, 2) := by decide +kernel
theorem dX2_crosses_234 : decode cX2_crosses 234 = .ok (.imul, 1) := by decide +kernel
theorem dX2_crosses_235 : decode cX2_crosses 235 = .ok (.iload_n 3, 1) := by decide +kernel
theorem dX2_crosses_236 : decode cX2_crosses 236 = .ok (.aload_n 0, 1) := by decide +kernel
theorem dX2_crosses_237 : decode cX2_crosses 237 = .ok (.getfield 46, 3) := by decide +kernel
theorem dX2_crosses_240 : decode cX2_crosses 240 = .ok (.getfield 124, 3) := by decide +kernel
theorem dX2_crosses_243 : decode cX2_crosses 243 = .ok (.imul, 1) := by decide +kernel
theorem dX2_crosses_244 : decode cX2_crosses 244 = .ok (.if_icmp .ge 7, 3) := by decide +kernel
theorem dX2_crosses_247 : decode cX2_crosses 247 = .ok (.iconst 1, 1) := by decide +kernel
theorem dX2_crosses_248 : decode cX2_crosses 248 = .ok (.goto 4, 3) := by decide +kernel
theorem dX2_crosses_251 : decode cX2_crosses 251 = .ok (.iconst 0, 1) := by decide +kernel
theorem dX2_crosses_252 : decode cX2_crosses 252 = .ok (.ireturn, 1) := by decide +kernel
theorem dJM_abs_0 : decode cJM_abs 0 = .ok (.iload_n 0, 1) := by decide +kernel
theorem dJM_abs_1 : decode cJM_abs 1 = .ok (.ifCond .ge 8, 3) := by decide +kernel
theorem dJM_abs_4 : decode cJM_abs 4 = .ok (.iload_n 0, 1) := by decide +kernel
theorem dJM_abs_5 : decode cJM_abs 5 = .ok (.ineg, 1) := by decide +kernel
theorem dJM_abs_6 : decode cJM_abs 6 = .ok (.goto 4, 3) := by decide +kernel
theorem dJM_abs_9 : decode cJM_abs 9 = .ok (.iload_n 0, 1) := by decide +kernel
theorem dJM_abs_10 : decode cJM_abs 10 = .ok (.ireturn, 1) := by decide +kernel
theorem dX2_countsNow_0 : decode cX2_countsNow 0 = .ok (.aload_n 0, 1) := by decide +kernel
theorem dX2_countsNow_1 : decode cX2_countsNow 1 = .ok (.getfield 46, 3) := by decide +kernel
theorem dX2_countsNow_4 : decode cX2_countsNow 4 = .ok (.aload_n 0, 1) := by decide +kernel
theorem dX2_countsNow_5 : decode cX2_countsNow 5 = .ok (.getfield 39, 3) := by decide +kernel
theorem dX2_countsNow_8 : decode cX2_countsNow 8 = .ok (.invokevirtual 101, 3) := by decide +kernel
theorem dX2_countsNow_11 : decode cX2_countsNow 11 = .ok (.istore_n 2, 1) := by decide +kernel
theorem dX2_countsNow_12 : decode cX2_countsNow 12 = .ok (.iload_n 2, 1) := by decide +kernel
theorem dX2_countsNow_13 : decode cX2_countsNow 13 = .ok (.ifCond .eq 13, 3) := by decide +kernel
theorem dX2_countsNow_16 : decode cX2_countsNow 16 = .ok (.iload_n 2, 1) := by decide +kernel
theorem dX2_countsNow_17 : decode cX2_countsNow 17 = .ok (.ifCond .le 7, 3) := by decide +kernel
theorem dX2_countsNow_20 : decode cX2_countsNow 20 = .ok (.iconst 1, 1) := by decide +kernel
theorem dX2_countsNow_21 : decode cX2_countsNow 21 = .ok (.goto 4, 3) := by decide +kernel
theorem dX2_countsNow_24 : decode cX2_countsNow 24 = .ok (.iconst 0, 1) := by decide +kernel
theorem dX2_countsNow_25 : decode cX2_countsNow 25 = .ok (.ireturn, 1) := by decide +kernel
theorem dX2_countsNow_26 : decode cX2_countsNow 26 = .ok (.aload_n 0, 1) := by decide +kernel
theorem dX2_countsNow_27 : decode cX2_countsNow 27 = .ok (.getfield 46, 3) := by decide +kernel
theorem dX2_countsNow_30 : decode cX2_countsNow 30 = .ok (.getfield 77, 3) := by decide +kernel
theorem dX2_countsNow_33 : decode cX2_countsNow 33 = .ok (.aload_n 0, 1) := by decide +kernel
theorem dX2_countsNow_34 : decode cX2_countsNow 34 = .ok (.getfield 39, 3) := by decide +kernel
theorem dX2_countsNow_37 : decode cX2_countsNow 37 = .ok (.getfield 77, 3) := by decide +kernel
theorem dX2_countsNow_40 : decode cX2_countsNow 40 = .ok (.if_icmp .le 22, 3) := by decide +kernel
theorem dX2_countsNow_43 : decode cX2_countsNow 43 = .ok (.aload_n 0, 1) := by decide +kernel
theorem dX2_countsNow_44 : decode cX2_countsNow 44 = .ok (.aload_n 1, 1) := by decide +kernel
theorem dX2_countsNow_45 : decode cX2_countsNow 45 = .ok (.aload_n 0, 1) := by decide +kernel
theorem dX2_countsNow_46 : decode cX2_countsNow 46 = .ok (.getfield 46, 3) := by decide +kernel
theorem dX2_countsNow_49 : decode cX2_countsNow 49 = .ok (.getfield 77, 3) := by decide +kernel
theorem dX2_countsNow_52 : decode cX2_countsNow 52 = .ok (.invokevirtual 130, 3) := by decide +kernel
theorem dX2_countsNow_55 : decode cX2_countsNow 55 = .ok (.ifCond .ne 7, 3) := by decide +kernel
theorem dX2_countsNow_58 : decode cX2_countsNow 58 = .ok (.iconst 1, 1) := by decide +kernel
theorem dX2_countsNow_59 : decode cX2_countsNow 59 = .ok (.goto 4, 3) := by decide +kernel
theorem dX2_countsNow_62 : decode cX2_countsNow 62 = .ok (.iconst 0, 1) := by decide +kernel
theorem dX2_countsNow_63 : decode cX2_countsNow 63 = .ok (.ireturn, 1) := by decide +kernel
theorem dX1_compareTime_0 : decode cX1_compareTime 0 = .ok (.aload_n 0, 1) := by decide +kernel
theorem dX1_compareTime_1 : decode cX1_compareTime 1 = .ok (.getfield 16, 3) := by decide +kernel
theorem dX1_compareTime_4 : decode cX1_compareTime 4 = .ok (.aload_n 1, 1) := by decide +kernel
theorem dX1_compareTime_5 : decode cX1_compareTime 5 = .ok (.getfield 19, 3) := by decide +kernel
theorem dX1_compareTime_8 : decode cX1_compareTime 8 = .ok (.imul, 1) := by decide +kernel
theorem dX1_compareTime_9 : decode cX1_compareTime 9 = .ok (.aload_n 1, 1) := by decide +kernel
theorem dX1_compareTime_10 : decode cX1_compareTime 10 = .ok (.getfield 16, 3) := by decide +kernel
theorem dX1_compareTime_13 : decode cX1_compareTime 13 = .ok (.aload_n 0, 1) := by decide +kernel
theorem dX1_compareTime_14 : decode cX1_compareTime 14 = .ok (.getfield 19, 3) := by decide +kernel
theorem dX1_compareTime_17 : decode cX1_compareTime 17 = .ok (.imul, 1) := by decide +kernel
theorem dX1_compareTime_18 : decode cX1_compareTime 18 = .ok (.invokestatic 26, 3) := by decide +kernel
theorem dX1_compareTime_21 : decode cX1_compareTime 21 = .ok (.ireturn, 1) := by decide +kernel
theorem dJI_compare_0 : decode cJI_compare 0 = .ok (.iload_n 0, 1) := by decide +kernel
theorem dJI_compare_1 : decode cJI_compare 1 = .ok (.iload_n 1, 1) := by decide +kernel
theorem dJI_compare_2 : decode cJI_compare 2 = .ok (.if_icmp .ge 7, 3) := by decide +kernel
theorem dJI_compare_5 : decode cJI_compare 5 = .ok (.iconst (-1), 1) := by decide +kernel
theorem dJI_compare_6 : decode cJI_compare 6 = .ok (.goto 13, 3) := by decide +kernel
theorem dJI_compare_9 : decode cJI_compare 9 = .ok (.iload_n 0, 1) := by decide +kernel
theorem dJI_compare_10 : decode cJI_compare 10 = .ok (.iload_n 1, 1) := by decide +kernel
theorem dJI_compare_11 : decode cJI_compare 11 = .ok (.if_icmp .ne 7, 3) := by decide +kernel
theorem dJI_compare_14 : decode cJI_compare 14 = .ok (.iconst 0, 1) := by decide +kernel
theorem dJI_compare_15 : decode cJI_compare 15 = .ok (.goto 4, 3) := by decide +kernel
theorem dJI_compare_18 : decode cJI_compare 18 = .ok (.iconst 1, 1) := by decide +kernel
theorem dJI_compare_19 : decode cJI_compare 19 = .ok (.ireturn, 1) := by decide +kernel
theorem dX2_cameInside_0 : decode cX2_cameInside 0 = .ok (.aload_n 0, 1) := by decide +kernel
theorem dX2_cameInside_1 : decode cX2_cameInside 1 = .ok (.getfield 39, 3) := by decide +kernel
theorem dX2_cameInside_4 : decode cX2_cameInside 4 = .ok (.getfield 127, 3) := by decide +kernel
theorem dX2_cameInside_7 : decode cX2_cameInside 7 = .ok (.ifCond .ne 5, 3) := by decide +kernel
theorem dX2_cameInside_10 : decode cX2_cameInside 10 = .ok (.iconst 0, 1) := by decide +kernel
theorem dX2_cameInside_11 : decode cX2_cameInside 11 = .ok (.ireturn, 1) := by decide +kernel
theorem dX2_cameInside_12 : decode cX2_cameInside 12 = .ok (.iconst 0, 1) := by decide +kernel
theorem dX2_cameInside_13 : decode cX2_cameInside 13 = .ok (.istore_n 3, 1) := by decide +kernel
theorem dX2_cameInside_14 : decode cX2_cameInside 14 = .ok (.iload_n 3, 1) := by decide +kernel
theorem dX2_cameInside_15 : decode cX2_cameInside 15 = .ok (.iconst 3, 1) := by decide +kernel
theorem dX2_cameInside_16 : decode cX2_cameInside 16 = .ok (.if_icmp .ge 128, 3) := by decide +kernel
theorem dX2_cameInside_19 : decode cX2_cameInside 19 = .ok (.aload_n 0, 1) := by decide +kernel
theorem dX2_cameInside_20 : decode cX2_cameInside 20 = .ok (.iload_n 3, 1) := by decide +kernel
theorem dX2_cameInside_21 : decode cX2_cameInside 21 = .ok (.invokevirtual 133, 3) := by decide +kernel
theorem dX2_cameInside_24 : decode cX2_cameInside 24 = .ok (.istore 4, 2) := by decide +kernel
theorem dX2_cameInside_26 : decode cX2_cameInside 26 = .ok (.aload_n 1, 1) := by decide +kernel
theorem dX2_cameInside_27 : decode cX2_cameInside 27 = .ok (.getfield 109, 3) := by decide +kernel
theorem dX2_cameInside_30 : decode cX2_cameInside 30 = .ok (.iload_n 2, 1) := by decide +kernel
theorem dX2_cameInside_31 : decode cX2_cameInside 31 = .ok (.iconst 3, 1) := by decide +kernel
theorem dX2_cameInside_32 : decode cX2_cameInside 32 = .ok (.imul, 1) := by decide +kernel
theorem dX2_cameInside_33 : decode cX2_cameInside 33 = .ok (.iload_n 3, 1) := by decide +kernel
theorem dX2_cameInside_34 : decode cX2_cameInside 34 = .ok (.iadd, 1) := by decide +kernel
theorem dX2_cameInside_35 : decode cX2_cameInside 35 = .ok (.iaload, 1) := by decide +kernel
theorem dX2_cameInside_36 : decode cX2_cameInside 36 = .ok (.aload_n 0, 1) := by decide +kernel
theorem dX2_cameInside_37 : decode cX2_cameInside 37 = .ok (.getfield 39, 3) := by decide +kernel
theorem dX2_cameInside_40 : decode cX2_cameInside 40 = .ok (.getfield 124, 3) := by decide +kernel
theorem dX2_cameInside_43 : decode cX2_cameInside 43 = .ok (.imul, 1) := by decide +kernel
theorem dX2_cameInside_44 : decode cX2_cameInside 44 = .ok (.istore 5, 2) := by decide +kernel
theorem dX2_cameInside_46 : decode cX2_cameInside 46 = .ok (.aload_n 1, 1) := by decide +kernel
theorem dX2_cameInside_47 : decode cX2_cameInside 47 = .ok (.getfield 112, 3) := by decide +kernel
theorem dX2_cameInside_50 : decode cX2_cameInside 50 = .ok (.iload_n 2, 1) := by decide +kernel
theorem dX2_cameInside_51 : decode cX2_cameInside 51 = .ok (.iconst 3, 1) := by decide +kernel
theorem dX2_cameInside_52 : decode cX2_cameInside 52 = .ok (.imul, 1) := by decide +kernel
theorem dX2_cameInside_53 : decode cX2_cameInside 53 = .ok (.iload_n 3, 1) := by decide +kernel
theorem dX2_cameInside_54 : decode cX2_cameInside 54 = .ok (.iadd, 1) := by decide +kernel
theorem dX2_cameInside_55 : decode cX2_cameInside 55 = .ok (.iaload, 1) := by decide +kernel
theorem dX2_cameInside_56 : decode cX2_cameInside 56 = .ok (.aload_n 0, 1) := by decide +kernel
theorem dX2_cameInside_57 : decode cX2_cameInside 57 = .ok (.getfield 39, 3) := by decide +kernel
theorem dX2_cameInside_60 : decode cX2_cameInside 60 = .ok (.getfield 124, 3) := by decide +kernel
theorem dX2_cameInside_63 : decode cX2_cameInside 63 = .ok (.imul, 1) := by decide +kernel
theorem dX2_cameInside_64 : decode cX2_cameInside 64 = .ok (.istore 6, 2) := by decide +kernel
theorem dX2_cameInside_66 : decode cX2_cameInside 66 = .ok (.iload 4, 2) := by decide +kernel
theorem dX2_cameInside_68 : decode cX2_cameInside 68 = .ok (.iload 5, 2) := by decide +kernel
theorem dX2_cameInside_70 : decode cX2_cameInside 70 = .ok (.if_icmp .gt 19, 3) := by decide +kernel
theorem dX2_cameInside_73 : decode cX2_cameInside 73 = .ok (.iload 4, 2) := by decide +kernel
theorem dX2_cameInside_75 : decode cX2_cameInside 75 = .ok (.iload 5, 2) := by decide +kernel
theorem dX2_cameInside_77 : decode cX2_cameInside 77 = .ok (.if_icmp .ne 16, 3) := by decide +kernel
theorem dX2_cameInside_80 : decode cX2_cameInside 80 = .ok (.aload_n 0, 1) := by decide +kernel
theorem dX2_cameInside_81 : decode cX2_cameInside 81 = .ok (.getfield 18, 3) := by decide +kernel
theorem dX2_cameInside_84 : decode cX2_cameInside 84 = .ok (.iload_n 3, 1) := by decide +kernel
theorem dX2_cameInside_85 : decode cX2_cameInside 85 = .ok (.iaload, 1) := by decide +kernel
theorem dX2_cameInside_86 : decode cX2_cameInside 86 = .ok (.ifCond .ge 7, 3) := by decide +kernel
theorem dX2_cameInside_89 : decode cX2_cameInside 89 = .ok (.iconst 1, 1) := by decide +kernel
theorem dX2_cameInside_90 : decode cX2_cameInside 90 = .ok (.goto 4, 3) := by decide +kernel
theorem dX2_cameInside_93 : decode cX2_cameInside 93 = .ok (.iconst 0, 1) := by decide +kernel
theorem dX2_cameInside_94 : decode cX2_cameInside 94 = .ok (.istore 7, 2) := by decide +kernel
theorem dX2_cameInside_96 : decode cX2_cameInside 96 = .ok (.iload 4, 2) := by decide +kernel
theorem dX2_cameInside_98 : decode cX2_cameInside 98 = .ok (.iload 6, 2) := by decide +kernel
theorem dX2_cameInside_100 : decode cX2_cameInside 100 = .ok (.if_icmp .lt 19, 3) := by decide +kernel
theorem dX2_cameInside_103 : decode cX2_cameInside 103 = .ok (.iload 4, 2) := by decide +kernel
theorem dX2_cameInside_105 : decode cX2_cameInside 105 = .ok (.iload 6, 2) := by decide +kernel
theorem dX2_cameInside_107 : decode cX2_cameInside 107 = .ok (.if_icmp .ne 16, 3) := by decide +kernel
theorem dX2_cameInside_110 : decode cX2_cameInside 110 = .ok (.aload_n 0, 1) := by decide +kernel
theorem dX2_cameInside_111 : decode cX2_cameInside 111 = .ok (.getfield 18, 3) := by decide +kernel
theorem dX2_cameInside_114 : decode cX2_cameInside 114 = .ok (.iload_n 3, 1) := by decide +kernel
theorem dX2_cameInside_115 : decode cX2_cameInside 115 = .ok (.iaload, 1) := by decide +kernel
theorem dX2_cameInside_116 : decode cX2_cameInside 116 = .ok (.ifCond .le 7, 3) := by decide +kernel
theorem dX2_cameInside_119 : decode cX2_cameInside 119 = .ok (.iconst 1, 1) := by decide +kernel
theorem dX2_cameInside_120 : decode cX2_cameInside 120 = .ok (.goto 4, 3) := by decide +kernel
theorem dX2_cameInside_123 : decode cX2_cameInside 123 = .ok (.iconst 0, 1) := by decide +kernel
theorem dX2_cameInside_124 : decode cX2_cameInside 124 = .ok (.istore 8, 2) := by decide +kernel
theorem dX2_cameInside_126 : decode cX2_cameInside 126 = .ok (.iload 7, 2) := by decide +kernel
theorem dX2_cameInside_128 : decode cX2_cameInside 128 = .ok (.ifCond .eq 8, 3) := by decide +kernel
theorem dX2_cameInside_131 : decode cX2_cameInside 131 = .ok (.iload 8, 2) := by decide +kernel
theorem dX2_cameInside_133 : decode cX2_cameInside 133 = .ok (.ifCond .ne 5, 3) := by decide +kernel
theorem dX2_cameInside_136 : decode cX2_cameInside 136 = .ok (.iconst 0, 1) := by decide +kernel
theorem dX2_cameInside_137 : decode cX2_cameInside 137 = .ok (.ireturn, 1) := by decide +kernel
theorem dX2_cameInside_138 : decode cX2_cameInside 138 = .ok (.iinc 3 1, 3) := by decide +kernel
theorem dX2_cameInside_141 : decode cX2_cameInside 141 = .ok (.goto (-127), 3) := by decide +kernel
theorem dX2_cameInside_144 : decode cX2_cameInside 144 = .ok (.iconst 1, 1) := by decide +kernel
theorem dX2_cameInside_145 : decode cX2_cameInside 145 = .ok (.ireturn, 1) := by decide +kernel
theorem dX2_spotAtLatest_0 : decode cX2_spotAtLatest 0 = .ok (.aload_n 0, 1) := by decide +kernel
theorem dX2_spotAtLatest_1 : decode cX2_spotAtLatest 1 = .ok (.getfield 9, 3) := by decide +kernel
theorem dX2_spotAtLatest_4 : decode cX2_spotAtLatest 4 = .ok (.iload_n 1, 1) := by decide +kernel
theorem dX2_spotAtLatest_5 : decode cX2_spotAtLatest 5 = .ok (.iaload, 1) := by decide +kernel
theorem dX2_spotAtLatest_6 : decode cX2_spotAtLatest 6 = .ok (.aload_n 0, 1) := by decide +kernel
theorem dX2_spotAtLatest_7 : decode cX2_spotAtLatest 7 = .ok (.getfield 39, 3) := by decide +kernel
theorem dX2_spotAtLatest_10 : decode cX2_spotAtLatest 10 = .ok (.getfield 124, 3) := by decide +kernel
theorem dX2_spotAtLatest_13 : decode cX2_spotAtLatest 13 = .ok (.imul, 1) := by decide +kernel
theorem dX2_spotAtLatest_14 : decode cX2_spotAtLatest 14 = .ok (.aload_n 0, 1) := by decide +kernel
theorem dX2_spotAtLatest_15 : decode cX2_spotAtLatest 15 = .ok (.getfield 15, 3) := by decide +kernel
theorem dX2_spotAtLatest_18 : decode cX2_spotAtLatest 18 = .ok (.iload_n 1, 1) := by decide +kernel
theorem dX2_spotAtLatest_19 : decode cX2_spotAtLatest 19 = .ok (.iaload, 1) := by decide +kernel
theorem dX2_spotAtLatest_20 : decode cX2_spotAtLatest 20 = .ok (.aload_n 0, 1) := by decide +kernel
theorem dX2_spotAtLatest_21 : decode cX2_spotAtLatest 21 = .ok (.getfield 39, 3) := by decide +kernel
theorem dX2_spotAtLatest_24 : decode cX2_spotAtLatest 24 = .ok (.getfield 127, 3) := by decide +kernel
theorem dX2_spotAtLatest_27 : decode cX2_spotAtLatest 27 = .ok (.imul, 1) := by decide +kernel
theorem dX2_spotAtLatest_28 : decode cX2_spotAtLatest 28 = .ok (.iadd, 1) := by decide +kernel
theorem dX2_spotAtLatest_29 : decode cX2_spotAtLatest 29 = .ok (.ireturn, 1) := by decide +kernel
theorem dX1_copy_0 : decode cX1_copy 0 = .ok (.aload_n 0, 1) := by decide +kernel
theorem dX1_copy_1 : decode cX1_copy 1 = .ok (.aload_n 1, 1) := by decide +kernel
theorem dX1_copy_2 : decode cX1_copy 2 = .ok (.getfield 7, 3) := by decide +kernel
theorem dX1_copy_5 : decode cX1_copy 5 = .ok (.aload_n 1, 1) := by decide +kernel
theorem dX1_copy_6 : decode cX1_copy 6 = .ok (.getfield 13, 3) := by decide +kernel
theorem dX1_copy_9 : decode cX1_copy 9 = .ok (.aload_n 1, 1) := by decide +kernel
theorem dX1_copy_10 : decode cX1_copy 10 = .ok (.getfield 16, 3) := by decide +kernel
theorem dX1_copy_13 : decode cX1_copy 13 = .ok (.aload_n 1, 1) := by decide +kernel
theorem dX1_copy_14 : decode cX1_copy 14 = .ok (.getfield 19, 3) := by decide +kernel
theorem dX1_copy_17 : decode cX1_copy 17 = .ok (.invokevirtual 22, 3) := by decide +kernel
theorem dX1_copy_20 : decode cX1_copy 20 = .ok (.return_, 1) := by decide +kernel
theorem dX2_keepHit_0 : decode cX2_keepHit 0 = .ok (.aload_n 0, 1) := by decide +kernel
theorem dX2_keepHit_1 : decode cX2_keepHit 1 = .ok (.getfield 43, 3) := by decide +kernel
theorem dX2_keepHit_4 : decode cX2_keepHit 4 = .ok (.aload_n 0, 1) := by decide +kernel
theorem dX2_keepHit_5 : decode cX2_keepHit 5 = .ok (.getfield 39, 3) := by decide +kernel
theorem dX2_keepHit_8 : decode cX2_keepHit 8 = .ok (.invokevirtual 101, 3) := by decide +kernel
theorem dX2_keepHit_11 : decode cX2_keepHit 11 = .ok (.ifCond .le 17, 3) := by decide +kernel
theorem dX2_keepHit_14 : decode cX2_keepHit 14 = .ok (.aload_n 0, 1) := by decide +kernel
theorem dX2_keepHit_15 : decode cX2_keepHit 15 = .ok (.getfield 15, 3) := by decide +kernel
theorem dX2_keepHit_18 : decode cX2_keepHit 18 = .ok (.iconst 0, 1) := by decide +kernel
theorem dX2_keepHit_19 : decode cX2_keepHit 19 = .ok (.aload_n 0, 1) := by decide +kernel
theorem dX2_keepHit_20 : decode cX2_keepHit 20 = .ok (.getfield 18, 3) := by decide +kernel
theorem dX2_keepHit_23 : decode cX2_keepHit 23 = .ok (.iconst 0, 1) := by decide +kernel
theorem dX2_keepHit_24 : decode cX2_keepHit 24 = .ok (.iconst 3, 1) := by decide +kernel
theorem dX2_keepHit_25 : decode cX2_keepHit 25 = .ok (.invokestatic 136, 3) := by decide +kernel
theorem dX2_keepHit_28 : decode cX2_keepHit 28 = .ok (.aload_n 0, 1) := by decide +kernel
theorem dX2_keepHit_29 : decode cX2_keepHit 29 = .ok (.getfield 43, 3) := by decide +kernel
theorem dX2_keepHit_32 : decode cX2_keepHit 32 = .ok (.getfield 127, 3) := by decide +kernel
theorem dX2_keepHit_35 : decode cX2_keepHit 35 = .ok (.aload_n 0, 1) := by decide +kernel
theorem dX2_keepHit_36 : decode cX2_keepHit 36 = .ok (.getfield 43, 3) := by decide +kernel
theorem dX2_keepHit_39 : decode cX2_keepHit 39 = .ok (.getfield 124, 3) := by decide +kernel
theorem dX2_keepHit_42 : decode cX2_keepHit 42 = .ok (.invokestatic 142, 3) := by decide +kernel
theorem dX2_keepHit_45 : decode cX2_keepHit 45 = .ok (.istore_n 1, 1) := by decide +kernel
theorem dX2_keepHit_46 : decode cX2_keepHit 46 = .ok (.aload_n 0, 1) := by decide +kernel
theorem dX2_keepHit_47 : decode cX2_keepHit 47 = .ok (.getfield 39, 3) := by decide +kernel
theorem dX2_keepHit_50 : decode cX2_keepHit 50 = .ok (.aload_n 0, 1) := by decide +kernel
theorem dX2_keepHit_51 : decode cX2_keepHit 51 = .ok (.getfield 43, 3) := by decide +kernel
theorem dX2_keepHit_54 : decode cX2_keepHit 54 = .ok (.getfield 77, 3) := by decide +kernel
theorem dX2_keepHit_57 : decode cX2_keepHit 57 = .ok (.aload_n 0, 1) := by decide +kernel
theorem dX2_keepHit_58 : decode cX2_keepHit 58 = .ok (.getfield 43, 3) := by decide +kernel
theorem dX2_keepHit_61 : decode cX2_keepHit 61 = .ok (.getfield 121, 3) := by decide +kernel
theorem dX2_keepHit_64 : decode cX2_keepHit 64 = .ok (.aload_n 0, 1) := by decide +kernel
theorem dX2_keepHit_65 : decode cX2_keepHit 65 = .ok (.getfield 43, 3) := by decide +kernel
theorem dX2_keepHit_68 : decode cX2_keepHit 68 = .ok (.getfield 127, 3) := by decide +kernel
theorem dX2_keepHit_71 : decode cX2_keepHit 71 = .ok (.iload_n 1, 1) := by decide +kernel
theorem dX2_keepHit_72 : decode cX2_keepHit 72 = .ok (.idiv, 1) := by decide +kernel
theorem dX2_keepHit_73 : decode cX2_keepHit 73 = .ok (.aload_n 0, 1) := by decide +kernel
theorem dX2_keepHit_74 : decode cX2_keepHit 74 = .ok (.getfield 43, 3) := by decide +kernel
theorem dX2_keepHit_77 : decode cX2_keepHit 77 = .ok (.getfield 124, 3) := by decide +kernel
theorem dX2_keepHit_80 : decode cX2_keepHit 80 = .ok (.iload_n 1, 1) := by decide +kernel
theorem dX2_keepHit_81 : decode cX2_keepHit 81 = .ok (.idiv, 1) := by decide +kernel
theorem dX2_keepHit_82 : decode cX2_keepHit 82 = .ok (.invokevirtual 57, 3) := by decide +kernel
theorem dX2_keepHit_85 : decode cX2_keepHit 85 = .ok (.aload_n 0, 1) := by decide +kernel
theorem dX2_keepHit_86 : decode cX2_keepHit 86 = .ok (.getfield 21, 3) := by decide +kernel
theorem dX2_keepHit_89 : decode cX2_keepHit 89 = .ok (.aload_n 0, 1) := by decide +kernel
theorem dX2_keepHit_90 : decode cX2_keepHit 90 = .ok (.getfield 49, 3) := by decide +kernel
theorem dX2_keepHit_93 : decode cX2_keepHit 93 = .ok (.aload_n 0, 1) := by decide +kernel
theorem dX2_keepHit_94 : decode cX2_keepHit 94 = .ok (.getfield 39, 3) := by decide +kernel
theorem dX2_keepHit_97 : decode cX2_keepHit 97 = .ok (.getfield 77, 3) := by decide +kernel
theorem dX2_keepHit_100 : decode cX2_keepHit 100 = .ok (.iastore, 1) := by decide +kernel
theorem dX2_keepHit_101 : decode cX2_keepHit 101 = .ok (.aload_n 0, 1) := by decide +kernel
theorem dX2_keepHit_102 : decode cX2_keepHit 102 = .ok (.getfield 24, 3) := by decide +kernel
theorem dX2_keepHit_105 : decode cX2_keepHit 105 = .ok (.aload_n 0, 1) := by decide +kernel
theorem dX2_keepHit_106 : decode cX2_keepHit 106 = .ok (.getfield 49, 3) := by decide +kernel
theorem dX2_keepHit_109 : decode cX2_keepHit 109 = .ok (.aload_n 0, 1) := by decide +kernel
theorem dX2_keepHit_110 : decode cX2_keepHit 110 = .ok (.getfield 39, 3) := by decide +kernel
theorem dX2_keepHit_113 : decode cX2_keepHit 113 = .ok (.getfield 121, 3) := by decide +kernel
theorem dX2_keepHit_116 : decode cX2_keepHit 116 = .ok (.iastore, 1) := by decide +kernel
theorem dX2_keepHit_117 : decode cX2_keepHit 117 = .ok (.aload_n 0, 1) := by decide +kernel
theorem dX2_keepHit_118 : decode cX2_keepHit 118 = .ok (.getfield 27, 3) := by decide +kernel
theorem dX2_keepHit_121 : decode cX2_keepHit 121 = .ok (.aload_n 0, 1) := by decide +kernel
theorem dX2_keepHit_122 : decode cX2_keepHit 122 = .ok (.getfield 49, 3) := by decide +kernel
theorem dX2_keepHit_125 : decode cX2_keepHit 125 = .ok (.aload_n 0, 1) := by decide +kernel
theorem dX2_keepHit_126 : decode cX2_keepHit 126 = .ok (.getfield 39, 3) := by decide +kernel
theorem dX2_keepHit_129 : decode cX2_keepHit 129 = .ok (.getfield 127, 3) := by decide +kernel
theorem dX2_keepHit_132 : decode cX2_keepHit 132 = .ok (.iastore, 1) := by decide +kernel
theorem dX2_keepHit_133 : decode cX2_keepHit 133 = .ok (.aload_n 0, 1) := by decide +kernel
theorem dX2_keepHit_134 : decode cX2_keepHit 134 = .ok (.getfield 30, 3) := by decide +kernel
theorem dX2_keepHit_137 : decode cX2_keepHit 137 = .ok (.aload_n 0, 1) := by decide +kernel
theorem dX2_keepHit_138 : decode cX2_keepHit 138 = .ok (.getfield 49, 3) := by decide +kernel
theorem dX2_keepHit_141 : decode cX2_keepHit 141 = .ok (.aload_n 0, 1) := by decide +kernel
theorem dX2_keepHit_142 : decode cX2_keepHit 142 = .ok (.getfield 39, 3) := by decide +kernel
theorem dX2_keepHit_145 : decode cX2_keepHit 145 = .ok (.getfield 124, 3) := by decide +kernel
theorem dX2_keepHit_148 : decode cX2_keepHit 148 = .ok (.iastore, 1) := by decide +kernel
theorem dX2_keepHit_149 : decode cX2_keepHit 149 = .ok (.iconst 0, 1) := by decide +kernel
theorem dX2_keepHit_150 : decode cX2_keepHit 150 = .ok (.istore_n 2, 1) := by decide +kernel
theorem dX2_keepHit_151 : decode cX2_keepHit 151 = .ok (.iload_n 2, 1) := by decide +kernel
theorem dX2_keepHit_152 : decode cX2_keepHit 152 = .ok (.iconst 3, 1) := by decide +kernel
theorem dX2_keepHit_153 : decode cX2_keepHit 153 = .ok (.if_icmp .ge 27, 3) := by decide +kernel
theorem dX2_keepHit_156 : decode cX2_keepHit 156 = .ok (.aload_n 0, 1) := by decide +kernel
theorem dX2_keepHit_157 : decode cX2_keepHit 157 = .ok (.getfield 33, 3) := by decide +kernel
theorem dX2_keepHit_160 : decode cX2_keepHit 160 = .ok (.aload_n 0, 1) := by decide +kernel
theorem dX2_keepHit_161 : decode cX2_keepHit 161 = .ok (.getfield 49, 3) := by decide +kernel
theorem dX2_keepHit_164 : decode cX2_keepHit 164 = .ok (.iconst 3, 1) := by decide +kernel
theorem dX2_keepHit_165 : decode cX2_keepHit 165 = .ok (.imul, 1) := by decide +kernel
theorem dX2_keepHit_166 : decode cX2_keepHit 166 = .ok (.iload_n 2, 1) := by decide +kernel
theorem dX2_keepHit_167 : decode cX2_keepHit 167 = .ok (.iadd, 1) := by decide +kernel
theorem dX2_keepHit_168 : decode cX2_keepHit 168 = .ok (.aload_n 0, 1) := by decide +kernel
theorem dX2_keepHit_169 : decode cX2_keepHit 169 = .ok (.iload_n 2, 1) := by decide +kernel
theorem dX2_keepHit_170 : decode cX2_keepHit 170 = .ok (.invokevirtual 133, 3) := by decide +kernel
theorem dX2_keepHit_173 : decode cX2_keepHit 173 = .ok (.iastore, 1) := by decide +kernel
theorem dX2_keepHit_174 : decode cX2_keepHit 174 = .ok (.iinc 2 1, 3) := by decide +kernel
theorem dX2_keepHit_177 : decode cX2_keepHit 177 = .ok (.goto (-26), 3) := by decide +kernel
theorem dX2_keepHit_180 : decode cX2_keepHit 180 = .ok (.aload_n 0, 1) := by decide +kernel
theorem dX2_keepHit_181 : decode cX2_keepHit 181 = .ok (.dup, 1) := by decide +kernel
theorem dX2_keepHit_182 : decode cX2_keepHit 182 = .ok (.getfield 49, 3) := by decide +kernel
theorem dX2_keepHit_185 : decode cX2_keepHit 185 = .ok (.iconst 1, 1) := by decide +kernel
theorem dX2_keepHit_186 : decode cX2_keepHit 186 = .ok (.iadd, 1) := by decide +kernel
theorem dX2_keepHit_187 : decode cX2_keepHit 187 = .ok (.putfield 49, 3) := by decide +kernel
theorem dX2_keepHit_190 : decode cX2_keepHit 190 = .ok (.return_, 1) := by decide +kernel
theorem dX3_commonDivisor_0 : decode cX3_commonDivisor 0 = .ok (.iload_n 0, 1) := by decide +kernel
theorem dX3_commonDivisor_1 : decode cX3_commonDivisor 1 = .ok (.invokestatic 158, 3) := by decide +kernel
theorem dX3_commonDivisor_4 : decode cX3_commonDivisor 4 = .ok (.istore_n 2, 1) := by decide +kernel
theorem dX3_commonDivisor_5 : decode cX3_commonDivisor 5 = .ok (.iload_n 1, 1) := by decide +kernel
theorem dX3_commonDivisor_6 : decode cX3_commonDivisor 6 = .ok (.invokestatic 158, 3) := by decide +kernel
theorem dX3_commonDivisor_9 : decode cX3_commonDivisor 9 = .ok (.istore_n 3, 1) := by decide +kernel
theorem dX3_commonDivisor_10 : decode cX3_commonDivisor 10 = .ok (.iconst 0, 1) := by decide +kernel
theorem dX3_commonDivisor_11 : decode cX3_commonDivisor 11 = .ok (.istore 4, 2) := by decide +kernel
theorem dX3_commonDivisor_13 : decode cX3_commonDivisor 13 = .ok (.iload 4, 2) := by decide +kernel
theorem dX3_commonDivisor_15 : decode cX3_commonDivisor 15 = .ok (.bipush 64, 2) := by decide +kernel
theorem dX3_commonDivisor_17 : decode cX3_commonDivisor 17 = .ok (.if_icmp .ge 23, 3) := by decide +kernel
theorem dX3_commonDivisor_20 : decode cX3_commonDivisor 20 = .ok (.iload_n 3, 1) := by decide +kernel
theorem dX3_commonDivisor_21 : decode cX3_commonDivisor 21 = .ok (.ifCond .eq 19, 3) := by decide +kernel
theorem dX3_commonDivisor_24 : decode cX3_commonDivisor 24 = .ok (.iload_n 2, 1) := by decide +kernel
theorem dX3_commonDivisor_25 : decode cX3_commonDivisor 25 = .ok (.iload_n 3, 1) := by decide +kernel
theorem dX3_commonDivisor_26 : decode cX3_commonDivisor 26 = .ok (.irem, 1) := by decide +kernel
theorem dX3_commonDivisor_27 : decode cX3_commonDivisor 27 = .ok (.istore 5, 2) := by decide +kernel
theorem dX3_commonDivisor_29 : decode cX3_commonDivisor 29 = .ok (.iload_n 3, 1) := by decide +kernel
theorem dX3_commonDivisor_30 : decode cX3_commonDivisor 30 = .ok (.istore_n 2, 1) := by decide +kernel
theorem dX3_commonDivisor_31 : decode cX3_commonDivisor 31 = .ok (.iload 5, 2) := by decide +kernel
theorem dX3_commonDivisor_33 : decode cX3_commonDivisor 33 = .ok (.istore_n 3, 1) := by decide +kernel
theorem dX3_commonDivisor_34 : decode cX3_commonDivisor 34 = .ok (.iinc 4 1, 3) := by decide +kernel
theorem dX3_commonDivisor_37 : decode cX3_commonDivisor 37 = .ok (.goto (-24), 3) := by decide +kernel
theorem dX3_commonDivisor_40 : decode cX3_commonDivisor 40 = .ok (.iconst 1, 1) := by decide +kernel
theorem dX3_commonDivisor_41 : decode cX3_commonDivisor 41 = .ok (.iload_n 2, 1) := by decide +kernel
theorem dX3_commonDivisor_42 : decode cX3_commonDivisor 42 = .ok (.invokestatic 15, 3) := by decide +kernel
theorem dX3_commonDivisor_45 : decode cX3_commonDivisor 45 = .ok (.ireturn, 1) := by decide +kernel
theorem dX2_turn_0 : decode cX2_turn 0 = .ok (.aload_n 0, 1) := by decide +kernel
theorem dX2_turn_1 : decode cX2_turn 1 = .ok (.getfield 39, 3) := by decide +kernel
theorem dX2_turn_4 : decode cX2_turn 4 = .ok (.getfield 77, 3) := by decide +kernel
theorem dX2_turn_7 : decode cX2_turn 7 = .ok (.iconst 3, 1) := by decide +kernel
theorem dX2_turn_8 : decode cX2_turn 8 = .ok (.imul, 1) := by decide +kernel
theorem dX2_turn_9 : decode cX2_turn 9 = .ok (.aload_n 0, 1) := by decide +kernel
theorem dX2_turn_10 : decode cX2_turn 10 = .ok (.getfield 39, 3) := by decide +kernel
theorem dX2_turn_13 : decode cX2_turn 13 = .ok (.getfield 121, 3) := by decide +kernel
theorem dX2_turn_16 : decode cX2_turn 16 = .ok (.iadd, 1) := by decide +kernel
theorem dX2_turn_17 : decode cX2_turn 17 = .ok (.istore_n 2, 1) := by decide +kernel
theorem dX2_turn_18 : decode cX2_turn 18 = .ok (.aload_n 0, 1) := by decide +kernel
theorem dX2_turn_19 : decode cX2_turn 19 = .ok (.getfield 15, 3) := by decide +kernel
theorem dX2_turn_22 : decode cX2_turn 22 = .ok (.aload_n 0, 1) := by decide +kernel
theorem dX2_turn_23 : decode cX2_turn 23 = .ok (.getfield 39, 3) := by decide +kernel
theorem dX2_turn_26 : decode cX2_turn 26 = .ok (.getfield 121, 3) := by decide +kernel
theorem dX2_turn_29 : decode cX2_turn 29 = .ok (.iaload, 1) := by decide +kernel
theorem dX2_turn_30 : decode cX2_turn 30 = .ok (.ifCond .le 12, 3) := by decide +kernel
theorem dX2_turn_33 : decode cX2_turn 33 = .ok (.aload_n 1, 1) := by decide +kernel
theorem dX2_turn_34 : decode cX2_turn 34 = .ok (.getfield 109, 3) := by decide +kernel
theorem dX2_turn_37 : decode cX2_turn 37 = .ok (.iload_n 2, 1) := by decide +kernel
theorem dX2_turn_38 : decode cX2_turn 38 = .ok (.iaload, 1) := by decide +kernel
theorem dX2_turn_39 : decode cX2_turn 39 = .ok (.goto 9, 3) := by decide +kernel
theorem dX2_turn_42 : decode cX2_turn 42 = .ok (.aload_n 1, 1) := by decide +kernel
theorem dX2_turn_43 : decode cX2_turn 43 = .ok (.getfield 112, 3) := by decide +kernel
theorem dX2_turn_46 : decode cX2_turn 46 = .ok (.iload_n 2, 1) := by decide +kernel
theorem dX2_turn_47 : decode cX2_turn 47 = .ok (.iaload, 1) := by decide +kernel
theorem dX2_turn_48 : decode cX2_turn 48 = .ok (.istore_n 3, 1) := by decide +kernel
theorem dX2_turn_49 : decode cX2_turn 49 = .ok (.aload_n 0, 1) := by decide +kernel
theorem dX2_turn_50 : decode cX2_turn 50 = .ok (.getfield 9, 3) := by decide +kernel
theorem dX2_turn_53 : decode cX2_turn 53 = .ok (.aload_n 0, 1) := by decide +kernel
theorem dX2_turn_54 : decode cX2_turn 54 = .ok (.getfield 39, 3) := by decide +kernel
theorem dX2_turn_57 : decode cX2_turn 57 = .ok (.getfield 121, 3) := by decide +kernel
theorem dX2_turn_60 : decode cX2_turn 60 = .ok (.iconst 2, 1) := by decide +kernel
theorem dX2_turn_61 : decode cX2_turn 61 = .ok (.iload_n 3, 1) := by decide +kernel
theorem dX2_turn_62 : decode cX2_turn 62 = .ok (.imul, 1) := by decide +kernel
theorem dX2_turn_63 : decode cX2_turn 63 = .ok (.aload_n 0, 1) := by decide +kernel
theorem dX2_turn_64 : decode cX2_turn 64 = .ok (.getfield 9, 3) := by decide +kernel
theorem dX2_turn_67 : decode cX2_turn 67 = .ok (.aload_n 0, 1) := by decide +kernel
theorem dX2_turn_68 : decode cX2_turn 68 = .ok (.getfield 39, 3) := by decide +kernel
theorem dX2_turn_71 : decode cX2_turn 71 = .ok (.getfield 121, 3) := by decide +kernel
theorem dX2_turn_74 : decode cX2_turn 74 = .ok (.iaload, 1) := by decide +kernel
theorem dX2_turn_75 : decode cX2_turn 75 = .ok (.isub, 1) := by decide +kernel
theorem dX2_turn_76 : decode cX2_turn 76 = .ok (.iastore, 1) := by decide +kernel
theorem dX2_turn_77 : decode cX2_turn 77 = .ok (.aload_n 0, 1) := by decide +kernel
theorem dX2_turn_78 : decode cX2_turn 78 = .ok (.getfield 15, 3) := by decide +kernel
theorem dX2_turn_81 : decode cX2_turn 81 = .ok (.aload_n 0, 1) := by decide +kernel
theorem dX2_turn_82 : decode cX2_turn 82 = .ok (.getfield 39, 3) := by decide +kernel
theorem dX2_turn_85 : decode cX2_turn 85 = .ok (.getfield 121, 3) := by decide +kernel
theorem dX2_turn_88 : decode cX2_turn 88 = .ok (.aload_n 0, 1) := by decide +kernel
theorem dX2_turn_89 : decode cX2_turn 89 = .ok (.getfield 15, 3) := by decide +kernel
theorem dX2_turn_92 : decode cX2_turn 92 = .ok (.aload_n 0, 1) := by decide +kernel
theorem dX2_turn_93 : decode cX2_turn 93 = .ok (.getfield 39, 3) := by decide +kernel
theorem dX2_turn_96 : decode cX2_turn 96 = .ok (.getfield 121, 3) := by decide +kernel
theorem dX2_turn_99 : decode cX2_turn 99 = .ok (.iaload, 1) := by decide +kernel
theorem dX2_turn_100 : decode cX2_turn 100 = .ok (.ineg, 1) := by decide +kernel
theorem dX2_turn_101 : decode cX2_turn 101 = .ok (.iastore, 1) := by decide +kernel
theorem dX2_turn_102 : decode cX2_turn 102 = .ok (.return_, 1) := by decide +kernel
theorem dL_told_0 : decode cL_told 0 = .ok (.aload_n 2, 1) := by decide +kernel
theorem dL_told_1 : decode cL_told 1 = .ok (.iconst 0, 1) := by decide +kernel
theorem dL_told_2 : decode cL_told 2 = .ok (.aload_n 0, 1) := by decide +kernel
theorem dL_told_3 : decode cL_told 3 = .ok (.iload_n 1, 1) := by decide +kernel
theorem dL_told_4 : decode cL_told 4 = .ok (.invokevirtual 28, 3) := by decide +kernel
theorem dL_told_7 : decode cL_told 7 = .ok (.i2l, 1) := by decide +kernel
theorem dL_told_8 : decode cL_told 8 = .ok (.lastore, 1) := by decide +kernel
theorem dL_told_9 : decode cL_told 9 = .ok (.goto 9, 3) := by decide +kernel
theorem dL_told_12 : decode cL_told 12 = .ok (.astore_n 3, 1) := by decide +kernel
theorem dL_told_13 : decode cL_told 13 = .ok (.iconst 1, 1) := by decide +kernel
theorem dL_told_14 : decode cL_told 14 = .ok (.ireturn, 1) := by decide +kernel
theorem dL_told_15 : decode cL_told 15 = .ok (.astore_n 3, 1) := by decide +kernel
theorem dL_told_16 : decode cL_told 16 = .ok (.iconst 2, 1) := by decide +kernel
theorem dL_told_17 : decode cL_told 17 = .ok (.ireturn, 1) := by decide +kernel
theorem dL_told_18 : decode cL_told 18 = .ok (.iconst 0, 1) := by decide +kernel
theorem dL_told_19 : decode cL_told 19 = .ok (.ireturn, 1) := by decide +kernel
theorem dX3_told_0 : decode cX3_told 0 = .ok (.iload_n 1, 1) := by decide +kernel
theorem dX3_told_1 : decode cX3_told 1 = .ok (.iconst 0, 1) := by decide +kernel
theorem dX3_told_2 : decode cX3_told 2 = .ok (.iconst 4, 1) := by decide +kernel
theorem dX3_told_3 : decode cX3_told 3 = .ok (.invokestatic 79, 3) := by decide +kernel
theorem dX3_told_6 : decode cX3_told 6 = .ok (.aload_n 0, 1) := by decide +kernel
theorem dX3_told_7 : decode cX3_told 7 = .ok (.invokevirtual 105, 3) := by decide +kernel
theorem dX3_told_10 : decode cX3_told 10 = .ok (.iload_n 1, 1) := by decide +kernel
theorem dX3_told_11 : decode cX3_told 11 = .ok (.lookupswitch 41 #[(0, 25), (1, 33)], 25) := by decide +kernel
theorem dX3_told_36 : decode cX3_told 36 = .ok (.aload_n 0, 1) := by decide +kernel
theorem dX3_told_37 : decode cX3_told 37 = .ok (.getfield 42, 3) := by decide +kernel
theorem dX3_told_40 : decode cX3_told 40 = .ok (.getfield 108, 3) := by decide +kernel
theorem dX3_told_43 : decode cX3_told 43 = .ok (.ireturn, 1) := by decide +kernel
theorem dX3_told_44 : decode cX3_told 44 = .ok (.aload_n 0, 1) := by decide +kernel
theorem dX3_told_45 : decode cX3_told 45 = .ok (.getfield 42, 3) := by decide +kernel
theorem dX3_told_48 : decode cX3_told 48 = .ok (.getfield 111, 3) := by decide +kernel
theorem dX3_told_51 : decode cX3_told 51 = .ok (.ireturn, 1) := by decide +kernel
theorem dX3_told_52 : decode cX3_told 52 = .ok (.aload_n 0, 1) := by decide +kernel
theorem dX3_told_53 : decode cX3_told 53 = .ok (.getfield 42, 3) := by decide +kernel
theorem dX3_told_56 : decode cX3_told 56 = .ok (.getfield 114, 3) := by decide +kernel
theorem dX3_told_59 : decode cX3_told 59 = .ok (.iload_n 1, 1) := by decide +kernel
theorem dX3_told_60 : decode cX3_told 60 = .ok (.iconst 2, 1) := by decide +kernel
theorem dX3_told_61 : decode cX3_told 61 = .ok (.isub, 1) := by decide +kernel
theorem dX3_told_62 : decode cX3_told 62 = .ok (.iaload, 1) := by decide +kernel
theorem dX3_told_63 : decode cX3_told 63 = .ok (.ireturn, 1) := by decide +kernel
theorem dX3_demandRay_0 : decode cX3_demandRay 0 = .ok (.aload_n 0, 1) := by decide +kernel
theorem dX3_demandRay_1 : decode cX3_demandRay 1 = .ok (.getfield 46, 3) := by decide +kernel
theorem dX3_demandRay_4 : decode cX3_demandRay 4 = .ok (.ifCond .ne 13, 3) := by decide +kernel
theorem dX3_demandRay_7 : decode cX3_demandRay 7 = .ok (.new 64, 3) := by decide +kernel
theorem dX3_demandRay_10 : decode cX3_demandRay 10 = .ok (.dup, 1) := by decide +kernel
theorem dX3_demandRay_11 : decode cX3_demandRay 11 = .ok (.ldc 156, 2) := by decide +kernel
theorem dX3_demandRay_13 : decode cX3_demandRay 13 = .ok (.invokespecial 68, 3) := by decide +kernel
theorem dX3_demandRay_16 : decode cX3_demandRay 16 = .ok (.athrow, 1) := by decide +kernel
theorem dX3_demandRay_17 : decode cX3_demandRay 17 = .ok (.return_, 1) := by decide +kernel
theorem dL_hit_0 : decode cL_hit 0 = .ok (.aload_n 3, 1) := by decide +kernel
theorem dL_hit_1 : decode cL_hit 1 = .ok (.iconst 0, 1) := by decide +kernel
theorem dL_hit_2 : decode cL_hit 2 = .ok (.aload_n 0, 1) := by decide +kernel
theorem dL_hit_3 : decode cL_hit 3 = .ok (.iload_n 1, 1) := by decide +kernel
theorem dL_hit_4 : decode cL_hit 4 = .ok (.iload_n 2, 1) := by decide +kernel
theorem dL_hit_5 : decode cL_hit 5 = .ok (.invokevirtual 32, 3) := by decide +kernel
theorem dL_hit_8 : decode cL_hit 8 = .ok (.i2l, 1) := by decide +kernel
theorem dL_hit_9 : decode cL_hit 9 = .ok (.lastore, 1) := by decide +kernel
theorem dL_hit_10 : decode cL_hit 10 = .ok (.goto 11, 3) := by decide +kernel
theorem dL_hit_13 : decode cL_hit 13 = .ok (.astore 4, 2) := by decide +kernel
theorem dL_hit_15 : decode cL_hit 15 = .ok (.iconst 1, 1) := by decide +kernel
theorem dL_hit_16 : decode cL_hit 16 = .ok (.ireturn, 1) := by decide +kernel
theorem dL_hit_17 : decode cL_hit 17 = .ok (.astore 4, 2) := by decide +kernel
theorem dL_hit_19 : decode cL_hit 19 = .ok (.iconst 2, 1) := by decide +kernel
theorem dL_hit_20 : decode cL_hit 20 = .ok (.ireturn, 1) := by decide +kernel
theorem dL_hit_21 : decode cL_hit 21 = .ok (.iconst 0, 1) := by decide +kernel
theorem dL_hit_22 : decode cL_hit 22 = .ok (.ireturn, 1) := by decide +kernel
theorem dX3_hit_0 : decode cX3_hit 0 = .ok (.iload_n 1, 1) := by decide +kernel
theorem dX3_hit_1 : decode cX3_hit 1 = .ok (.ifCond .lt 7, 3) := by decide +kernel
theorem dX3_hit_4 : decode cX3_hit 4 = .ok (.iconst 1, 1) := by decide +kernel
theorem dX3_hit_5 : decode cX3_hit 5 = .ok (.goto 4, 3) := by decide +kernel
theorem dX3_hit_8 : decode cX3_hit 8 = .ok (.iconst 0, 1) := by decide +kernel
theorem dX3_hit_9 : decode cX3_hit 9 = .ok (.invokestatic 57, 3) := by decide +kernel
theorem dX3_hit_12 : decode cX3_hit 12 = .ok (.iload_n 2, 1) := by decide +kernel
theorem dX3_hit_13 : decode cX3_hit 13 = .ok (.iconst 0, 1) := by decide +kernel
theorem dX3_hit_14 : decode cX3_hit 14 = .ok (.iconst 3, 1) := by decide +kernel
theorem dX3_hit_15 : decode cX3_hit 15 = .ok (.invokestatic 79, 3) := by decide +kernel
theorem dX3_hit_18 : decode cX3_hit 18 = .ok (.aload_n 0, 1) := by decide +kernel
theorem dX3_hit_19 : decode cX3_hit 19 = .ok (.invokevirtual 105, 3) := by decide +kernel
theorem dX3_hit_22 : decode cX3_hit 22 = .ok (.aload_n 0, 1) := by decide +kernel
theorem dX3_hit_23 : decode cX3_hit 23 = .ok (.getfield 42, 3) := by decide +kernel
theorem dX3_hit_26 : decode cX3_hit 26 = .ok (.iload_n 1, 1) := by decide +kernel
theorem dX3_hit_27 : decode cX3_hit 27 = .ok (.invokevirtual 117, 3) := by decide +kernel
theorem dX3_hit_30 : decode cX3_hit 30 = .ok (.ifCond .ne 5, 3) := by decide +kernel
theorem dX3_hit_33 : decode cX3_hit 33 = .ok (.iconst (-1), 1) := by decide +kernel
theorem dX3_hit_34 : decode cX3_hit 34 = .ok (.ireturn, 1) := by decide +kernel
theorem dX3_hit_35 : decode cX3_hit 35 = .ok (.iload_n 2, 1) := by decide +kernel
theorem dX3_hit_36 : decode cX3_hit 36 = .ok (.tableswitch 58 0 2 #[28, 38, 48], 28) := by decide +kernel
theorem dX3_hit_64 : decode cX3_hit 64 = .ok (.aload_n 0, 1) := by decide +kernel
theorem dX3_hit_65 : decode cX3_hit 65 = .ok (.getfield 42, 3) := by decide +kernel
theorem dX3_hit_68 : decode cX3_hit 68 = .ok (.getfield 121, 3) := by decide +kernel
theorem dX3_hit_71 : decode cX3_hit 71 = .ok (.iload_n 1, 1) := by decide +kernel
theorem dX3_hit_72 : decode cX3_hit 72 = .ok (.iaload, 1) := by decide +kernel
theorem dX3_hit_73 : decode cX3_hit 73 = .ok (.ireturn, 1) := by decide +kernel
theorem dX3_hit_74 : decode cX3_hit 74 = .ok (.aload_n 0, 1) := by decide +kernel
theorem dX3_hit_75 : decode cX3_hit 75 = .ok (.getfield 42, 3) := by decide +kernel
theorem dX3_hit_78 : decode cX3_hit 78 = .ok (.getfield 124, 3) := by decide +kernel
theorem dX3_hit_81 : decode cX3_hit 81 = .ok (.iload_n 1, 1) := by decide +kernel
theorem dX3_hit_82 : decode cX3_hit 82 = .ok (.iaload, 1) := by decide +kernel
theorem dX3_hit_83 : decode cX3_hit 83 = .ok (.ireturn, 1) := by decide +kernel
theorem dX3_hit_84 : decode cX3_hit 84 = .ok (.aload_n 0, 1) := by decide +kernel
theorem dX3_hit_85 : decode cX3_hit 85 = .ok (.getfield 42, 3) := by decide +kernel
theorem dX3_hit_88 : decode cX3_hit 88 = .ok (.getfield 127, 3) := by decide +kernel
theorem dX3_hit_91 : decode cX3_hit 91 = .ok (.iload_n 1, 1) := by decide +kernel
theorem dX3_hit_92 : decode cX3_hit 92 = .ok (.iaload, 1) := by decide +kernel
theorem dX3_hit_93 : decode cX3_hit 93 = .ok (.ireturn, 1) := by decide +kernel
theorem dX3_hit_94 : decode cX3_hit 94 = .ok (.aload_n 0, 1) := by decide +kernel
theorem dX3_hit_95 : decode cX3_hit 95 = .ok (.getfield 42, 3) := by decide +kernel
theorem dX3_hit_98 : decode cX3_hit 98 = .ok (.getfield 130, 3) := by decide +kernel
theorem dX3_hit_101 : decode cX3_hit 101 = .ok (.iload_n 1, 1) := by decide +kernel
theorem dX3_hit_102 : decode cX3_hit 102 = .ok (.iaload, 1) := by decide +kernel
theorem dX3_hit_103 : decode cX3_hit 103 = .ok (.ireturn, 1) := by decide +kernel
theorem dX2_hasHit_0 : decode cX2_hasHit 0 = .ok (.iconst 0, 1) := by decide +kernel
theorem dX2_hasHit_1 : decode cX2_hasHit 1 = .ok (.iload_n 1, 1) := by decide +kernel
theorem dX2_hasHit_2 : decode cX2_hasHit 2 = .ok (.if_icmp .gt 15, 3) := by decide +kernel
theorem dX2_hasHit_5 : decode cX2_hasHit 5 = .ok (.iload_n 1, 1) := by decide +kernel
theorem dX2_hasHit_6 : decode cX2_hasHit 6 = .ok (.aload_n 0, 1) := by decide +kernel
theorem dX2_hasHit_7 : decode cX2_hasHit 7 = .ok (.getfield 49, 3) := by decide +kernel
theorem dX2_hasHit_10 : decode cX2_hasHit 10 = .ok (.if_icmp .ge 7, 3) := by decide +kernel
theorem dX2_hasHit_13 : decode cX2_hasHit 13 = .ok (.iconst 1, 1) := by decide +kernel
theorem dX2_hasHit_14 : decode cX2_hasHit 14 = .ok (.goto 4, 3) := by decide +kernel
theorem dX2_hasHit_17 : decode cX2_hasHit 17 = .ok (.iconst 0, 1) := by decide +kernel
theorem dX2_hasHit_18 : decode cX2_hasHit 18 = .ok (.ireturn, 1) := by decide +kernel
theorem dL_place_0 : decode cL_place 0 = .ok (.aload 4, 2) := by decide +kernel
theorem dL_place_2 : decode cL_place 2 = .ok (.iconst 0, 1) := by decide +kernel
theorem dL_place_3 : decode cL_place 3 = .ok (.aload_n 0, 1) := by decide +kernel
theorem dL_place_4 : decode cL_place 4 = .ok (.iload_n 1, 1) := by decide +kernel
theorem dL_place_5 : decode cL_place 5 = .ok (.iload_n 2, 1) := by decide +kernel
theorem dL_place_6 : decode cL_place 6 = .ok (.iload_n 3, 1) := by decide +kernel
theorem dL_place_7 : decode cL_place 7 = .ok (.invokevirtual 36, 3) := by decide +kernel
theorem dL_place_10 : decode cL_place 10 = .ok (.lastore, 1) := by decide +kernel
theorem dL_place_11 : decode cL_place 11 = .ok (.goto 7, 3) := by decide +kernel
theorem dL_place_14 : decode cL_place 14 = .ok (.astore 5, 2) := by decide +kernel
theorem dL_place_16 : decode cL_place 16 = .ok (.iconst 1, 1) := by decide +kernel
theorem dL_place_17 : decode cL_place 17 = .ok (.ireturn, 1) := by decide +kernel
theorem dL_place_18 : decode cL_place 18 = .ok (.iconst 0, 1) := by decide +kernel
theorem dL_place_19 : decode cL_place 19 = .ok (.ireturn, 1) := by decide +kernel
theorem dX3_place_0 : decode cX3_place 0 = .ok (.iload_n 2, 1) := by decide +kernel
theorem dX3_place_1 : decode cX3_place 1 = .ok (.iconst 0, 1) := by decide +kernel
theorem dX3_place_2 : decode cX3_place 2 = .ok (.iconst 2, 1) := by decide +kernel
theorem dX3_place_3 : decode cX3_place 3 = .ok (.invokestatic 79, 3) := by decide +kernel
theorem dX3_place_6 : decode cX3_place 6 = .ok (.iload_n 3, 1) := by decide +kernel
theorem dX3_place_7 : decode cX3_place 7 = .ok (.iconst 0, 1) := by decide +kernel
theorem dX3_place_8 : decode cX3_place 8 = .ok (.iconst 1, 1) := by decide +kernel
theorem dX3_place_9 : decode cX3_place 9 = .ok (.invokestatic 79, 3) := by decide +kernel
theorem dX3_place_12 : decode cX3_place 12 = .ok (.aload_n 0, 1) := by decide +kernel
theorem dX3_place_13 : decode cX3_place 13 = .ok (.getfield 46, 3) := by decide +kernel
theorem dX3_place_16 : decode cX3_place 16 = .ok (.ifCond .eq 18, 3) := by decide +kernel
theorem dX3_place_19 : decode cX3_place 19 = .ok (.aload_n 0, 1) := by decide +kernel
theorem dX3_place_20 : decode cX3_place 20 = .ok (.getfield 42, 3) := by decide +kernel
theorem dX3_place_23 : decode cX3_place 23 = .ok (.iload_n 1, 1) := by decide +kernel
theorem dX3_place_24 : decode cX3_place 24 = .ok (.invokevirtual 117, 3) := by decide +kernel
theorem dX3_place_27 : decode cX3_place 27 = .ok (.ifCond .eq 7, 3) := by decide +kernel
theorem dX3_place_30 : decode cX3_place 30 = .ok (.iconst 1, 1) := by decide +kernel
theorem dX3_place_31 : decode cX3_place 31 = .ok (.goto 4, 3) := by decide +kernel
theorem dX3_place_34 : decode cX3_place 34 = .ok (.iconst 0, 1) := by decide +kernel
theorem dX3_place_35 : decode cX3_place 35 = .ok (.invokestatic 57, 3) := by decide +kernel
theorem dX3_place_38 : decode cX3_place 38 = .ok (.aload_n 0, 1) := by decide +kernel
theorem dX3_place_39 : decode cX3_place 39 = .ok (.getfield 42, 3) := by decide +kernel
theorem dX3_place_42 : decode cX3_place 42 = .ok (.getfield 133, 3) := by decide +kernel
theorem dX3_place_45 : decode cX3_place 45 = .ok (.iload_n 1, 1) := by decide +kernel
theorem dX3_place_46 : decode cX3_place 46 = .ok (.iconst 3, 1) := by decide +kernel
theorem dX3_place_47 : decode cX3_place 47 = .ok (.imul, 1) := by decide +kernel
theorem dX3_place_48 : decode cX3_place 48 = .ok (.iload_n 2, 1) := by decide +kernel
theorem dX3_place_49 : decode cX3_place 49 = .ok (.iadd, 1) := by decide +kernel
theorem dX3_place_50 : decode cX3_place 50 = .ok (.iaload, 1) := by decide +kernel
theorem dX3_place_51 : decode cX3_place 51 = .ok (.istore 4, 2) := by decide +kernel
theorem dX3_place_53 : decode cX3_place 53 = .ok (.aload_n 0, 1) := by decide +kernel
theorem dX3_place_54 : decode cX3_place 54 = .ok (.getfield 42, 3) := by decide +kernel
theorem dX3_place_57 : decode cX3_place 57 = .ok (.getfield 130, 3) := by decide +kernel
theorem dX3_place_60 : decode cX3_place 60 = .ok (.iload_n 1, 1) := by decide +kernel
theorem dX3_place_61 : decode cX3_place 61 = .ok (.iaload, 1) := by decide +kernel
theorem dX3_place_62 : decode cX3_place 62 = .ok (.istore 5, 2) := by decide +kernel
theorem dX3_place_64 : decode cX3_place 64 = .ok (.iload 4, 2) := by decide +kernel
theorem dX3_place_66 : decode cX3_place 66 = .ok (.iload 5, 2) := by decide +kernel
theorem dX3_place_68 : decode cX3_place 68 = .ok (.invokestatic 136, 3) := by decide +kernel
theorem dX3_place_71 : decode cX3_place 71 = .ok (.istore 6, 2) := by decide +kernel
theorem dX3_place_73 : decode cX3_place 73 = .ok (.iload_n 3, 1) := by decide +kernel
theorem dX3_place_74 : decode cX3_place 74 = .ok (.ifCond .ne 12, 3) := by decide +kernel
theorem dX3_place_77 : decode cX3_place 77 = .ok (.iload 4, 2) := by decide +kernel
theorem dX3_place_79 : decode cX3_place 79 = .ok (.iload 6, 2) := by decide +kernel
theorem dX3_place_81 : decode cX3_place 81 = .ok (.idiv, 1) := by decide +kernel
theorem dX3_place_82 : decode cX3_place 82 = .ok (.i2l, 1) := by decide +kernel
theorem dX3_place_83 : decode cX3_place 83 = .ok (.goto 9, 3) := by decide +kernel
theorem dX3_place_86 : decode cX3_place 86 = .ok (.iload 5, 2) := by decide +kernel
theorem dX3_place_88 : decode cX3_place 88 = .ok (.iload 6, 2) := by decide +kernel
theorem dX3_place_90 : decode cX3_place 90 = .ok (.idiv, 1) := by decide +kernel
theorem dX3_place_91 : decode cX3_place 91 = .ok (.i2l, 1) := by decide +kernel
theorem dX3_place_92 : decode cX3_place 92 = .ok (.lreturn, 1) := by decide +kernel
theorem dL_sky_0 : decode cL_sky 0 = .ok (.aload_n 3, 1) := by decide +kernel
theorem dL_sky_1 : decode cL_sky 1 = .ok (.iconst 0, 1) := by decide +kernel
theorem dL_sky_2 : decode cL_sky 2 = .ok (.aload_n 0, 1) := by decide +kernel
theorem dL_sky_3 : decode cL_sky 3 = .ok (.iload_n 1, 1) := by decide +kernel
theorem dL_sky_4 : decode cL_sky 4 = .ok (.iload_n 2, 1) := by decide +kernel
theorem dL_sky_5 : decode cL_sky 5 = .ok (.invokevirtual 40, 3) := by decide +kernel
theorem dL_sky_8 : decode cL_sky 8 = .ok (.i2l, 1) := by decide +kernel
theorem dL_sky_9 : decode cL_sky 9 = .ok (.lastore, 1) := by decide +kernel
theorem dL_sky_10 : decode cL_sky 10 = .ok (.goto 7, 3) := by decide +kernel
theorem dL_sky_13 : decode cL_sky 13 = .ok (.astore 4, 2) := by decide +kernel
theorem dL_sky_15 : decode cL_sky 15 = .ok (.iconst 1, 1) := by decide +kernel
theorem dL_sky_16 : decode cL_sky 16 = .ok (.ireturn, 1) := by decide +kernel
theorem dL_sky_17 : decode cL_sky 17 = .ok (.iconst 0, 1) := by decide +kernel
theorem dL_sky_18 : decode cL_sky 18 = .ok (.ireturn, 1) := by decide +kernel
theorem dX3_sky_0 : decode cX3_sky 0 = .ok (.iload_n 1, 1) := by decide +kernel
theorem dX3_sky_1 : decode cX3_sky 1 = .ok (.iconst 0, 1) := by decide +kernel
theorem dX3_sky_2 : decode cX3_sky 2 = .ok (.bipush 7, 2) := by decide +kernel
theorem dX3_sky_4 : decode cX3_sky 4 = .ok (.invokestatic 79, 3) := by decide +kernel
theorem dX3_sky_7 : decode cX3_sky 7 = .ok (.iload_n 2, 1) := by decide +kernel
theorem dX3_sky_8 : decode cX3_sky 8 = .ok (.iconst 0, 1) := by decide +kernel
theorem dX3_sky_9 : decode cX3_sky 9 = .ok (.sipush 1000, 3) := by decide +kernel
theorem dX3_sky_12 : decode cX3_sky 12 = .ok (.invokestatic 79, 3) := by decide +kernel
theorem dX3_sky_15 : decode cX3_sky 15 = .ok (.aload_n 0, 1) := by decide +kernel
theorem dX3_sky_16 : decode cX3_sky 16 = .ok (.getfield 29, 3) := by decide +kernel
theorem dX3_sky_19 : decode cX3_sky 19 = .ok (.iload_n 1, 1) := by decide +kernel
theorem dX3_sky_20 : decode cX3_sky 20 = .ok (.iaload, 1) := by decide +kernel
theorem dX3_sky_21 : decode cX3_sky 21 = .ok (.istore_n 3, 1) := by decide +kernel
theorem dX3_sky_22 : decode cX3_sky 22 = .ok (.aload_n 0, 1) := by decide +kernel
theorem dX3_sky_23 : decode cX3_sky 23 = .ok (.getfield 29, 3) := by decide +kernel
theorem dX3_sky_26 : decode cX3_sky 26 = .ok (.iload_n 1, 1) := by decide +kernel
theorem dX3_sky_27 : decode cX3_sky 27 = .ok (.iload_n 2, 1) := by decide +kernel
theorem dX3_sky_28 : decode cX3_sky 28 = .ok (.iastore, 1) := by decide +kernel
theorem dX3_sky_29 : decode cX3_sky 29 = .ok (.iload_n 3, 1) := by decide +kernel
theorem dX3_sky_30 : decode cX3_sky 30 = .ok (.ireturn, 1) := by decide +kernel
end
section
theorem dL_fan_0 : decode cL_fan 0 = .ok (.aload 4, 2) := by decide +kernel
theorem dL_fan_2 : decode cL_fan 2 = .ok (.iconst 0, 1) := by decide +kernel
theorem dL_fan_3 : decode cL_fan 3 = .ok (.aload_n 0, 1) := by decide +kernel
theorem dL_fan_4 : decode cL_fan 4 = .ok (.iload_n 1, 1) := by decide +kernel
theorem dL_fan_5 : decode cL_fan 5 = .ok (.iload_n 2, 1) := by decide +kernel
theorem dL_fan_6 : decode cL_fan 6 = .ok (.iload_n 3, 1) := by decide +kernel
theorem dL_fan_7 : decode cL_fan 7 = .ok (.invokevirtual 43, 3) := by decide +kernel
theorem dL_fan_10 : decode cL_fan 10 = .ok (.i2l, 1) := by decide +kernel
theorem dL_fan_11 : decode cL_fan 11 = .ok (.lastore, 1) := by decide +kernel
theorem dL_fan_12 : decode cL_fan 12 = .ok (.goto 11, 3) := by decide +kernel
theorem dL_fan_15 : decode cL_fan 15 = .ok (.astore 5, 2) := by decide +kernel
theorem dL_fan_17 : decode cL_fan 17 = .ok (.iconst 1, 1) := by decide +kernel
theorem dL_fan_18 : decode cL_fan 18 = .ok (.ireturn, 1) := by decide +kernel
theorem dL_fan_19 : decode cL_fan 19 = .ok (.astore 5, 2) := by decide +kernel
theorem dL_fan_21 : decode cL_fan 21 = .ok (.iconst 2, 1) := by decide +kernel
theorem dL_fan_22 : decode cL_fan 22 = .ok (.ireturn, 1) := by decide +kernel
theorem dL_fan_23 : decode cL_fan 23 = .ok (.iconst 0, 1) := by decide +kernel
theorem dL_fan_24 : decode cL_fan 24 = .ok (.ireturn, 1) := by decide +kernel
theorem dX3_fan_0 : decode cX3_fan 0 = .ok (.iload_n 1, 1) := by decide +kernel
theorem dX3_fan_1 : decode cX3_fan 1 = .ok (.iload_n 2, 1) := by decide +kernel
theorem dX3_fan_2 : decode cX3_fan 2 = .ok (.iload_n 3, 1) := by decide +kernel
theorem dX3_fan_3 : decode cX3_fan 3 = .ok (.invokestatic 92, 3) := by decide +kernel
theorem dX3_fan_6 : decode cX3_fan 6 = .ok (.aload_n 0, 1) := by decide +kernel
theorem dX3_fan_7 : decode cX3_fan 7 = .ok (.getfield 36, 3) := by decide +kernel
theorem dX3_fan_10 : decode cX3_fan 10 = .ok (.bipush 40, 2) := by decide +kernel
theorem dX3_fan_12 : decode cX3_fan 12 = .ok (.if_icmp .lt 13, 3) := by decide +kernel
theorem dX3_fan_15 : decode cX3_fan 15 = .ok (.new 64, 3) := by decide +kernel
theorem dX3_fan_18 : decode cX3_fan 18 = .ok (.dup, 1) := by decide +kernel
theorem dX3_fan_19 : decode cX3_fan 19 = .ok (.ldc 139, 2) := by decide +kernel
theorem dX3_fan_21 : decode cX3_fan 21 = .ok (.invokespecial 68, 3) := by decide +kernel
theorem dX3_fan_24 : decode cX3_fan 24 = .ok (.athrow, 1) := by decide +kernel
theorem dX3_fan_25 : decode cX3_fan 25 = .ok (.aload_n 0, 1) := by decide +kernel
theorem dX3_fan_26 : decode cX3_fan 26 = .ok (.getfield 36, 3) := by decide +kernel
theorem dX3_fan_29 : decode cX3_fan 29 = .ok (.iconst 3, 1) := by decide +kernel
theorem dX3_fan_30 : decode cX3_fan 30 = .ok (.imul, 1) := by decide +kernel
theorem dX3_fan_31 : decode cX3_fan 31 = .ok (.istore 4, 2) := by decide +kernel
theorem dX3_fan_33 : decode cX3_fan 33 = .ok (.aload_n 0, 1) := by decide +kernel
theorem dX3_fan_34 : decode cX3_fan 34 = .ok (.getfield 33, 3) := by decide +kernel
theorem dX3_fan_37 : decode cX3_fan 37 = .ok (.iload 4, 2) := by decide +kernel
theorem dX3_fan_39 : decode cX3_fan 39 = .ok (.iload_n 1, 1) := by decide +kernel
theorem dX3_fan_40 : decode cX3_fan 40 = .ok (.iastore, 1) := by decide +kernel
theorem dX3_fan_41 : decode cX3_fan 41 = .ok (.aload_n 0, 1) := by decide +kernel
theorem dX3_fan_42 : decode cX3_fan 42 = .ok (.getfield 33, 3) := by decide +kernel
theorem dX3_fan_45 : decode cX3_fan 45 = .ok (.iload 4, 2) := by decide +kernel
theorem dX3_fan_47 : decode cX3_fan 47 = .ok (.iconst 1, 1) := by decide +kernel
theorem dX3_fan_48 : decode cX3_fan 48 = .ok (.iadd, 1) := by decide +kernel
theorem dX3_fan_49 : decode cX3_fan 49 = .ok (.iload_n 2, 1) := by decide +kernel
theorem dX3_fan_50 : decode cX3_fan 50 = .ok (.iastore, 1) := by decide +kernel
theorem dX3_fan_51 : decode cX3_fan 51 = .ok (.aload_n 0, 1) := by decide +kernel
theorem dX3_fan_52 : decode cX3_fan 52 = .ok (.getfield 33, 3) := by decide +kernel
theorem dX3_fan_55 : decode cX3_fan 55 = .ok (.iload 4, 2) := by decide +kernel
theorem dX3_fan_57 : decode cX3_fan 57 = .ok (.iconst 2, 1) := by decide +kernel
theorem dX3_fan_58 : decode cX3_fan 58 = .ok (.iadd, 1) := by decide +kernel
theorem dX3_fan_59 : decode cX3_fan 59 = .ok (.iload_n 3, 1) := by decide +kernel
theorem dX3_fan_60 : decode cX3_fan 60 = .ok (.iastore, 1) := by decide +kernel
theorem dX3_fan_61 : decode cX3_fan 61 = .ok (.aload_n 0, 1) := by decide +kernel
theorem dX3_fan_62 : decode cX3_fan 62 = .ok (.dup, 1) := by decide +kernel
theorem dX3_fan_63 : decode cX3_fan 63 = .ok (.getfield 36, 3) := by decide +kernel
theorem dX3_fan_66 : decode cX3_fan 66 = .ok (.iconst 1, 1) := by decide +kernel
theorem dX3_fan_67 : decode cX3_fan 67 = .ok (.iadd, 1) := by decide +kernel
theorem dX3_fan_68 : decode cX3_fan 68 = .ok (.putfield 36, 3) := by decide +kernel
theorem dX3_fan_71 : decode cX3_fan 71 = .ok (.aload_n 0, 1) := by decide +kernel
theorem dX3_fan_72 : decode cX3_fan 72 = .ok (.getfield 36, 3) := by decide +kernel
theorem dX3_fan_75 : decode cX3_fan 75 = .ok (.ireturn, 1) := by decide +kernel
theorem dL_measure_0 : decode cL_measure 0 = .ok (.aload 4, 2) := by decide +kernel
theorem dL_measure_2 : decode cL_measure 2 = .ok (.iconst 0, 1) := by decide +kernel
theorem dL_measure_3 : decode cL_measure 3 = .ok (.aload_n 0, 1) := by decide +kernel
theorem dL_measure_4 : decode cL_measure 4 = .ok (.iload_n 1, 1) := by decide +kernel
theorem dL_measure_5 : decode cL_measure 5 = .ok (.iload_n 2, 1) := by decide +kernel
theorem dL_measure_6 : decode cL_measure 6 = .ok (.iload_n 3, 1) := by decide +kernel
theorem dL_measure_7 : decode cL_measure 7 = .ok (.invokevirtual 46, 3) := by decide +kernel
theorem dL_measure_10 : decode cL_measure 10 = .ok (.lastore, 1) := by decide +kernel
theorem dL_measure_11 : decode cL_measure 11 = .ok (.goto 7, 3) := by decide +kernel
theorem dL_measure_14 : decode cL_measure 14 = .ok (.astore 5, 2) := by decide +kernel
theorem dL_measure_16 : decode cL_measure 16 = .ok (.iconst 1, 1) := by decide +kernel
theorem dL_measure_17 : decode cL_measure 17 = .ok (.ireturn, 1) := by decide +kernel
theorem dL_measure_18 : decode cL_measure 18 = .ok (.iconst 0, 1) := by decide +kernel
theorem dL_measure_19 : decode cL_measure 19 = .ok (.ireturn, 1) := by decide +kernel
theorem dX3_measure_0 : decode cX3_measure 0 = .ok (.aload_n 0, 1) := by decide +kernel
theorem dX3_measure_1 : decode cX3_measure 1 = .ok (.iload_n 1, 1) := by decide +kernel
theorem dX3_measure_2 : decode cX3_measure 2 = .ok (.iload_n 2, 1) := by decide +kernel
theorem dX3_measure_3 : decode cX3_measure 3 = .ok (.iload_n 3, 1) := by decide +kernel
theorem dX3_measure_4 : decode cX3_measure 4 = .ok (.invokevirtual 53, 3) := by decide +kernel
theorem dX3_measure_7 : decode cX3_measure 7 = .ok (.aload_n 0, 1) := by decide +kernel
theorem dX3_measure_8 : decode cX3_measure 8 = .ok (.iload_n 1, 1) := by decide +kernel
theorem dX3_measure_9 : decode cX3_measure 9 = .ok (.iload_n 2, 1) := by decide +kernel
theorem dX3_measure_10 : decode cX3_measure 10 = .ok (.iload_n 3, 1) := by decide +kernel
theorem dX3_measure_11 : decode cX3_measure 11 = .ok (.invokevirtual 141, 3) := by decide +kernel
theorem dX3_measure_14 : decode cX3_measure 14 = .ok (.lreturn, 1) := by decide +kernel
theorem dX3_measureAt_0 : decode cX3_measureAt 0 = .ok (.lconst 0, 1) := by decide +kernel
theorem dX3_measureAt_1 : decode cX3_measureAt 1 = .ok (.lstore 4, 2) := by decide +kernel
theorem dX3_measureAt_3 : decode cX3_measureAt 3 = .ok (.iconst 0, 1) := by decide +kernel
theorem dX3_measureAt_4 : decode cX3_measureAt 4 = .ok (.istore 6, 2) := by decide +kernel
theorem dX3_measureAt_6 : decode cX3_measureAt 6 = .ok (.iload 6, 2) := by decide +kernel
theorem dX3_measureAt_8 : decode cX3_measureAt 8 = .ok (.aload_n 0, 1) := by decide +kernel
theorem dX3_measureAt_9 : decode cX3_measureAt 9 = .ok (.getfield 36, 3) := by decide +kernel
theorem dX3_measureAt_12 : decode cX3_measureAt 12 = .ok (.if_icmp .ge 98, 3) := by decide +kernel
theorem dX3_measureAt_15 : decode cX3_measureAt 15 = .ok (.aload_n 0, 1) := by decide +kernel
theorem dX3_measureAt_16 : decode cX3_measureAt 16 = .ok (.getfield 50, 3) := by decide +kernel
theorem dX3_measureAt_19 : decode cX3_measureAt 19 = .ok (.iload_n 1, 1) := by decide +kernel
theorem dX3_measureAt_20 : decode cX3_measureAt 20 = .ok (.iload_n 2, 1) := by decide +kernel
theorem dX3_measureAt_21 : decode cX3_measureAt 21 = .ok (.iload_n 3, 1) := by decide +kernel
theorem dX3_measureAt_22 : decode cX3_measureAt 22 = .ok (.invokevirtual 95, 3) := by decide +kernel
theorem dX3_measureAt_25 : decode cX3_measureAt 25 = .ok (.aload_n 0, 1) := by decide +kernel
theorem dX3_measureAt_26 : decode cX3_measureAt 26 = .ok (.getfield 50, 3) := by decide +kernel
theorem dX3_measureAt_29 : decode cX3_measureAt 29 = .ok (.aload_n 0, 1) := by decide +kernel
theorem dX3_measureAt_30 : decode cX3_measureAt 30 = .ok (.getfield 33, 3) := by decide +kernel
theorem dX3_measureAt_33 : decode cX3_measureAt 33 = .ok (.iload 6, 2) := by decide +kernel
theorem dX3_measureAt_35 : decode cX3_measureAt 35 = .ok (.iconst 3, 1) := by decide +kernel
theorem dX3_measureAt_36 : decode cX3_measureAt 36 = .ok (.imul, 1) := by decide +kernel
theorem dX3_measureAt_37 : decode cX3_measureAt 37 = .ok (.iaload, 1) := by decide +kernel
theorem dX3_measureAt_38 : decode cX3_measureAt 38 = .ok (.aload_n 0, 1) := by decide +kernel
theorem dX3_measureAt_39 : decode cX3_measureAt 39 = .ok (.getfield 33, 3) := by decide +kernel
theorem dX3_measureAt_42 : decode cX3_measureAt 42 = .ok (.iload 6, 2) := by decide +kernel
theorem dX3_measureAt_44 : decode cX3_measureAt 44 = .ok (.iconst 3, 1) := by decide +kernel
theorem dX3_measureAt_45 : decode cX3_measureAt 45 = .ok (.imul, 1) := by decide +kernel
theorem dX3_measureAt_46 : decode cX3_measureAt 46 = .ok (.iconst 1, 1) := by decide +kernel
theorem dX3_measureAt_47 : decode cX3_measureAt 47 = .ok (.iadd, 1) := by decide +kernel
theorem dX3_measureAt_48 : decode cX3_measureAt 48 = .ok (.iaload, 1) := by decide +kernel
theorem dX3_measureAt_49 : decode cX3_measureAt 49 = .ok (.aload_n 0, 1) := by decide +kernel
theorem dX3_measureAt_50 : decode cX3_measureAt 50 = .ok (.getfield 33, 3) := by decide +kernel
theorem dX3_measureAt_53 : decode cX3_measureAt 53 = .ok (.iload 6, 2) := by decide +kernel
theorem dX3_measureAt_55 : decode cX3_measureAt 55 = .ok (.iconst 3, 1) := by decide +kernel
theorem dX3_measureAt_56 : decode cX3_measureAt 56 = .ok (.imul, 1) := by decide +kernel
theorem dX3_measureAt_57 : decode cX3_measureAt 57 = .ok (.iconst 2, 1) := by decide +kernel
theorem dX3_measureAt_58 : decode cX3_measureAt 58 = .ok (.iadd, 1) := by decide +kernel
theorem dX3_measureAt_59 : decode cX3_measureAt 59 = .ok (.iaload, 1) := by decide +kernel
theorem dX3_measureAt_60 : decode cX3_measureAt 60 = .ok (.invokevirtual 98, 3) := by decide +kernel
theorem dX3_measureAt_63 : decode cX3_measureAt 63 = .ok (.aload_n 0, 1) := by decide +kernel
theorem dX3_measureAt_64 : decode cX3_measureAt 64 = .ok (.getfield 50, 3) := by decide +kernel
theorem dX3_measureAt_67 : decode cX3_measureAt 67 = .ok (.aload_n 0, 1) := by decide +kernel
theorem dX3_measureAt_68 : decode cX3_measureAt 68 = .ok (.getfield 25, 3) := by decide +kernel
theorem dX3_measureAt_71 : decode cX3_measureAt 71 = .ok (.invokevirtual 101, 3) := by decide +kernel
theorem dX3_measureAt_74 : decode cX3_measureAt 74 = .ok (.ifCond .ne 30, 3) := by decide +kernel
theorem dX3_measureAt_77 : decode cX3_measureAt 77 = .ok (.lload 4, 2) := by decide +kernel
theorem dX3_measureAt_79 : decode cX3_measureAt 79 = .ok (.aload_n 0, 1) := by decide +kernel
theorem dX3_measureAt_80 : decode cX3_measureAt 80 = .ok (.getfield 50, 3) := by decide +kernel
theorem dX3_measureAt_83 : decode cX3_measureAt 83 = .ok (.getfield 111, 3) := by decide +kernel
theorem dX3_measureAt_86 : decode cX3_measureAt 86 = .ok (.i2l, 1) := by decide +kernel
theorem dX3_measureAt_87 : decode cX3_measureAt 87 = .ok (.aload_n 0, 1) := by decide +kernel
theorem dX3_measureAt_88 : decode cX3_measureAt 88 = .ok (.getfield 29, 3) := by decide +kernel
theorem dX3_measureAt_91 : decode cX3_measureAt 91 = .ok (.aload_n 0, 1) := by decide +kernel
theorem dX3_measureAt_92 : decode cX3_measureAt 92 = .ok (.getfield 50, 3) := by decide +kernel
theorem dX3_measureAt_95 : decode cX3_measureAt 95 = .ok (.invokevirtual 147, 3) := by decide +kernel
theorem dX3_measureAt_98 : decode cX3_measureAt 98 = .ok (.iaload, 1) := by decide +kernel
theorem dX3_measureAt_99 : decode cX3_measureAt 99 = .ok (.i2l, 1) := by decide +kernel
theorem dX3_measureAt_100 : decode cX3_measureAt 100 = .ok (.lmul, 1) := by decide +kernel
theorem dX3_measureAt_101 : decode cX3_measureAt 101 = .ok (.ladd, 1) := by decide +kernel
theorem dX3_measureAt_102 : decode cX3_measureAt 102 = .ok (.lstore 4, 2) := by decide +kernel
theorem dX3_measureAt_104 : decode cX3_measureAt 104 = .ok (.iinc 6 1, 3) := by decide +kernel
theorem dX3_measureAt_107 : decode cX3_measureAt 107 = .ok (.goto (-101), 3) := by decide +kernel
theorem dX3_measureAt_110 : decode cX3_measureAt 110 = .ok (.lload 4, 2) := by decide +kernel
theorem dX3_measureAt_112 : decode cX3_measureAt 112 = .ok (.lreturn, 1) := by decide +kernel
theorem dX2_octant_0 : decode cX2_octant 0 = .ok (.aload_n 0, 1) := by decide +kernel
theorem dX2_octant_1 : decode cX2_octant 1 = .ok (.getfield 15, 3) := by decide +kernel
theorem dX2_octant_4 : decode cX2_octant 4 = .ok (.iconst 0, 1) := by decide +kernel
theorem dX2_octant_5 : decode cX2_octant 5 = .ok (.iaload, 1) := by decide +kernel
theorem dX2_octant_6 : decode cX2_octant 6 = .ok (.ifCond .ge 7, 3) := by decide +kernel
theorem dX2_octant_9 : decode cX2_octant 9 = .ok (.iconst 4, 1) := by decide +kernel
theorem dX2_octant_10 : decode cX2_octant 10 = .ok (.goto 4, 3) := by decide +kernel
theorem dX2_octant_13 : decode cX2_octant 13 = .ok (.iconst 0, 1) := by decide +kernel
theorem dX2_octant_14 : decode cX2_octant 14 = .ok (.aload_n 0, 1) := by decide +kernel
theorem dX2_octant_15 : decode cX2_octant 15 = .ok (.getfield 15, 3) := by decide +kernel
theorem dX2_octant_18 : decode cX2_octant 18 = .ok (.iconst 1, 1) := by decide +kernel
theorem dX2_octant_19 : decode cX2_octant 19 = .ok (.iaload, 1) := by decide +kernel
theorem dX2_octant_20 : decode cX2_octant 20 = .ok (.ifCond .ge 7, 3) := by decide +kernel
theorem dX2_octant_23 : decode cX2_octant 23 = .ok (.iconst 2, 1) := by decide +kernel
theorem dX2_octant_24 : decode cX2_octant 24 = .ok (.goto 4, 3) := by decide +kernel
theorem dX2_octant_27 : decode cX2_octant 27 = .ok (.iconst 0, 1) := by decide +kernel
theorem dX2_octant_28 : decode cX2_octant 28 = .ok (.iadd, 1) := by decide +kernel
theorem dX2_octant_29 : decode cX2_octant 29 = .ok (.aload_n 0, 1) := by decide +kernel
theorem dX2_octant_30 : decode cX2_octant 30 = .ok (.getfield 15, 3) := by decide +kernel
theorem dX2_octant_33 : decode cX2_octant 33 = .ok (.iconst 2, 1) := by decide +kernel
theorem dX2_octant_34 : decode cX2_octant 34 = .ok (.iaload, 1) := by decide +kernel
theorem dX2_octant_35 : decode cX2_octant 35 = .ok (.ifCond .ge 7, 3) := by decide +kernel
theorem dX2_octant_38 : decode cX2_octant 38 = .ok (.iconst 1, 1) := by decide +kernel
theorem dX2_octant_39 : decode cX2_octant 39 = .ok (.goto 4, 3) := by decide +kernel
theorem dX2_octant_42 : decode cX2_octant 42 = .ok (.iconst 0, 1) := by decide +kernel
theorem dX2_octant_43 : decode cX2_octant 43 = .ok (.iadd, 1) := by decide +kernel
theorem dX2_octant_44 : decode cX2_octant 44 = .ok (.ireturn, 1) := by decide +kernel
theorem dL_best_0 : decode cL_best 0 = .ok (.aload 8, 2) := by decide +kernel
theorem dL_best_2 : decode cL_best 2 = .ok (.iconst 0, 1) := by decide +kernel
theorem dL_best_3 : decode cL_best 3 = .ok (.aload_n 0, 1) := by decide +kernel
theorem dL_best_4 : decode cL_best 4 = .ok (.iload_n 1, 1) := by decide +kernel
theorem dL_best_5 : decode cL_best 5 = .ok (.iload_n 2, 1) := by decide +kernel
theorem dL_best_6 : decode cL_best 6 = .ok (.iload_n 3, 1) := by decide +kernel
theorem dL_best_7 : decode cL_best 7 = .ok (.iload 4, 2) := by decide +kernel
theorem dL_best_9 : decode cL_best 9 = .ok (.iload 5, 2) := by decide +kernel
theorem dL_best_11 : decode cL_best 11 = .ok (.iload 6, 2) := by decide +kernel
theorem dL_best_13 : decode cL_best 13 = .ok (.iload 7, 2) := by decide +kernel
theorem dL_best_15 : decode cL_best 15 = .ok (.invokevirtual 49, 3) := by decide +kernel
theorem dL_best_18 : decode cL_best 18 = .ok (.i2l, 1) := by decide +kernel
theorem dL_best_19 : decode cL_best 19 = .ok (.lastore, 1) := by decide +kernel
theorem dL_best_20 : decode cL_best 20 = .ok (.goto 7, 3) := by decide +kernel
theorem dL_best_23 : decode cL_best 23 = .ok (.astore 9, 2) := by decide +kernel
theorem dL_best_25 : decode cL_best 25 = .ok (.iconst 1, 1) := by decide +kernel
theorem dL_best_26 : decode cL_best 26 = .ok (.ireturn, 1) := by decide +kernel
theorem dL_best_27 : decode cL_best 27 = .ok (.iconst 0, 1) := by decide +kernel
theorem dL_best_28 : decode cL_best 28 = .ok (.ireturn, 1) := by decide +kernel
theorem dX3_best_0 : decode cX3_best 0 = .ok (.aload_n 0, 1) := by decide +kernel
theorem dX3_best_1 : decode cX3_best 1 = .ok (.iload_n 1, 1) := by decide +kernel
theorem dX3_best_2 : decode cX3_best 2 = .ok (.iload_n 2, 1) := by decide +kernel
theorem dX3_best_3 : decode cX3_best 3 = .ok (.iload_n 3, 1) := by decide +kernel
theorem dX3_best_4 : decode cX3_best 4 = .ok (.invokevirtual 53, 3) := by decide +kernel
theorem dX3_best_7 : decode cX3_best 7 = .ok (.iload 4, 2) := by decide +kernel
theorem dX3_best_9 : decode cX3_best 9 = .ok (.iconst 1, 1) := by decide +kernel
theorem dX3_best_10 : decode cX3_best 10 = .ok (.bipush 8, 2) := by decide +kernel
theorem dX3_best_12 : decode cX3_best 12 = .ok (.invokestatic 79, 3) := by decide +kernel
theorem dX3_best_15 : decode cX3_best 15 = .ok (.iload 5, 2) := by decide +kernel
theorem dX3_best_17 : decode cX3_best 17 = .ok (.iconst 1, 1) := by decide +kernel
theorem dX3_best_18 : decode cX3_best 18 = .ok (.bipush 8, 2) := by decide +kernel
theorem dX3_best_20 : decode cX3_best 20 = .ok (.invokestatic 79, 3) := by decide +kernel
theorem dX3_best_23 : decode cX3_best 23 = .ok (.iload 6, 2) := by decide +kernel
theorem dX3_best_25 : decode cX3_best 25 = .ok (.iconst 1, 1) := by decide +kernel
theorem dX3_best_26 : decode cX3_best 26 = .ok (.bipush 100, 2) := by decide +kernel
theorem dX3_best_28 : decode cX3_best 28 = .ok (.invokestatic 79, 3) := by decide +kernel
theorem dX3_best_31 : decode cX3_best 31 = .ok (.iload 7, 2) := by decide +kernel
theorem dX3_best_33 : decode cX3_best 33 = .ok (.iconst 0, 1) := by decide +kernel
theorem dX3_best_34 : decode cX3_best 34 = .ok (.iconst 1, 1) := by decide +kernel
theorem dX3_best_35 : decode cX3_best 35 = .ok (.invokestatic 79, 3) := by decide +kernel
theorem dX3_best_38 : decode cX3_best 38 = .ok (.aload_n 0, 1) := by decide +kernel
theorem dX3_best_39 : decode cX3_best 39 = .ok (.iload_n 1, 1) := by decide +kernel
theorem dX3_best_40 : decode cX3_best 40 = .ok (.iload 4, 2) := by decide +kernel
theorem dX3_best_42 : decode cX3_best 42 = .ok (.iconst 1, 1) := by decide +kernel
theorem dX3_best_43 : decode cX3_best 43 = .ok (.isub, 1) := by decide +kernel
theorem dX3_best_44 : decode cX3_best 44 = .ok (.iload 6, 2) := by decide +kernel
theorem dX3_best_46 : decode cX3_best 46 = .ok (.imul, 1) := by decide +kernel
theorem dX3_best_47 : decode cX3_best 47 = .ok (.iadd, 1) := by decide +kernel
theorem dX3_best_48 : decode cX3_best 48 = .ok (.iload_n 2, 1) := by decide +kernel
theorem dX3_best_49 : decode cX3_best 49 = .ok (.iload 5, 2) := by decide +kernel
theorem dX3_best_51 : decode cX3_best 51 = .ok (.iconst 1, 1) := by decide +kernel
theorem dX3_best_52 : decode cX3_best 52 = .ok (.isub, 1) := by decide +kernel
theorem dX3_best_53 : decode cX3_best 53 = .ok (.iload 6, 2) := by decide +kernel
theorem dX3_best_55 : decode cX3_best 55 = .ok (.imul, 1) := by decide +kernel
theorem dX3_best_56 : decode cX3_best 56 = .ok (.iadd, 1) := by decide +kernel
theorem dX3_best_57 : decode cX3_best 57 = .ok (.iload_n 3, 1) := by decide +kernel
theorem dX3_best_58 : decode cX3_best 58 = .ok (.invokevirtual 53, 3) := by decide +kernel
theorem dX3_best_61 : decode cX3_best 61 = .ok (.iconst 0, 1) := by decide +kernel
theorem dX3_best_62 : decode cX3_best 62 = .ok (.istore 8, 2) := by decide +kernel
theorem dX3_best_64 : decode cX3_best 64 = .ok (.iconst 0, 1) := by decide +kernel
theorem dX3_best_65 : decode cX3_best 65 = .ok (.istore 9, 2) := by decide +kernel
theorem dX3_best_67 : decode cX3_best 67 = .ok (.ldc2_w 145, 3) := by decide +kernel
theorem dX3_best_70 : decode cX3_best 70 = .ok (.lstore 10, 2) := by decide +kernel
theorem dX3_best_72 : decode cX3_best 72 = .ok (.iconst 0, 1) := by decide +kernel
theorem dX3_best_73 : decode cX3_best 73 = .ok (.istore 12, 2) := by decide +kernel
theorem dX3_best_75 : decode cX3_best 75 = .ok (.iload 12, 2) := by decide +kernel
theorem dX3_best_77 : decode cX3_best 77 = .ok (.iload 5, 2) := by decide +kernel
theorem dX3_best_79 : decode cX3_best 79 = .ok (.if_icmp .ge 66, 3) := by decide +kernel
theorem dX3_best_82 : decode cX3_best 82 = .ok (.iconst 0, 1) := by decide +kernel
theorem dX3_best_83 : decode cX3_best 83 = .ok (.istore 13, 2) := by decide +kernel
theorem dX3_best_85 : decode cX3_best 85 = .ok (.iload 13, 2) := by decide +kernel
theorem dX3_best_87 : decode cX3_best 87 = .ok (.iload 4, 2) := by decide +kernel
theorem dX3_best_89 : decode cX3_best 89 = .ok (.if_icmp .ge 50, 3) := by decide +kernel
theorem dX3_best_92 : decode cX3_best 92 = .ok (.aload_n 0, 1) := by decide +kernel
theorem dX3_best_93 : decode cX3_best 93 = .ok (.iload_n 1, 1) := by decide +kernel
theorem dX3_best_94 : decode cX3_best 94 = .ok (.iload 13, 2) := by decide +kernel
theorem dX3_best_96 : decode cX3_best 96 = .ok (.iload 6, 2) := by decide +kernel
theorem dX3_best_98 : decode cX3_best 98 = .ok (.imul, 1) := by decide +kernel
theorem dX3_best_99 : decode cX3_best 99 = .ok (.iadd, 1) := by decide +kernel
theorem dX3_best_100 : decode cX3_best 100 = .ok (.iload_n 2, 1) := by decide +kernel
theorem dX3_best_101 : decode cX3_best 101 = .ok (.iload 12, 2) := by decide +kernel
theorem dX3_best_103 : decode cX3_best 103 = .ok (.iload 6, 2) := by decide +kernel
theorem dX3_best_105 : decode cX3_best 105 = .ok (.imul, 1) := by decide +kernel
theorem dX3_best_106 : decode cX3_best 106 = .ok (.iadd, 1) := by decide +kernel
theorem dX3_best_107 : decode cX3_best 107 = .ok (.iload_n 3, 1) := by decide +kernel
theorem dX3_best_108 : decode cX3_best 108 = .ok (.invokevirtual 141, 3) := by decide +kernel
theorem dX3_best_111 : decode cX3_best 111 = .ok (.lstore 14, 2) := by decide +kernel
theorem dX3_best_113 : decode cX3_best 113 = .ok (.lload 14, 2) := by decide +kernel
theorem dX3_best_115 : decode cX3_best 115 = .ok (.lload 10, 2) := by decide +kernel
theorem dX3_best_117 : decode cX3_best 117 = .ok (.lcmp, 1) := by decide +kernel
theorem dX3_best_118 : decode cX3_best 118 = .ok (.ifCond .le 15, 3) := by decide +kernel
theorem dX3_best_121 : decode cX3_best 121 = .ok (.lload 14, 2) := by decide +kernel
theorem dX3_best_123 : decode cX3_best 123 = .ok (.lstore 10, 2) := by decide +kernel
theorem dX3_best_125 : decode cX3_best 125 = .ok (.iload 13, 2) := by decide +kernel
theorem dX3_best_127 : decode cX3_best 127 = .ok (.istore 8, 2) := by decide +kernel
theorem dX3_best_129 : decode cX3_best 129 = .ok (.iload 12, 2) := by decide +kernel
theorem dX3_best_131 : decode cX3_best 131 = .ok (.istore 9, 2) := by decide +kernel
theorem dX3_best_133 : decode cX3_best 133 = .ok (.iinc 13 1, 3) := by decide +kernel
theorem dX3_best_136 : decode cX3_best 136 = .ok (.goto (-51), 3) := by decide +kernel
theorem dX3_best_139 : decode cX3_best 139 = .ok (.iinc 12 1, 3) := by decide +kernel
theorem dX3_best_142 : decode cX3_best 142 = .ok (.goto (-67), 3) := by decide +kernel
theorem dX3_best_145 : decode cX3_best 145 = .ok (.iload 7, 2) := by decide +kernel
theorem dX3_best_147 : decode cX3_best 147 = .ok (.ifCond .ne 8, 3) := by decide +kernel
theorem dX3_best_150 : decode cX3_best 150 = .ok (.iload 8, 2) := by decide +kernel
theorem dX3_best_152 : decode cX3_best 152 = .ok (.goto 5, 3) := by decide +kernel
theorem dX3_best_155 : decode cX3_best 155 = .ok (.iload 9, 2) := by decide +kernel
theorem dX3_best_157 : decode cX3_best 157 = .ok (.ireturn, 1) := by decide +kernel
theorem dX4_init_0 : decode cX4_init 0 = .ok (.aload_n 0, 1) := by decide +kernel
theorem dX4_init_1 : decode cX4_init 1 = .ok (.invokespecial 1, 3) := by decide +kernel
theorem dX4_init_4 : decode cX4_init 4 = .ok (.aload_n 0, 1) := by decide +kernel
theorem dX4_init_5 : decode cX4_init 5 = .ok (.bipush 120, 2) := by decide +kernel
theorem dX4_init_7 : decode cX4_init 7 = .ok (.newarray .int, 2) := by decide +kernel
theorem dX4_init_9 : decode cX4_init 9 = .ok (.putfield 7, 3) := by decide +kernel
theorem dX4_init_12 : decode cX4_init 12 = .ok (.aload_n 0, 1) := by decide +kernel
theorem dX4_init_13 : decode cX4_init 13 = .ok (.bipush 20, 2) := by decide +kernel
theorem dX4_init_15 : decode cX4_init 15 = .ok (.newarray .int, 2) := by decide +kernel
theorem dX4_init_17 : decode cX4_init 17 = .ok (.putfield 13, 3) := by decide +kernel
theorem dX4_init_20 : decode cX4_init 20 = .ok (.aload_n 0, 1) := by decide +kernel
theorem dX4_init_21 : decode cX4_init 21 = .ok (.bipush 20, 2) := by decide +kernel
theorem dX4_init_23 : decode cX4_init 23 = .ok (.newarray .int, 2) := by decide +kernel
theorem dX4_init_25 : decode cX4_init 25 = .ok (.putfield 16, 3) := by decide +kernel
theorem dX4_init_28 : decode cX4_init 28 = .ok (.aload_n 0, 1) := by decide +kernel
theorem dX4_init_29 : decode cX4_init 29 = .ok (.bipush 20, 2) := by decide +kernel
theorem dX4_init_31 : decode cX4_init 31 = .ok (.newarray .boolean, 2) := by decide +kernel
theorem dX4_init_33 : decode cX4_init 33 = .ok (.putfield 19, 3) := by decide +kernel
theorem dX4_init_36 : decode cX4_init 36 = .ok (.aload_n 0, 1) := by decide +kernel
theorem dX4_init_37 : decode cX4_init 37 = .ok (.iconst 3, 1) := by decide +kernel
theorem dX4_init_38 : decode cX4_init 38 = .ok (.newarray .int, 2) := by decide +kernel
theorem dX4_init_40 : decode cX4_init 40 = .ok (.putfield 23, 3) := by decide +kernel
theorem dX4_init_43 : decode cX4_init 43 = .ok (.aload_n 0, 1) := by decide +kernel
theorem dX4_init_44 : decode cX4_init 44 = .ok (.iconst 3, 1) := by decide +kernel
theorem dX4_init_45 : decode cX4_init 45 = .ok (.newarray .int, 2) := by decide +kernel
theorem dX4_init_47 : decode cX4_init 47 = .ok (.putfield 26, 3) := by decide +kernel
theorem dX4_init_50 : decode cX4_init 50 = .ok (.aload_n 0, 1) := by decide +kernel
theorem dX4_init_51 : decode cX4_init 51 = .ok (.iconst 3, 1) := by decide +kernel
theorem dX4_init_52 : decode cX4_init 52 = .ok (.newarray .int, 2) := by decide +kernel
theorem dX4_init_54 : decode cX4_init 54 = .ok (.putfield 29, 3) := by decide +kernel
theorem dX4_init_57 : decode cX4_init 57 = .ok (.aload_n 0, 1) := by decide +kernel
theorem dX4_init_58 : decode cX4_init 58 = .ok (.iconst 3, 1) := by decide +kernel
theorem dX4_init_59 : decode cX4_init 59 = .ok (.newarray .int, 2) := by decide +kernel
theorem dX4_init_61 : decode cX4_init 61 = .ok (.putfield 32, 3) := by decide +kernel
theorem dX4_init_64 : decode cX4_init 64 = .ok (.aload_n 0, 1) := by decide +kernel
theorem dX4_init_65 : decode cX4_init 65 = .ok (.bipush 30, 2) := by decide +kernel
theorem dX4_init_67 : decode cX4_init 67 = .ok (.newarray .int, 2) := by decide +kernel
theorem dX4_init_69 : decode cX4_init 69 = .ok (.putfield 35, 3) := by decide +kernel
theorem dX4_init_72 : decode cX4_init 72 = .ok (.aload_n 0, 1) := by decide +kernel
theorem dX4_init_73 : decode cX4_init 73 = .ok (.bipush 30, 2) := by decide +kernel
theorem dX4_init_75 : decode cX4_init 75 = .ok (.newarray .int, 2) := by decide +kernel
theorem dX4_init_77 : decode cX4_init 77 = .ok (.putfield 38, 3) := by decide +kernel
theorem dX4_init_80 : decode cX4_init 80 = .ok (.aload_n 0, 1) := by decide +kernel
theorem dX4_init_81 : decode cX4_init 81 = .ok (.bipush 30, 2) := by decide +kernel
theorem dX4_init_83 : decode cX4_init 83 = .ok (.newarray .long, 2) := by decide +kernel
theorem dX4_init_85 : decode cX4_init 85 = .ok (.putfield 41, 3) := by decide +kernel
theorem dX4_init_88 : decode cX4_init 88 = .ok (.aload_n 0, 1) := by decide +kernel
theorem dX4_init_89 : decode cX4_init 89 = .ok (.bipush 30, 2) := by decide +kernel
theorem dX4_init_91 : decode cX4_init 91 = .ok (.newarray .long, 2) := by decide +kernel
theorem dX4_init_93 : decode cX4_init 93 = .ok (.putfield 45, 3) := by decide +kernel
theorem dX4_init_96 : decode cX4_init 96 = .ok (.aload_n 0, 1) := by decide +kernel
theorem dX4_init_97 : decode cX4_init 97 = .ok (.bipush 90, 2) := by decide +kernel
theorem dX4_init_99 : decode cX4_init 99 = .ok (.newarray .long, 2) := by decide +kernel
theorem dX4_init_101 : decode cX4_init 101 = .ok (.putfield 48, 3) := by decide +kernel
theorem dX4_init_104 : decode cX4_init 104 = .ok (.aload_n 0, 1) := by decide +kernel
theorem dX4_init_105 : decode cX4_init 105 = .ok (.iconst 3, 1) := by decide +kernel
theorem dX4_init_106 : decode cX4_init 106 = .ok (.newarray .int, 2) := by decide +kernel
theorem dX4_init_108 : decode cX4_init 108 = .ok (.putfield 51, 3) := by decide +kernel
theorem dX4_init_111 : decode cX4_init 111 = .ok (.aload_n 0, 1) := by decide +kernel
theorem dX4_init_112 : decode cX4_init 112 = .ok (.bipush 30, 2) := by decide +kernel
theorem dX4_init_114 : decode cX4_init 114 = .ok (.newarray .int, 2) := by decide +kernel
theorem dX4_init_116 : decode cX4_init 116 = .ok (.putfield 54, 3) := by decide +kernel
theorem dX4_init_119 : decode cX4_init 119 = .ok (.aload_n 0, 1) := by decide +kernel
theorem dX4_init_120 : decode cX4_init 120 = .ok (.bipush 30, 2) := by decide +kernel
theorem dX4_init_122 : decode cX4_init 122 = .ok (.newarray .int, 2) := by decide +kernel
theorem dX4_init_124 : decode cX4_init 124 = .ok (.putfield 57, 3) := by decide +kernel
theorem dX4_init_127 : decode cX4_init 127 = .ok (.aload_n 0, 1) := by decide +kernel
theorem dX4_init_128 : decode cX4_init 128 = .ok (.bipush 30, 2) := by decide +kernel
theorem dX4_init_130 : decode cX4_init 130 = .ok (.newarray .long, 2) := by decide +kernel
theorem dX4_init_132 : decode cX4_init 132 = .ok (.putfield 60, 3) := by decide +kernel
theorem dX4_init_135 : decode cX4_init 135 = .ok (.aload_n 0, 1) := by decide +kernel
theorem dX4_init_136 : decode cX4_init 136 = .ok (.bipush 30, 2) := by decide +kernel
theorem dX4_init_138 : decode cX4_init 138 = .ok (.newarray .long, 2) := by decide +kernel
theorem dX4_init_140 : decode cX4_init 140 = .ok (.putfield 63, 3) := by decide +kernel
theorem dX4_init_143 : decode cX4_init 143 = .ok (.aload_n 0, 1) := by decide +kernel
theorem dX4_init_144 : decode cX4_init 144 = .ok (.bipush 90, 2) := by decide +kernel
theorem dX4_init_146 : decode cX4_init 146 = .ok (.newarray .long, 2) := by decide +kernel
theorem dX4_init_148 : decode cX4_init 148 = .ok (.putfield 66, 3) := by decide +kernel
theorem dX4_init_151 : decode cX4_init 151 = .ok (.aload_n 0, 1) := by decide +kernel
theorem dX4_init_152 : decode cX4_init 152 = .ok (.bipush 8, 2) := by decide +kernel
theorem dX4_init_154 : decode cX4_init 154 = .ok (.newarray .int, 2) := by decide +kernel
theorem dX4_init_156 : decode cX4_init 156 = .ok (.putfield 69, 3) := by decide +kernel
theorem dX4_init_159 : decode cX4_init 159 = .ok (.aload_n 0, 1) := by decide +kernel
theorem dX4_init_160 : decode cX4_init 160 = .ok (.bipush 120, 2) := by decide +kernel
theorem dX4_init_162 : decode cX4_init 162 = .ok (.newarray .int, 2) := by decide +kernel
theorem dX4_init_164 : decode cX4_init 164 = .ok (.putfield 72, 3) := by decide +kernel
theorem dX4_init_167 : decode cX4_init 167 = .ok (.aload_n 0, 1) := by decide +kernel
theorem dX4_init_168 : decode cX4_init 168 = .ok (.iload_n 1, 1) := by decide +kernel
theorem dX4_init_169 : decode cX4_init 169 = .ok (.iconst 1, 1) := by decide +kernel
theorem dX4_init_170 : decode cX4_init 170 = .ok (.if_icmp .ge 7, 3) := by decide +kernel
theorem dX4_init_173 : decode cX4_init 173 = .ok (.iconst 1, 1) := by decide +kernel
theorem dX4_init_174 : decode cX4_init 174 = .ok (.goto 17, 3) := by decide +kernel
theorem dX4_init_177 : decode cX4_init 177 = .ok (.iload_n 1, 1) := by decide +kernel
theorem dX4_init_178 : decode cX4_init 178 = .ok (.sipush 1000, 3) := by decide +kernel
theorem dX4_init_181 : decode cX4_init 181 = .ok (.if_icmp .le 9, 3) := by decide +kernel
theorem dX4_init_184 : decode cX4_init 184 = .ok (.sipush 1000, 3) := by decide +kernel
theorem dX4_init_187 : decode cX4_init 187 = .ok (.goto 4, 3) := by decide +kernel
theorem dX4_init_190 : decode cX4_init 190 = .ok (.iload_n 1, 1) := by decide +kernel
theorem dX4_init_191 : decode cX4_init 191 = .ok (.putfield 75, 3) := by decide +kernel
theorem dX4_init_194 : decode cX4_init 194 = .ok (.return_, 1) := by decide +kernel
theorem dX4_thrown_0 : decode cX4_thrown 0 = .ok (.aload_n 0, 1) := by decide +kernel
theorem dX4_thrown_1 : decode cX4_thrown 1 = .ok (.getfield 79, 3) := by decide +kernel
theorem dX4_thrown_4 : decode cX4_thrown 4 = .ok (.ireturn, 1) := by decide +kernel
theorem dX4_box_0 : decode cX4_box 0 = .ok (.aload_n 0, 1) := by decide +kernel
theorem dX4_box_1 : decode cX4_box 1 = .ok (.iload_n 1, 1) := by decide +kernel
theorem dX4_box_2 : decode cX4_box 2 = .ok (.iload_n 2, 1) := by decide +kernel
theorem dX4_box_3 : decode cX4_box 3 = .ok (.iload_n 3, 1) := by decide +kernel
theorem dX4_box_4 : decode cX4_box 4 = .ok (.invokevirtual 93, 3) := by decide +kernel
theorem dX4_box_7 : decode cX4_box 7 = .ok (.ifCond .eq 38, 3) := by decide +kernel
theorem dX4_box_10 : decode cX4_box 10 = .ok (.aload_n 0, 1) := by decide +kernel
theorem dX4_box_11 : decode cX4_box 11 = .ok (.iload 4, 2) := by decide +kernel
theorem dX4_box_13 : decode cX4_box 13 = .ok (.iload 5, 2) := by decide +kernel
theorem dX4_box_15 : decode cX4_box 15 = .ok (.iload 6, 2) := by decide +kernel
theorem dX4_box_17 : decode cX4_box 17 = .ok (.invokevirtual 93, 3) := by decide +kernel
theorem dX4_box_20 : decode cX4_box 20 = .ok (.ifCond .eq 25, 3) := by decide +kernel
theorem dX4_box_23 : decode cX4_box 23 = .ok (.iload_n 1, 1) := by decide +kernel
theorem dX4_box_24 : decode cX4_box 24 = .ok (.iload 4, 2) := by decide +kernel
theorem dX4_box_26 : decode cX4_box 26 = .ok (.if_icmp .ge 19, 3) := by decide +kernel
theorem dX4_box_29 : decode cX4_box 29 = .ok (.iload_n 2, 1) := by decide +kernel
theorem dX4_box_30 : decode cX4_box 30 = .ok (.iload 5, 2) := by decide +kernel
theorem dX4_box_32 : decode cX4_box 32 = .ok (.if_icmp .ge 13, 3) := by decide +kernel
theorem dX4_box_35 : decode cX4_box 35 = .ok (.iload_n 3, 1) := by decide +kernel
theorem dX4_box_36 : decode cX4_box 36 = .ok (.iload 6, 2) := by decide +kernel
theorem dX4_box_38 : decode cX4_box 38 = .ok (.if_icmp .ge 7, 3) := by decide +kernel
theorem dX4_box_41 : decode cX4_box 41 = .ok (.iconst 1, 1) := by decide +kernel
theorem dX4_box_42 : decode cX4_box 42 = .ok (.goto 4, 3) := by decide +kernel
theorem dX4_box_45 : decode cX4_box 45 = .ok (.iconst 0, 1) := by decide +kernel
theorem dX4_box_46 : decode cX4_box 46 = .ok (.istore 7, 2) := by decide +kernel
theorem dX4_box_48 : decode cX4_box 48 = .ok (.aload_n 0, 1) := by decide +kernel
theorem dX4_box_49 : decode cX4_box 49 = .ok (.iload 7, 2) := by decide +kernel
theorem dX4_box_51 : decode cX4_box 51 = .ok (.ifCond .ne 7, 3) := by decide +kernel
theorem dX4_box_54 : decode cX4_box 54 = .ok (.iconst 1, 1) := by decide +kernel
theorem dX4_box_55 : decode cX4_box 55 = .ok (.goto 17, 3) := by decide +kernel
theorem dX4_box_58 : decode cX4_box 58 = .ok (.aload_n 0, 1) := by decide +kernel
theorem dX4_box_59 : decode cX4_box 59 = .ok (.getfield 90, 3) := by decide +kernel
theorem dX4_box_62 : decode cX4_box 62 = .ok (.bipush 20, 2) := by decide +kernel
theorem dX4_box_64 : decode cX4_box 64 = .ok (.if_icmp .ne 7, 3) := by decide +kernel
theorem dX4_box_67 : decode cX4_box 67 = .ok (.iconst 2, 1) := by decide +kernel
theorem dX4_box_68 : decode cX4_box 68 = .ok (.goto 4, 3) := by decide +kernel
theorem dX4_box_71 : decode cX4_box 71 = .ok (.iconst 0, 1) := by decide +kernel
theorem dX4_box_72 : decode cX4_box 72 = .ok (.putfield 79, 3) := by decide +kernel
theorem dX4_box_75 : decode cX4_box 75 = .ok (.aload_n 0, 1) := by decide +kernel
theorem dX4_box_76 : decode cX4_box 76 = .ok (.getfield 79, 3) := by decide +kernel
theorem dX4_box_79 : decode cX4_box 79 = .ok (.ifCond .le 5, 3) := by decide +kernel
theorem dX4_box_82 : decode cX4_box 82 = .ok (.iconst 0, 1) := by decide +kernel
theorem dX4_box_83 : decode cX4_box 83 = .ok (.ireturn, 1) := by decide +kernel
theorem dX4_box_84 : decode cX4_box 84 = .ok (.bipush 6, 2) := by decide +kernel
theorem dX4_box_86 : decode cX4_box 86 = .ok (.aload_n 0, 1) := by decide +kernel
theorem dX4_box_87 : decode cX4_box 87 = .ok (.getfield 90, 3) := by decide +kernel
theorem dX4_box_90 : decode cX4_box 90 = .ok (.imul, 1) := by decide +kernel
theorem dX4_box_91 : decode cX4_box 91 = .ok (.istore 8, 2) := by decide +kernel
theorem dX4_box_93 : decode cX4_box 93 = .ok (.aload_n 0, 1) := by decide +kernel
theorem dX4_box_94 : decode cX4_box 94 = .ok (.getfield 7, 3) := by decide +kernel
theorem dX4_box_97 : decode cX4_box 97 = .ok (.iload 8, 2) := by decide +kernel
theorem dX4_box_99 : decode cX4_box 99 = .ok (.iload_n 1, 1) := by decide +kernel
theorem dX4_box_100 : decode cX4_box 100 = .ok (.iastore, 1) := by decide +kernel
theorem dX4_box_101 : decode cX4_box 101 = .ok (.aload_n 0, 1) := by decide +kernel
theorem dX4_box_102 : decode cX4_box 102 = .ok (.getfield 7, 3) := by decide +kernel
theorem dX4_box_105 : decode cX4_box 105 = .ok (.iload 8, 2) := by decide +kernel
theorem dX4_box_107 : decode cX4_box 107 = .ok (.iconst 1, 1) := by decide +kernel
theorem dX4_box_108 : decode cX4_box 108 = .ok (.iadd, 1) := by decide +kernel
theorem dX4_box_109 : decode cX4_box 109 = .ok (.iload_n 2, 1) := by decide +kernel
theorem dX4_box_110 : decode cX4_box 110 = .ok (.iastore, 1) := by decide +kernel
theorem dX4_box_111 : decode cX4_box 111 = .ok (.aload_n 0, 1) := by decide +kernel
theorem dX4_box_112 : decode cX4_box 112 = .ok (.getfield 7, 3) := by decide +kernel
theorem dX4_box_115 : decode cX4_box 115 = .ok (.iload 8, 2) := by decide +kernel
theorem dX4_box_117 : decode cX4_box 117 = .ok (.iconst 2, 1) := by decide +kernel
theorem dX4_box_118 : decode cX4_box 118 = .ok (.iadd, 1) := by decide +kernel
theorem dX4_box_119 : decode cX4_box 119 = .ok (.iload_n 3, 1) := by decide +kernel
theorem dX4_box_120 : decode cX4_box 120 = .ok (.iastore, 1) := by decide +kernel
theorem dX4_box_121 : decode cX4_box 121 = .ok (.aload_n 0, 1) := by decide +kernel
theorem dX4_box_122 : decode cX4_box 122 = .ok (.getfield 7, 3) := by decide +kernel
theorem dX4_box_125 : decode cX4_box 125 = .ok (.iload 8, 2) := by decide +kernel
theorem dX4_box_127 : decode cX4_box 127 = .ok (.iconst 3, 1) := by decide +kernel
theorem dX4_box_128 : decode cX4_box 128 = .ok (.iadd, 1) := by decide +kernel
theorem dX4_box_129 : decode cX4_box 129 = .ok (.iload 4, 2) := by decide +kernel
theorem dX4_box_131 : decode cX4_box 131 = .ok (.iastore, 1) := by decide +kernel
theorem dX4_box_132 : decode cX4_box 132 = .ok (.aload_n 0, 1) := by decide +kernel
theorem dX4_box_133 : decode cX4_box 133 = .ok (.getfield 7, 3) := by decide +kernel
theorem dX4_box_136 : decode cX4_box 136 = .ok (.iload 8, 2) := by decide +kernel
theorem dX4_box_138 : decode cX4_box 138 = .ok (.iconst 4, 1) := by decide +kernel
theorem dX4_box_139 : decode cX4_box 139 = .ok (.iadd, 1) := by decide +kernel
theorem dX4_box_140 : decode cX4_box 140 = .ok (.iload 5, 2) := by decide +kernel
theorem dX4_box_142 : decode cX4_box 142 = .ok (.iastore, 1) := by decide +kernel
theorem dX4_box_143 : decode cX4_box 143 = .ok (.aload_n 0, 1) := by decide +kernel
theorem dX4_box_144 : decode cX4_box 144 = .ok (.getfield 7, 3) := by decide +kernel
theorem dX4_box_147 : decode cX4_box 147 = .ok (.iload 8, 2) := by decide +kernel
theorem dX4_box_149 : decode cX4_box 149 = .ok (.iconst 5, 1) := by decide +kernel
theorem dX4_box_150 : decode cX4_box 150 = .ok (.iadd, 1) := by decide +kernel
theorem dX4_box_151 : decode cX4_box 151 = .ok (.iload 6, 2) := by decide +kernel
theorem dX4_box_153 : decode cX4_box 153 = .ok (.iastore, 1) := by decide +kernel
theorem dX4_box_154 : decode cX4_box 154 = .ok (.aload_n 0, 1) := by decide +kernel
theorem dX4_box_155 : decode cX4_box 155 = .ok (.getfield 16, 3) := by decide +kernel
theorem dX4_box_158 : decode cX4_box 158 = .ok (.aload_n 0, 1) := by decide +kernel
theorem dX4_box_159 : decode cX4_box 159 = .ok (.getfield 90, 3) := by decide +kernel
theorem dX4_box_162 : decode cX4_box 162 = .ok (.sipush 1000, 3) := by decide +kernel
theorem dX4_box_165 : decode cX4_box 165 = .ok (.iastore, 1) := by decide +kernel
theorem dX4_box_166 : decode cX4_box 166 = .ok (.aload_n 0, 1) := by decide +kernel
theorem dX4_box_167 : decode cX4_box 167 = .ok (.dup, 1) := by decide +kernel
theorem dX4_box_168 : decode cX4_box 168 = .ok (.getfield 90, 3) := by decide +kernel
theorem dX4_box_171 : decode cX4_box 171 = .ok (.iconst 1, 1) := by decide +kernel
theorem dX4_box_172 : decode cX4_box 172 = .ok (.iadd, 1) := by decide +kernel
theorem dX4_box_173 : decode cX4_box 173 = .ok (.putfield 90, 3) := by decide +kernel
theorem dX4_box_176 : decode cX4_box 176 = .ok (.aload_n 0, 1) := by decide +kernel
theorem dX4_box_177 : decode cX4_box 177 = .ok (.getfield 90, 3) := by decide +kernel
theorem dX4_box_180 : decode cX4_box 180 = .ok (.iconst 1, 1) := by decide +kernel
theorem dX4_box_181 : decode cX4_box 181 = .ok (.isub, 1) := by decide +kernel
theorem dX4_box_182 : decode cX4_box 182 = .ok (.ireturn, 1) := by decide +kernel
theorem dX4_arePlaces_0 : decode cX4_arePlaces 0 = .ok (.aload_n 0, 1) := by decide +kernel
theorem dX4_arePlaces_1 : decode cX4_arePlaces 1 = .ok (.iload_n 1, 1) := by decide +kernel
theorem dX4_arePlaces_2 : decode cX4_arePlaces 2 = .ok (.invokevirtual 86, 3) := by decide +kernel
theorem dX4_arePlaces_5 : decode cX4_arePlaces 5 = .ok (.ifCond .eq 23, 3) := by decide +kernel
theorem dX4_arePlaces_8 : decode cX4_arePlaces 8 = .ok (.aload_n 0, 1) := by decide +kernel
theorem dX4_arePlaces_9 : decode cX4_arePlaces 9 = .ok (.iload_n 2, 1) := by decide +kernel
theorem dX4_arePlaces_10 : decode cX4_arePlaces 10 = .ok (.invokevirtual 86, 3) := by decide +kernel
theorem dX4_arePlaces_13 : decode cX4_arePlaces 13 = .ok (.ifCond .eq 15, 3) := by decide +kernel
theorem dX4_arePlaces_16 : decode cX4_arePlaces 16 = .ok (.aload_n 0, 1) := by decide +kernel
theorem dX4_arePlaces_17 : decode cX4_arePlaces 17 = .ok (.iload_n 3, 1) := by decide +kernel
theorem dX4_arePlaces_18 : decode cX4_arePlaces 18 = .ok (.invokevirtual 86, 3) := by decide +kernel
theorem dX4_arePlaces_21 : decode cX4_arePlaces 21 = .ok (.ifCond .eq 7, 3) := by decide +kernel
theorem dX4_arePlaces_24 : decode cX4_arePlaces 24 = .ok (.iconst 1, 1) := by decide +kernel
theorem dX4_arePlaces_25 : decode cX4_arePlaces 25 = .ok (.goto 4, 3) := by decide +kernel
theorem dX4_arePlaces_28 : decode cX4_arePlaces 28 = .ok (.iconst 0, 1) := by decide +kernel
theorem dX4_arePlaces_29 : decode cX4_arePlaces 29 = .ok (.ireturn, 1) := by decide +kernel
theorem dX4_isPlace_0 : decode cX4_isPlace 0 = .ok (.iload_n 1, 1) := by decide +kernel
theorem dX4_isPlace_1 : decode cX4_isPlace 1 = .ok (.aload_n 0, 1) := by decide +kernel
theorem dX4_isPlace_2 : decode cX4_isPlace 2 = .ok (.getfield 75, 3) := by decide +kernel
theorem dX4_isPlace_5 : decode cX4_isPlace 5 = .ok (.ineg, 1) := by decide +kernel
theorem dX4_isPlace_6 : decode cX4_isPlace 6 = .ok (.aload_n 0, 1) := by decide +kernel
theorem dX4_isPlace_7 : decode cX4_isPlace 7 = .ok (.getfield 75, 3) := by decide +kernel
theorem dX4_isPlace_10 : decode cX4_isPlace 10 = .ok (.invokestatic 82, 3) := by decide +kernel
theorem dX4_isPlace_13 : decode cX4_isPlace 13 = .ok (.ireturn, 1) := by decide +kernel
theorem dX4_in_0 : decode cX4_in 0 = .ok (.iload_n 0, 1) := by decide +kernel
theorem dX4_in_1 : decode cX4_in 1 = .ok (.iload_n 1, 1) := by decide +kernel
theorem dX4_in_2 : decode cX4_in 2 = .ok (.if_icmp .lt 12, 3) := by decide +kernel
theorem dX4_in_5 : decode cX4_in 5 = .ok (.iload_n 0, 1) := by decide +kernel
theorem dX4_in_6 : decode cX4_in 6 = .ok (.iload_n 2, 1) := by decide +kernel
theorem dX4_in_7 : decode cX4_in 7 = .ok (.if_icmp .gt 7, 3) := by decide +kernel
theorem dX4_in_10 : decode cX4_in 10 = .ok (.iconst 1, 1) := by decide +kernel
theorem dX4_in_11 : decode cX4_in 11 = .ok (.goto 4, 3) := by decide +kernel
theorem dX4_in_14 : decode cX4_in 14 = .ok (.iconst 0, 1) := by decide +kernel
theorem dX4_in_15 : decode cX4_in 15 = .ok (.ireturn, 1) := by decide +kernel
theorem dX4_kind_0 : decode cX4_kind 0 = .ok (.aload_n 0, 1) := by decide +kernel
theorem dX4_kind_1 : decode cX4_kind 1 = .ok (.aload_n 0, 1) := by decide +kernel
theorem dX4_kind_2 : decode cX4_kind 2 = .ok (.iload_n 1, 1) := by decide +kernel
theorem dX4_kind_3 : decode cX4_kind 3 = .ok (.invokevirtual 96, 3) := by decide +kernel
theorem dX4_kind_6 : decode cX4_kind 6 = .ok (.ifCond .eq 27, 3) := by decide +kernel
theorem dX4_kind_9 : decode cX4_kind 9 = .ok (.iload_n 2, 1) := by decide +kernel
theorem dX4_kind_10 : decode cX4_kind 10 = .ok (.iconst 0, 1) := by decide +kernel
theorem dX4_kind_11 : decode cX4_kind 11 = .ok (.iconst 2, 1) := by decide +kernel
theorem dX4_kind_12 : decode cX4_kind 12 = .ok (.invokestatic 82, 3) := by decide +kernel
theorem dX4_kind_15 : decode cX4_kind 15 = .ok (.ifCond .eq 18, 3) := by decide +kernel
theorem dX4_kind_18 : decode cX4_kind 18 = .ok (.iload_n 3, 1) := by decide +kernel
theorem dX4_kind_19 : decode cX4_kind 19 = .ok (.iconst 0, 1) := by decide +kernel
theorem dX4_kind_20 : decode cX4_kind 20 = .ok (.sipush 1000, 3) := by decide +kernel
theorem dX4_kind_23 : decode cX4_kind 23 = .ok (.invokestatic 82, 3) := by decide +kernel
theorem dX4_kind_26 : decode cX4_kind 26 = .ok (.ifCond .eq 7, 3) := by decide +kernel
theorem dX4_kind_29 : decode cX4_kind 29 = .ok (.iconst 0, 1) := by decide +kernel
theorem dX4_kind_30 : decode cX4_kind 30 = .ok (.goto 4, 3) := by decide +kernel
theorem dX4_kind_33 : decode cX4_kind 33 = .ok (.iconst 1, 1) := by decide +kernel
theorem dX4_kind_34 : decode cX4_kind 34 = .ok (.putfield 79, 3) := by decide +kernel
theorem dX4_kind_37 : decode cX4_kind 37 = .ok (.aload_n 0, 1) := by decide +kernel
theorem dX4_kind_38 : decode cX4_kind 38 = .ok (.getfield 79, 3) := by decide +kernel
theorem dX4_kind_41 : decode cX4_kind 41 = .ok (.ifCond .le 5, 3) := by decide +kernel
theorem dX4_kind_44 : decode cX4_kind 44 = .ok (.iconst 0, 1) := by decide +kernel
theorem dX4_kind_45 : decode cX4_kind 45 = .ok (.ireturn, 1) := by decide +kernel
theorem dX4_kind_46 : decode cX4_kind 46 = .ok (.aload_n 0, 1) := by decide +kernel
theorem dX4_kind_47 : decode cX4_kind 47 = .ok (.getfield 13, 3) := by decide +kernel
theorem dX4_kind_50 : decode cX4_kind 50 = .ok (.iload_n 1, 1) := by decide +kernel
theorem dX4_kind_51 : decode cX4_kind 51 = .ok (.iaload, 1) := by decide +kernel
theorem dX4_kind_52 : decode cX4_kind 52 = .ok (.istore 4, 2) := by decide +kernel
theorem dX4_kind_54 : decode cX4_kind 54 = .ok (.aload_n 0, 1) := by decide +kernel
theorem dX4_kind_55 : decode cX4_kind 55 = .ok (.getfield 13, 3) := by decide +kernel
theorem dX4_kind_58 : decode cX4_kind 58 = .ok (.iload_n 1, 1) := by decide +kernel
theorem dX4_kind_59 : decode cX4_kind 59 = .ok (.iload_n 2, 1) := by decide +kernel
theorem dX4_kind_60 : decode cX4_kind 60 = .ok (.iastore, 1) := by decide +kernel
theorem dX4_kind_61 : decode cX4_kind 61 = .ok (.aload_n 0, 1) := by decide +kernel
theorem dX4_kind_62 : decode cX4_kind 62 = .ok (.getfield 16, 3) := by decide +kernel
theorem dX4_kind_65 : decode cX4_kind 65 = .ok (.iload_n 1, 1) := by decide +kernel
theorem dX4_kind_66 : decode cX4_kind 66 = .ok (.iload_n 3, 1) := by decide +kernel
theorem dX4_kind_67 : decode cX4_kind 67 = .ok (.iastore, 1) := by decide +kernel
theorem dX4_kind_68 : decode cX4_kind 68 = .ok (.iload 4, 2) := by decide +kernel
theorem dX4_kind_70 : decode cX4_kind 70 = .ok (.ireturn, 1) := by decide +kernel
theorem dX4_isBox_0 : decode cX4_isBox 0 = .ok (.iload_n 1, 1) := by decide +kernel
theorem dX4_isBox_1 : decode cX4_isBox 1 = .ok (.iconst 0, 1) := by decide +kernel
theorem dX4_isBox_2 : decode cX4_isBox 2 = .ok (.aload_n 0, 1) := by decide +kernel
theorem dX4_isBox_3 : decode cX4_isBox 3 = .ok (.getfield 90, 3) := by decide +kernel
theorem dX4_isBox_6 : decode cX4_isBox 6 = .ok (.iconst 1, 1) := by decide +kernel
theorem dX4_isBox_7 : decode cX4_isBox 7 = .ok (.isub, 1) := by decide +kernel
theorem dX4_isBox_8 : decode cX4_isBox 8 = .ok (.invokestatic 82, 3) := by decide +kernel
theorem dX4_isBox_11 : decode cX4_isBox 11 = .ok (.ireturn, 1) := by decide +kernel
theorem dX4_off_0 : decode cX4_off 0 = .ok (.aload_n 0, 1) := by decide +kernel
theorem dX4_off_1 : decode cX4_off 1 = .ok (.aload_n 0, 1) := by decide +kernel
theorem dX4_off_2 : decode cX4_off 2 = .ok (.iload_n 1, 1) := by decide +kernel
theorem dX4_off_3 : decode cX4_off 3 = .ok (.invokevirtual 96, 3) := by decide +kernel
theorem dX4_off_6 : decode cX4_off 6 = .ok (.ifCond .eq 7, 3) := by decide +kernel
theorem dX4_off_9 : decode cX4_off 9 = .ok (.iconst 0, 1) := by decide +kernel
theorem dX4_off_10 : decode cX4_off 10 = .ok (.goto 4, 3) := by decide +kernel
theorem dX4_off_13 : decode cX4_off 13 = .ok (.iconst 1, 1) := by decide +kernel
theorem dX4_off_14 : decode cX4_off 14 = .ok (.putfield 79, 3) := by decide +kernel
theorem dX4_off_17 : decode cX4_off 17 = .ok (.aload_n 0, 1) := by decide +kernel
theorem dX4_off_18 : decode cX4_off 18 = .ok (.getfield 79, 3) := by decide +kernel
theorem dX4_off_21 : decode cX4_off 21 = .ok (.ifCond .le 5, 3) := by decide +kernel
theorem dX4_off_24 : decode cX4_off 24 = .ok (.iconst 0, 1) := by decide +kernel
theorem dX4_off_25 : decode cX4_off 25 = .ok (.ireturn, 1) := by decide +kernel
theorem dX4_off_26 : decode cX4_off 26 = .ok (.aload_n 0, 1) := by decide +kernel
theorem dX4_off_27 : decode cX4_off 27 = .ok (.getfield 19, 3) := by decide +kernel
theorem dX4_off_30 : decode cX4_off 30 = .ok (.iload_n 1, 1) := by decide +kernel
theorem dX4_off_31 : decode cX4_off 31 = .ok (.baload, 1) := by decide +kernel
theorem dX4_off_32 : decode cX4_off 32 = .ok (.istore_n 3, 1) := by decide +kernel
theorem dX4_off_33 : decode cX4_off 33 = .ok (.aload_n 0, 1) := by decide +kernel
theorem dX4_off_34 : decode cX4_off 34 = .ok (.getfield 19, 3) := by decide +kernel
theorem dX4_off_37 : decode cX4_off 37 = .ok (.iload_n 1, 1) := by decide +kernel
theorem dX4_off_38 : decode cX4_off 38 = .ok (.iload_n 2, 1) := by decide +kernel
theorem dX4_off_39 : decode cX4_off 39 = .ok (.bastore, 1) := by decide +kernel
theorem dX4_off_40 : decode cX4_off 40 = .ok (.iload_n 3, 1) := by decide +kernel
theorem dX4_off_41 : decode cX4_off 41 = .ok (.ireturn, 1) := by decide +kernel
theorem dX4_ray_0 : decode cX4_ray 0 = .ok (.aload_n 0, 1) := by decide +kernel
theorem dX4_ray_1 : decode cX4_ray 1 = .ok (.aload_n 0, 1) := by decide +kernel
theorem dX4_ray_2 : decode cX4_ray 2 = .ok (.iload_n 1, 1) := by decide +kernel
theorem dX4_ray_3 : decode cX4_ray 3 = .ok (.iload_n 2, 1) := by decide +kernel
theorem dX4_ray_4 : decode cX4_ray 4 = .ok (.iload_n 3, 1) := by decide +kernel
theorem dX4_ray_5 : decode cX4_ray 5 = .ok (.invokevirtual 93, 3) := by decide +kernel
theorem dX4_ray_8 : decode cX4_ray 8 = .ok (.ifCond .eq 19, 3) := by decide +kernel
theorem dX4_ray_11 : decode cX4_ray 11 = .ok (.iload 4, 2) := by decide +kernel
theorem dX4_ray_13 : decode cX4_ray 13 = .ok (.iload 5, 2) := by decide +kernel
theorem dX4_ray_15 : decode cX4_ray 15 = .ok (.iload 6, 2) := by decide +kernel
theorem dX4_ray_17 : decode cX4_ray 17 = .ok (.invokestatic 156, 3) := by decide +kernel
theorem dX4_ray_20 : decode cX4_ray 20 = .ok (.ifCond .eq 7, 3) := by decide +kernel
theorem dX4_ray_23 : decode cX4_ray 23 = .ok (.iconst 0, 1) := by decide +kernel
theorem dX4_ray_24 : decode cX4_ray 24 = .ok (.goto 4, 3) := by decide +kernel
theorem dX4_ray_27 : decode cX4_ray 27 = .ok (.iconst 1, 1) := by decide +kernel
theorem dX4_ray_28 : decode cX4_ray 28 = .ok (.putfield 79, 3) := by decide +kernel
theorem dX4_ray_31 : decode cX4_ray 31 = .ok (.aload_n 0, 1) := by decide +kernel
theorem dX4_ray_32 : decode cX4_ray 32 = .ok (.getfield 79, 3) := by decide +kernel
theorem dX4_ray_35 : decode cX4_ray 35 = .ok (.ifCond .le 5, 3) := by decide +kernel
theorem dX4_ray_38 : decode cX4_ray 38 = .ok (.iconst 0, 1) := by decide +kernel
theorem dX4_ray_39 : decode cX4_ray 39 = .ok (.ireturn, 1) := by decide +kernel
theorem dX4_ray_40 : decode cX4_ray 40 = .ok (.aload_n 0, 1) := by decide +kernel
theorem dX4_ray_41 : decode cX4_ray 41 = .ok (.iload_n 1, 1) := by decide +kernel
theorem dX4_ray_42 : decode cX4_ray 42 = .ok (.iload_n 2, 1) := by decide +kernel
theorem dX4_ray_43 : decode cX4_ray 43 = .ok (.iload_n 3, 1) := by decide +kernel
theorem dX4_ray_44 : decode cX4_ray 44 = .ok (.iload 4, 2) := by decide +kernel
theorem dX4_ray_46 : decode cX4_ray 46 = .ok (.iload 5, 2) := by decide +kernel
theorem dX4_ray_48 : decode cX4_ray 48 = .ok (.iload 6, 2) := by decide +kernel
theorem dX4_ray_50 : decode cX4_ray 50 = .ok (.invokevirtual 159, 3) := by decide +kernel
theorem dX4_ray_53 : decode cX4_ray 53 = .ok (.istore 7, 2) := by decide +kernel
theorem dX4_ray_55 : decode cX4_ray 55 = .ok (.aload_n 0, 1) := by decide +kernel
theorem dX4_ray_56 : decode cX4_ray 56 = .ok (.iconst 1, 1) := by decide +kernel
theorem dX4_ray_57 : decode cX4_ray 57 = .ok (.putfield 163, 3) := by decide +kernel
theorem dX4_ray_60 : decode cX4_ray 60 = .ok (.aload_n 0, 1) := by decide +kernel
theorem dX4_ray_61 : decode cX4_ray 61 = .ok (.aload_n 0, 1) := by decide +kernel
theorem dX4_ray_62 : decode cX4_ray 62 = .ok (.getfield 134, 3) := by decide +kernel
theorem dX4_ray_65 : decode cX4_ray 65 = .ok (.putfield 167, 3) := by decide +kernel
theorem dX4_ray_68 : decode cX4_ray 68 = .ok (.aload_n 0, 1) := by decide +kernel
theorem dX4_ray_69 : decode cX4_ray 69 = .ok (.aload_n 0, 1) := by decide +kernel
theorem dX4_ray_70 : decode cX4_ray 70 = .ok (.getfield 138, 3) := by decide +kernel
theorem dX4_ray_73 : decode cX4_ray 73 = .ok (.putfield 170, 3) := by decide +kernel
theorem dX4_ray_76 : decode cX4_ray 76 = .ok (.iconst 0, 1) := by decide +kernel
theorem dX4_ray_77 : decode cX4_ray 77 = .ok (.istore 8, 2) := by decide +kernel
theorem dX4_ray_79 : decode cX4_ray 79 = .ok (.iload 8, 2) := by decide +kernel
theorem dX4_ray_81 : decode cX4_ray 81 = .ok (.iconst 3, 1) := by decide +kernel
theorem dX4_ray_82 : decode cX4_ray 82 = .ok (.if_icmp .ge 23, 3) := by decide +kernel
theorem dX4_ray_85 : decode cX4_ray 85 = .ok (.aload_n 0, 1) := by decide +kernel
theorem dX4_ray_86 : decode cX4_ray 86 = .ok (.getfield 51, 3) := by decide +kernel
theorem dX4_ray_89 : decode cX4_ray 89 = .ok (.iload 8, 2) := by decide +kernel
theorem dX4_ray_91 : decode cX4_ray 91 = .ok (.aload_n 0, 1) := by decide +kernel
theorem dX4_ray_92 : decode cX4_ray 92 = .ok (.getfield 26, 3) := by decide +kernel
theorem dX4_ray_95 : decode cX4_ray 95 = .ok (.iload 8, 2) := by decide +kernel
theorem dX4_ray_97 : decode cX4_ray 97 = .ok (.iaload, 1) := by decide +kernel
theorem dX4_ray_98 : decode cX4_ray 98 = .ok (.iastore, 1) := by decide +kernel
theorem dX4_ray_99 : decode cX4_ray 99 = .ok (.iinc 8 1, 3) := by decide +kernel
theorem dX4_ray_102 : decode cX4_ray 102 = .ok (.goto (-23), 3) := by decide +kernel
theorem dX4_ray_105 : decode cX4_ray 105 = .ok (.iconst 0, 1) := by decide +kernel
theorem dX4_ray_106 : decode cX4_ray 106 = .ok (.istore 8, 2) := by decide +kernel
theorem dX4_ray_108 : decode cX4_ray 108 = .ok (.iload 8, 2) := by decide +kernel
theorem dX4_ray_110 : decode cX4_ray 110 = .ok (.aload_n 0, 1) := by decide +kernel
theorem dX4_ray_111 : decode cX4_ray 111 = .ok (.getfield 134, 3) := by decide +kernel
theorem dX4_ray_114 : decode cX4_ray 114 = .ok (.if_icmp .ge 65, 3) := by decide +kernel
theorem dX4_ray_117 : decode cX4_ray 117 = .ok (.aload_n 0, 1) := by decide +kernel
theorem dX4_ray_118 : decode cX4_ray 118 = .ok (.getfield 54, 3) := by decide +kernel
theorem dX4_ray_121 : decode cX4_ray 121 = .ok (.iload 8, 2) := by decide +kernel
theorem dX4_ray_123 : decode cX4_ray 123 = .ok (.aload_n 0, 1) := by decide +kernel
theorem dX4_ray_124 : decode cX4_ray 124 = .ok (.getfield 35, 3) := by decide +kernel
theorem dX4_ray_127 : decode cX4_ray 127 = .ok (.iload 8, 2) := by decide +kernel
theorem dX4_ray_129 : decode cX4_ray 129 = .ok (.iaload, 1) := by decide +kernel
theorem dX4_ray_130 : decode cX4_ray 130 = .ok (.iastore, 1) := by decide +kernel
theorem dX4_ray_131 : decode cX4_ray 131 = .ok (.aload_n 0, 1) := by decide +kernel
theorem dX4_ray_132 : decode cX4_ray 132 = .ok (.getfield 57, 3) := by decide +kernel
theorem dX4_ray_135 : decode cX4_ray 135 = .ok (.iload 8, 2) := by decide +kernel
theorem dX4_ray_137 : decode cX4_ray 137 = .ok (.aload_n 0, 1) := by decide +kernel
theorem dX4_ray_138 : decode cX4_ray 138 = .ok (.getfield 38, 3) := by decide +kernel
theorem dX4_ray_141 : decode cX4_ray 141 = .ok (.iload 8, 2) := by decide +kernel
theorem dX4_ray_143 : decode cX4_ray 143 = .ok (.iaload, 1) := by decide +kernel
theorem dX4_ray_144 : decode cX4_ray 144 = .ok (.iastore, 1) := by decide +kernel
theorem dX4_ray_145 : decode cX4_ray 145 = .ok (.aload_n 0, 1) := by decide +kernel
theorem dX4_ray_146 : decode cX4_ray 146 = .ok (.getfield 60, 3) := by decide +kernel
theorem dX4_ray_149 : decode cX4_ray 149 = .ok (.iload 8, 2) := by decide +kernel
theorem dX4_ray_151 : decode cX4_ray 151 = .ok (.aload_n 0, 1) := by decide +kernel
theorem dX4_ray_152 : decode cX4_ray 152 = .ok (.getfield 41, 3) := by decide +kernel
theorem dX4_ray_155 : decode cX4_ray 155 = .ok (.iload 8, 2) := by decide +kernel
theorem dX4_ray_157 : decode cX4_ray 157 = .ok (.laload, 1) := by decide +kernel
theorem dX4_ray_158 : decode cX4_ray 158 = .ok (.lastore, 1) := by decide +kernel
theorem dX4_ray_159 : decode cX4_ray 159 = .ok (.aload_n 0, 1) := by decide +kernel
theorem dX4_ray_160 : decode cX4_ray 160 = .ok (.getfield 63, 3) := by decide +kernel
theorem dX4_ray_163 : decode cX4_ray 163 = .ok (.iload 8, 2) := by decide +kernel
theorem dX4_ray_165 : decode cX4_ray 165 = .ok (.aload_n 0, 1) := by decide +kernel
theorem dX4_ray_166 : decode cX4_ray 166 = .ok (.getfield 45, 3) := by decide +kernel
theorem dX4_ray_169 : decode cX4_ray 169 = .ok (.iload 8, 2) := by decide +kernel
theorem dX4_ray_171 : decode cX4_ray 171 = .ok (.laload, 1) := by decide +kernel
theorem dX4_ray_172 : decode cX4_ray 172 = .ok (.lastore, 1) := by decide +kernel
theorem dX4_ray_173 : decode cX4_ray 173 = .ok (.iinc 8 1, 3) := by decide +kernel
theorem dX4_ray_176 : decode cX4_ray 176 = .ok (.goto (-68), 3) := by decide +kernel
theorem dX4_ray_179 : decode cX4_ray 179 = .ok (.iconst 0, 1) := by decide +kernel
theorem dX4_ray_180 : decode cX4_ray 180 = .ok (.istore 8, 2) := by decide +kernel
theorem dX4_ray_182 : decode cX4_ray 182 = .ok (.iload 8, 2) := by decide +kernel
theorem dX4_ray_184 : decode cX4_ray 184 = .ok (.iconst 3, 1) := by decide +kernel
theorem dX4_ray_185 : decode cX4_ray 185 = .ok (.aload_n 0, 1) := by decide +kernel
theorem dX4_ray_186 : decode cX4_ray 186 = .ok (.getfield 134, 3) := by decide +kernel
theorem dX4_ray_189 : decode cX4_ray 189 = .ok (.imul, 1) := by decide +kernel
theorem dX4_ray_190 : decode cX4_ray 190 = .ok (.if_icmp .ge 23, 3) := by decide +kernel
theorem dX4_ray_193 : decode cX4_ray 193 = .ok (.aload_n 0, 1) := by decide +kernel
theorem dX4_ray_194 : decode cX4_ray 194 = .ok (.getfield 66, 3) := by decide +kernel
theorem dX4_ray_197 : decode cX4_ray 197 = .ok (.iload 8, 2) := by decide +kernel
theorem dX4_ray_199 : decode cX4_ray 199 = .ok (.aload_n 0, 1) := by decide +kernel
theorem dX4_ray_200 : decode cX4_ray 200 = .ok (.getfield 48, 3) := by decide +kernel
theorem dX4_ray_203 : decode cX4_ray 203 = .ok (.iload 8, 2) := by decide +kernel
theorem dX4_ray_205 : decode cX4_ray 205 = .ok (.laload, 1) := by decide +kernel
theorem dX4_ray_206 : decode cX4_ray 206 = .ok (.lastore, 1) := by decide +kernel
theorem dX4_ray_207 : decode cX4_ray 207 = .ok (.iinc 8 1, 3) := by decide +kernel
theorem dX4_ray_210 : decode cX4_ray 210 = .ok (.goto (-28), 3) := by decide +kernel
theorem dX4_ray_213 : decode cX4_ray 213 = .ok (.iload 7, 2) := by decide +kernel
theorem dX4_ray_215 : decode cX4_ray 215 = .ok (.ireturn, 1) := by decide +kernel
end
section
theorem dX4_isDirection_0 : decode cX4_isDirection 0 = .ok (.iload_n 0, 1) := by decide +kernel
theorem dX4_isDirection_1 : decode cX4_isDirection 1 = .ok (.bipush (-100), 2) := by decide +kernel
theorem dX4_isDirection_3 : decode cX4_isDirection 3 = .ok (.bipush 100, 2) := by decide +kernel
theorem dX4_isDirection_5 : decode cX4_isDirection 5 = .ok (.invokestatic 82, 3) := by decide +kernel
theorem dX4_isDirection_8 : decode cX4_isDirection 8 = .ok (.ifCond .eq 41, 3) := by decide +kernel
theorem dX4_isDirection_11 : decode cX4_isDirection 11 = .ok (.iload_n 1, 1) := by decide +kernel
theorem dX4_isDirection_12 : decode cX4_isDirection 12 = .ok (.bipush (-100), 2) := by decide +kernel
theorem dX4_isDirection_14 : decode cX4_isDirection 14 = .ok (.bipush 100, 2) := by decide +kernel
theorem dX4_isDirection_16 : decode cX4_isDirection 16 = .ok (.invokestatic 82, 3) := by decide +kernel
theorem dX4_isDirection_19 : decode cX4_isDirection 19 = .ok (.ifCond .eq 30, 3) := by decide +kernel
theorem dX4_isDirection_22 : decode cX4_isDirection 22 = .ok (.iload_n 2, 1) := by decide +kernel
theorem dX4_isDirection_23 : decode cX4_isDirection 23 = .ok (.bipush (-100), 2) := by decide +kernel
theorem dX4_isDirection_25 : decode cX4_isDirection 25 = .ok (.bipush 100, 2) := by decide +kernel
theorem dX4_isDirection_27 : decode cX4_isDirection 27 = .ok (.invokestatic 82, 3) := by decide +kernel
theorem dX4_isDirection_30 : decode cX4_isDirection 30 = .ok (.ifCond .eq 19, 3) := by decide +kernel
theorem dX4_isDirection_33 : decode cX4_isDirection 33 = .ok (.iload_n 0, 1) := by decide +kernel
theorem dX4_isDirection_34 : decode cX4_isDirection 34 = .ok (.ifCond .ne 11, 3) := by decide +kernel
theorem dX4_isDirection_37 : decode cX4_isDirection 37 = .ok (.iload_n 1, 1) := by decide +kernel
theorem dX4_isDirection_38 : decode cX4_isDirection 38 = .ok (.ifCond .ne 7, 3) := by decide +kernel
theorem dX4_isDirection_41 : decode cX4_isDirection 41 = .ok (.iload_n 2, 1) := by decide +kernel
theorem dX4_isDirection_42 : decode cX4_isDirection 42 = .ok (.ifCond .eq 7, 3) := by decide +kernel
theorem dX4_isDirection_45 : decode cX4_isDirection 45 = .ok (.iconst 1, 1) := by decide +kernel
theorem dX4_isDirection_46 : decode cX4_isDirection 46 = .ok (.goto 4, 3) := by decide +kernel
theorem dX4_isDirection_49 : decode cX4_isDirection 49 = .ok (.iconst 0, 1) := by decide +kernel
theorem dX4_isDirection_50 : decode cX4_isDirection 50 = .ok (.ireturn, 1) := by decide +kernel
theorem dX4_go_0 : decode cX4_go 0 = .ok (.aload_n 0, 1) := by decide +kernel
theorem dX4_go_1 : decode cX4_go 1 = .ok (.getfield 23, 3) := by decide +kernel
theorem dX4_go_4 : decode cX4_go 4 = .ok (.iconst 0, 1) := by decide +kernel
theorem dX4_go_5 : decode cX4_go 5 = .ok (.iload_n 1, 1) := by decide +kernel
theorem dX4_go_6 : decode cX4_go 6 = .ok (.iastore, 1) := by decide +kernel
theorem dX4_go_7 : decode cX4_go 7 = .ok (.aload_n 0, 1) := by decide +kernel
theorem dX4_go_8 : decode cX4_go 8 = .ok (.getfield 23, 3) := by decide +kernel
theorem dX4_go_11 : decode cX4_go 11 = .ok (.iconst 1, 1) := by decide +kernel
theorem dX4_go_12 : decode cX4_go 12 = .ok (.iload_n 2, 1) := by decide +kernel
theorem dX4_go_13 : decode cX4_go 13 = .ok (.iastore, 1) := by decide +kernel
theorem dX4_go_14 : decode cX4_go 14 = .ok (.aload_n 0, 1) := by decide +kernel
theorem dX4_go_15 : decode cX4_go 15 = .ok (.getfield 23, 3) := by decide +kernel
theorem dX4_go_18 : decode cX4_go 18 = .ok (.iconst 2, 1) := by decide +kernel
theorem dX4_go_19 : decode cX4_go 19 = .ok (.iload_n 3, 1) := by decide +kernel
theorem dX4_go_20 : decode cX4_go 20 = .ok (.iastore, 1) := by decide +kernel
theorem dX4_go_21 : decode cX4_go 21 = .ok (.aload_n 0, 1) := by decide +kernel
theorem dX4_go_22 : decode cX4_go 22 = .ok (.getfield 26, 3) := by decide +kernel
theorem dX4_go_25 : decode cX4_go 25 = .ok (.iconst 0, 1) := by decide +kernel
theorem dX4_go_26 : decode cX4_go 26 = .ok (.iload 4, 2) := by decide +kernel
theorem dX4_go_28 : decode cX4_go 28 = .ok (.iastore, 1) := by decide +kernel
theorem dX4_go_29 : decode cX4_go 29 = .ok (.aload_n 0, 1) := by decide +kernel
theorem dX4_go_30 : decode cX4_go 30 = .ok (.getfield 26, 3) := by decide +kernel
theorem dX4_go_33 : decode cX4_go 33 = .ok (.iconst 1, 1) := by decide +kernel
theorem dX4_go_34 : decode cX4_go 34 = .ok (.iload 5, 2) := by decide +kernel
theorem dX4_go_36 : decode cX4_go 36 = .ok (.iastore, 1) := by decide +kernel
theorem dX4_go_37 : decode cX4_go 37 = .ok (.aload_n 0, 1) := by decide +kernel
theorem dX4_go_38 : decode cX4_go 38 = .ok (.getfield 26, 3) := by decide +kernel
theorem dX4_go_41 : decode cX4_go 41 = .ok (.iconst 2, 1) := by decide +kernel
theorem dX4_go_42 : decode cX4_go 42 = .ok (.iload 6, 2) := by decide +kernel
theorem dX4_go_44 : decode cX4_go 44 = .ok (.iastore, 1) := by decide +kernel
theorem dX4_go_45 : decode cX4_go 45 = .ok (.aload_n 0, 1) := by decide +kernel
theorem dX4_go_46 : decode cX4_go 46 = .ok (.ldc 137, 2) := by decide +kernel
theorem dX4_go_48 : decode cX4_go 48 = .ok (.putfield 138, 3) := by decide +kernel
theorem dX4_go_51 : decode cX4_go 51 = .ok (.aload_n 0, 1) := by decide +kernel
theorem dX4_go_52 : decode cX4_go 52 = .ok (.iconst 0, 1) := by decide +kernel
theorem dX4_go_53 : decode cX4_go 53 = .ok (.putfield 134, 3) := by decide +kernel
theorem dX4_go_56 : decode cX4_go 56 = .ok (.aload_n 0, 1) := by decide +kernel
theorem dX4_go_57 : decode cX4_go 57 = .ok (.lconst 0, 1) := by decide +kernel
theorem dX4_go_58 : decode cX4_go 58 = .ok (.putfield 115, 3) := by decide +kernel
theorem dX4_go_61 : decode cX4_go 61 = .ok (.aload_n 0, 1) := by decide +kernel
theorem dX4_go_62 : decode cX4_go 62 = .ok (.lconst 1, 1) := by decide +kernel
theorem dX4_go_63 : decode cX4_go 63 = .ok (.putfield 122, 3) := by decide +kernel
theorem dX4_go_66 : decode cX4_go 66 = .ok (.aload_n 0, 1) := by decide +kernel
theorem dX4_go_67 : decode cX4_go 67 = .ok (.iconst (-1), 1) := by decide +kernel
theorem dX4_go_68 : decode cX4_go 68 = .ok (.putfield 125, 3) := by decide +kernel
theorem dX4_go_71 : decode cX4_go 71 = .ok (.aload_n 0, 1) := by decide +kernel
theorem dX4_go_72 : decode cX4_go 72 = .ok (.invokevirtual 141, 3) := by decide +kernel
theorem dX4_go_75 : decode cX4_go 75 = .ok (.ifCond .eq 5, 3) := by decide +kernel
theorem dX4_go_78 : decode cX4_go 78 = .ok (.iconst 1, 1) := by decide +kernel
theorem dX4_go_79 : decode cX4_go 79 = .ok (.ireturn, 1) := by decide +kernel
theorem dX4_go_80 : decode cX4_go 80 = .ok (.aload_n 0, 1) := by decide +kernel
theorem dX4_go_81 : decode cX4_go 81 = .ok (.invokevirtual 145, 3) := by decide +kernel
theorem dX4_go_84 : decode cX4_go 84 = .ok (.istore 7, 2) := by decide +kernel
theorem dX4_go_86 : decode cX4_go 86 = .ok (.iload 7, 2) := by decide +kernel
theorem dX4_go_88 : decode cX4_go 88 = .ok (.iconst (-1), 1) := by decide +kernel
theorem dX4_go_89 : decode cX4_go 89 = .ok (.if_icmp .ne 5, 3) := by decide +kernel
theorem dX4_go_92 : decode cX4_go 92 = .ok (.iconst 0, 1) := by decide +kernel
theorem dX4_go_93 : decode cX4_go 93 = .ok (.ireturn, 1) := by decide +kernel
theorem dX4_go_94 : decode cX4_go 94 = .ok (.aload_n 0, 1) := by decide +kernel
theorem dX4_go_95 : decode cX4_go 95 = .ok (.iload 7, 2) := by decide +kernel
theorem dX4_go_97 : decode cX4_go 97 = .ok (.invokevirtual 149, 3) := by decide +kernel
theorem dX4_go_100 : decode cX4_go 100 = .ok (.aload_n 0, 1) := by decide +kernel
theorem dX4_go_101 : decode cX4_go 101 = .ok (.getfield 13, 3) := by decide +kernel
theorem dX4_go_104 : decode cX4_go 104 = .ok (.iload 7, 2) := by decide +kernel
theorem dX4_go_106 : decode cX4_go 106 = .ok (.iaload, 1) := by decide +kernel
theorem dX4_go_107 : decode cX4_go 107 = .ok (.ifCond .ne 5, 3) := by decide +kernel
theorem dX4_go_110 : decode cX4_go 110 = .ok (.iconst 1, 1) := by decide +kernel
theorem dX4_go_111 : decode cX4_go 111 = .ok (.ireturn, 1) := by decide +kernel
theorem dX4_go_112 : decode cX4_go 112 = .ok (.aload_n 0, 1) := by decide +kernel
theorem dX4_go_113 : decode cX4_go 113 = .ok (.invokevirtual 153, 3) := by decide +kernel
theorem dX4_go_116 : decode cX4_go 116 = .ok (.aload_n 0, 1) := by decide +kernel
theorem dX4_go_117 : decode cX4_go 117 = .ok (.iload 7, 2) := by decide +kernel
theorem dX4_go_119 : decode cX4_go 119 = .ok (.putfield 125, 3) := by decide +kernel
theorem dX4_go_122 : decode cX4_go 122 = .ok (.aload_n 0, 1) := by decide +kernel
theorem dX4_go_123 : decode cX4_go 123 = .ok (.aload_n 0, 1) := by decide +kernel
theorem dX4_go_124 : decode cX4_go 124 = .ok (.getfield 138, 3) := by decide +kernel
theorem dX4_go_127 : decode cX4_go 127 = .ok (.aload_n 0, 1) := by decide +kernel
theorem dX4_go_128 : decode cX4_go 128 = .ok (.getfield 16, 3) := by decide +kernel
theorem dX4_go_131 : decode cX4_go 131 = .ok (.iload 7, 2) := by decide +kernel
theorem dX4_go_133 : decode cX4_go 133 = .ok (.iaload, 1) := by decide +kernel
theorem dX4_go_134 : decode cX4_go 134 = .ok (.imul, 1) := by decide +kernel
theorem dX4_go_135 : decode cX4_go 135 = .ok (.sipush 1000, 3) := by decide +kernel
theorem dX4_go_138 : decode cX4_go 138 = .ok (.idiv, 1) := by decide +kernel
theorem dX4_go_139 : decode cX4_go 139 = .ok (.putfield 138, 3) := by decide +kernel
theorem dX4_go_142 : decode cX4_go 142 = .ok (.aload_n 0, 1) := by decide +kernel
theorem dX4_go_143 : decode cX4_go 143 = .ok (.getfield 13, 3) := by decide +kernel
theorem dX4_go_146 : decode cX4_go 146 = .ok (.iload 7, 2) := by decide +kernel
theorem dX4_go_148 : decode cX4_go 148 = .ok (.iaload, 1) := by decide +kernel
theorem dX4_go_149 : decode cX4_go 149 = .ok (.iconst 1, 1) := by decide +kernel
theorem dX4_go_150 : decode cX4_go 150 = .ok (.if_icmp .ne 94, 3) := by decide +kernel
theorem dX4_go_153 : decode cX4_go 153 = .ok (.aload_n 0, 1) := by decide +kernel
theorem dX4_go_154 : decode cX4_go 154 = .ok (.getfield 26, 3) := by decide +kernel
theorem dX4_go_157 : decode cX4_go 157 = .ok (.aload_n 0, 1) := by decide +kernel
theorem dX4_go_158 : decode cX4_go 158 = .ok (.getfield 99, 3) := by decide +kernel
theorem dX4_go_161 : decode cX4_go 161 = .ok (.iaload, 1) := by decide +kernel
theorem dX4_go_162 : decode cX4_go 162 = .ok (.ifCond .le 21, 3) := by decide +kernel
theorem dX4_go_165 : decode cX4_go 165 = .ok (.aload_n 0, 1) := by decide +kernel
theorem dX4_go_166 : decode cX4_go 166 = .ok (.getfield 7, 3) := by decide +kernel
theorem dX4_go_169 : decode cX4_go 169 = .ok (.bipush 6, 2) := by decide +kernel
theorem dX4_go_171 : decode cX4_go 171 = .ok (.iload 7, 2) := by decide +kernel
theorem dX4_go_173 : decode cX4_go 173 = .ok (.imul, 1) := by decide +kernel
theorem dX4_go_174 : decode cX4_go 174 = .ok (.aload_n 0, 1) := by decide +kernel
theorem dX4_go_175 : decode cX4_go 175 = .ok (.getfield 99, 3) := by decide +kernel
theorem dX4_go_178 : decode cX4_go 178 = .ok (.iadd, 1) := by decide +kernel
theorem dX4_go_179 : decode cX4_go 179 = .ok (.iaload, 1) := by decide +kernel
theorem dX4_go_180 : decode cX4_go 180 = .ok (.goto 20, 3) := by decide +kernel
theorem dX4_go_183 : decode cX4_go 183 = .ok (.aload_n 0, 1) := by decide +kernel
theorem dX4_go_184 : decode cX4_go 184 = .ok (.getfield 7, 3) := by decide +kernel
theorem dX4_go_187 : decode cX4_go 187 = .ok (.bipush 6, 2) := by decide +kernel
theorem dX4_go_189 : decode cX4_go 189 = .ok (.iload 7, 2) := by decide +kernel
theorem dX4_go_191 : decode cX4_go 191 = .ok (.imul, 1) := by decide +kernel
theorem dX4_go_192 : decode cX4_go 192 = .ok (.iconst 3, 1) := by decide +kernel
theorem dX4_go_193 : decode cX4_go 193 = .ok (.iadd, 1) := by decide +kernel
theorem dX4_go_194 : decode cX4_go 194 = .ok (.aload_n 0, 1) := by decide +kernel
theorem dX4_go_195 : decode cX4_go 195 = .ok (.getfield 99, 3) := by decide +kernel
theorem dX4_go_198 : decode cX4_go 198 = .ok (.iadd, 1) := by decide +kernel
theorem dX4_go_199 : decode cX4_go 199 = .ok (.iaload, 1) := by decide +kernel
theorem dX4_go_200 : decode cX4_go 200 = .ok (.istore 8, 2) := by decide +kernel
theorem dX4_go_202 : decode cX4_go 202 = .ok (.aload_n 0, 1) := by decide +kernel
theorem dX4_go_203 : decode cX4_go 203 = .ok (.getfield 23, 3) := by decide +kernel
theorem dX4_go_206 : decode cX4_go 206 = .ok (.aload_n 0, 1) := by decide +kernel
theorem dX4_go_207 : decode cX4_go 207 = .ok (.getfield 99, 3) := by decide +kernel
theorem dX4_go_210 : decode cX4_go 210 = .ok (.iconst 2, 1) := by decide +kernel
theorem dX4_go_211 : decode cX4_go 211 = .ok (.iload 8, 2) := by decide +kernel
theorem dX4_go_213 : decode cX4_go 213 = .ok (.imul, 1) := by decide +kernel
theorem dX4_go_214 : decode cX4_go 214 = .ok (.aload_n 0, 1) := by decide +kernel
theorem dX4_go_215 : decode cX4_go 215 = .ok (.getfield 23, 3) := by decide +kernel
theorem dX4_go_218 : decode cX4_go 218 = .ok (.aload_n 0, 1) := by decide +kernel
theorem dX4_go_219 : decode cX4_go 219 = .ok (.getfield 99, 3) := by decide +kernel
theorem dX4_go_222 : decode cX4_go 222 = .ok (.iaload, 1) := by decide +kernel
theorem dX4_go_223 : decode cX4_go 223 = .ok (.isub, 1) := by decide +kernel
theorem dX4_go_224 : decode cX4_go 224 = .ok (.iastore, 1) := by decide +kernel
theorem dX4_go_225 : decode cX4_go 225 = .ok (.aload_n 0, 1) := by decide +kernel
theorem dX4_go_226 : decode cX4_go 226 = .ok (.getfield 26, 3) := by decide +kernel
theorem dX4_go_229 : decode cX4_go 229 = .ok (.aload_n 0, 1) := by decide +kernel
theorem dX4_go_230 : decode cX4_go 230 = .ok (.getfield 99, 3) := by decide +kernel
theorem dX4_go_233 : decode cX4_go 233 = .ok (.aload_n 0, 1) := by decide +kernel
theorem dX4_go_234 : decode cX4_go 234 = .ok (.getfield 26, 3) := by decide +kernel
theorem dX4_go_237 : decode cX4_go 237 = .ok (.aload_n 0, 1) := by decide +kernel
theorem dX4_go_238 : decode cX4_go 238 = .ok (.getfield 99, 3) := by decide +kernel
theorem dX4_go_241 : decode cX4_go 241 = .ok (.iaload, 1) := by decide +kernel
theorem dX4_go_242 : decode cX4_go 242 = .ok (.ineg, 1) := by decide +kernel
theorem dX4_go_243 : decode cX4_go 243 = .ok (.iastore, 1) := by decide +kernel
theorem dX4_go_244 : decode cX4_go 244 = .ok (.aload_n 0, 1) := by decide +kernel
theorem dX4_go_245 : decode cX4_go 245 = .ok (.getfield 138, 3) := by decide +kernel
theorem dX4_go_248 : decode cX4_go 248 = .ok (.ifCond .eq 12, 3) := by decide +kernel
theorem dX4_go_251 : decode cX4_go 251 = .ok (.aload_n 0, 1) := by decide +kernel
theorem dX4_go_252 : decode cX4_go 252 = .ok (.getfield 134, 3) := by decide +kernel
theorem dX4_go_255 : decode cX4_go 255 = .ok (.bipush 30, 2) := by decide +kernel
theorem dX4_go_257 : decode cX4_go 257 = .ok (.if_icmp .ne 5, 3) := by decide +kernel
theorem dX4_go_260 : decode cX4_go 260 = .ok (.iconst 2, 1) := by decide +kernel
theorem dX4_go_261 : decode cX4_go 261 = .ok (.ireturn, 1) := by decide +kernel
theorem dX4_go_262 : decode cX4_go 262 = .ok (.goto (-182), 3) := by decide +kernel
theorem dX4_isInSolid_0 : decode cX4_isInSolid 0 = .ok (.iconst 0, 1) := by decide +kernel
theorem dX4_isInSolid_1 : decode cX4_isInSolid 1 = .ok (.istore_n 1, 1) := by decide +kernel
theorem dX4_isInSolid_2 : decode cX4_isInSolid 2 = .ok (.iload_n 1, 1) := by decide +kernel
theorem dX4_isInSolid_3 : decode cX4_isInSolid 3 = .ok (.aload_n 0, 1) := by decide +kernel
theorem dX4_isInSolid_4 : decode cX4_isInSolid 4 = .ok (.getfield 90, 3) := by decide +kernel
theorem dX4_isInSolid_7 : decode cX4_isInSolid 7 = .ok (.if_icmp .ge 104, 3) := by decide +kernel
theorem dX4_isInSolid_10 : decode cX4_isInSolid 10 = .ok (.aload_n 0, 1) := by decide +kernel
theorem dX4_isInSolid_11 : decode cX4_isInSolid 11 = .ok (.getfield 19, 3) := by decide +kernel
theorem dX4_isInSolid_14 : decode cX4_isInSolid 14 = .ok (.iload_n 1, 1) := by decide +kernel
theorem dX4_isInSolid_15 : decode cX4_isInSolid 15 = .ok (.baload, 1) := by decide +kernel
theorem dX4_isInSolid_16 : decode cX4_isInSolid 16 = .ok (.ifCond .ne 16, 3) := by decide +kernel
theorem dX4_isInSolid_19 : decode cX4_isInSolid 19 = .ok (.aload_n 0, 1) := by decide +kernel
theorem dX4_isInSolid_20 : decode cX4_isInSolid 20 = .ok (.getfield 13, 3) := by decide +kernel
theorem dX4_isInSolid_23 : decode cX4_isInSolid 23 = .ok (.iload_n 1, 1) := by decide +kernel
theorem dX4_isInSolid_24 : decode cX4_isInSolid 24 = .ok (.iaload, 1) := by decide +kernel
theorem dX4_isInSolid_25 : decode cX4_isInSolid 25 = .ok (.ifCond .ne 7, 3) := by decide +kernel
theorem dX4_isInSolid_28 : decode cX4_isInSolid 28 = .ok (.iconst 1, 1) := by decide +kernel
theorem dX4_isInSolid_29 : decode cX4_isInSolid 29 = .ok (.goto 4, 3) := by decide +kernel
theorem dX4_isInSolid_32 : decode cX4_isInSolid 32 = .ok (.iconst 0, 1) := by decide +kernel
theorem dX4_isInSolid_33 : decode cX4_isInSolid 33 = .ok (.istore_n 2, 1) := by decide +kernel
theorem dX4_isInSolid_34 : decode cX4_isInSolid 34 = .ok (.iconst 0, 1) := by decide +kernel
theorem dX4_isInSolid_35 : decode cX4_isInSolid 35 = .ok (.istore_n 3, 1) := by decide +kernel
theorem dX4_isInSolid_36 : decode cX4_isInSolid 36 = .ok (.iload_n 3, 1) := by decide +kernel
theorem dX4_isInSolid_37 : decode cX4_isInSolid 37 = .ok (.iconst 3, 1) := by decide +kernel
theorem dX4_isInSolid_38 : decode cX4_isInSolid 38 = .ok (.if_icmp .ge 61, 3) := by decide +kernel
theorem dX4_isInSolid_41 : decode cX4_isInSolid 41 = .ok (.iload_n 2, 1) := by decide +kernel
theorem dX4_isInSolid_42 : decode cX4_isInSolid 42 = .ok (.ifCond .eq 49, 3) := by decide +kernel
theorem dX4_isInSolid_45 : decode cX4_isInSolid 45 = .ok (.aload_n 0, 1) := by decide +kernel
theorem dX4_isInSolid_46 : decode cX4_isInSolid 46 = .ok (.getfield 23, 3) := by decide +kernel
theorem dX4_isInSolid_49 : decode cX4_isInSolid 49 = .ok (.iload_n 3, 1) := by decide +kernel
theorem dX4_isInSolid_50 : decode cX4_isInSolid 50 = .ok (.iaload, 1) := by decide +kernel
theorem dX4_isInSolid_51 : decode cX4_isInSolid 51 = .ok (.aload_n 0, 1) := by decide +kernel
theorem dX4_isInSolid_52 : decode cX4_isInSolid 52 = .ok (.getfield 7, 3) := by decide +kernel
theorem dX4_isInSolid_55 : decode cX4_isInSolid 55 = .ok (.bipush 6, 2) := by decide +kernel
theorem dX4_isInSolid_57 : decode cX4_isInSolid 57 = .ok (.iload_n 1, 1) := by decide +kernel
theorem dX4_isInSolid_58 : decode cX4_isInSolid 58 = .ok (.imul, 1) := by decide +kernel
theorem dX4_isInSolid_59 : decode cX4_isInSolid 59 = .ok (.iload_n 3, 1) := by decide +kernel
theorem dX4_isInSolid_60 : decode cX4_isInSolid 60 = .ok (.iadd, 1) := by decide +kernel
theorem dX4_isInSolid_61 : decode cX4_isInSolid 61 = .ok (.iaload, 1) := by decide +kernel
theorem dX4_isInSolid_62 : decode cX4_isInSolid 62 = .ok (.if_icmp .le 29, 3) := by decide +kernel
theorem dX4_isInSolid_65 : decode cX4_isInSolid 65 = .ok (.aload_n 0, 1) := by decide +kernel
theorem dX4_isInSolid_66 : decode cX4_isInSolid 66 = .ok (.getfield 23, 3) := by decide +kernel
theorem dX4_isInSolid_69 : decode cX4_isInSolid 69 = .ok (.iload_n 3, 1) := by decide +kernel
theorem dX4_isInSolid_70 : decode cX4_isInSolid 70 = .ok (.iaload, 1) := by decide +kernel
theorem dX4_isInSolid_71 : decode cX4_isInSolid 71 = .ok (.aload_n 0, 1) := by decide +kernel
theorem dX4_isInSolid_72 : decode cX4_isInSolid 72 = .ok (.getfield 7, 3) := by decide +kernel
theorem dX4_isInSolid_75 : decode cX4_isInSolid 75 = .ok (.bipush 6, 2) := by decide +kernel
theorem dX4_isInSolid_77 : decode cX4_isInSolid 77 = .ok (.iload_n 1, 1) := by decide +kernel
theorem dX4_isInSolid_78 : decode cX4_isInSolid 78 = .ok (.imul, 1) := by decide +kernel
theorem dX4_isInSolid_79 : decode cX4_isInSolid 79 = .ok (.iconst 3, 1) := by decide +kernel
theorem dX4_isInSolid_80 : decode cX4_isInSolid 80 = .ok (.iadd, 1) := by decide +kernel
theorem dX4_isInSolid_81 : decode cX4_isInSolid 81 = .ok (.iload_n 3, 1) := by decide +kernel
theorem dX4_isInSolid_82 : decode cX4_isInSolid 82 = .ok (.iadd, 1) := by decide +kernel
theorem dX4_isInSolid_83 : decode cX4_isInSolid 83 = .ok (.iaload, 1) := by decide +kernel
theorem dX4_isInSolid_84 : decode cX4_isInSolid 84 = .ok (.if_icmp .ge 7, 3) := by decide +kernel
theorem dX4_isInSolid_87 : decode cX4_isInSolid 87 = .ok (.iconst 1, 1) := by decide +kernel
theorem dX4_isInSolid_88 : decode cX4_isInSolid 88 = .ok (.goto 4, 3) := by decide +kernel
theorem dX4_isInSolid_91 : decode cX4_isInSolid 91 = .ok (.iconst 0, 1) := by decide +kernel
theorem dX4_isInSolid_92 : decode cX4_isInSolid 92 = .ok (.istore_n 2, 1) := by decide +kernel
theorem dX4_isInSolid_93 : decode cX4_isInSolid 93 = .ok (.iinc 3 1, 3) := by decide +kernel
theorem dX4_isInSolid_96 : decode cX4_isInSolid 96 = .ok (.goto (-60), 3) := by decide +kernel
theorem dX4_isInSolid_99 : decode cX4_isInSolid 99 = .ok (.iload_n 2, 1) := by decide +kernel
theorem dX4_isInSolid_100 : decode cX4_isInSolid 100 = .ok (.ifCond .eq 5, 3) := by decide +kernel
theorem dX4_isInSolid_103 : decode cX4_isInSolid 103 = .ok (.iconst 1, 1) := by decide +kernel
theorem dX4_isInSolid_104 : decode cX4_isInSolid 104 = .ok (.ireturn, 1) := by decide +kernel
theorem dX4_isInSolid_105 : decode cX4_isInSolid 105 = .ok (.iinc 1 1, 3) := by decide +kernel
theorem dX4_isInSolid_108 : decode cX4_isInSolid 108 = .ok (.goto (-106), 3) := by decide +kernel
theorem dX4_isInSolid_111 : decode cX4_isInSolid 111 = .ok (.iconst 0, 1) := by decide +kernel
theorem dX4_isInSolid_112 : decode cX4_isInSolid 112 = .ok (.ireturn, 1) := by decide +kernel
theorem dX4_next_0 : decode cX4_next 0 = .ok (.iconst (-1), 1) := by decide +kernel
theorem dX4_next_1 : decode cX4_next 1 = .ok (.istore_n 1, 1) := by decide +kernel
theorem dX4_next_2 : decode cX4_next 2 = .ok (.lconst 0, 1) := by decide +kernel
theorem dX4_next_3 : decode cX4_next 3 = .ok (.lstore_n 2, 1) := by decide +kernel
theorem dX4_next_4 : decode cX4_next 4 = .ok (.lconst 1, 1) := by decide +kernel
theorem dX4_next_5 : decode cX4_next 5 = .ok (.lstore 4, 2) := by decide +kernel
theorem dX4_next_7 : decode cX4_next 7 = .ok (.iconst 0, 1) := by decide +kernel
theorem dX4_next_8 : decode cX4_next 8 = .ok (.istore 6, 2) := by decide +kernel
theorem dX4_next_10 : decode cX4_next 10 = .ok (.iconst 0, 1) := by decide +kernel
theorem dX4_next_11 : decode cX4_next 11 = .ok (.istore 7, 2) := by decide +kernel
theorem dX4_next_13 : decode cX4_next 13 = .ok (.iload 7, 2) := by decide +kernel
theorem dX4_next_15 : decode cX4_next 15 = .ok (.aload_n 0, 1) := by decide +kernel
theorem dX4_next_16 : decode cX4_next 16 = .ok (.getfield 90, 3) := by decide +kernel
theorem dX4_next_19 : decode cX4_next 19 = .ok (.if_icmp .ge 60, 3) := by decide +kernel
theorem dX4_next_22 : decode cX4_next 22 = .ok (.aload_n 0, 1) := by decide +kernel
theorem dX4_next_23 : decode cX4_next 23 = .ok (.iload 7, 2) := by decide +kernel
theorem dX4_next_25 : decode cX4_next 25 = .ok (.invokevirtual 131, 3) := by decide +kernel
theorem dX4_next_28 : decode cX4_next 28 = .ok (.ifCond .eq 45, 3) := by decide +kernel
theorem dX4_next_31 : decode cX4_next 31 = .ok (.iload_n 1, 1) := by decide +kernel
theorem dX4_next_32 : decode cX4_next 32 = .ok (.iconst (-1), 1) := by decide +kernel
theorem dX4_next_33 : decode cX4_next 33 = .ok (.if_icmp .eq 20, 3) := by decide +kernel
theorem dX4_next_36 : decode cX4_next 36 = .ok (.aload_n 0, 1) := by decide +kernel
theorem dX4_next_37 : decode cX4_next 37 = .ok (.getfield 109, 3) := by decide +kernel
theorem dX4_next_40 : decode cX4_next 40 = .ok (.lload 4, 2) := by decide +kernel
theorem dX4_next_42 : decode cX4_next 42 = .ok (.lmul, 1) := by decide +kernel
theorem dX4_next_43 : decode cX4_next 43 = .ok (.lload_n 2, 1) := by decide +kernel
theorem dX4_next_44 : decode cX4_next 44 = .ok (.aload_n 0, 1) := by decide +kernel
theorem dX4_next_45 : decode cX4_next 45 = .ok (.getfield 106, 3) := by decide +kernel
theorem dX4_next_48 : decode cX4_next 48 = .ok (.lmul, 1) := by decide +kernel
theorem dX4_next_49 : decode cX4_next 49 = .ok (.lcmp, 1) := by decide +kernel
theorem dX4_next_50 : decode cX4_next 50 = .ok (.ifCond .ge 23, 3) := by decide +kernel
theorem dX4_next_53 : decode cX4_next 53 = .ok (.iload 7, 2) := by decide +kernel
theorem dX4_next_55 : decode cX4_next 55 = .ok (.istore_n 1, 1) := by decide +kernel
theorem dX4_next_56 : decode cX4_next 56 = .ok (.aload_n 0, 1) := by decide +kernel
theorem dX4_next_57 : decode cX4_next 57 = .ok (.getfield 109, 3) := by decide +kernel
theorem dX4_next_60 : decode cX4_next 60 = .ok (.lstore_n 2, 1) := by decide +kernel
theorem dX4_next_61 : decode cX4_next 61 = .ok (.aload_n 0, 1) := by decide +kernel
theorem dX4_next_62 : decode cX4_next 62 = .ok (.getfield 106, 3) := by decide +kernel
theorem dX4_next_65 : decode cX4_next 65 = .ok (.lstore 4, 2) := by decide +kernel
theorem dX4_next_67 : decode cX4_next 67 = .ok (.aload_n 0, 1) := by decide +kernel
theorem dX4_next_68 : decode cX4_next 68 = .ok (.getfield 99, 3) := by decide +kernel
theorem dX4_next_71 : decode cX4_next 71 = .ok (.istore 6, 2) := by decide +kernel
theorem dX4_next_73 : decode cX4_next 73 = .ok (.iinc 7 1, 3) := by decide +kernel
theorem dX4_next_76 : decode cX4_next 76 = .ok (.goto (-63), 3) := by decide +kernel
theorem dX4_next_79 : decode cX4_next 79 = .ok (.aload_n 0, 1) := by decide +kernel
theorem dX4_next_80 : decode cX4_next 80 = .ok (.lload_n 2, 1) := by decide +kernel
theorem dX4_next_81 : decode cX4_next 81 = .ok (.putfield 109, 3) := by decide +kernel
theorem dX4_next_84 : decode cX4_next 84 = .ok (.aload_n 0, 1) := by decide +kernel
theorem dX4_next_85 : decode cX4_next 85 = .ok (.lload 4, 2) := by decide +kernel
theorem dX4_next_87 : decode cX4_next 87 = .ok (.putfield 106, 3) := by decide +kernel
theorem dX4_next_90 : decode cX4_next 90 = .ok (.aload_n 0, 1) := by decide +kernel
theorem dX4_next_91 : decode cX4_next 91 = .ok (.iload 6, 2) := by decide +kernel
theorem dX4_next_93 : decode cX4_next 93 = .ok (.putfield 99, 3) := by decide +kernel
theorem dX4_next_96 : decode cX4_next 96 = .ok (.iload_n 1, 1) := by decide +kernel
theorem dX4_next_97 : decode cX4_next 97 = .ok (.ireturn, 1) := by decide +kernel
theorem dX4_counts_0 : decode cX4_counts 0 = .ok (.aload_n 0, 1) := by decide +kernel
theorem dX4_counts_1 : decode cX4_counts 1 = .ok (.getfield 19, 3) := by decide +kernel
theorem dX4_counts_4 : decode cX4_counts 4 = .ok (.iload_n 1, 1) := by decide +kernel
theorem dX4_counts_5 : decode cX4_counts 5 = .ok (.baload, 1) := by decide +kernel
theorem dX4_counts_6 : decode cX4_counts 6 = .ok (.ifCond .ne 19, 3) := by decide +kernel
theorem dX4_counts_9 : decode cX4_counts 9 = .ok (.aload_n 0, 1) := by decide +kernel
theorem dX4_counts_10 : decode cX4_counts 10 = .ok (.iload_n 1, 1) := by decide +kernel
theorem dX4_counts_11 : decode cX4_counts 11 = .ok (.aload_n 0, 1) := by decide +kernel
theorem dX4_counts_12 : decode cX4_counts 12 = .ok (.getfield 23, 3) := by decide +kernel
theorem dX4_counts_15 : decode cX4_counts 15 = .ok (.aload_n 0, 1) := by decide +kernel
theorem dX4_counts_16 : decode cX4_counts 16 = .ok (.getfield 26, 3) := by decide +kernel
theorem dX4_counts_19 : decode cX4_counts 19 = .ok (.invokevirtual 118, 3) := by decide +kernel
theorem dX4_counts_22 : decode cX4_counts 22 = .ok (.ifCond .ne 5, 3) := by decide +kernel
theorem dX4_counts_25 : decode cX4_counts 25 = .ok (.iconst 0, 1) := by decide +kernel
theorem dX4_counts_26 : decode cX4_counts 26 = .ok (.ireturn, 1) := by decide +kernel
theorem dX4_counts_27 : decode cX4_counts 27 = .ok (.aload_n 0, 1) := by decide +kernel
theorem dX4_counts_28 : decode cX4_counts 28 = .ok (.getfield 109, 3) := by decide +kernel
theorem dX4_counts_31 : decode cX4_counts 31 = .ok (.aload_n 0, 1) := by decide +kernel
theorem dX4_counts_32 : decode cX4_counts 32 = .ok (.getfield 122, 3) := by decide +kernel
theorem dX4_counts_35 : decode cX4_counts 35 = .ok (.lmul, 1) := by decide +kernel
theorem dX4_counts_36 : decode cX4_counts 36 = .ok (.aload_n 0, 1) := by decide +kernel
theorem dX4_counts_37 : decode cX4_counts 37 = .ok (.getfield 115, 3) := by decide +kernel
theorem dX4_counts_40 : decode cX4_counts 40 = .ok (.aload_n 0, 1) := by decide +kernel
theorem dX4_counts_41 : decode cX4_counts 41 = .ok (.getfield 106, 3) := by decide +kernel
theorem dX4_counts_44 : decode cX4_counts 44 = .ok (.lmul, 1) := by decide +kernel
theorem dX4_counts_45 : decode cX4_counts 45 = .ok (.lsub, 1) := by decide +kernel
theorem dX4_counts_46 : decode cX4_counts 46 = .ok (.lstore_n 2, 1) := by decide +kernel
theorem dX4_counts_47 : decode cX4_counts 47 = .ok (.lload_n 2, 1) := by decide +kernel
theorem dX4_counts_48 : decode cX4_counts 48 = .ok (.lconst 0, 1) := by decide +kernel
theorem dX4_counts_49 : decode cX4_counts 49 = .ok (.lcmp, 1) := by decide +kernel
theorem dX4_counts_50 : decode cX4_counts 50 = .ok (.ifCond .eq 15, 3) := by decide +kernel
theorem dX4_counts_53 : decode cX4_counts 53 = .ok (.lload_n 2, 1) := by decide +kernel
theorem dX4_counts_54 : decode cX4_counts 54 = .ok (.lconst 0, 1) := by decide +kernel
theorem dX4_counts_55 : decode cX4_counts 55 = .ok (.lcmp, 1) := by decide +kernel
theorem dX4_counts_56 : decode cX4_counts 56 = .ok (.ifCond .le 7, 3) := by decide +kernel
theorem dX4_counts_59 : decode cX4_counts 59 = .ok (.iconst 1, 1) := by decide +kernel
theorem dX4_counts_60 : decode cX4_counts 60 = .ok (.goto 4, 3) := by decide +kernel
theorem dX4_counts_63 : decode cX4_counts 63 = .ok (.iconst 0, 1) := by decide +kernel
theorem dX4_counts_64 : decode cX4_counts 64 = .ok (.ireturn, 1) := by decide +kernel
theorem dX4_counts_65 : decode cX4_counts 65 = .ok (.aload_n 0, 1) := by decide +kernel
theorem dX4_counts_66 : decode cX4_counts 66 = .ok (.getfield 125, 3) := by decide +kernel
theorem dX4_counts_69 : decode cX4_counts 69 = .ok (.iload_n 1, 1) := by decide +kernel
theorem dX4_counts_70 : decode cX4_counts 70 = .ok (.if_icmp .ge 11, 3) := by decide +kernel
theorem dX4_counts_73 : decode cX4_counts 73 = .ok (.aload_n 0, 1) := by decide +kernel
theorem dX4_counts_74 : decode cX4_counts 74 = .ok (.iload_n 1, 1) := by decide +kernel
theorem dX4_counts_75 : decode cX4_counts 75 = .ok (.invokevirtual 128, 3) := by decide +kernel
theorem dX4_counts_78 : decode cX4_counts 78 = .ok (.ifCond .eq 5, 3) := by decide +kernel
theorem dX4_counts_81 : decode cX4_counts 81 = .ok (.iconst 0, 1) := by decide +kernel
theorem dX4_counts_82 : decode cX4_counts 82 = .ok (.ireturn, 1) := by decide +kernel
theorem dX4_counts_83 : decode cX4_counts 83 = .ok (.aload_n 0, 1) := by decide +kernel
theorem dX4_counts_84 : decode cX4_counts 84 = .ok (.iload_n 1, 1) := by decide +kernel
theorem dX4_counts_85 : decode cX4_counts 85 = .ok (.aload_n 0, 1) := by decide +kernel
theorem dX4_counts_86 : decode cX4_counts 86 = .ok (.getfield 23, 3) := by decide +kernel
theorem dX4_counts_89 : decode cX4_counts 89 = .ok (.aload_n 0, 1) := by decide +kernel
theorem dX4_counts_90 : decode cX4_counts 90 = .ok (.getfield 26, 3) := by decide +kernel
theorem dX4_counts_93 : decode cX4_counts 93 = .ok (.invokevirtual 118, 3) := by decide +kernel
theorem dX4_counts_96 : decode cX4_counts 96 = .ok (.ireturn, 1) := by decide +kernel
theorem dX4_meets_0 : decode cX4_meets 0 = .ok (.aload_n 0, 1) := by decide +kernel
theorem dX4_meets_1 : decode cX4_meets 1 = .ok (.iconst (-1), 1) := by decide +kernel
theorem dX4_meets_2 : decode cX4_meets 2 = .ok (.putfield 99, 3) := by decide +kernel
theorem dX4_meets_5 : decode cX4_meets 5 = .ok (.aload_n 0, 1) := by decide +kernel
theorem dX4_meets_6 : decode cX4_meets 6 = .ok (.lconst 0, 1) := by decide +kernel
theorem dX4_meets_7 : decode cX4_meets 7 = .ok (.putfield 102, 3) := by decide +kernel
theorem dX4_meets_10 : decode cX4_meets 10 = .ok (.iconst 0, 1) := by decide +kernel
theorem dX4_meets_11 : decode cX4_meets 11 = .ok (.istore 4, 2) := by decide +kernel
theorem dX4_meets_13 : decode cX4_meets 13 = .ok (.iload 4, 2) := by decide +kernel
theorem dX4_meets_15 : decode cX4_meets 15 = .ok (.iconst 3, 1) := by decide +kernel
theorem dX4_meets_16 : decode cX4_meets 16 = .ok (.if_icmp .ge 214, 3) := by decide +kernel
theorem dX4_meets_19 : decode cX4_meets 19 = .ok (.aload_n 0, 1) := by decide +kernel
theorem dX4_meets_20 : decode cX4_meets 20 = .ok (.getfield 7, 3) := by decide +kernel
theorem dX4_meets_23 : decode cX4_meets 23 = .ok (.bipush 6, 2) := by decide +kernel
theorem dX4_meets_25 : decode cX4_meets 25 = .ok (.iload_n 1, 1) := by decide +kernel
theorem dX4_meets_26 : decode cX4_meets 26 = .ok (.imul, 1) := by decide +kernel
theorem dX4_meets_27 : decode cX4_meets 27 = .ok (.iload 4, 2) := by decide +kernel
theorem dX4_meets_29 : decode cX4_meets 29 = .ok (.iadd, 1) := by decide +kernel
theorem dX4_meets_30 : decode cX4_meets 30 = .ok (.iaload, 1) := by decide +kernel
theorem dX4_meets_31 : decode cX4_meets 31 = .ok (.aload_n 2, 1) := by decide +kernel
theorem dX4_meets_32 : decode cX4_meets 32 = .ok (.iload 4, 2) := by decide +kernel
theorem dX4_meets_34 : decode cX4_meets 34 = .ok (.iaload, 1) := by decide +kernel
theorem dX4_meets_35 : decode cX4_meets 35 = .ok (.isub, 1) := by decide +kernel
theorem dX4_meets_36 : decode cX4_meets 36 = .ok (.i2l, 1) := by decide +kernel
theorem dX4_meets_37 : decode cX4_meets 37 = .ok (.lstore 5, 2) := by decide +kernel
theorem dX4_meets_39 : decode cX4_meets 39 = .ok (.aload_n 0, 1) := by decide +kernel
theorem dX4_meets_40 : decode cX4_meets 40 = .ok (.getfield 7, 3) := by decide +kernel
theorem dX4_meets_43 : decode cX4_meets 43 = .ok (.bipush 6, 2) := by decide +kernel
theorem dX4_meets_45 : decode cX4_meets 45 = .ok (.iload_n 1, 1) := by decide +kernel
theorem dX4_meets_46 : decode cX4_meets 46 = .ok (.imul, 1) := by decide +kernel
theorem dX4_meets_47 : decode cX4_meets 47 = .ok (.iconst 3, 1) := by decide +kernel
theorem dX4_meets_48 : decode cX4_meets 48 = .ok (.iadd, 1) := by decide +kernel
theorem dX4_meets_49 : decode cX4_meets 49 = .ok (.iload 4, 2) := by decide +kernel
theorem dX4_meets_51 : decode cX4_meets 51 = .ok (.iadd, 1) := by decide +kernel
theorem dX4_meets_52 : decode cX4_meets 52 = .ok (.iaload, 1) := by decide +kernel
theorem dX4_meets_53 : decode cX4_meets 53 = .ok (.aload_n 2, 1) := by decide +kernel
theorem dX4_meets_54 : decode cX4_meets 54 = .ok (.iload 4, 2) := by decide +kernel
theorem dX4_meets_56 : decode cX4_meets 56 = .ok (.iaload, 1) := by decide +kernel
theorem dX4_meets_57 : decode cX4_meets 57 = .ok (.isub, 1) := by decide +kernel
theorem dX4_meets_58 : decode cX4_meets 58 = .ok (.i2l, 1) := by decide +kernel
theorem dX4_meets_59 : decode cX4_meets 59 = .ok (.lstore 7, 2) := by decide +kernel
theorem dX4_meets_61 : decode cX4_meets 61 = .ok (.aload_n 3, 1) := by decide +kernel
theorem dX4_meets_62 : decode cX4_meets 62 = .ok (.iload 4, 2) := by decide +kernel
theorem dX4_meets_64 : decode cX4_meets 64 = .ok (.iaload, 1) := by decide +kernel
theorem dX4_meets_65 : decode cX4_meets 65 = .ok (.ifCond .ne 19, 3) := by decide +kernel
theorem dX4_meets_68 : decode cX4_meets 68 = .ok (.lload 5, 2) := by decide +kernel
theorem dX4_meets_70 : decode cX4_meets 70 = .ok (.lconst 0, 1) := by decide +kernel
theorem dX4_meets_71 : decode cX4_meets 71 = .ok (.lcmp, 1) := by decide +kernel
theorem dX4_meets_72 : decode cX4_meets 72 = .ok (.ifCond .ge 10, 3) := by decide +kernel
theorem dX4_meets_75 : decode cX4_meets 75 = .ok (.lload 7, 2) := by decide +kernel
theorem dX4_meets_77 : decode cX4_meets 77 = .ok (.lconst 0, 1) := by decide +kernel
theorem dX4_meets_78 : decode cX4_meets 78 = .ok (.lcmp, 1) := by decide +kernel
theorem dX4_meets_79 : decode cX4_meets 79 = .ok (.ifCond .gt 145, 3) := by decide +kernel
theorem dX4_meets_82 : decode cX4_meets 82 = .ok (.iconst 0, 1) := by decide +kernel
theorem dX4_meets_83 : decode cX4_meets 83 = .ok (.ireturn, 1) := by decide +kernel
theorem dX4_meets_84 : decode cX4_meets 84 = .ok (.aload_n 3, 1) := by decide +kernel
theorem dX4_meets_85 : decode cX4_meets 85 = .ok (.iload 4, 2) := by decide +kernel
theorem dX4_meets_87 : decode cX4_meets 87 = .ok (.iaload, 1) := by decide +kernel
theorem dX4_meets_88 : decode cX4_meets 88 = .ok (.ifCond .ge 12, 3) := by decide +kernel
theorem dX4_meets_91 : decode cX4_meets 91 = .ok (.aload_n 3, 1) := by decide +kernel
theorem dX4_meets_92 : decode cX4_meets 92 = .ok (.iload 4, 2) := by decide +kernel
theorem dX4_meets_94 : decode cX4_meets 94 = .ok (.iaload, 1) := by decide +kernel
theorem dX4_meets_95 : decode cX4_meets 95 = .ok (.ineg, 1) := by decide +kernel
theorem dX4_meets_96 : decode cX4_meets 96 = .ok (.i2l, 1) := by decide +kernel
theorem dX4_meets_97 : decode cX4_meets 97 = .ok (.goto 8, 3) := by decide +kernel
theorem dX4_meets_100 : decode cX4_meets 100 = .ok (.aload_n 3, 1) := by decide +kernel
theorem dX4_meets_101 : decode cX4_meets 101 = .ok (.iload 4, 2) := by decide +kernel
theorem dX4_meets_103 : decode cX4_meets 103 = .ok (.iaload, 1) := by decide +kernel
theorem dX4_meets_104 : decode cX4_meets 104 = .ok (.i2l, 1) := by decide +kernel
theorem dX4_meets_105 : decode cX4_meets 105 = .ok (.lstore 9, 2) := by decide +kernel
theorem dX4_meets_107 : decode cX4_meets 107 = .ok (.aload_n 3, 1) := by decide +kernel
theorem dX4_meets_108 : decode cX4_meets 108 = .ok (.iload 4, 2) := by decide +kernel
theorem dX4_meets_110 : decode cX4_meets 110 = .ok (.iaload, 1) := by decide +kernel
theorem dX4_meets_111 : decode cX4_meets 111 = .ok (.ifCond .ge 9, 3) := by decide +kernel
theorem dX4_meets_114 : decode cX4_meets 114 = .ok (.lload 7, 2) := by decide +kernel
theorem dX4_meets_116 : decode cX4_meets 116 = .ok (.lneg, 1) := by decide +kernel
theorem dX4_meets_117 : decode cX4_meets 117 = .ok (.goto 5, 3) := by decide +kernel
theorem dX4_meets_120 : decode cX4_meets 120 = .ok (.lload 5, 2) := by decide +kernel
theorem dX4_meets_122 : decode cX4_meets 122 = .ok (.lstore 11, 2) := by decide +kernel
theorem dX4_meets_124 : decode cX4_meets 124 = .ok (.aload_n 3, 1) := by decide +kernel
theorem dX4_meets_125 : decode cX4_meets 125 = .ok (.iload 4, 2) := by decide +kernel
theorem dX4_meets_127 : decode cX4_meets 127 = .ok (.iaload, 1) := by decide +kernel
theorem dX4_meets_128 : decode cX4_meets 128 = .ok (.ifCond .ge 9, 3) := by decide +kernel
theorem dX4_meets_131 : decode cX4_meets 131 = .ok (.lload 5, 2) := by decide +kernel
theorem dX4_meets_133 : decode cX4_meets 133 = .ok (.lneg, 1) := by decide +kernel
theorem dX4_meets_134 : decode cX4_meets 134 = .ok (.goto 5, 3) := by decide +kernel
theorem dX4_meets_137 : decode cX4_meets 137 = .ok (.lload 7, 2) := by decide +kernel
theorem dX4_meets_139 : decode cX4_meets 139 = .ok (.lstore 13, 2) := by decide +kernel
theorem dX4_meets_141 : decode cX4_meets 141 = .ok (.aload_n 0, 1) := by decide +kernel
theorem dX4_meets_142 : decode cX4_meets 142 = .ok (.getfield 99, 3) := by decide +kernel
theorem dX4_meets_145 : decode cX4_meets 145 = .ok (.iconst (-1), 1) := by decide +kernel
theorem dX4_meets_146 : decode cX4_meets 146 = .ok (.if_icmp .eq 21, 3) := by decide +kernel
theorem dX4_meets_149 : decode cX4_meets 149 = .ok (.lload 11, 2) := by decide +kernel
theorem dX4_meets_151 : decode cX4_meets 151 = .ok (.aload_n 0, 1) := by decide +kernel
theorem dX4_meets_152 : decode cX4_meets 152 = .ok (.getfield 106, 3) := by decide +kernel
theorem dX4_meets_155 : decode cX4_meets 155 = .ok (.lmul, 1) := by decide +kernel
theorem dX4_meets_156 : decode cX4_meets 156 = .ok (.aload_n 0, 1) := by decide +kernel
theorem dX4_meets_157 : decode cX4_meets 157 = .ok (.getfield 109, 3) := by decide +kernel
theorem dX4_meets_160 : decode cX4_meets 160 = .ok (.lload 9, 2) := by decide +kernel
theorem dX4_meets_162 : decode cX4_meets 162 = .ok (.lmul, 1) := by decide +kernel
theorem dX4_meets_163 : decode cX4_meets 163 = .ok (.lcmp, 1) := by decide +kernel
theorem dX4_meets_164 : decode cX4_meets 164 = .ok (.ifCond .le 21, 3) := by decide +kernel
theorem dX4_meets_167 : decode cX4_meets 167 = .ok (.aload_n 0, 1) := by decide +kernel
theorem dX4_meets_168 : decode cX4_meets 168 = .ok (.iload 4, 2) := by decide +kernel
theorem dX4_meets_170 : decode cX4_meets 170 = .ok (.putfield 99, 3) := by decide +kernel
theorem dX4_meets_173 : decode cX4_meets 173 = .ok (.aload_n 0, 1) := by decide +kernel
theorem dX4_meets_174 : decode cX4_meets 174 = .ok (.lload 11, 2) := by decide +kernel
theorem dX4_meets_176 : decode cX4_meets 176 = .ok (.putfield 109, 3) := by decide +kernel
theorem dX4_meets_179 : decode cX4_meets 179 = .ok (.aload_n 0, 1) := by decide +kernel
theorem dX4_meets_180 : decode cX4_meets 180 = .ok (.lload 9, 2) := by decide +kernel
theorem dX4_meets_182 : decode cX4_meets 182 = .ok (.putfield 106, 3) := by decide +kernel
theorem dX4_meets_185 : decode cX4_meets 185 = .ok (.aload_n 0, 1) := by decide +kernel
theorem dX4_meets_186 : decode cX4_meets 186 = .ok (.getfield 102, 3) := by decide +kernel
theorem dX4_meets_189 : decode cX4_meets 189 = .ok (.lconst 0, 1) := by decide +kernel
theorem dX4_meets_190 : decode cX4_meets 190 = .ok (.lcmp, 1) := by decide +kernel
theorem dX4_meets_191 : decode cX4_meets 191 = .ok (.ifCond .eq 21, 3) := by decide +kernel
theorem dX4_meets_194 : decode cX4_meets 194 = .ok (.lload 13, 2) := by decide +kernel
theorem dX4_meets_196 : decode cX4_meets 196 = .ok (.aload_n 0, 1) := by decide +kernel
theorem dX4_meets_197 : decode cX4_meets 197 = .ok (.getfield 102, 3) := by decide +kernel
theorem dX4_meets_200 : decode cX4_meets 200 = .ok (.lmul, 1) := by decide +kernel
theorem dX4_meets_201 : decode cX4_meets 201 = .ok (.aload_n 0, 1) := by decide +kernel
theorem dX4_meets_202 : decode cX4_meets 202 = .ok (.getfield 112, 3) := by decide +kernel
theorem dX4_meets_205 : decode cX4_meets 205 = .ok (.lload 9, 2) := by decide +kernel
theorem dX4_meets_207 : decode cX4_meets 207 = .ok (.lmul, 1) := by decide +kernel
theorem dX4_meets_208 : decode cX4_meets 208 = .ok (.lcmp, 1) := by decide +kernel
theorem dX4_meets_209 : decode cX4_meets 209 = .ok (.ifCond .ge 15, 3) := by decide +kernel
theorem dX4_meets_212 : decode cX4_meets 212 = .ok (.aload_n 0, 1) := by decide +kernel
theorem dX4_meets_213 : decode cX4_meets 213 = .ok (.lload 13, 2) := by decide +kernel
theorem dX4_meets_215 : decode cX4_meets 215 = .ok (.putfield 112, 3) := by decide +kernel
theorem dX4_meets_218 : decode cX4_meets 218 = .ok (.aload_n 0, 1) := by decide +kernel
theorem dX4_meets_219 : decode cX4_meets 219 = .ok (.lload 9, 2) := by decide +kernel
theorem dX4_meets_221 : decode cX4_meets 221 = .ok (.putfield 102, 3) := by decide +kernel
theorem dX4_meets_224 : decode cX4_meets 224 = .ok (.iinc 4 1, 3) := by decide +kernel
theorem dX4_meets_227 : decode cX4_meets 227 = .ok (.goto (-214), 3) := by decide +kernel
theorem dX4_meets_230 : decode cX4_meets 230 = .ok (.aload_n 0, 1) := by decide +kernel
theorem dX4_meets_231 : decode cX4_meets 231 = .ok (.getfield 109, 3) := by decide +kernel
theorem dX4_meets_234 : decode cX4_meets 234 = .ok (.aload_n 0, 1) := by decide +kernel
theorem dX4_meets_235 : decode cX4_meets 235 = .ok (.getfield 102, 3) := by decide +kernel
theorem dX4_meets_238 : decode cX4_meets 238 = .ok (.lmul, 1) := by decide +kernel
theorem dX4_meets_239 : decode cX4_meets 239 = .ok (.aload_n 0, 1) := by decide +kernel
theorem dX4_meets_240 : decode cX4_meets 240 = .ok (.getfield 112, 3) := by decide +kernel
theorem dX4_meets_243 : decode cX4_meets 243 = .ok (.aload_n 0, 1) := by decide +kernel
theorem dX4_meets_244 : decode cX4_meets 244 = .ok (.getfield 106, 3) := by decide +kernel
theorem dX4_meets_247 : decode cX4_meets 247 = .ok (.lmul, 1) := by decide +kernel
theorem dX4_meets_248 : decode cX4_meets 248 = .ok (.lcmp, 1) := by decide +kernel
theorem dX4_meets_249 : decode cX4_meets 249 = .ok (.ifCond .ge 7, 3) := by decide +kernel
theorem dX4_meets_252 : decode cX4_meets 252 = .ok (.iconst 1, 1) := by decide +kernel
theorem dX4_meets_253 : decode cX4_meets 253 = .ok (.goto 4, 3) := by decide +kernel
theorem dX4_meets_256 : decode cX4_meets 256 = .ok (.iconst 0, 1) := by decide +kernel
theorem dX4_meets_257 : decode cX4_meets 257 = .ok (.ireturn, 1) := by decide +kernel
theorem dX4_wasIn_0 : decode cX4_wasIn 0 = .ok (.aload_n 0, 1) := by decide +kernel
theorem dX4_wasIn_1 : decode cX4_wasIn 1 = .ok (.getfield 115, 3) := by decide +kernel
theorem dX4_wasIn_4 : decode cX4_wasIn 4 = .ok (.lconst 0, 1) := by decide +kernel
theorem dX4_wasIn_5 : decode cX4_wasIn 5 = .ok (.lcmp, 1) := by decide +kernel
theorem dX4_wasIn_6 : decode cX4_wasIn 6 = .ok (.ifCond .ne 5, 3) := by decide +kernel
theorem dX4_wasIn_9 : decode cX4_wasIn 9 = .ok (.iconst 0, 1) := by decide +kernel
theorem dX4_wasIn_10 : decode cX4_wasIn 10 = .ok (.ireturn, 1) := by decide +kernel
theorem dX4_wasIn_11 : decode cX4_wasIn 11 = .ok (.aload_n 0, 1) := by decide +kernel
theorem dX4_wasIn_12 : decode cX4_wasIn 12 = .ok (.iload_n 1, 1) := by decide +kernel
theorem dX4_wasIn_13 : decode cX4_wasIn 13 = .ok (.aload_n 0, 1) := by decide +kernel
theorem dX4_wasIn_14 : decode cX4_wasIn 14 = .ok (.getfield 29, 3) := by decide +kernel
theorem dX4_wasIn_17 : decode cX4_wasIn 17 = .ok (.aload_n 0, 1) := by decide +kernel
theorem dX4_wasIn_18 : decode cX4_wasIn 18 = .ok (.getfield 32, 3) := by decide +kernel
theorem dX4_wasIn_21 : decode cX4_wasIn 21 = .ok (.invokevirtual 118, 3) := by decide +kernel
theorem dX4_wasIn_24 : decode cX4_wasIn 24 = .ok (.ifCond .eq 51, 3) := by decide +kernel
theorem dX4_wasIn_27 : decode cX4_wasIn 27 = .ok (.aload_n 0, 1) := by decide +kernel
theorem dX4_wasIn_28 : decode cX4_wasIn 28 = .ok (.getfield 109, 3) := by decide +kernel
theorem dX4_wasIn_31 : decode cX4_wasIn 31 = .ok (.aload_n 0, 1) := by decide +kernel
theorem dX4_wasIn_32 : decode cX4_wasIn 32 = .ok (.getfield 122, 3) := by decide +kernel
theorem dX4_wasIn_35 : decode cX4_wasIn 35 = .ok (.lmul, 1) := by decide +kernel
theorem dX4_wasIn_36 : decode cX4_wasIn 36 = .ok (.aload_n 0, 1) := by decide +kernel
theorem dX4_wasIn_37 : decode cX4_wasIn 37 = .ok (.getfield 115, 3) := by decide +kernel
theorem dX4_wasIn_40 : decode cX4_wasIn 40 = .ok (.aload_n 0, 1) := by decide +kernel
theorem dX4_wasIn_41 : decode cX4_wasIn 41 = .ok (.getfield 106, 3) := by decide +kernel
theorem dX4_wasIn_44 : decode cX4_wasIn 44 = .ok (.lmul, 1) := by decide +kernel
theorem dX4_wasIn_45 : decode cX4_wasIn 45 = .ok (.lcmp, 1) := by decide +kernel
theorem dX4_wasIn_46 : decode cX4_wasIn 46 = .ok (.ifCond .ge 29, 3) := by decide +kernel
theorem dX4_wasIn_49 : decode cX4_wasIn 49 = .ok (.aload_n 0, 1) := by decide +kernel
theorem dX4_wasIn_50 : decode cX4_wasIn 50 = .ok (.getfield 112, 3) := by decide +kernel
theorem dX4_wasIn_53 : decode cX4_wasIn 53 = .ok (.aload_n 0, 1) := by decide +kernel
theorem dX4_wasIn_54 : decode cX4_wasIn 54 = .ok (.getfield 122, 3) := by decide +kernel
theorem dX4_wasIn_57 : decode cX4_wasIn 57 = .ok (.lmul, 1) := by decide +kernel
theorem dX4_wasIn_58 : decode cX4_wasIn 58 = .ok (.aload_n 0, 1) := by decide +kernel
theorem dX4_wasIn_59 : decode cX4_wasIn 59 = .ok (.getfield 115, 3) := by decide +kernel
theorem dX4_wasIn_62 : decode cX4_wasIn 62 = .ok (.aload_n 0, 1) := by decide +kernel
theorem dX4_wasIn_63 : decode cX4_wasIn 63 = .ok (.getfield 102, 3) := by decide +kernel
theorem dX4_wasIn_66 : decode cX4_wasIn 66 = .ok (.lmul, 1) := by decide +kernel
theorem dX4_wasIn_67 : decode cX4_wasIn 67 = .ok (.lcmp, 1) := by decide +kernel
theorem dX4_wasIn_68 : decode cX4_wasIn 68 = .ok (.ifCond .lt 7, 3) := by decide +kernel
theorem dX4_wasIn_71 : decode cX4_wasIn 71 = .ok (.iconst 1, 1) := by decide +kernel
theorem dX4_wasIn_72 : decode cX4_wasIn 72 = .ok (.goto 4, 3) := by decide +kernel
theorem dX4_wasIn_75 : decode cX4_wasIn 75 = .ok (.iconst 0, 1) := by decide +kernel
theorem dX4_wasIn_76 : decode cX4_wasIn 76 = .ok (.ireturn, 1) := by decide +kernel
theorem dX4_keepHit_0 : decode cX4_keepHit 0 = .ok (.aload_n 0, 1) := by decide +kernel
theorem dX4_keepHit_1 : decode cX4_keepHit 1 = .ok (.getfield 35, 3) := by decide +kernel
theorem dX4_keepHit_4 : decode cX4_keepHit 4 = .ok (.aload_n 0, 1) := by decide +kernel
theorem dX4_keepHit_5 : decode cX4_keepHit 5 = .ok (.getfield 134, 3) := by decide +kernel
theorem dX4_keepHit_8 : decode cX4_keepHit 8 = .ok (.iload_n 1, 1) := by decide +kernel
theorem dX4_keepHit_9 : decode cX4_keepHit 9 = .ok (.iastore, 1) := by decide +kernel
theorem dX4_keepHit_10 : decode cX4_keepHit 10 = .ok (.aload_n 0, 1) := by decide +kernel
theorem dX4_keepHit_11 : decode cX4_keepHit 11 = .ok (.getfield 38, 3) := by decide +kernel
theorem dX4_keepHit_14 : decode cX4_keepHit 14 = .ok (.aload_n 0, 1) := by decide +kernel
theorem dX4_keepHit_15 : decode cX4_keepHit 15 = .ok (.getfield 134, 3) := by decide +kernel
theorem dX4_keepHit_18 : decode cX4_keepHit 18 = .ok (.aload_n 0, 1) := by decide +kernel
theorem dX4_keepHit_19 : decode cX4_keepHit 19 = .ok (.getfield 99, 3) := by decide +kernel
theorem dX4_keepHit_22 : decode cX4_keepHit 22 = .ok (.iastore, 1) := by decide +kernel
theorem dX4_keepHit_23 : decode cX4_keepHit 23 = .ok (.aload_n 0, 1) := by decide +kernel
theorem dX4_keepHit_24 : decode cX4_keepHit 24 = .ok (.getfield 41, 3) := by decide +kernel
theorem dX4_keepHit_27 : decode cX4_keepHit 27 = .ok (.aload_n 0, 1) := by decide +kernel
theorem dX4_keepHit_28 : decode cX4_keepHit 28 = .ok (.getfield 134, 3) := by decide +kernel
theorem dX4_keepHit_31 : decode cX4_keepHit 31 = .ok (.aload_n 0, 1) := by decide +kernel
theorem dX4_keepHit_32 : decode cX4_keepHit 32 = .ok (.getfield 109, 3) := by decide +kernel
theorem dX4_keepHit_35 : decode cX4_keepHit 35 = .ok (.lastore, 1) := by decide +kernel
theorem dX4_keepHit_36 : decode cX4_keepHit 36 = .ok (.aload_n 0, 1) := by decide +kernel
theorem dX4_keepHit_37 : decode cX4_keepHit 37 = .ok (.getfield 45, 3) := by decide +kernel
theorem dX4_keepHit_40 : decode cX4_keepHit 40 = .ok (.aload_n 0, 1) := by decide +kernel
theorem dX4_keepHit_41 : decode cX4_keepHit 41 = .ok (.getfield 134, 3) := by decide +kernel
theorem dX4_keepHit_44 : decode cX4_keepHit 44 = .ok (.aload_n 0, 1) := by decide +kernel
theorem dX4_keepHit_45 : decode cX4_keepHit 45 = .ok (.getfield 106, 3) := by decide +kernel
theorem dX4_keepHit_48 : decode cX4_keepHit 48 = .ok (.lastore, 1) := by decide +kernel
theorem dX4_keepHit_49 : decode cX4_keepHit 49 = .ok (.iconst 0, 1) := by decide +kernel
theorem dX4_keepHit_50 : decode cX4_keepHit 50 = .ok (.istore_n 2, 1) := by decide +kernel
theorem dX4_keepHit_51 : decode cX4_keepHit 51 = .ok (.iload_n 2, 1) := by decide +kernel
theorem dX4_keepHit_52 : decode cX4_keepHit 52 = .ok (.iconst 3, 1) := by decide +kernel
theorem dX4_keepHit_53 : decode cX4_keepHit 53 = .ok (.if_icmp .ge 47, 3) := by decide +kernel
theorem dX4_keepHit_56 : decode cX4_keepHit 56 = .ok (.aload_n 0, 1) := by decide +kernel
theorem dX4_keepHit_57 : decode cX4_keepHit 57 = .ok (.getfield 48, 3) := by decide +kernel
theorem dX4_keepHit_60 : decode cX4_keepHit 60 = .ok (.iconst 3, 1) := by decide +kernel
theorem dX4_keepHit_61 : decode cX4_keepHit 61 = .ok (.aload_n 0, 1) := by decide +kernel
theorem dX4_keepHit_62 : decode cX4_keepHit 62 = .ok (.getfield 134, 3) := by decide +kernel
theorem dX4_keepHit_65 : decode cX4_keepHit 65 = .ok (.imul, 1) := by decide +kernel
theorem dX4_keepHit_66 : decode cX4_keepHit 66 = .ok (.iload_n 2, 1) := by decide +kernel
theorem dX4_keepHit_67 : decode cX4_keepHit 67 = .ok (.iadd, 1) := by decide +kernel
theorem dX4_keepHit_68 : decode cX4_keepHit 68 = .ok (.aload_n 0, 1) := by decide +kernel
theorem dX4_keepHit_69 : decode cX4_keepHit 69 = .ok (.getfield 23, 3) := by decide +kernel
theorem dX4_keepHit_72 : decode cX4_keepHit 72 = .ok (.iload_n 2, 1) := by decide +kernel
theorem dX4_keepHit_73 : decode cX4_keepHit 73 = .ok (.iaload, 1) := by decide +kernel
theorem dX4_keepHit_74 : decode cX4_keepHit 74 = .ok (.i2l, 1) := by decide +kernel
theorem dX4_keepHit_75 : decode cX4_keepHit 75 = .ok (.aload_n 0, 1) := by decide +kernel
theorem dX4_keepHit_76 : decode cX4_keepHit 76 = .ok (.getfield 106, 3) := by decide +kernel
theorem dX4_keepHit_79 : decode cX4_keepHit 79 = .ok (.lmul, 1) := by decide +kernel
theorem dX4_keepHit_80 : decode cX4_keepHit 80 = .ok (.aload_n 0, 1) := by decide +kernel
theorem dX4_keepHit_81 : decode cX4_keepHit 81 = .ok (.getfield 26, 3) := by decide +kernel
theorem dX4_keepHit_84 : decode cX4_keepHit 84 = .ok (.iload_n 2, 1) := by decide +kernel
theorem dX4_keepHit_85 : decode cX4_keepHit 85 = .ok (.iaload, 1) := by decide +kernel
theorem dX4_keepHit_86 : decode cX4_keepHit 86 = .ok (.i2l, 1) := by decide +kernel
theorem dX4_keepHit_87 : decode cX4_keepHit 87 = .ok (.aload_n 0, 1) := by decide +kernel
theorem dX4_keepHit_88 : decode cX4_keepHit 88 = .ok (.getfield 109, 3) := by decide +kernel
theorem dX4_keepHit_91 : decode cX4_keepHit 91 = .ok (.lmul, 1) := by decide +kernel
theorem dX4_keepHit_92 : decode cX4_keepHit 92 = .ok (.ladd, 1) := by decide +kernel
theorem dX4_keepHit_93 : decode cX4_keepHit 93 = .ok (.lastore, 1) := by decide +kernel
theorem dX4_keepHit_94 : decode cX4_keepHit 94 = .ok (.iinc 2 1, 3) := by decide +kernel
theorem dX4_keepHit_97 : decode cX4_keepHit 97 = .ok (.goto (-46), 3) := by decide +kernel
theorem dX4_keepHit_100 : decode cX4_keepHit 100 = .ok (.aload_n 0, 1) := by decide +kernel
theorem dX4_keepHit_101 : decode cX4_keepHit 101 = .ok (.dup, 1) := by decide +kernel
theorem dX4_keepHit_102 : decode cX4_keepHit 102 = .ok (.getfield 134, 3) := by decide +kernel
theorem dX4_keepHit_105 : decode cX4_keepHit 105 = .ok (.iconst 1, 1) := by decide +kernel
theorem dX4_keepHit_106 : decode cX4_keepHit 106 = .ok (.iadd, 1) := by decide +kernel
theorem dX4_keepHit_107 : decode cX4_keepHit 107 = .ok (.putfield 134, 3) := by decide +kernel
theorem dX4_keepHit_110 : decode cX4_keepHit 110 = .ok (.return_, 1) := by decide +kernel
theorem dX4_remember_0 : decode cX4_remember 0 = .ok (.aload_n 0, 1) := by decide +kernel
theorem dX4_remember_1 : decode cX4_remember 1 = .ok (.getfield 109, 3) := by decide +kernel
theorem dX4_remember_4 : decode cX4_remember 4 = .ok (.aload_n 0, 1) := by decide +kernel
theorem dX4_remember_5 : decode cX4_remember 5 = .ok (.getfield 122, 3) := by decide +kernel
theorem dX4_remember_8 : decode cX4_remember 8 = .ok (.lmul, 1) := by decide +kernel
theorem dX4_remember_9 : decode cX4_remember 9 = .ok (.aload_n 0, 1) := by decide +kernel
theorem dX4_remember_10 : decode cX4_remember 10 = .ok (.getfield 115, 3) := by decide +kernel
theorem dX4_remember_13 : decode cX4_remember 13 = .ok (.aload_n 0, 1) := by decide +kernel
theorem dX4_remember_14 : decode cX4_remember 14 = .ok (.getfield 106, 3) := by decide +kernel
theorem dX4_remember_17 : decode cX4_remember 17 = .ok (.lmul, 1) := by decide +kernel
theorem dX4_remember_18 : decode cX4_remember 18 = .ok (.lcmp, 1) := by decide +kernel
theorem dX4_remember_19 : decode cX4_remember 19 = .ok (.ifCond .le 7, 3) := by decide +kernel
theorem dX4_remember_22 : decode cX4_remember 22 = .ok (.iconst 1, 1) := by decide +kernel
theorem dX4_remember_23 : decode cX4_remember 23 = .ok (.goto 4, 3) := by decide +kernel
theorem dX4_remember_26 : decode cX4_remember 26 = .ok (.iconst 0, 1) := by decide +kernel
theorem dX4_remember_27 : decode cX4_remember 27 = .ok (.istore_n 1, 1) := by decide +kernel
theorem dX4_remember_28 : decode cX4_remember 28 = .ok (.iconst 0, 1) := by decide +kernel
theorem dX4_remember_29 : decode cX4_remember 29 = .ok (.istore_n 2, 1) := by decide +kernel
theorem dX4_remember_30 : decode cX4_remember 30 = .ok (.iload_n 2, 1) := by decide +kernel
theorem dX4_remember_31 : decode cX4_remember 31 = .ok (.iconst 3, 1) := by decide +kernel
theorem dX4_remember_32 : decode cX4_remember 32 = .ok (.if_icmp .ge 59, 3) := by decide +kernel
theorem dX4_remember_35 : decode cX4_remember 35 = .ok (.aload_n 0, 1) := by decide +kernel
theorem dX4_remember_36 : decode cX4_remember 36 = .ok (.getfield 29, 3) := by decide +kernel
theorem dX4_remember_39 : decode cX4_remember 39 = .ok (.iload_n 2, 1) := by decide +kernel
theorem dX4_remember_40 : decode cX4_remember 40 = .ok (.iload_n 1, 1) := by decide +kernel
theorem dX4_remember_41 : decode cX4_remember 41 = .ok (.ifCond .eq 12, 3) := by decide +kernel
theorem dX4_remember_44 : decode cX4_remember 44 = .ok (.aload_n 0, 1) := by decide +kernel
theorem dX4_remember_45 : decode cX4_remember 45 = .ok (.getfield 23, 3) := by decide +kernel
theorem dX4_remember_48 : decode cX4_remember 48 = .ok (.iload_n 2, 1) := by decide +kernel
theorem dX4_remember_49 : decode cX4_remember 49 = .ok (.iaload, 1) := by decide +kernel
theorem dX4_remember_50 : decode cX4_remember 50 = .ok (.goto 9, 3) := by decide +kernel
theorem dX4_remember_53 : decode cX4_remember 53 = .ok (.aload_n 0, 1) := by decide +kernel
theorem dX4_remember_54 : decode cX4_remember 54 = .ok (.getfield 29, 3) := by decide +kernel
theorem dX4_remember_57 : decode cX4_remember 57 = .ok (.iload_n 2, 1) := by decide +kernel
theorem dX4_remember_58 : decode cX4_remember 58 = .ok (.iaload, 1) := by decide +kernel
theorem dX4_remember_59 : decode cX4_remember 59 = .ok (.iastore, 1) := by decide +kernel
theorem dX4_remember_60 : decode cX4_remember 60 = .ok (.aload_n 0, 1) := by decide +kernel
theorem dX4_remember_61 : decode cX4_remember 61 = .ok (.getfield 32, 3) := by decide +kernel
theorem dX4_remember_64 : decode cX4_remember 64 = .ok (.iload_n 2, 1) := by decide +kernel
theorem dX4_remember_65 : decode cX4_remember 65 = .ok (.iload_n 1, 1) := by decide +kernel
theorem dX4_remember_66 : decode cX4_remember 66 = .ok (.ifCond .eq 12, 3) := by decide +kernel
theorem dX4_remember_69 : decode cX4_remember 69 = .ok (.aload_n 0, 1) := by decide +kernel
theorem dX4_remember_70 : decode cX4_remember 70 = .ok (.getfield 26, 3) := by decide +kernel
theorem dX4_remember_73 : decode cX4_remember 73 = .ok (.iload_n 2, 1) := by decide +kernel
theorem dX4_remember_74 : decode cX4_remember 74 = .ok (.iaload, 1) := by decide +kernel
theorem dX4_remember_75 : decode cX4_remember 75 = .ok (.goto 9, 3) := by decide +kernel
theorem dX4_remember_78 : decode cX4_remember 78 = .ok (.aload_n 0, 1) := by decide +kernel
theorem dX4_remember_79 : decode cX4_remember 79 = .ok (.getfield 32, 3) := by decide +kernel
theorem dX4_remember_82 : decode cX4_remember 82 = .ok (.iload_n 2, 1) := by decide +kernel
theorem dX4_remember_83 : decode cX4_remember 83 = .ok (.iaload, 1) := by decide +kernel
theorem dX4_remember_84 : decode cX4_remember 84 = .ok (.iastore, 1) := by decide +kernel
theorem dX4_remember_85 : decode cX4_remember 85 = .ok (.iinc 2 1, 3) := by decide +kernel
theorem dX4_remember_88 : decode cX4_remember 88 = .ok (.goto (-58), 3) := by decide +kernel
theorem dX4_remember_91 : decode cX4_remember 91 = .ok (.aload_n 0, 1) := by decide +kernel
theorem dX4_remember_92 : decode cX4_remember 92 = .ok (.aload_n 0, 1) := by decide +kernel
theorem dX4_remember_93 : decode cX4_remember 93 = .ok (.getfield 109, 3) := by decide +kernel
theorem dX4_remember_96 : decode cX4_remember 96 = .ok (.putfield 115, 3) := by decide +kernel
theorem dX4_remember_99 : decode cX4_remember 99 = .ok (.aload_n 0, 1) := by decide +kernel
theorem dX4_remember_100 : decode cX4_remember 100 = .ok (.aload_n 0, 1) := by decide +kernel
theorem dX4_remember_101 : decode cX4_remember 101 = .ok (.getfield 106, 3) := by decide +kernel
theorem dX4_remember_104 : decode cX4_remember 104 = .ok (.putfield 122, 3) := by decide +kernel
theorem dX4_remember_107 : decode cX4_remember 107 = .ok (.return_, 1) := by decide +kernel
theorem dX4_told_0 : decode cX4_told 0 = .ok (.aload_n 0, 1) := by decide +kernel
theorem dX4_told_1 : decode cX4_told 1 = .ok (.iload_n 1, 1) := by decide +kernel
theorem dX4_told_2 : decode cX4_told 2 = .ok (.iconst 0, 1) := by decide +kernel
theorem dX4_told_3 : decode cX4_told 3 = .ok (.iconst 4, 1) := by decide +kernel
theorem dX4_told_4 : decode cX4_told 4 = .ok (.invokestatic 82, 3) := by decide +kernel
theorem dX4_told_7 : decode cX4_told 7 = .ok (.ifCond .ne 7, 3) := by decide +kernel
theorem dX4_told_10 : decode cX4_told 10 = .ok (.iconst 1, 1) := by decide +kernel
theorem dX4_told_11 : decode cX4_told 11 = .ok (.goto 15, 3) := by decide +kernel
theorem dX4_told_14 : decode cX4_told 14 = .ok (.aload_n 0, 1) := by decide +kernel
theorem dX4_told_15 : decode cX4_told 15 = .ok (.getfield 163, 3) := by decide +kernel
theorem dX4_told_18 : decode cX4_told 18 = .ok (.ifCond .ne 7, 3) := by decide +kernel
theorem dX4_told_21 : decode cX4_told 21 = .ok (.iconst 2, 1) := by decide +kernel
theorem dX4_told_22 : decode cX4_told 22 = .ok (.goto 4, 3) := by decide +kernel
theorem dX4_told_25 : decode cX4_told 25 = .ok (.iconst 0, 1) := by decide +kernel
theorem dX4_told_26 : decode cX4_told 26 = .ok (.putfield 79, 3) := by decide +kernel
theorem dX4_told_29 : decode cX4_told 29 = .ok (.aload_n 0, 1) := by decide +kernel
theorem dX4_told_30 : decode cX4_told 30 = .ok (.getfield 79, 3) := by decide +kernel
theorem dX4_told_33 : decode cX4_told 33 = .ok (.ifCond .le 5, 3) := by decide +kernel
theorem dX4_told_36 : decode cX4_told 36 = .ok (.iconst 0, 1) := by decide +kernel
theorem dX4_told_37 : decode cX4_told 37 = .ok (.ireturn, 1) := by decide +kernel
theorem dX4_told_38 : decode cX4_told 38 = .ok (.iload_n 1, 1) := by decide +kernel
theorem dX4_told_39 : decode cX4_told 39 = .ok (.ifCond .ne 10, 3) := by decide +kernel
theorem dX4_told_42 : decode cX4_told 42 = .ok (.aload_n 0, 1) := by decide +kernel
theorem dX4_told_43 : decode cX4_told 43 = .ok (.getfield 167, 3) := by decide +kernel
theorem dX4_told_46 : decode cX4_told 46 = .ok (.goto 23, 3) := by decide +kernel
theorem dX4_told_49 : decode cX4_told 49 = .ok (.iload_n 1, 1) := by decide +kernel
theorem dX4_told_50 : decode cX4_told 50 = .ok (.iconst 1, 1) := by decide +kernel
theorem dX4_told_51 : decode cX4_told 51 = .ok (.if_icmp .ne 10, 3) := by decide +kernel
theorem dX4_told_54 : decode cX4_told 54 = .ok (.aload_n 0, 1) := by decide +kernel
theorem dX4_told_55 : decode cX4_told 55 = .ok (.getfield 170, 3) := by decide +kernel
theorem dX4_told_58 : decode cX4_told 58 = .ok (.goto 11, 3) := by decide +kernel
theorem dX4_told_61 : decode cX4_told 61 = .ok (.aload_n 0, 1) := by decide +kernel
theorem dX4_told_62 : decode cX4_told 62 = .ok (.getfield 51, 3) := by decide +kernel
theorem dX4_told_65 : decode cX4_told 65 = .ok (.iload_n 1, 1) := by decide +kernel
theorem dX4_told_66 : decode cX4_told 66 = .ok (.iconst 2, 1) := by decide +kernel
theorem dX4_told_67 : decode cX4_told 67 = .ok (.isub, 1) := by decide +kernel
theorem dX4_told_68 : decode cX4_told 68 = .ok (.iaload, 1) := by decide +kernel
theorem dX4_told_69 : decode cX4_told 69 = .ok (.ireturn, 1) := by decide +kernel
end
section
theorem dX4_hit_0 : decode cX4_hit 0 = .ok (.aload_n 0, 1) := by decide +kernel
theorem dX4_hit_1 : decode cX4_hit 1 = .ok (.iload_n 1, 1) := by decide +kernel
theorem dX4_hit_2 : decode cX4_hit 2 = .ok (.ifCond .lt 12, 3) := by decide +kernel
theorem dX4_hit_5 : decode cX4_hit 5 = .ok (.iload_n 2, 1) := by decide +kernel
theorem dX4_hit_6 : decode cX4_hit 6 = .ok (.iconst 0, 1) := by decide +kernel
theorem dX4_hit_7 : decode cX4_hit 7 = .ok (.iconst 3, 1) := by decide +kernel
theorem dX4_hit_8 : decode cX4_hit 8 = .ok (.invokestatic 82, 3) := by decide +kernel
theorem dX4_hit_11 : decode cX4_hit 11 = .ok (.ifCond .ne 7, 3) := by decide +kernel
theorem dX4_hit_14 : decode cX4_hit 14 = .ok (.iconst 1, 1) := by decide +kernel
theorem dX4_hit_15 : decode cX4_hit 15 = .ok (.goto 15, 3) := by decide +kernel
theorem dX4_hit_18 : decode cX4_hit 18 = .ok (.aload_n 0, 1) := by decide +kernel
theorem dX4_hit_19 : decode cX4_hit 19 = .ok (.getfield 163, 3) := by decide +kernel
theorem dX4_hit_22 : decode cX4_hit 22 = .ok (.ifCond .ne 7, 3) := by decide +kernel
theorem dX4_hit_25 : decode cX4_hit 25 = .ok (.iconst 2, 1) := by decide +kernel
theorem dX4_hit_26 : decode cX4_hit 26 = .ok (.goto 4, 3) := by decide +kernel
theorem dX4_hit_29 : decode cX4_hit 29 = .ok (.iconst 0, 1) := by decide +kernel
theorem dX4_hit_30 : decode cX4_hit 30 = .ok (.putfield 79, 3) := by decide +kernel
theorem dX4_hit_33 : decode cX4_hit 33 = .ok (.aload_n 0, 1) := by decide +kernel
theorem dX4_hit_34 : decode cX4_hit 34 = .ok (.getfield 79, 3) := by decide +kernel
theorem dX4_hit_37 : decode cX4_hit 37 = .ok (.ifCond .le 5, 3) := by decide +kernel
theorem dX4_hit_40 : decode cX4_hit 40 = .ok (.iconst 0, 1) := by decide +kernel
theorem dX4_hit_41 : decode cX4_hit 41 = .ok (.ireturn, 1) := by decide +kernel
theorem dX4_hit_42 : decode cX4_hit 42 = .ok (.iload_n 1, 1) := by decide +kernel
theorem dX4_hit_43 : decode cX4_hit 43 = .ok (.aload_n 0, 1) := by decide +kernel
theorem dX4_hit_44 : decode cX4_hit 44 = .ok (.getfield 167, 3) := by decide +kernel
theorem dX4_hit_47 : decode cX4_hit 47 = .ok (.if_icmp .lt 5, 3) := by decide +kernel
theorem dX4_hit_50 : decode cX4_hit 50 = .ok (.iconst (-1), 1) := by decide +kernel
theorem dX4_hit_51 : decode cX4_hit 51 = .ok (.ireturn, 1) := by decide +kernel
theorem dX4_hit_52 : decode cX4_hit 52 = .ok (.iload_n 2, 1) := by decide +kernel
theorem dX4_hit_53 : decode cX4_hit 53 = .ok (.iconst 2, 1) := by decide +kernel
theorem dX4_hit_54 : decode cX4_hit 54 = .ok (.if_icmp .ge 23, 3) := by decide +kernel
theorem dX4_hit_57 : decode cX4_hit 57 = .ok (.iload_n 2, 1) := by decide +kernel
theorem dX4_hit_58 : decode cX4_hit 58 = .ok (.ifCond .ne 12, 3) := by decide +kernel
theorem dX4_hit_61 : decode cX4_hit 61 = .ok (.aload_n 0, 1) := by decide +kernel
theorem dX4_hit_62 : decode cX4_hit 62 = .ok (.getfield 54, 3) := by decide +kernel
theorem dX4_hit_65 : decode cX4_hit 65 = .ok (.iload_n 1, 1) := by decide +kernel
theorem dX4_hit_66 : decode cX4_hit 66 = .ok (.iaload, 1) := by decide +kernel
theorem dX4_hit_67 : decode cX4_hit 67 = .ok (.goto 9, 3) := by decide +kernel
theorem dX4_hit_70 : decode cX4_hit 70 = .ok (.aload_n 0, 1) := by decide +kernel
theorem dX4_hit_71 : decode cX4_hit 71 = .ok (.getfield 57, 3) := by decide +kernel
theorem dX4_hit_74 : decode cX4_hit 74 = .ok (.iload_n 1, 1) := by decide +kernel
theorem dX4_hit_75 : decode cX4_hit 75 = .ok (.iaload, 1) := by decide +kernel
theorem dX4_hit_76 : decode cX4_hit 76 = .ok (.ireturn, 1) := by decide +kernel
theorem dX4_hit_77 : decode cX4_hit 77 = .ok (.aload_n 0, 1) := by decide +kernel
theorem dX4_hit_78 : decode cX4_hit 78 = .ok (.getfield 60, 3) := by decide +kernel
theorem dX4_hit_81 : decode cX4_hit 81 = .ok (.iload_n 1, 1) := by decide +kernel
theorem dX4_hit_82 : decode cX4_hit 82 = .ok (.laload, 1) := by decide +kernel
theorem dX4_hit_83 : decode cX4_hit 83 = .ok (.aload_n 0, 1) := by decide +kernel
theorem dX4_hit_84 : decode cX4_hit 84 = .ok (.getfield 63, 3) := by decide +kernel
theorem dX4_hit_87 : decode cX4_hit 87 = .ok (.iload_n 1, 1) := by decide +kernel
theorem dX4_hit_88 : decode cX4_hit 88 = .ok (.laload, 1) := by decide +kernel
theorem dX4_hit_89 : decode cX4_hit 89 = .ok (.invokestatic 173, 3) := by decide +kernel
theorem dX4_hit_92 : decode cX4_hit 92 = .ok (.lstore_n 3, 1) := by decide +kernel
theorem dX4_hit_93 : decode cX4_hit 93 = .ok (.iload_n 2, 1) := by decide +kernel
theorem dX4_hit_94 : decode cX4_hit 94 = .ok (.iconst 2, 1) := by decide +kernel
theorem dX4_hit_95 : decode cX4_hit 95 = .ok (.if_icmp .ne 12, 3) := by decide +kernel
theorem dX4_hit_98 : decode cX4_hit 98 = .ok (.aload_n 0, 1) := by decide +kernel
theorem dX4_hit_99 : decode cX4_hit 99 = .ok (.getfield 60, 3) := by decide +kernel
theorem dX4_hit_102 : decode cX4_hit 102 = .ok (.iload_n 1, 1) := by decide +kernel
theorem dX4_hit_103 : decode cX4_hit 103 = .ok (.laload, 1) := by decide +kernel
theorem dX4_hit_104 : decode cX4_hit 104 = .ok (.goto 9, 3) := by decide +kernel
theorem dX4_hit_107 : decode cX4_hit 107 = .ok (.aload_n 0, 1) := by decide +kernel
theorem dX4_hit_108 : decode cX4_hit 108 = .ok (.getfield 63, 3) := by decide +kernel
theorem dX4_hit_111 : decode cX4_hit 111 = .ok (.iload_n 1, 1) := by decide +kernel
theorem dX4_hit_112 : decode cX4_hit 112 = .ok (.laload, 1) := by decide +kernel
theorem dX4_hit_113 : decode cX4_hit 113 = .ok (.lload_n 3, 1) := by decide +kernel
theorem dX4_hit_114 : decode cX4_hit 114 = .ok (.ldiv, 1) := by decide +kernel
theorem dX4_hit_115 : decode cX4_hit 115 = .ok (.l2i, 1) := by decide +kernel
theorem dX4_hit_116 : decode cX4_hit 116 = .ok (.ireturn, 1) := by decide +kernel
theorem dX4_common_0 : decode cX4_common 0 = .ok (.lload_n 0, 1) := by decide +kernel
theorem dX4_common_1 : decode cX4_common 1 = .ok (.lconst 0, 1) := by decide +kernel
theorem dX4_common_2 : decode cX4_common 2 = .ok (.lcmp, 1) := by decide +kernel
theorem dX4_common_3 : decode cX4_common 3 = .ok (.ifCond .ge 8, 3) := by decide +kernel
theorem dX4_common_6 : decode cX4_common 6 = .ok (.lload_n 0, 1) := by decide +kernel
theorem dX4_common_7 : decode cX4_common 7 = .ok (.lneg, 1) := by decide +kernel
theorem dX4_common_8 : decode cX4_common 8 = .ok (.goto 4, 3) := by decide +kernel
theorem dX4_common_11 : decode cX4_common 11 = .ok (.lload_n 0, 1) := by decide +kernel
theorem dX4_common_12 : decode cX4_common 12 = .ok (.lstore 4, 2) := by decide +kernel
theorem dX4_common_14 : decode cX4_common 14 = .ok (.lload_n 2, 1) := by decide +kernel
theorem dX4_common_15 : decode cX4_common 15 = .ok (.lstore 6, 2) := by decide +kernel
theorem dX4_common_17 : decode cX4_common 17 = .ok (.lload 6, 2) := by decide +kernel
theorem dX4_common_19 : decode cX4_common 19 = .ok (.lconst 0, 1) := by decide +kernel
theorem dX4_common_20 : decode cX4_common 20 = .ok (.lcmp, 1) := by decide +kernel
theorem dX4_common_21 : decode cX4_common 21 = .ok (.ifCond .eq 21, 3) := by decide +kernel
theorem dX4_common_24 : decode cX4_common 24 = .ok (.lload 4, 2) := by decide +kernel
theorem dX4_common_26 : decode cX4_common 26 = .ok (.lload 6, 2) := by decide +kernel
theorem dX4_common_28 : decode cX4_common 28 = .ok (.lrem, 1) := by decide +kernel
theorem dX4_common_29 : decode cX4_common 29 = .ok (.lstore 8, 2) := by decide +kernel
theorem dX4_common_31 : decode cX4_common 31 = .ok (.lload 6, 2) := by decide +kernel
theorem dX4_common_33 : decode cX4_common 33 = .ok (.lstore 4, 2) := by decide +kernel
theorem dX4_common_35 : decode cX4_common 35 = .ok (.lload 8, 2) := by decide +kernel
theorem dX4_common_37 : decode cX4_common 37 = .ok (.lstore 6, 2) := by decide +kernel
theorem dX4_common_39 : decode cX4_common 39 = .ok (.goto (-22), 3) := by decide +kernel
theorem dX4_common_42 : decode cX4_common 42 = .ok (.lload 4, 2) := by decide +kernel
theorem dX4_common_44 : decode cX4_common 44 = .ok (.lreturn, 1) := by decide +kernel
theorem dX4_place_0 : decode cX4_place 0 = .ok (.aload_n 0, 1) := by decide +kernel
theorem dX4_place_1 : decode cX4_place 1 = .ok (.iload_n 1, 1) := by decide +kernel
theorem dX4_place_2 : decode cX4_place 2 = .ok (.iconst 0, 1) := by decide +kernel
theorem dX4_place_3 : decode cX4_place 3 = .ok (.aload_n 0, 1) := by decide +kernel
theorem dX4_place_4 : decode cX4_place 4 = .ok (.getfield 167, 3) := by decide +kernel
theorem dX4_place_7 : decode cX4_place 7 = .ok (.iconst 1, 1) := by decide +kernel
theorem dX4_place_8 : decode cX4_place 8 = .ok (.isub, 1) := by decide +kernel
theorem dX4_place_9 : decode cX4_place 9 = .ok (.invokestatic 82, 3) := by decide +kernel
theorem dX4_place_12 : decode cX4_place 12 = .ok (.ifCond .eq 21, 3) := by decide +kernel
theorem dX4_place_15 : decode cX4_place 15 = .ok (.iload_n 2, 1) := by decide +kernel
theorem dX4_place_16 : decode cX4_place 16 = .ok (.iconst 0, 1) := by decide +kernel
theorem dX4_place_17 : decode cX4_place 17 = .ok (.iconst 2, 1) := by decide +kernel
theorem dX4_place_18 : decode cX4_place 18 = .ok (.invokestatic 82, 3) := by decide +kernel
theorem dX4_place_21 : decode cX4_place 21 = .ok (.ifCond .eq 12, 3) := by decide +kernel
theorem dX4_place_24 : decode cX4_place 24 = .ok (.iload_n 3, 1) := by decide +kernel
theorem dX4_place_25 : decode cX4_place 25 = .ok (.iconst 0, 1) := by decide +kernel
theorem dX4_place_26 : decode cX4_place 26 = .ok (.iconst 1, 1) := by decide +kernel
theorem dX4_place_27 : decode cX4_place 27 = .ok (.invokestatic 82, 3) := by decide +kernel
theorem dX4_place_30 : decode cX4_place 30 = .ok (.ifCond .ne 7, 3) := by decide +kernel
theorem dX4_place_33 : decode cX4_place 33 = .ok (.iconst 1, 1) := by decide +kernel
theorem dX4_place_34 : decode cX4_place 34 = .ok (.goto 4, 3) := by decide +kernel
theorem dX4_place_37 : decode cX4_place 37 = .ok (.iconst 0, 1) := by decide +kernel
theorem dX4_place_38 : decode cX4_place 38 = .ok (.putfield 79, 3) := by decide +kernel
theorem dX4_place_41 : decode cX4_place 41 = .ok (.aload_n 0, 1) := by decide +kernel
theorem dX4_place_42 : decode cX4_place 42 = .ok (.getfield 79, 3) := by decide +kernel
theorem dX4_place_45 : decode cX4_place 45 = .ok (.ifCond .le 5, 3) := by decide +kernel
theorem dX4_place_48 : decode cX4_place 48 = .ok (.lconst 0, 1) := by decide +kernel
theorem dX4_place_49 : decode cX4_place 49 = .ok (.lreturn, 1) := by decide +kernel
theorem dX4_place_50 : decode cX4_place 50 = .ok (.aload_n 0, 1) := by decide +kernel
theorem dX4_place_51 : decode cX4_place 51 = .ok (.getfield 66, 3) := by decide +kernel
theorem dX4_place_54 : decode cX4_place 54 = .ok (.iconst 3, 1) := by decide +kernel
theorem dX4_place_55 : decode cX4_place 55 = .ok (.iload_n 1, 1) := by decide +kernel
theorem dX4_place_56 : decode cX4_place 56 = .ok (.imul, 1) := by decide +kernel
theorem dX4_place_57 : decode cX4_place 57 = .ok (.iload_n 2, 1) := by decide +kernel
theorem dX4_place_58 : decode cX4_place 58 = .ok (.iadd, 1) := by decide +kernel
theorem dX4_place_59 : decode cX4_place 59 = .ok (.laload, 1) := by decide +kernel
theorem dX4_place_60 : decode cX4_place 60 = .ok (.lstore 4, 2) := by decide +kernel
theorem dX4_place_62 : decode cX4_place 62 = .ok (.lload 4, 2) := by decide +kernel
theorem dX4_place_64 : decode cX4_place 64 = .ok (.aload_n 0, 1) := by decide +kernel
theorem dX4_place_65 : decode cX4_place 65 = .ok (.getfield 63, 3) := by decide +kernel
theorem dX4_place_68 : decode cX4_place 68 = .ok (.iload_n 1, 1) := by decide +kernel
theorem dX4_place_69 : decode cX4_place 69 = .ok (.laload, 1) := by decide +kernel
theorem dX4_place_70 : decode cX4_place 70 = .ok (.invokestatic 173, 3) := by decide +kernel
theorem dX4_place_73 : decode cX4_place 73 = .ok (.lstore 6, 2) := by decide +kernel
theorem dX4_place_75 : decode cX4_place 75 = .ok (.iload_n 3, 1) := by decide +kernel
theorem dX4_place_76 : decode cX4_place 76 = .ok (.ifCond .ne 8, 3) := by decide +kernel
theorem dX4_place_79 : decode cX4_place 79 = .ok (.lload 4, 2) := by decide +kernel
theorem dX4_place_81 : decode cX4_place 81 = .ok (.goto 9, 3) := by decide +kernel
theorem dX4_place_84 : decode cX4_place 84 = .ok (.aload_n 0, 1) := by decide +kernel
theorem dX4_place_85 : decode cX4_place 85 = .ok (.getfield 63, 3) := by decide +kernel
theorem dX4_place_88 : decode cX4_place 88 = .ok (.iload_n 1, 1) := by decide +kernel
theorem dX4_place_89 : decode cX4_place 89 = .ok (.laload, 1) := by decide +kernel
theorem dX4_place_90 : decode cX4_place 90 = .ok (.lload 6, 2) := by decide +kernel
theorem dX4_place_92 : decode cX4_place 92 = .ok (.ldiv, 1) := by decide +kernel
theorem dX4_place_93 : decode cX4_place 93 = .ok (.lreturn, 1) := by decide +kernel
theorem dX4_sky_0 : decode cX4_sky 0 = .ok (.aload_n 0, 1) := by decide +kernel
theorem dX4_sky_1 : decode cX4_sky 1 = .ok (.iload_n 1, 1) := by decide +kernel
theorem dX4_sky_2 : decode cX4_sky 2 = .ok (.iconst 0, 1) := by decide +kernel
theorem dX4_sky_3 : decode cX4_sky 3 = .ok (.bipush 7, 2) := by decide +kernel
theorem dX4_sky_5 : decode cX4_sky 5 = .ok (.invokestatic 82, 3) := by decide +kernel
theorem dX4_sky_8 : decode cX4_sky 8 = .ok (.ifCond .eq 18, 3) := by decide +kernel
theorem dX4_sky_11 : decode cX4_sky 11 = .ok (.iload_n 2, 1) := by decide +kernel
theorem dX4_sky_12 : decode cX4_sky 12 = .ok (.iconst 0, 1) := by decide +kernel
theorem dX4_sky_13 : decode cX4_sky 13 = .ok (.sipush 1000, 3) := by decide +kernel
theorem dX4_sky_16 : decode cX4_sky 16 = .ok (.invokestatic 82, 3) := by decide +kernel
theorem dX4_sky_19 : decode cX4_sky 19 = .ok (.ifCond .eq 7, 3) := by decide +kernel
theorem dX4_sky_22 : decode cX4_sky 22 = .ok (.iconst 0, 1) := by decide +kernel
theorem dX4_sky_23 : decode cX4_sky 23 = .ok (.goto 4, 3) := by decide +kernel
theorem dX4_sky_26 : decode cX4_sky 26 = .ok (.iconst 1, 1) := by decide +kernel
theorem dX4_sky_27 : decode cX4_sky 27 = .ok (.putfield 79, 3) := by decide +kernel
theorem dX4_sky_30 : decode cX4_sky 30 = .ok (.aload_n 0, 1) := by decide +kernel
theorem dX4_sky_31 : decode cX4_sky 31 = .ok (.getfield 79, 3) := by decide +kernel
theorem dX4_sky_34 : decode cX4_sky 34 = .ok (.ifCond .le 5, 3) := by decide +kernel
theorem dX4_sky_37 : decode cX4_sky 37 = .ok (.iconst 0, 1) := by decide +kernel
theorem dX4_sky_38 : decode cX4_sky 38 = .ok (.ireturn, 1) := by decide +kernel
theorem dX4_sky_39 : decode cX4_sky 39 = .ok (.aload_n 0, 1) := by decide +kernel
theorem dX4_sky_40 : decode cX4_sky 40 = .ok (.getfield 69, 3) := by decide +kernel
theorem dX4_sky_43 : decode cX4_sky 43 = .ok (.iload_n 1, 1) := by decide +kernel
theorem dX4_sky_44 : decode cX4_sky 44 = .ok (.iaload, 1) := by decide +kernel
theorem dX4_sky_45 : decode cX4_sky 45 = .ok (.istore_n 3, 1) := by decide +kernel
theorem dX4_sky_46 : decode cX4_sky 46 = .ok (.aload_n 0, 1) := by decide +kernel
theorem dX4_sky_47 : decode cX4_sky 47 = .ok (.getfield 69, 3) := by decide +kernel
theorem dX4_sky_50 : decode cX4_sky 50 = .ok (.iload_n 1, 1) := by decide +kernel
theorem dX4_sky_51 : decode cX4_sky 51 = .ok (.iload_n 2, 1) := by decide +kernel
theorem dX4_sky_52 : decode cX4_sky 52 = .ok (.iastore, 1) := by decide +kernel
theorem dX4_sky_53 : decode cX4_sky 53 = .ok (.iload_n 3, 1) := by decide +kernel
theorem dX4_sky_54 : decode cX4_sky 54 = .ok (.ireturn, 1) := by decide +kernel
theorem dX4_fan_0 : decode cX4_fan 0 = .ok (.aload_n 0, 1) := by decide +kernel
theorem dX4_fan_1 : decode cX4_fan 1 = .ok (.iload_n 1, 1) := by decide +kernel
theorem dX4_fan_2 : decode cX4_fan 2 = .ok (.iload_n 2, 1) := by decide +kernel
theorem dX4_fan_3 : decode cX4_fan 3 = .ok (.iload_n 3, 1) := by decide +kernel
theorem dX4_fan_4 : decode cX4_fan 4 = .ok (.invokestatic 156, 3) := by decide +kernel
theorem dX4_fan_7 : decode cX4_fan 7 = .ok (.ifCond .ne 7, 3) := by decide +kernel
theorem dX4_fan_10 : decode cX4_fan 10 = .ok (.iconst 1, 1) := by decide +kernel
theorem dX4_fan_11 : decode cX4_fan 11 = .ok (.goto 17, 3) := by decide +kernel
theorem dX4_fan_14 : decode cX4_fan 14 = .ok (.aload_n 0, 1) := by decide +kernel
theorem dX4_fan_15 : decode cX4_fan 15 = .ok (.getfield 177, 3) := by decide +kernel
theorem dX4_fan_18 : decode cX4_fan 18 = .ok (.bipush 40, 2) := by decide +kernel
theorem dX4_fan_20 : decode cX4_fan 20 = .ok (.if_icmp .ne 7, 3) := by decide +kernel
theorem dX4_fan_23 : decode cX4_fan 23 = .ok (.iconst 2, 1) := by decide +kernel
theorem dX4_fan_24 : decode cX4_fan 24 = .ok (.goto 4, 3) := by decide +kernel
theorem dX4_fan_27 : decode cX4_fan 27 = .ok (.iconst 0, 1) := by decide +kernel
theorem dX4_fan_28 : decode cX4_fan 28 = .ok (.putfield 79, 3) := by decide +kernel
theorem dX4_fan_31 : decode cX4_fan 31 = .ok (.aload_n 0, 1) := by decide +kernel
theorem dX4_fan_32 : decode cX4_fan 32 = .ok (.getfield 79, 3) := by decide +kernel
theorem dX4_fan_35 : decode cX4_fan 35 = .ok (.ifCond .le 5, 3) := by decide +kernel
theorem dX4_fan_38 : decode cX4_fan 38 = .ok (.iconst 0, 1) := by decide +kernel
theorem dX4_fan_39 : decode cX4_fan 39 = .ok (.ireturn, 1) := by decide +kernel
theorem dX4_fan_40 : decode cX4_fan 40 = .ok (.aload_n 0, 1) := by decide +kernel
theorem dX4_fan_41 : decode cX4_fan 41 = .ok (.getfield 72, 3) := by decide +kernel
theorem dX4_fan_44 : decode cX4_fan 44 = .ok (.iconst 3, 1) := by decide +kernel
theorem dX4_fan_45 : decode cX4_fan 45 = .ok (.aload_n 0, 1) := by decide +kernel
theorem dX4_fan_46 : decode cX4_fan 46 = .ok (.getfield 177, 3) := by decide +kernel
theorem dX4_fan_49 : decode cX4_fan 49 = .ok (.imul, 1) := by decide +kernel
theorem dX4_fan_50 : decode cX4_fan 50 = .ok (.iload_n 1, 1) := by decide +kernel
theorem dX4_fan_51 : decode cX4_fan 51 = .ok (.iastore, 1) := by decide +kernel
theorem dX4_fan_52 : decode cX4_fan 52 = .ok (.aload_n 0, 1) := by decide +kernel
theorem dX4_fan_53 : decode cX4_fan 53 = .ok (.getfield 72, 3) := by decide +kernel
theorem dX4_fan_56 : decode cX4_fan 56 = .ok (.iconst 3, 1) := by decide +kernel
theorem dX4_fan_57 : decode cX4_fan 57 = .ok (.aload_n 0, 1) := by decide +kernel
theorem dX4_fan_58 : decode cX4_fan 58 = .ok (.getfield 177, 3) := by decide +kernel
theorem dX4_fan_61 : decode cX4_fan 61 = .ok (.imul, 1) := by decide +kernel
theorem dX4_fan_62 : decode cX4_fan 62 = .ok (.iconst 1, 1) := by decide +kernel
theorem dX4_fan_63 : decode cX4_fan 63 = .ok (.iadd, 1) := by decide +kernel
theorem dX4_fan_64 : decode cX4_fan 64 = .ok (.iload_n 2, 1) := by decide +kernel
theorem dX4_fan_65 : decode cX4_fan 65 = .ok (.iastore, 1) := by decide +kernel
theorem dX4_fan_66 : decode cX4_fan 66 = .ok (.aload_n 0, 1) := by decide +kernel
theorem dX4_fan_67 : decode cX4_fan 67 = .ok (.getfield 72, 3) := by decide +kernel
theorem dX4_fan_70 : decode cX4_fan 70 = .ok (.iconst 3, 1) := by decide +kernel
theorem dX4_fan_71 : decode cX4_fan 71 = .ok (.aload_n 0, 1) := by decide +kernel
theorem dX4_fan_72 : decode cX4_fan 72 = .ok (.getfield 177, 3) := by decide +kernel
theorem dX4_fan_75 : decode cX4_fan 75 = .ok (.imul, 1) := by decide +kernel
theorem dX4_fan_76 : decode cX4_fan 76 = .ok (.iconst 2, 1) := by decide +kernel
theorem dX4_fan_77 : decode cX4_fan 77 = .ok (.iadd, 1) := by decide +kernel
theorem dX4_fan_78 : decode cX4_fan 78 = .ok (.iload_n 3, 1) := by decide +kernel
theorem dX4_fan_79 : decode cX4_fan 79 = .ok (.iastore, 1) := by decide +kernel
theorem dX4_fan_80 : decode cX4_fan 80 = .ok (.aload_n 0, 1) := by decide +kernel
theorem dX4_fan_81 : decode cX4_fan 81 = .ok (.dup, 1) := by decide +kernel
theorem dX4_fan_82 : decode cX4_fan 82 = .ok (.getfield 177, 3) := by decide +kernel
theorem dX4_fan_85 : decode cX4_fan 85 = .ok (.iconst 1, 1) := by decide +kernel
theorem dX4_fan_86 : decode cX4_fan 86 = .ok (.iadd, 1) := by decide +kernel
theorem dX4_fan_87 : decode cX4_fan 87 = .ok (.putfield 177, 3) := by decide +kernel
theorem dX4_fan_90 : decode cX4_fan 90 = .ok (.aload_n 0, 1) := by decide +kernel
theorem dX4_fan_91 : decode cX4_fan 91 = .ok (.getfield 177, 3) := by decide +kernel
theorem dX4_fan_94 : decode cX4_fan 94 = .ok (.ireturn, 1) := by decide +kernel
theorem dX4_noFan_0 : decode cX4_noFan 0 = .ok (.aload_n 0, 1) := by decide +kernel
theorem dX4_noFan_1 : decode cX4_noFan 1 = .ok (.iconst 0, 1) := by decide +kernel
theorem dX4_noFan_2 : decode cX4_noFan 2 = .ok (.putfield 79, 3) := by decide +kernel
theorem dX4_noFan_5 : decode cX4_noFan 5 = .ok (.aload_n 0, 1) := by decide +kernel
theorem dX4_noFan_6 : decode cX4_noFan 6 = .ok (.getfield 177, 3) := by decide +kernel
theorem dX4_noFan_9 : decode cX4_noFan 9 = .ok (.istore_n 1, 1) := by decide +kernel
theorem dX4_noFan_10 : decode cX4_noFan 10 = .ok (.aload_n 0, 1) := by decide +kernel
theorem dX4_noFan_11 : decode cX4_noFan 11 = .ok (.iconst 0, 1) := by decide +kernel
theorem dX4_noFan_12 : decode cX4_noFan 12 = .ok (.putfield 177, 3) := by decide +kernel
theorem dX4_noFan_15 : decode cX4_noFan 15 = .ok (.iload_n 1, 1) := by decide +kernel
theorem dX4_noFan_16 : decode cX4_noFan 16 = .ok (.ireturn, 1) := by decide +kernel
theorem dX4_measure_0 : decode cX4_measure 0 = .ok (.aload_n 0, 1) := by decide +kernel
theorem dX4_measure_1 : decode cX4_measure 1 = .ok (.aload_n 0, 1) := by decide +kernel
theorem dX4_measure_2 : decode cX4_measure 2 = .ok (.iload_n 1, 1) := by decide +kernel
theorem dX4_measure_3 : decode cX4_measure 3 = .ok (.iload_n 2, 1) := by decide +kernel
theorem dX4_measure_4 : decode cX4_measure 4 = .ok (.iload_n 3, 1) := by decide +kernel
theorem dX4_measure_5 : decode cX4_measure 5 = .ok (.invokevirtual 93, 3) := by decide +kernel
theorem dX4_measure_8 : decode cX4_measure 8 = .ok (.ifCond .eq 7, 3) := by decide +kernel
theorem dX4_measure_11 : decode cX4_measure 11 = .ok (.iconst 0, 1) := by decide +kernel
theorem dX4_measure_12 : decode cX4_measure 12 = .ok (.goto 4, 3) := by decide +kernel
theorem dX4_measure_15 : decode cX4_measure 15 = .ok (.iconst 1, 1) := by decide +kernel
theorem dX4_measure_16 : decode cX4_measure 16 = .ok (.putfield 79, 3) := by decide +kernel
theorem dX4_measure_19 : decode cX4_measure 19 = .ok (.aload_n 0, 1) := by decide +kernel
theorem dX4_measure_20 : decode cX4_measure 20 = .ok (.getfield 79, 3) := by decide +kernel
theorem dX4_measure_23 : decode cX4_measure 23 = .ok (.ifCond .le 7, 3) := by decide +kernel
theorem dX4_measure_26 : decode cX4_measure 26 = .ok (.lconst 0, 1) := by decide +kernel
theorem dX4_measure_27 : decode cX4_measure 27 = .ok (.goto 10, 3) := by decide +kernel
theorem dX4_measure_30 : decode cX4_measure 30 = .ok (.aload_n 0, 1) := by decide +kernel
theorem dX4_measure_31 : decode cX4_measure 31 = .ok (.iload_n 1, 1) := by decide +kernel
theorem dX4_measure_32 : decode cX4_measure 32 = .ok (.iload_n 2, 1) := by decide +kernel
theorem dX4_measure_33 : decode cX4_measure 33 = .ok (.iload_n 3, 1) := by decide +kernel
theorem dX4_measure_34 : decode cX4_measure 34 = .ok (.invokevirtual 180, 3) := by decide +kernel
theorem dX4_measure_37 : decode cX4_measure 37 = .ok (.lreturn, 1) := by decide +kernel
theorem dX4_measureOf_0 : decode cX4_measureOf 0 = .ok (.lconst 0, 1) := by decide +kernel
theorem dX4_measureOf_1 : decode cX4_measureOf 1 = .ok (.lstore 4, 2) := by decide +kernel
theorem dX4_measureOf_3 : decode cX4_measureOf 3 = .ok (.iconst 0, 1) := by decide +kernel
theorem dX4_measureOf_4 : decode cX4_measureOf 4 = .ok (.istore 6, 2) := by decide +kernel
theorem dX4_measureOf_6 : decode cX4_measureOf 6 = .ok (.iload 6, 2) := by decide +kernel
theorem dX4_measureOf_8 : decode cX4_measureOf 8 = .ok (.aload_n 0, 1) := by decide +kernel
theorem dX4_measureOf_9 : decode cX4_measureOf 9 = .ok (.getfield 177, 3) := by decide +kernel
theorem dX4_measureOf_12 : decode cX4_measureOf 12 = .ok (.if_icmp .ge 124, 3) := by decide +kernel
theorem dX4_measureOf_15 : decode cX4_measureOf 15 = .ok (.aload_n 0, 1) := by decide +kernel
theorem dX4_measureOf_16 : decode cX4_measureOf 16 = .ok (.iload_n 1, 1) := by decide +kernel
theorem dX4_measureOf_17 : decode cX4_measureOf 17 = .ok (.iload_n 2, 1) := by decide +kernel
theorem dX4_measureOf_18 : decode cX4_measureOf 18 = .ok (.iload_n 3, 1) := by decide +kernel
theorem dX4_measureOf_19 : decode cX4_measureOf 19 = .ok (.aload_n 0, 1) := by decide +kernel
theorem dX4_measureOf_20 : decode cX4_measureOf 20 = .ok (.getfield 72, 3) := by decide +kernel
theorem dX4_measureOf_23 : decode cX4_measureOf 23 = .ok (.iconst 3, 1) := by decide +kernel
theorem dX4_measureOf_24 : decode cX4_measureOf 24 = .ok (.iload 6, 2) := by decide +kernel
theorem dX4_measureOf_26 : decode cX4_measureOf 26 = .ok (.imul, 1) := by decide +kernel
theorem dX4_measureOf_27 : decode cX4_measureOf 27 = .ok (.iaload, 1) := by decide +kernel
theorem dX4_measureOf_28 : decode cX4_measureOf 28 = .ok (.aload_n 0, 1) := by decide +kernel
theorem dX4_measureOf_29 : decode cX4_measureOf 29 = .ok (.getfield 72, 3) := by decide +kernel
theorem dX4_measureOf_32 : decode cX4_measureOf 32 = .ok (.iconst 3, 1) := by decide +kernel
theorem dX4_measureOf_33 : decode cX4_measureOf 33 = .ok (.iload 6, 2) := by decide +kernel
theorem dX4_measureOf_35 : decode cX4_measureOf 35 = .ok (.imul, 1) := by decide +kernel
theorem dX4_measureOf_36 : decode cX4_measureOf 36 = .ok (.iconst 1, 1) := by decide +kernel
theorem dX4_measureOf_37 : decode cX4_measureOf 37 = .ok (.iadd, 1) := by decide +kernel
theorem dX4_measureOf_38 : decode cX4_measureOf 38 = .ok (.iaload, 1) := by decide +kernel
theorem dX4_measureOf_39 : decode cX4_measureOf 39 = .ok (.aload_n 0, 1) := by decide +kernel
theorem dX4_measureOf_40 : decode cX4_measureOf 40 = .ok (.getfield 72, 3) := by decide +kernel
theorem dX4_measureOf_43 : decode cX4_measureOf 43 = .ok (.iconst 3, 1) := by decide +kernel
theorem dX4_measureOf_44 : decode cX4_measureOf 44 = .ok (.iload 6, 2) := by decide +kernel
theorem dX4_measureOf_46 : decode cX4_measureOf 46 = .ok (.imul, 1) := by decide +kernel
theorem dX4_measureOf_47 : decode cX4_measureOf 47 = .ok (.iconst 2, 1) := by decide +kernel
theorem dX4_measureOf_48 : decode cX4_measureOf 48 = .ok (.iadd, 1) := by decide +kernel
theorem dX4_measureOf_49 : decode cX4_measureOf 49 = .ok (.iaload, 1) := by decide +kernel
theorem dX4_measureOf_50 : decode cX4_measureOf 50 = .ok (.invokevirtual 159, 3) := by decide +kernel
theorem dX4_measureOf_53 : decode cX4_measureOf 53 = .ok (.istore 7, 2) := by decide +kernel
theorem dX4_measureOf_55 : decode cX4_measureOf 55 = .ok (.aload_n 0, 1) := by decide +kernel
theorem dX4_measureOf_56 : decode cX4_measureOf 56 = .ok (.getfield 26, 3) := by decide +kernel
theorem dX4_measureOf_59 : decode cX4_measureOf 59 = .ok (.iconst 0, 1) := by decide +kernel
theorem dX4_measureOf_60 : decode cX4_measureOf 60 = .ok (.iaload, 1) := by decide +kernel
theorem dX4_measureOf_61 : decode cX4_measureOf 61 = .ok (.ifCond .ge 7, 3) := by decide +kernel
theorem dX4_measureOf_64 : decode cX4_measureOf 64 = .ok (.iconst 4, 1) := by decide +kernel
theorem dX4_measureOf_65 : decode cX4_measureOf 65 = .ok (.goto 4, 3) := by decide +kernel
theorem dX4_measureOf_68 : decode cX4_measureOf 68 = .ok (.iconst 0, 1) := by decide +kernel
theorem dX4_measureOf_69 : decode cX4_measureOf 69 = .ok (.aload_n 0, 1) := by decide +kernel
theorem dX4_measureOf_70 : decode cX4_measureOf 70 = .ok (.getfield 26, 3) := by decide +kernel
theorem dX4_measureOf_73 : decode cX4_measureOf 73 = .ok (.iconst 1, 1) := by decide +kernel
theorem dX4_measureOf_74 : decode cX4_measureOf 74 = .ok (.iaload, 1) := by decide +kernel
theorem dX4_measureOf_75 : decode cX4_measureOf 75 = .ok (.ifCond .ge 7, 3) := by decide +kernel
theorem dX4_measureOf_78 : decode cX4_measureOf 78 = .ok (.iconst 2, 1) := by decide +kernel
theorem dX4_measureOf_79 : decode cX4_measureOf 79 = .ok (.goto 4, 3) := by decide +kernel
theorem dX4_measureOf_82 : decode cX4_measureOf 82 = .ok (.iconst 0, 1) := by decide +kernel
theorem dX4_measureOf_83 : decode cX4_measureOf 83 = .ok (.iadd, 1) := by decide +kernel
theorem dX4_measureOf_84 : decode cX4_measureOf 84 = .ok (.aload_n 0, 1) := by decide +kernel
theorem dX4_measureOf_85 : decode cX4_measureOf 85 = .ok (.getfield 26, 3) := by decide +kernel
theorem dX4_measureOf_88 : decode cX4_measureOf 88 = .ok (.iconst 2, 1) := by decide +kernel
theorem dX4_measureOf_89 : decode cX4_measureOf 89 = .ok (.iaload, 1) := by decide +kernel
theorem dX4_measureOf_90 : decode cX4_measureOf 90 = .ok (.ifCond .ge 7, 3) := by decide +kernel
theorem dX4_measureOf_93 : decode cX4_measureOf 93 = .ok (.iconst 1, 1) := by decide +kernel
theorem dX4_measureOf_94 : decode cX4_measureOf 94 = .ok (.goto 4, 3) := by decide +kernel
theorem dX4_measureOf_97 : decode cX4_measureOf 97 = .ok (.iconst 0, 1) := by decide +kernel
theorem dX4_measureOf_98 : decode cX4_measureOf 98 = .ok (.iadd, 1) := by decide +kernel
theorem dX4_measureOf_99 : decode cX4_measureOf 99 = .ok (.istore 8, 2) := by decide +kernel
theorem dX4_measureOf_101 : decode cX4_measureOf 101 = .ok (.iload 7, 2) := by decide +kernel
theorem dX4_measureOf_103 : decode cX4_measureOf 103 = .ok (.ifCond .ne 23, 3) := by decide +kernel
theorem dX4_measureOf_106 : decode cX4_measureOf 106 = .ok (.lload 4, 2) := by decide +kernel
theorem dX4_measureOf_108 : decode cX4_measureOf 108 = .ok (.aload_n 0, 1) := by decide +kernel
theorem dX4_measureOf_109 : decode cX4_measureOf 109 = .ok (.getfield 138, 3) := by decide +kernel
theorem dX4_measureOf_112 : decode cX4_measureOf 112 = .ok (.i2l, 1) := by decide +kernel
theorem dX4_measureOf_113 : decode cX4_measureOf 113 = .ok (.aload_n 0, 1) := by decide +kernel
theorem dX4_measureOf_114 : decode cX4_measureOf 114 = .ok (.getfield 69, 3) := by decide +kernel
theorem dX4_measureOf_117 : decode cX4_measureOf 117 = .ok (.iload 8, 2) := by decide +kernel
theorem dX4_measureOf_119 : decode cX4_measureOf 119 = .ok (.iaload, 1) := by decide +kernel
theorem dX4_measureOf_120 : decode cX4_measureOf 120 = .ok (.i2l, 1) := by decide +kernel
theorem dX4_measureOf_121 : decode cX4_measureOf 121 = .ok (.lmul, 1) := by decide +kernel
theorem dX4_measureOf_122 : decode cX4_measureOf 122 = .ok (.ladd, 1) := by decide +kernel
theorem dX4_measureOf_123 : decode cX4_measureOf 123 = .ok (.goto 5, 3) := by decide +kernel
theorem dX4_measureOf_126 : decode cX4_measureOf 126 = .ok (.lload 4, 2) := by decide +kernel
theorem dX4_measureOf_128 : decode cX4_measureOf 128 = .ok (.lstore 4, 2) := by decide +kernel
theorem dX4_measureOf_130 : decode cX4_measureOf 130 = .ok (.iinc 6 1, 3) := by decide +kernel
theorem dX4_measureOf_133 : decode cX4_measureOf 133 = .ok (.goto (-127), 3) := by decide +kernel
theorem dX4_measureOf_136 : decode cX4_measureOf 136 = .ok (.lload 4, 2) := by decide +kernel
theorem dX4_measureOf_138 : decode cX4_measureOf 138 = .ok (.lreturn, 1) := by decide +kernel
theorem dX4_best_0 : decode cX4_best 0 = .ok (.aload_n 0, 1) := by decide +kernel
theorem dX4_best_1 : decode cX4_best 1 = .ok (.iload_n 1, 1) := by decide +kernel
theorem dX4_best_2 : decode cX4_best 2 = .ok (.iload_n 2, 1) := by decide +kernel
theorem dX4_best_3 : decode cX4_best 3 = .ok (.iload_n 3, 1) := by decide +kernel
theorem dX4_best_4 : decode cX4_best 4 = .ok (.invokevirtual 93, 3) := by decide +kernel
theorem dX4_best_7 : decode cX4_best 7 = .ok (.ifCond .eq 50, 3) := by decide +kernel
theorem dX4_best_10 : decode cX4_best 10 = .ok (.iload 4, 2) := by decide +kernel
theorem dX4_best_12 : decode cX4_best 12 = .ok (.iconst 1, 1) := by decide +kernel
theorem dX4_best_13 : decode cX4_best 13 = .ok (.bipush 8, 2) := by decide +kernel
theorem dX4_best_15 : decode cX4_best 15 = .ok (.invokestatic 82, 3) := by decide +kernel
theorem dX4_best_18 : decode cX4_best 18 = .ok (.ifCond .eq 39, 3) := by decide +kernel
theorem dX4_best_21 : decode cX4_best 21 = .ok (.iload 5, 2) := by decide +kernel
theorem dX4_best_23 : decode cX4_best 23 = .ok (.iconst 1, 1) := by decide +kernel
theorem dX4_best_24 : decode cX4_best 24 = .ok (.bipush 8, 2) := by decide +kernel
theorem dX4_best_26 : decode cX4_best 26 = .ok (.invokestatic 82, 3) := by decide +kernel
theorem dX4_best_29 : decode cX4_best 29 = .ok (.ifCond .eq 28, 3) := by decide +kernel
theorem dX4_best_32 : decode cX4_best 32 = .ok (.iload 6, 2) := by decide +kernel
theorem dX4_best_34 : decode cX4_best 34 = .ok (.iconst 1, 1) := by decide +kernel
theorem dX4_best_35 : decode cX4_best 35 = .ok (.bipush 100, 2) := by decide +kernel
theorem dX4_best_37 : decode cX4_best 37 = .ok (.invokestatic 82, 3) := by decide +kernel
theorem dX4_best_40 : decode cX4_best 40 = .ok (.ifCond .eq 17, 3) := by decide +kernel
theorem dX4_best_43 : decode cX4_best 43 = .ok (.iload 7, 2) := by decide +kernel
theorem dX4_best_45 : decode cX4_best 45 = .ok (.iconst 0, 1) := by decide +kernel
theorem dX4_best_46 : decode cX4_best 46 = .ok (.iconst 1, 1) := by decide +kernel
theorem dX4_best_47 : decode cX4_best 47 = .ok (.invokestatic 82, 3) := by decide +kernel
theorem dX4_best_50 : decode cX4_best 50 = .ok (.ifCond .eq 7, 3) := by decide +kernel
theorem dX4_best_53 : decode cX4_best 53 = .ok (.iconst 1, 1) := by decide +kernel
theorem dX4_best_54 : decode cX4_best 54 = .ok (.goto 4, 3) := by decide +kernel
theorem dX4_best_57 : decode cX4_best 57 = .ok (.iconst 0, 1) := by decide +kernel
theorem dX4_best_58 : decode cX4_best 58 = .ok (.istore 8, 2) := by decide +kernel
theorem dX4_best_60 : decode cX4_best 60 = .ok (.iload 8, 2) := by decide +kernel
theorem dX4_best_62 : decode cX4_best 62 = .ok (.ifCond .eq 39, 3) := by decide +kernel
theorem dX4_best_65 : decode cX4_best 65 = .ok (.aload_n 0, 1) := by decide +kernel
theorem dX4_best_66 : decode cX4_best 66 = .ok (.iload_n 1, 1) := by decide +kernel
theorem dX4_best_67 : decode cX4_best 67 = .ok (.iload 4, 2) := by decide +kernel
theorem dX4_best_69 : decode cX4_best 69 = .ok (.iconst 1, 1) := by decide +kernel
theorem dX4_best_70 : decode cX4_best 70 = .ok (.isub, 1) := by decide +kernel
theorem dX4_best_71 : decode cX4_best 71 = .ok (.iload 6, 2) := by decide +kernel
theorem dX4_best_73 : decode cX4_best 73 = .ok (.imul, 1) := by decide +kernel
theorem dX4_best_74 : decode cX4_best 74 = .ok (.iadd, 1) := by decide +kernel
theorem dX4_best_75 : decode cX4_best 75 = .ok (.invokevirtual 86, 3) := by decide +kernel
theorem dX4_best_78 : decode cX4_best 78 = .ok (.ifCond .eq 23, 3) := by decide +kernel
theorem dX4_best_81 : decode cX4_best 81 = .ok (.aload_n 0, 1) := by decide +kernel
theorem dX4_best_82 : decode cX4_best 82 = .ok (.iload_n 2, 1) := by decide +kernel
theorem dX4_best_83 : decode cX4_best 83 = .ok (.iload 5, 2) := by decide +kernel
theorem dX4_best_85 : decode cX4_best 85 = .ok (.iconst 1, 1) := by decide +kernel
theorem dX4_best_86 : decode cX4_best 86 = .ok (.isub, 1) := by decide +kernel
theorem dX4_best_87 : decode cX4_best 87 = .ok (.iload 6, 2) := by decide +kernel
theorem dX4_best_89 : decode cX4_best 89 = .ok (.imul, 1) := by decide +kernel
theorem dX4_best_90 : decode cX4_best 90 = .ok (.iadd, 1) := by decide +kernel
theorem dX4_best_91 : decode cX4_best 91 = .ok (.invokevirtual 86, 3) := by decide +kernel
theorem dX4_best_94 : decode cX4_best 94 = .ok (.ifCond .eq 7, 3) := by decide +kernel
theorem dX4_best_97 : decode cX4_best 97 = .ok (.iconst 1, 1) := by decide +kernel
theorem dX4_best_98 : decode cX4_best 98 = .ok (.goto 4, 3) := by decide +kernel
theorem dX4_best_101 : decode cX4_best 101 = .ok (.iconst 0, 1) := by decide +kernel
theorem dX4_best_102 : decode cX4_best 102 = .ok (.istore 8, 2) := by decide +kernel
theorem dX4_best_104 : decode cX4_best 104 = .ok (.aload_n 0, 1) := by decide +kernel
theorem dX4_best_105 : decode cX4_best 105 = .ok (.iload 8, 2) := by decide +kernel
theorem dX4_best_107 : decode cX4_best 107 = .ok (.ifCond .eq 7, 3) := by decide +kernel
theorem dX4_best_110 : decode cX4_best 110 = .ok (.iconst 0, 1) := by decide +kernel
theorem dX4_best_111 : decode cX4_best 111 = .ok (.goto 4, 3) := by decide +kernel
theorem dX4_best_114 : decode cX4_best 114 = .ok (.iconst 1, 1) := by decide +kernel
theorem dX4_best_115 : decode cX4_best 115 = .ok (.putfield 79, 3) := by decide +kernel
theorem dX4_best_118 : decode cX4_best 118 = .ok (.aload_n 0, 1) := by decide +kernel
theorem dX4_best_119 : decode cX4_best 119 = .ok (.getfield 79, 3) := by decide +kernel
theorem dX4_best_122 : decode cX4_best 122 = .ok (.ifCond .le 5, 3) := by decide +kernel
theorem dX4_best_125 : decode cX4_best 125 = .ok (.iconst 0, 1) := by decide +kernel
theorem dX4_best_126 : decode cX4_best 126 = .ok (.ireturn, 1) := by decide +kernel
theorem dX4_best_127 : decode cX4_best 127 = .ok (.ldc2_w 184, 3) := by decide +kernel
theorem dX4_best_130 : decode cX4_best 130 = .ok (.lstore 9, 2) := by decide +kernel
theorem dX4_best_132 : decode cX4_best 132 = .ok (.iconst 0, 1) := by decide +kernel
theorem dX4_best_133 : decode cX4_best 133 = .ok (.istore 11, 2) := by decide +kernel
theorem dX4_best_135 : decode cX4_best 135 = .ok (.iconst 0, 1) := by decide +kernel
theorem dX4_best_136 : decode cX4_best 136 = .ok (.istore 12, 2) := by decide +kernel
theorem dX4_best_138 : decode cX4_best 138 = .ok (.iload 12, 2) := by decide +kernel
theorem dX4_best_140 : decode cX4_best 140 = .ok (.iload 4, 2) := by decide +kernel
theorem dX4_best_142 : decode cX4_best 142 = .ok (.iload 5, 2) := by decide +kernel
theorem dX4_best_144 : decode cX4_best 144 = .ok (.imul, 1) := by decide +kernel
theorem dX4_best_145 : decode cX4_best 145 = .ok (.if_icmp .ge 52, 3) := by decide +kernel
theorem dX4_best_148 : decode cX4_best 148 = .ok (.aload_n 0, 1) := by decide +kernel
theorem dX4_best_149 : decode cX4_best 149 = .ok (.iload_n 1, 1) := by decide +kernel
theorem dX4_best_150 : decode cX4_best 150 = .ok (.iload 12, 2) := by decide +kernel
theorem dX4_best_152 : decode cX4_best 152 = .ok (.iload 4, 2) := by decide +kernel
theorem dX4_best_154 : decode cX4_best 154 = .ok (.irem, 1) := by decide +kernel
theorem dX4_best_155 : decode cX4_best 155 = .ok (.iload 6, 2) := by decide +kernel
theorem dX4_best_157 : decode cX4_best 157 = .ok (.imul, 1) := by decide +kernel
theorem dX4_best_158 : decode cX4_best 158 = .ok (.iadd, 1) := by decide +kernel
theorem dX4_best_159 : decode cX4_best 159 = .ok (.iload_n 2, 1) := by decide +kernel
theorem dX4_best_160 : decode cX4_best 160 = .ok (.iload 12, 2) := by decide +kernel
theorem dX4_best_162 : decode cX4_best 162 = .ok (.iload 4, 2) := by decide +kernel
theorem dX4_best_164 : decode cX4_best 164 = .ok (.idiv, 1) := by decide +kernel
theorem dX4_best_165 : decode cX4_best 165 = .ok (.iload 6, 2) := by decide +kernel
theorem dX4_best_167 : decode cX4_best 167 = .ok (.imul, 1) := by decide +kernel
theorem dX4_best_168 : decode cX4_best 168 = .ok (.iadd, 1) := by decide +kernel
theorem dX4_best_169 : decode cX4_best 169 = .ok (.iload_n 3, 1) := by decide +kernel
theorem dX4_best_170 : decode cX4_best 170 = .ok (.invokevirtual 180, 3) := by decide +kernel
theorem dX4_best_173 : decode cX4_best 173 = .ok (.lstore 13, 2) := by decide +kernel
theorem dX4_best_175 : decode cX4_best 175 = .ok (.lload 13, 2) := by decide +kernel
theorem dX4_best_177 : decode cX4_best 177 = .ok (.lload 9, 2) := by decide +kernel
theorem dX4_best_179 : decode cX4_best 179 = .ok (.lcmp, 1) := by decide +kernel
theorem dX4_best_180 : decode cX4_best 180 = .ok (.ifCond .le 11, 3) := by decide +kernel
theorem dX4_best_183 : decode cX4_best 183 = .ok (.lload 13, 2) := by decide +kernel
theorem dX4_best_185 : decode cX4_best 185 = .ok (.lstore 9, 2) := by decide +kernel
theorem dX4_best_187 : decode cX4_best 187 = .ok (.iload 12, 2) := by decide +kernel
theorem dX4_best_189 : decode cX4_best 189 = .ok (.istore 11, 2) := by decide +kernel
theorem dX4_best_191 : decode cX4_best 191 = .ok (.iinc 12 1, 3) := by decide +kernel
theorem dX4_best_194 : decode cX4_best 194 = .ok (.goto (-56), 3) := by decide +kernel
theorem dX4_best_197 : decode cX4_best 197 = .ok (.iload 7, 2) := by decide +kernel
theorem dX4_best_199 : decode cX4_best 199 = .ok (.ifCond .ne 11, 3) := by decide +kernel
theorem dX4_best_202 : decode cX4_best 202 = .ok (.iload 11, 2) := by decide +kernel
theorem dX4_best_204 : decode cX4_best 204 = .ok (.iload 4, 2) := by decide +kernel
theorem dX4_best_206 : decode cX4_best 206 = .ok (.irem, 1) := by decide +kernel
theorem dX4_best_207 : decode cX4_best 207 = .ok (.goto 8, 3) := by decide +kernel
theorem dX4_best_210 : decode cX4_best 210 = .ok (.iload 11, 2) := by decide +kernel
theorem dX4_best_212 : decode cX4_best 212 = .ok (.iload 4, 2) := by decide +kernel
theorem dX4_best_214 : decode cX4_best 214 = .ok (.idiv, 1) := by decide +kernel
theorem dX4_best_215 : decode cX4_best 215 = .ok (.ireturn, 1) := by decide +kernel
end
section
theorem dL_law_0 : decode code 0 = .ok (.new 8, 3) := by decide +kernel
theorem dL_law_3 : decode code 3 = .ok (.dup, 1) := by decide +kernel
theorem dL_law_4 : decode code 4 = .ok (.aload_n 0, 1) := by decide +kernel
theorem dL_law_5 : decode code 5 = .ok (.iconst 0, 1) := by decide +kernel
theorem dL_law_6 : decode code 6 = .ok (.invokestatic 53, 3) := by decide +kernel
theorem dL_law_9 : decode code 9 = .ok (.invokespecial 59, 3) := by decide +kernel
theorem dL_law_12 : decode code 12 = .ok (.astore_n 1, 1) := by decide +kernel
theorem dL_law_13 : decode code 13 = .ok (.new 62, 3) := by decide +kernel
theorem dL_law_16 : decode code 16 = .ok (.dup, 1) := by decide +kernel
theorem dL_law_17 : decode code 17 = .ok (.aload_n 0, 1) := by decide +kernel
theorem dL_law_18 : decode code 18 = .ok (.iconst 0, 1) := by decide +kernel
theorem dL_law_19 : decode code 19 = .ok (.invokestatic 53, 3) := by decide +kernel
theorem dL_law_22 : decode code 22 = .ok (.invokespecial 64, 3) := by decide +kernel
theorem dL_law_25 : decode code 25 = .ok (.astore_n 2, 1) := by decide +kernel
theorem dL_law_26 : decode code 26 = .ok (.iconst 1, 1) := by decide +kernel
theorem dL_law_27 : decode code 27 = .ok (.newarray .long, 2) := by decide +kernel
theorem dL_law_29 : decode code 29 = .ok (.astore_n 3, 1) := by decide +kernel
theorem dL_law_30 : decode code 30 = .ok (.iconst 1, 1) := by decide +kernel
theorem dL_law_31 : decode code 31 = .ok (.istore 4, 2) := by decide +kernel
theorem dL_law_33 : decode code 33 = .ok (.iload 4, 2) := by decide +kernel
theorem dL_law_35 : decode code 35 = .ok (.aload_n 0, 1) := by decide +kernel
theorem dL_law_36 : decode code 36 = .ok (.arraylength, 1) := by decide +kernel
theorem dL_law_37 : decode code 37 = .ok (.bipush 8, 2) := by decide +kernel
theorem dL_law_39 : decode code 39 = .ok (.isub, 1) := by decide +kernel
theorem dL_law_40 : decode code 40 = .ok (.if_icmp .gt 1060, 3) := by decide +kernel
theorem dL_law_43 : decode code 43 = .ok (.aload_n 0, 1) := by decide +kernel
theorem dL_law_44 : decode code 44 = .ok (.iload 4, 2) := by decide +kernel
theorem dL_law_46 : decode code 46 = .ok (.iaload, 1) := by decide +kernel
theorem dL_law_47 : decode code 47 = .ok (.bipush 15, 2) := by decide +kernel
theorem dL_law_49 : decode code 49 = .ok (.iand, 1) := by decide +kernel
theorem dL_law_50 : decode code 50 = .ok (.tableswitch 1044 0 11 #[62, 180, 260, 351, 469, 525, 593, 672, 740, 820, 833, 912], 62) := by decide +kernel
theorem dL_law_112 : decode code 112 = .ok (.aload_n 1, 1) := by decide +kernel
theorem dL_law_113 : decode code 113 = .ok (.aload_n 0, 1) := by decide +kernel
theorem dL_law_114 : decode code 114 = .ok (.iload 4, 2) := by decide +kernel
theorem dL_law_116 : decode code 116 = .ok (.iconst 1, 1) := by decide +kernel
theorem dL_law_117 : decode code 117 = .ok (.iadd, 1) := by decide +kernel
theorem dL_law_118 : decode code 118 = .ok (.iaload, 1) := by decide +kernel
theorem dL_law_119 : decode code 119 = .ok (.aload_n 0, 1) := by decide +kernel
theorem dL_law_120 : decode code 120 = .ok (.iload 4, 2) := by decide +kernel
theorem dL_law_122 : decode code 122 = .ok (.iconst 2, 1) := by decide +kernel
theorem dL_law_123 : decode code 123 = .ok (.iadd, 1) := by decide +kernel
theorem dL_law_124 : decode code 124 = .ok (.iaload, 1) := by decide +kernel
theorem dL_law_125 : decode code 125 = .ok (.aload_n 0, 1) := by decide +kernel
theorem dL_law_126 : decode code 126 = .ok (.iload 4, 2) := by decide +kernel
theorem dL_law_128 : decode code 128 = .ok (.iconst 3, 1) := by decide +kernel
theorem dL_law_129 : decode code 129 = .ok (.iadd, 1) := by decide +kernel
theorem dL_law_130 : decode code 130 = .ok (.iaload, 1) := by decide +kernel
theorem dL_law_131 : decode code 131 = .ok (.aload_n 0, 1) := by decide +kernel
theorem dL_law_132 : decode code 132 = .ok (.iload 4, 2) := by decide +kernel
theorem dL_law_134 : decode code 134 = .ok (.iconst 4, 1) := by decide +kernel
theorem dL_law_135 : decode code 135 = .ok (.iadd, 1) := by decide +kernel
theorem dL_law_136 : decode code 136 = .ok (.iaload, 1) := by decide +kernel
theorem dL_law_137 : decode code 137 = .ok (.aload_n 0, 1) := by decide +kernel
theorem dL_law_138 : decode code 138 = .ok (.iload 4, 2) := by decide +kernel
theorem dL_law_140 : decode code 140 = .ok (.iconst 5, 1) := by decide +kernel
theorem dL_law_141 : decode code 141 = .ok (.iadd, 1) := by decide +kernel
theorem dL_law_142 : decode code 142 = .ok (.iaload, 1) := by decide +kernel
theorem dL_law_143 : decode code 143 = .ok (.aload_n 0, 1) := by decide +kernel
theorem dL_law_144 : decode code 144 = .ok (.iload 4, 2) := by decide +kernel
theorem dL_law_146 : decode code 146 = .ok (.bipush 6, 2) := by decide +kernel
theorem dL_law_148 : decode code 148 = .ok (.iadd, 1) := by decide +kernel
theorem dL_law_149 : decode code 149 = .ok (.iaload, 1) := by decide +kernel
theorem dL_law_150 : decode code 150 = .ok (.aload_n 3, 1) := by decide +kernel
theorem dL_law_151 : decode code 151 = .ok (.invokestatic 65, 3) := by decide +kernel
theorem dL_law_154 : decode code 154 = .ok (.istore 5, 2) := by decide +kernel
theorem dL_law_156 : decode code 156 = .ok (.aload_n 2, 1) := by decide +kernel
theorem dL_law_157 : decode code 157 = .ok (.aload_n 0, 1) := by decide +kernel
theorem dL_law_158 : decode code 158 = .ok (.iload 4, 2) := by decide +kernel
theorem dL_law_160 : decode code 160 = .ok (.iconst 1, 1) := by decide +kernel
theorem dL_law_161 : decode code 161 = .ok (.iadd, 1) := by decide +kernel
theorem dL_law_162 : decode code 162 = .ok (.iaload, 1) := by decide +kernel
theorem dL_law_163 : decode code 163 = .ok (.aload_n 0, 1) := by decide +kernel
theorem dL_law_164 : decode code 164 = .ok (.iload 4, 2) := by decide +kernel
theorem dL_law_166 : decode code 166 = .ok (.iconst 2, 1) := by decide +kernel
theorem dL_law_167 : decode code 167 = .ok (.iadd, 1) := by decide +kernel
theorem dL_law_168 : decode code 168 = .ok (.iaload, 1) := by decide +kernel
theorem dL_law_169 : decode code 169 = .ok (.aload_n 0, 1) := by decide +kernel
theorem dL_law_170 : decode code 170 = .ok (.iload 4, 2) := by decide +kernel
theorem dL_law_172 : decode code 172 = .ok (.iconst 3, 1) := by decide +kernel
theorem dL_law_173 : decode code 173 = .ok (.iadd, 1) := by decide +kernel
theorem dL_law_174 : decode code 174 = .ok (.iaload, 1) := by decide +kernel
theorem dL_law_175 : decode code 175 = .ok (.aload_n 0, 1) := by decide +kernel
theorem dL_law_176 : decode code 176 = .ok (.iload 4, 2) := by decide +kernel
theorem dL_law_178 : decode code 178 = .ok (.iconst 4, 1) := by decide +kernel
theorem dL_law_179 : decode code 179 = .ok (.iadd, 1) := by decide +kernel
theorem dL_law_180 : decode code 180 = .ok (.iaload, 1) := by decide +kernel
theorem dL_law_181 : decode code 181 = .ok (.aload_n 0, 1) := by decide +kernel
theorem dL_law_182 : decode code 182 = .ok (.iload 4, 2) := by decide +kernel
theorem dL_law_184 : decode code 184 = .ok (.iconst 5, 1) := by decide +kernel
theorem dL_law_185 : decode code 185 = .ok (.iadd, 1) := by decide +kernel
theorem dL_law_186 : decode code 186 = .ok (.iaload, 1) := by decide +kernel
theorem dL_law_187 : decode code 187 = .ok (.aload_n 0, 1) := by decide +kernel
theorem dL_law_188 : decode code 188 = .ok (.iload 4, 2) := by decide +kernel
theorem dL_law_190 : decode code 190 = .ok (.bipush 6, 2) := by decide +kernel
theorem dL_law_192 : decode code 192 = .ok (.iadd, 1) := by decide +kernel
theorem dL_law_193 : decode code 193 = .ok (.iaload, 1) := by decide +kernel
theorem dL_law_194 : decode code 194 = .ok (.invokevirtual 68, 3) := by decide +kernel
theorem dL_law_197 : decode code 197 = .ok (.istore 6, 2) := by decide +kernel
theorem dL_law_199 : decode code 199 = .ok (.aload_n 2, 1) := by decide +kernel
theorem dL_law_200 : decode code 200 = .ok (.invokevirtual 69, 3) := by decide +kernel
theorem dL_law_203 : decode code 203 = .ok (.iload 5, 2) := by decide +kernel
theorem dL_law_205 : decode code 205 = .ok (.if_icmp .eq 5, 3) := by decide +kernel
theorem dL_law_208 : decode code 208 = .ok (.iconst 0, 1) := by decide +kernel
theorem dL_law_209 : decode code 209 = .ok (.ireturn, 1) := by decide +kernel
theorem dL_law_210 : decode code 210 = .ok (.iload 5, 2) := by decide +kernel
theorem dL_law_212 : decode code 212 = .ok (.ifCond .ne 15, 3) := by decide +kernel
theorem dL_law_215 : decode code 215 = .ok (.aload_n 3, 1) := by decide +kernel
theorem dL_law_216 : decode code 216 = .ok (.iconst 0, 1) := by decide +kernel
theorem dL_law_217 : decode code 217 = .ok (.laload, 1) := by decide +kernel
theorem dL_law_218 : decode code 218 = .ok (.iload 6, 2) := by decide +kernel
theorem dL_law_220 : decode code 220 = .ok (.i2l, 1) := by decide +kernel
theorem dL_law_221 : decode code 221 = .ok (.lcmp, 1) := by decide +kernel
theorem dL_law_222 : decode code 222 = .ok (.ifCond .eq 5, 3) := by decide +kernel
theorem dL_law_225 : decode code 225 = .ok (.iconst 0, 1) := by decide +kernel
theorem dL_law_226 : decode code 226 = .ok (.ireturn, 1) := by decide +kernel
theorem dL_law_227 : decode code 227 = .ok (.goto 867, 3) := by decide +kernel
theorem dL_law_230 : decode code 230 = .ok (.aload_n 1, 1) := by decide +kernel
theorem dL_law_231 : decode code 231 = .ok (.aload_n 0, 1) := by decide +kernel
theorem dL_law_232 : decode code 232 = .ok (.iload 4, 2) := by decide +kernel
theorem dL_law_234 : decode code 234 = .ok (.iconst 1, 1) := by decide +kernel
theorem dL_law_235 : decode code 235 = .ok (.iadd, 1) := by decide +kernel
theorem dL_law_236 : decode code 236 = .ok (.iaload, 1) := by decide +kernel
theorem dL_law_237 : decode code 237 = .ok (.aload_n 0, 1) := by decide +kernel
theorem dL_law_238 : decode code 238 = .ok (.iload 4, 2) := by decide +kernel
theorem dL_law_240 : decode code 240 = .ok (.iconst 2, 1) := by decide +kernel
theorem dL_law_241 : decode code 241 = .ok (.iadd, 1) := by decide +kernel
theorem dL_law_242 : decode code 242 = .ok (.iaload, 1) := by decide +kernel
theorem dL_law_243 : decode code 243 = .ok (.aload_n 0, 1) := by decide +kernel
theorem dL_law_244 : decode code 244 = .ok (.iload 4, 2) := by decide +kernel
theorem dL_law_246 : decode code 246 = .ok (.iconst 3, 1) := by decide +kernel
theorem dL_law_247 : decode code 247 = .ok (.iadd, 1) := by decide +kernel
theorem dL_law_248 : decode code 248 = .ok (.iaload, 1) := by decide +kernel
theorem dL_law_249 : decode code 249 = .ok (.aload_n 3, 1) := by decide +kernel
theorem dL_law_250 : decode code 250 = .ok (.invokestatic 73, 3) := by decide +kernel
theorem dL_law_253 : decode code 253 = .ok (.istore 5, 2) := by decide +kernel
theorem dL_law_255 : decode code 255 = .ok (.aload_n 2, 1) := by decide +kernel
theorem dL_law_256 : decode code 256 = .ok (.aload_n 0, 1) := by decide +kernel
theorem dL_law_257 : decode code 257 = .ok (.iload 4, 2) := by decide +kernel
theorem dL_law_259 : decode code 259 = .ok (.iconst 1, 1) := by decide +kernel
theorem dL_law_260 : decode code 260 = .ok (.iadd, 1) := by decide +kernel
theorem dL_law_261 : decode code 261 = .ok (.iaload, 1) := by decide +kernel
theorem dL_law_262 : decode code 262 = .ok (.aload_n 0, 1) := by decide +kernel
theorem dL_law_263 : decode code 263 = .ok (.iload 4, 2) := by decide +kernel
theorem dL_law_265 : decode code 265 = .ok (.iconst 2, 1) := by decide +kernel
theorem dL_law_266 : decode code 266 = .ok (.iadd, 1) := by decide +kernel
theorem dL_law_267 : decode code 267 = .ok (.iaload, 1) := by decide +kernel
theorem dL_law_268 : decode code 268 = .ok (.aload_n 0, 1) := by decide +kernel
theorem dL_law_269 : decode code 269 = .ok (.iload 4, 2) := by decide +kernel
theorem dL_law_271 : decode code 271 = .ok (.iconst 3, 1) := by decide +kernel
theorem dL_law_272 : decode code 272 = .ok (.iadd, 1) := by decide +kernel
theorem dL_law_273 : decode code 273 = .ok (.iaload, 1) := by decide +kernel
theorem dL_law_274 : decode code 274 = .ok (.invokevirtual 76, 3) := by decide +kernel
theorem dL_law_277 : decode code 277 = .ok (.istore 6, 2) := by decide +kernel
theorem dL_law_279 : decode code 279 = .ok (.aload_n 2, 1) := by decide +kernel
theorem dL_law_280 : decode code 280 = .ok (.invokevirtual 69, 3) := by decide +kernel
theorem dL_law_283 : decode code 283 = .ok (.iload 5, 2) := by decide +kernel
theorem dL_law_285 : decode code 285 = .ok (.if_icmp .eq 5, 3) := by decide +kernel
theorem dL_law_288 : decode code 288 = .ok (.iconst 0, 1) := by decide +kernel
theorem dL_law_289 : decode code 289 = .ok (.ireturn, 1) := by decide +kernel
theorem dL_law_290 : decode code 290 = .ok (.iload 5, 2) := by decide +kernel
theorem dL_law_292 : decode code 292 = .ok (.ifCond .ne 15, 3) := by decide +kernel
theorem dL_law_295 : decode code 295 = .ok (.aload_n 3, 1) := by decide +kernel
theorem dL_law_296 : decode code 296 = .ok (.iconst 0, 1) := by decide +kernel
theorem dL_law_297 : decode code 297 = .ok (.laload, 1) := by decide +kernel
theorem dL_law_298 : decode code 298 = .ok (.iload 6, 2) := by decide +kernel
theorem dL_law_300 : decode code 300 = .ok (.i2l, 1) := by decide +kernel
theorem dL_law_301 : decode code 301 = .ok (.lcmp, 1) := by decide +kernel
theorem dL_law_302 : decode code 302 = .ok (.ifCond .eq 5, 3) := by decide +kernel
theorem dL_law_305 : decode code 305 = .ok (.iconst 0, 1) := by decide +kernel
theorem dL_law_306 : decode code 306 = .ok (.ireturn, 1) := by decide +kernel
theorem dL_law_307 : decode code 307 = .ok (.goto 787, 3) := by decide +kernel
theorem dL_law_310 : decode code 310 = .ok (.aload_n 1, 1) := by decide +kernel
theorem dL_law_311 : decode code 311 = .ok (.aload_n 0, 1) := by decide +kernel
theorem dL_law_312 : decode code 312 = .ok (.iload 4, 2) := by decide +kernel
theorem dL_law_314 : decode code 314 = .ok (.iconst 1, 1) := by decide +kernel
theorem dL_law_315 : decode code 315 = .ok (.iadd, 1) := by decide +kernel
theorem dL_law_316 : decode code 316 = .ok (.iaload, 1) := by decide +kernel
theorem dL_law_317 : decode code 317 = .ok (.aload_n 0, 1) := by decide +kernel
theorem dL_law_318 : decode code 318 = .ok (.iload 4, 2) := by decide +kernel
theorem dL_law_320 : decode code 320 = .ok (.iconst 2, 1) := by decide +kernel
theorem dL_law_321 : decode code 321 = .ok (.iadd, 1) := by decide +kernel
theorem dL_law_322 : decode code 322 = .ok (.iaload, 1) := by decide +kernel
theorem dL_law_323 : decode code 323 = .ok (.ifCond .eq 7, 3) := by decide +kernel
theorem dL_law_326 : decode code 326 = .ok (.iconst 1, 1) := by decide +kernel
theorem dL_law_327 : decode code 327 = .ok (.goto 4, 3) := by decide +kernel
theorem dL_law_330 : decode code 330 = .ok (.iconst 0, 1) := by decide +kernel
theorem dL_law_331 : decode code 331 = .ok (.aload_n 3, 1) := by decide +kernel
theorem dL_law_332 : decode code 332 = .ok (.invokestatic 77, 3) := by decide +kernel
theorem dL_law_335 : decode code 335 = .ok (.istore 5, 2) := by decide +kernel
theorem dL_law_337 : decode code 337 = .ok (.aload_n 2, 1) := by decide +kernel
theorem dL_law_338 : decode code 338 = .ok (.aload_n 0, 1) := by decide +kernel
theorem dL_law_339 : decode code 339 = .ok (.iload 4, 2) := by decide +kernel
theorem dL_law_341 : decode code 341 = .ok (.iconst 1, 1) := by decide +kernel
theorem dL_law_342 : decode code 342 = .ok (.iadd, 1) := by decide +kernel
theorem dL_law_343 : decode code 343 = .ok (.iaload, 1) := by decide +kernel
theorem dL_law_344 : decode code 344 = .ok (.aload_n 0, 1) := by decide +kernel
theorem dL_law_345 : decode code 345 = .ok (.iload 4, 2) := by decide +kernel
theorem dL_law_347 : decode code 347 = .ok (.iconst 2, 1) := by decide +kernel
theorem dL_law_348 : decode code 348 = .ok (.iadd, 1) := by decide +kernel
theorem dL_law_349 : decode code 349 = .ok (.iaload, 1) := by decide +kernel
theorem dL_law_350 : decode code 350 = .ok (.ifCond .eq 7, 3) := by decide +kernel
theorem dL_law_353 : decode code 353 = .ok (.iconst 1, 1) := by decide +kernel
theorem dL_law_354 : decode code 354 = .ok (.goto 4, 3) := by decide +kernel
theorem dL_law_357 : decode code 357 = .ok (.iconst 0, 1) := by decide +kernel
theorem dL_law_358 : decode code 358 = .ok (.invokevirtual 80, 3) := by decide +kernel
theorem dL_law_361 : decode code 361 = .ok (.istore 6, 2) := by decide +kernel
theorem dL_law_363 : decode code 363 = .ok (.aload_n 2, 1) := by decide +kernel
theorem dL_law_364 : decode code 364 = .ok (.invokevirtual 69, 3) := by decide +kernel
theorem dL_law_367 : decode code 367 = .ok (.iload 5, 2) := by decide +kernel
theorem dL_law_369 : decode code 369 = .ok (.if_icmp .eq 5, 3) := by decide +kernel
theorem dL_law_372 : decode code 372 = .ok (.iconst 0, 1) := by decide +kernel
theorem dL_law_373 : decode code 373 = .ok (.ireturn, 1) := by decide +kernel
theorem dL_law_374 : decode code 374 = .ok (.iload 5, 2) := by decide +kernel
theorem dL_law_376 : decode code 376 = .ok (.ifCond .ne 22, 3) := by decide +kernel
theorem dL_law_379 : decode code 379 = .ok (.aload_n 3, 1) := by decide +kernel
theorem dL_law_380 : decode code 380 = .ok (.iconst 0, 1) := by decide +kernel
theorem dL_law_381 : decode code 381 = .ok (.laload, 1) := by decide +kernel
theorem dL_law_382 : decode code 382 = .ok (.iload 6, 2) := by decide +kernel
theorem dL_law_384 : decode code 384 = .ok (.ifCond .eq 7, 3) := by decide +kernel
theorem dL_law_387 : decode code 387 = .ok (.lconst 1, 1) := by decide +kernel
theorem dL_law_388 : decode code 388 = .ok (.goto 4, 3) := by decide +kernel
theorem dL_law_391 : decode code 391 = .ok (.lconst 0, 1) := by decide +kernel
theorem dL_law_392 : decode code 392 = .ok (.lcmp, 1) := by decide +kernel
theorem dL_law_393 : decode code 393 = .ok (.ifCond .eq 5, 3) := by decide +kernel
theorem dL_law_396 : decode code 396 = .ok (.iconst 0, 1) := by decide +kernel
theorem dL_law_397 : decode code 397 = .ok (.ireturn, 1) := by decide +kernel
theorem dL_law_398 : decode code 398 = .ok (.goto 696, 3) := by decide +kernel
theorem dL_law_401 : decode code 401 = .ok (.aload_n 1, 1) := by decide +kernel
theorem dL_law_402 : decode code 402 = .ok (.aload_n 0, 1) := by decide +kernel
theorem dL_law_403 : decode code 403 = .ok (.iload 4, 2) := by decide +kernel
theorem dL_law_405 : decode code 405 = .ok (.iconst 1, 1) := by decide +kernel
theorem dL_law_406 : decode code 406 = .ok (.iadd, 1) := by decide +kernel
theorem dL_law_407 : decode code 407 = .ok (.iaload, 1) := by decide +kernel
theorem dL_law_408 : decode code 408 = .ok (.aload_n 0, 1) := by decide +kernel
theorem dL_law_409 : decode code 409 = .ok (.iload 4, 2) := by decide +kernel
theorem dL_law_411 : decode code 411 = .ok (.iconst 2, 1) := by decide +kernel
theorem dL_law_412 : decode code 412 = .ok (.iadd, 1) := by decide +kernel
theorem dL_law_413 : decode code 413 = .ok (.iaload, 1) := by decide +kernel
theorem dL_law_414 : decode code 414 = .ok (.aload_n 0, 1) := by decide +kernel
theorem dL_law_415 : decode code 415 = .ok (.iload 4, 2) := by decide +kernel
end
section
theorem dL_law_417 : decode code 417 = .ok (.iconst 3, 1) := by decide +kernel
theorem dL_law_418 : decode code 418 = .ok (.iadd, 1) := by decide +kernel
theorem dL_law_419 : decode code 419 = .ok (.iaload, 1) := by decide +kernel
theorem dL_law_420 : decode code 420 = .ok (.aload_n 0, 1) := by decide +kernel
theorem dL_law_421 : decode code 421 = .ok (.iload 4, 2) := by decide +kernel
theorem dL_law_423 : decode code 423 = .ok (.iconst 4, 1) := by decide +kernel
theorem dL_law_424 : decode code 424 = .ok (.iadd, 1) := by decide +kernel
theorem dL_law_425 : decode code 425 = .ok (.iaload, 1) := by decide +kernel
theorem dL_law_426 : decode code 426 = .ok (.aload_n 0, 1) := by decide +kernel
theorem dL_law_427 : decode code 427 = .ok (.iload 4, 2) := by decide +kernel
theorem dL_law_429 : decode code 429 = .ok (.iconst 5, 1) := by decide +kernel
theorem dL_law_430 : decode code 430 = .ok (.iadd, 1) := by decide +kernel
theorem dL_law_431 : decode code 431 = .ok (.iaload, 1) := by decide +kernel
theorem dL_law_432 : decode code 432 = .ok (.aload_n 0, 1) := by decide +kernel
theorem dL_law_433 : decode code 433 = .ok (.iload 4, 2) := by decide +kernel
theorem dL_law_435 : decode code 435 = .ok (.bipush 6, 2) := by decide +kernel
theorem dL_law_437 : decode code 437 = .ok (.iadd, 1) := by decide +kernel
theorem dL_law_438 : decode code 438 = .ok (.iaload, 1) := by decide +kernel
theorem dL_law_439 : decode code 439 = .ok (.aload_n 3, 1) := by decide +kernel
theorem dL_law_440 : decode code 440 = .ok (.invokestatic 81, 3) := by decide +kernel
theorem dL_law_443 : decode code 443 = .ok (.istore 5, 2) := by decide +kernel
theorem dL_law_445 : decode code 445 = .ok (.aload_n 2, 1) := by decide +kernel
theorem dL_law_446 : decode code 446 = .ok (.aload_n 0, 1) := by decide +kernel
theorem dL_law_447 : decode code 447 = .ok (.iload 4, 2) := by decide +kernel
theorem dL_law_449 : decode code 449 = .ok (.iconst 1, 1) := by decide +kernel
theorem dL_law_450 : decode code 450 = .ok (.iadd, 1) := by decide +kernel
theorem dL_law_451 : decode code 451 = .ok (.iaload, 1) := by decide +kernel
theorem dL_law_452 : decode code 452 = .ok (.aload_n 0, 1) := by decide +kernel
theorem dL_law_453 : decode code 453 = .ok (.iload 4, 2) := by decide +kernel
theorem dL_law_455 : decode code 455 = .ok (.iconst 2, 1) := by decide +kernel
theorem dL_law_456 : decode code 456 = .ok (.iadd, 1) := by decide +kernel
theorem dL_law_457 : decode code 457 = .ok (.iaload, 1) := by decide +kernel
theorem dL_law_458 : decode code 458 = .ok (.aload_n 0, 1) := by decide +kernel
theorem dL_law_459 : decode code 459 = .ok (.iload 4, 2) := by decide +kernel
theorem dL_law_461 : decode code 461 = .ok (.iconst 3, 1) := by decide +kernel
theorem dL_law_462 : decode code 462 = .ok (.iadd, 1) := by decide +kernel
theorem dL_law_463 : decode code 463 = .ok (.iaload, 1) := by decide +kernel
theorem dL_law_464 : decode code 464 = .ok (.aload_n 0, 1) := by decide +kernel
theorem dL_law_465 : decode code 465 = .ok (.iload 4, 2) := by decide +kernel
theorem dL_law_467 : decode code 467 = .ok (.iconst 4, 1) := by decide +kernel
theorem dL_law_468 : decode code 468 = .ok (.iadd, 1) := by decide +kernel
theorem dL_law_469 : decode code 469 = .ok (.iaload, 1) := by decide +kernel
theorem dL_law_470 : decode code 470 = .ok (.aload_n 0, 1) := by decide +kernel
theorem dL_law_471 : decode code 471 = .ok (.iload 4, 2) := by decide +kernel
theorem dL_law_473 : decode code 473 = .ok (.iconst 5, 1) := by decide +kernel
theorem dL_law_474 : decode code 474 = .ok (.iadd, 1) := by decide +kernel
theorem dL_law_475 : decode code 475 = .ok (.iaload, 1) := by decide +kernel
theorem dL_law_476 : decode code 476 = .ok (.aload_n 0, 1) := by decide +kernel
theorem dL_law_477 : decode code 477 = .ok (.iload 4, 2) := by decide +kernel
theorem dL_law_479 : decode code 479 = .ok (.bipush 6, 2) := by decide +kernel
theorem dL_law_481 : decode code 481 = .ok (.iadd, 1) := by decide +kernel
theorem dL_law_482 : decode code 482 = .ok (.iaload, 1) := by decide +kernel
theorem dL_law_483 : decode code 483 = .ok (.invokevirtual 83, 3) := by decide +kernel
theorem dL_law_486 : decode code 486 = .ok (.istore 6, 2) := by decide +kernel
theorem dL_law_488 : decode code 488 = .ok (.aload_n 2, 1) := by decide +kernel
theorem dL_law_489 : decode code 489 = .ok (.invokevirtual 69, 3) := by decide +kernel
theorem dL_law_492 : decode code 492 = .ok (.iload 5, 2) := by decide +kernel
theorem dL_law_494 : decode code 494 = .ok (.if_icmp .eq 5, 3) := by decide +kernel
theorem dL_law_497 : decode code 497 = .ok (.iconst 0, 1) := by decide +kernel
theorem dL_law_498 : decode code 498 = .ok (.ireturn, 1) := by decide +kernel
theorem dL_law_499 : decode code 499 = .ok (.iload 5, 2) := by decide +kernel
theorem dL_law_501 : decode code 501 = .ok (.ifCond .ne 15, 3) := by decide +kernel
theorem dL_law_504 : decode code 504 = .ok (.aload_n 3, 1) := by decide +kernel
theorem dL_law_505 : decode code 505 = .ok (.iconst 0, 1) := by decide +kernel
theorem dL_law_506 : decode code 506 = .ok (.laload, 1) := by decide +kernel
theorem dL_law_507 : decode code 507 = .ok (.iload 6, 2) := by decide +kernel
theorem dL_law_509 : decode code 509 = .ok (.i2l, 1) := by decide +kernel
theorem dL_law_510 : decode code 510 = .ok (.lcmp, 1) := by decide +kernel
theorem dL_law_511 : decode code 511 = .ok (.ifCond .eq 5, 3) := by decide +kernel
theorem dL_law_514 : decode code 514 = .ok (.iconst 0, 1) := by decide +kernel
theorem dL_law_515 : decode code 515 = .ok (.ireturn, 1) := by decide +kernel
theorem dL_law_516 : decode code 516 = .ok (.goto 578, 3) := by decide +kernel
theorem dL_law_519 : decode code 519 = .ok (.aload_n 1, 1) := by decide +kernel
theorem dL_law_520 : decode code 520 = .ok (.aload_n 0, 1) := by decide +kernel
theorem dL_law_521 : decode code 521 = .ok (.iload 4, 2) := by decide +kernel
theorem dL_law_523 : decode code 523 = .ok (.iconst 1, 1) := by decide +kernel
theorem dL_law_524 : decode code 524 = .ok (.iadd, 1) := by decide +kernel
theorem dL_law_525 : decode code 525 = .ok (.iaload, 1) := by decide +kernel
theorem dL_law_526 : decode code 526 = .ok (.aload_n 3, 1) := by decide +kernel
theorem dL_law_527 : decode code 527 = .ok (.invokestatic 84, 3) := by decide +kernel
theorem dL_law_530 : decode code 530 = .ok (.istore 5, 2) := by decide +kernel
theorem dL_law_532 : decode code 532 = .ok (.aload_n 2, 1) := by decide +kernel
theorem dL_law_533 : decode code 533 = .ok (.aload_n 0, 1) := by decide +kernel
theorem dL_law_534 : decode code 534 = .ok (.iload 4, 2) := by decide +kernel
theorem dL_law_536 : decode code 536 = .ok (.iconst 1, 1) := by decide +kernel
theorem dL_law_537 : decode code 537 = .ok (.iadd, 1) := by decide +kernel
theorem dL_law_538 : decode code 538 = .ok (.iaload, 1) := by decide +kernel
theorem dL_law_539 : decode code 539 = .ok (.invokevirtual 87, 3) := by decide +kernel
theorem dL_law_542 : decode code 542 = .ok (.istore 6, 2) := by decide +kernel
theorem dL_law_544 : decode code 544 = .ok (.aload_n 2, 1) := by decide +kernel
theorem dL_law_545 : decode code 545 = .ok (.invokevirtual 69, 3) := by decide +kernel
theorem dL_law_548 : decode code 548 = .ok (.iload 5, 2) := by decide +kernel
theorem dL_law_550 : decode code 550 = .ok (.if_icmp .eq 5, 3) := by decide +kernel
theorem dL_law_553 : decode code 553 = .ok (.iconst 0, 1) := by decide +kernel
theorem dL_law_554 : decode code 554 = .ok (.ireturn, 1) := by decide +kernel
theorem dL_law_555 : decode code 555 = .ok (.iload 5, 2) := by decide +kernel
theorem dL_law_557 : decode code 557 = .ok (.ifCond .ne 15, 3) := by decide +kernel
theorem dL_law_560 : decode code 560 = .ok (.aload_n 3, 1) := by decide +kernel
theorem dL_law_561 : decode code 561 = .ok (.iconst 0, 1) := by decide +kernel
theorem dL_law_562 : decode code 562 = .ok (.laload, 1) := by decide +kernel
theorem dL_law_563 : decode code 563 = .ok (.iload 6, 2) := by decide +kernel
theorem dL_law_565 : decode code 565 = .ok (.i2l, 1) := by decide +kernel
theorem dL_law_566 : decode code 566 = .ok (.lcmp, 1) := by decide +kernel
theorem dL_law_567 : decode code 567 = .ok (.ifCond .eq 5, 3) := by decide +kernel
theorem dL_law_570 : decode code 570 = .ok (.iconst 0, 1) := by decide +kernel
theorem dL_law_571 : decode code 571 = .ok (.ireturn, 1) := by decide +kernel
theorem dL_law_572 : decode code 572 = .ok (.goto 522, 3) := by decide +kernel
theorem dL_law_575 : decode code 575 = .ok (.aload_n 1, 1) := by decide +kernel
theorem dL_law_576 : decode code 576 = .ok (.aload_n 0, 1) := by decide +kernel
theorem dL_law_577 : decode code 577 = .ok (.iload 4, 2) := by decide +kernel
theorem dL_law_579 : decode code 579 = .ok (.iconst 1, 1) := by decide +kernel
theorem dL_law_580 : decode code 580 = .ok (.iadd, 1) := by decide +kernel
theorem dL_law_581 : decode code 581 = .ok (.iaload, 1) := by decide +kernel
theorem dL_law_582 : decode code 582 = .ok (.aload_n 0, 1) := by decide +kernel
theorem dL_law_583 : decode code 583 = .ok (.iload 4, 2) := by decide +kernel
theorem dL_law_585 : decode code 585 = .ok (.iconst 2, 1) := by decide +kernel
theorem dL_law_586 : decode code 586 = .ok (.iadd, 1) := by decide +kernel
theorem dL_law_587 : decode code 587 = .ok (.iaload, 1) := by decide +kernel
theorem dL_law_588 : decode code 588 = .ok (.aload_n 3, 1) := by decide +kernel
theorem dL_law_589 : decode code 589 = .ok (.invokestatic 88, 3) := by decide +kernel
theorem dL_law_592 : decode code 592 = .ok (.istore 5, 2) := by decide +kernel
theorem dL_law_594 : decode code 594 = .ok (.aload_n 2, 1) := by decide +kernel
theorem dL_law_595 : decode code 595 = .ok (.aload_n 0, 1) := by decide +kernel
theorem dL_law_596 : decode code 596 = .ok (.iload 4, 2) := by decide +kernel
theorem dL_law_598 : decode code 598 = .ok (.iconst 1, 1) := by decide +kernel
theorem dL_law_599 : decode code 599 = .ok (.iadd, 1) := by decide +kernel
theorem dL_law_600 : decode code 600 = .ok (.iaload, 1) := by decide +kernel
theorem dL_law_601 : decode code 601 = .ok (.aload_n 0, 1) := by decide +kernel
theorem dL_law_602 : decode code 602 = .ok (.iload 4, 2) := by decide +kernel
theorem dL_law_604 : decode code 604 = .ok (.iconst 2, 1) := by decide +kernel
theorem dL_law_605 : decode code 605 = .ok (.iadd, 1) := by decide +kernel
theorem dL_law_606 : decode code 606 = .ok (.iaload, 1) := by decide +kernel
theorem dL_law_607 : decode code 607 = .ok (.invokevirtual 91, 3) := by decide +kernel
theorem dL_law_610 : decode code 610 = .ok (.istore 6, 2) := by decide +kernel
theorem dL_law_612 : decode code 612 = .ok (.aload_n 2, 1) := by decide +kernel
theorem dL_law_613 : decode code 613 = .ok (.invokevirtual 69, 3) := by decide +kernel
theorem dL_law_616 : decode code 616 = .ok (.iload 5, 2) := by decide +kernel
theorem dL_law_618 : decode code 618 = .ok (.if_icmp .eq 5, 3) := by decide +kernel
theorem dL_law_621 : decode code 621 = .ok (.iconst 0, 1) := by decide +kernel
theorem dL_law_622 : decode code 622 = .ok (.ireturn, 1) := by decide +kernel
theorem dL_law_623 : decode code 623 = .ok (.iload 5, 2) := by decide +kernel
theorem dL_law_625 : decode code 625 = .ok (.ifCond .ne 15, 3) := by decide +kernel
theorem dL_law_628 : decode code 628 = .ok (.aload_n 3, 1) := by decide +kernel
theorem dL_law_629 : decode code 629 = .ok (.iconst 0, 1) := by decide +kernel
theorem dL_law_630 : decode code 630 = .ok (.laload, 1) := by decide +kernel
theorem dL_law_631 : decode code 631 = .ok (.iload 6, 2) := by decide +kernel
theorem dL_law_633 : decode code 633 = .ok (.i2l, 1) := by decide +kernel
theorem dL_law_634 : decode code 634 = .ok (.lcmp, 1) := by decide +kernel
theorem dL_law_635 : decode code 635 = .ok (.ifCond .eq 5, 3) := by decide +kernel
theorem dL_law_638 : decode code 638 = .ok (.iconst 0, 1) := by decide +kernel
theorem dL_law_639 : decode code 639 = .ok (.ireturn, 1) := by decide +kernel
theorem dL_law_640 : decode code 640 = .ok (.goto 454, 3) := by decide +kernel
theorem dL_law_643 : decode code 643 = .ok (.aload_n 1, 1) := by decide +kernel
theorem dL_law_644 : decode code 644 = .ok (.aload_n 0, 1) := by decide +kernel
theorem dL_law_645 : decode code 645 = .ok (.iload 4, 2) := by decide +kernel
theorem dL_law_647 : decode code 647 = .ok (.iconst 1, 1) := by decide +kernel
theorem dL_law_648 : decode code 648 = .ok (.iadd, 1) := by decide +kernel
theorem dL_law_649 : decode code 649 = .ok (.iaload, 1) := by decide +kernel
theorem dL_law_650 : decode code 650 = .ok (.aload_n 0, 1) := by decide +kernel
theorem dL_law_651 : decode code 651 = .ok (.iload 4, 2) := by decide +kernel
theorem dL_law_653 : decode code 653 = .ok (.iconst 2, 1) := by decide +kernel
theorem dL_law_654 : decode code 654 = .ok (.iadd, 1) := by decide +kernel
theorem dL_law_655 : decode code 655 = .ok (.iaload, 1) := by decide +kernel
theorem dL_law_656 : decode code 656 = .ok (.aload_n 0, 1) := by decide +kernel
theorem dL_law_657 : decode code 657 = .ok (.iload 4, 2) := by decide +kernel
theorem dL_law_659 : decode code 659 = .ok (.iconst 3, 1) := by decide +kernel
theorem dL_law_660 : decode code 660 = .ok (.iadd, 1) := by decide +kernel
theorem dL_law_661 : decode code 661 = .ok (.iaload, 1) := by decide +kernel
theorem dL_law_662 : decode code 662 = .ok (.aload_n 3, 1) := by decide +kernel
theorem dL_law_663 : decode code 663 = .ok (.invokestatic 92, 3) := by decide +kernel
theorem dL_law_666 : decode code 666 = .ok (.istore 5, 2) := by decide +kernel
theorem dL_law_668 : decode code 668 = .ok (.aload_n 2, 1) := by decide +kernel
theorem dL_law_669 : decode code 669 = .ok (.aload_n 0, 1) := by decide +kernel
theorem dL_law_670 : decode code 670 = .ok (.iload 4, 2) := by decide +kernel
theorem dL_law_672 : decode code 672 = .ok (.iconst 1, 1) := by decide +kernel
theorem dL_law_673 : decode code 673 = .ok (.iadd, 1) := by decide +kernel
theorem dL_law_674 : decode code 674 = .ok (.iaload, 1) := by decide +kernel
theorem dL_law_675 : decode code 675 = .ok (.aload_n 0, 1) := by decide +kernel
theorem dL_law_676 : decode code 676 = .ok (.iload 4, 2) := by decide +kernel
theorem dL_law_678 : decode code 678 = .ok (.iconst 2, 1) := by decide +kernel
theorem dL_law_679 : decode code 679 = .ok (.iadd, 1) := by decide +kernel
theorem dL_law_680 : decode code 680 = .ok (.iaload, 1) := by decide +kernel
theorem dL_law_681 : decode code 681 = .ok (.aload_n 0, 1) := by decide +kernel
theorem dL_law_682 : decode code 682 = .ok (.iload 4, 2) := by decide +kernel
theorem dL_law_684 : decode code 684 = .ok (.iconst 3, 1) := by decide +kernel
theorem dL_law_685 : decode code 685 = .ok (.iadd, 1) := by decide +kernel
theorem dL_law_686 : decode code 686 = .ok (.iaload, 1) := by decide +kernel
theorem dL_law_687 : decode code 687 = .ok (.invokevirtual 94, 3) := by decide +kernel
theorem dL_law_690 : decode code 690 = .ok (.lstore 6, 2) := by decide +kernel
theorem dL_law_692 : decode code 692 = .ok (.aload_n 2, 1) := by decide +kernel
theorem dL_law_693 : decode code 693 = .ok (.invokevirtual 69, 3) := by decide +kernel
theorem dL_law_696 : decode code 696 = .ok (.iload 5, 2) := by decide +kernel
theorem dL_law_698 : decode code 698 = .ok (.if_icmp .eq 5, 3) := by decide +kernel
theorem dL_law_701 : decode code 701 = .ok (.iconst 0, 1) := by decide +kernel
theorem dL_law_702 : decode code 702 = .ok (.ireturn, 1) := by decide +kernel
theorem dL_law_703 : decode code 703 = .ok (.iload 5, 2) := by decide +kernel
theorem dL_law_705 : decode code 705 = .ok (.ifCond .ne 14, 3) := by decide +kernel
theorem dL_law_708 : decode code 708 = .ok (.aload_n 3, 1) := by decide +kernel
theorem dL_law_709 : decode code 709 = .ok (.iconst 0, 1) := by decide +kernel
theorem dL_law_710 : decode code 710 = .ok (.laload, 1) := by decide +kernel
theorem dL_law_711 : decode code 711 = .ok (.lload 6, 2) := by decide +kernel
theorem dL_law_713 : decode code 713 = .ok (.lcmp, 1) := by decide +kernel
theorem dL_law_714 : decode code 714 = .ok (.ifCond .eq 5, 3) := by decide +kernel
theorem dL_law_717 : decode code 717 = .ok (.iconst 0, 1) := by decide +kernel
theorem dL_law_718 : decode code 718 = .ok (.ireturn, 1) := by decide +kernel
theorem dL_law_719 : decode code 719 = .ok (.goto 375, 3) := by decide +kernel
theorem dL_law_722 : decode code 722 = .ok (.aload_n 1, 1) := by decide +kernel
theorem dL_law_723 : decode code 723 = .ok (.aload_n 0, 1) := by decide +kernel
theorem dL_law_724 : decode code 724 = .ok (.iload 4, 2) := by decide +kernel
theorem dL_law_726 : decode code 726 = .ok (.iconst 1, 1) := by decide +kernel
theorem dL_law_727 : decode code 727 = .ok (.iadd, 1) := by decide +kernel
theorem dL_law_728 : decode code 728 = .ok (.iaload, 1) := by decide +kernel
theorem dL_law_729 : decode code 729 = .ok (.aload_n 0, 1) := by decide +kernel
theorem dL_law_730 : decode code 730 = .ok (.iload 4, 2) := by decide +kernel
theorem dL_law_732 : decode code 732 = .ok (.iconst 2, 1) := by decide +kernel
theorem dL_law_733 : decode code 733 = .ok (.iadd, 1) := by decide +kernel
theorem dL_law_734 : decode code 734 = .ok (.iaload, 1) := by decide +kernel
theorem dL_law_735 : decode code 735 = .ok (.aload_n 3, 1) := by decide +kernel
theorem dL_law_736 : decode code 736 = .ok (.invokestatic 95, 3) := by decide +kernel
theorem dL_law_739 : decode code 739 = .ok (.istore 5, 2) := by decide +kernel
theorem dL_law_741 : decode code 741 = .ok (.aload_n 2, 1) := by decide +kernel
theorem dL_law_742 : decode code 742 = .ok (.aload_n 0, 1) := by decide +kernel
theorem dL_law_743 : decode code 743 = .ok (.iload 4, 2) := by decide +kernel
theorem dL_law_745 : decode code 745 = .ok (.iconst 1, 1) := by decide +kernel
theorem dL_law_746 : decode code 746 = .ok (.iadd, 1) := by decide +kernel
theorem dL_law_747 : decode code 747 = .ok (.iaload, 1) := by decide +kernel
theorem dL_law_748 : decode code 748 = .ok (.aload_n 0, 1) := by decide +kernel
theorem dL_law_749 : decode code 749 = .ok (.iload 4, 2) := by decide +kernel
theorem dL_law_751 : decode code 751 = .ok (.iconst 2, 1) := by decide +kernel
theorem dL_law_752 : decode code 752 = .ok (.iadd, 1) := by decide +kernel
theorem dL_law_753 : decode code 753 = .ok (.iaload, 1) := by decide +kernel
theorem dL_law_754 : decode code 754 = .ok (.invokevirtual 97, 3) := by decide +kernel
theorem dL_law_757 : decode code 757 = .ok (.istore 6, 2) := by decide +kernel
theorem dL_law_759 : decode code 759 = .ok (.aload_n 2, 1) := by decide +kernel
theorem dL_law_760 : decode code 760 = .ok (.invokevirtual 69, 3) := by decide +kernel
theorem dL_law_763 : decode code 763 = .ok (.iload 5, 2) := by decide +kernel
theorem dL_law_765 : decode code 765 = .ok (.if_icmp .eq 5, 3) := by decide +kernel
theorem dL_law_768 : decode code 768 = .ok (.iconst 0, 1) := by decide +kernel
theorem dL_law_769 : decode code 769 = .ok (.ireturn, 1) := by decide +kernel
theorem dL_law_770 : decode code 770 = .ok (.iload 5, 2) := by decide +kernel
end
section
theorem dL_law_772 : decode code 772 = .ok (.ifCond .ne 15, 3) := by decide +kernel
theorem dL_law_775 : decode code 775 = .ok (.aload_n 3, 1) := by decide +kernel
theorem dL_law_776 : decode code 776 = .ok (.iconst 0, 1) := by decide +kernel
theorem dL_law_777 : decode code 777 = .ok (.laload, 1) := by decide +kernel
theorem dL_law_778 : decode code 778 = .ok (.iload 6, 2) := by decide +kernel
theorem dL_law_780 : decode code 780 = .ok (.i2l, 1) := by decide +kernel
theorem dL_law_781 : decode code 781 = .ok (.lcmp, 1) := by decide +kernel
theorem dL_law_782 : decode code 782 = .ok (.ifCond .eq 5, 3) := by decide +kernel
theorem dL_law_785 : decode code 785 = .ok (.iconst 0, 1) := by decide +kernel
theorem dL_law_786 : decode code 786 = .ok (.ireturn, 1) := by decide +kernel
theorem dL_law_787 : decode code 787 = .ok (.goto 307, 3) := by decide +kernel
theorem dL_law_790 : decode code 790 = .ok (.aload_n 1, 1) := by decide +kernel
theorem dL_law_791 : decode code 791 = .ok (.aload_n 0, 1) := by decide +kernel
theorem dL_law_792 : decode code 792 = .ok (.iload 4, 2) := by decide +kernel
theorem dL_law_794 : decode code 794 = .ok (.iconst 1, 1) := by decide +kernel
theorem dL_law_795 : decode code 795 = .ok (.iadd, 1) := by decide +kernel
theorem dL_law_796 : decode code 796 = .ok (.iaload, 1) := by decide +kernel
theorem dL_law_797 : decode code 797 = .ok (.aload_n 0, 1) := by decide +kernel
theorem dL_law_798 : decode code 798 = .ok (.iload 4, 2) := by decide +kernel
theorem dL_law_800 : decode code 800 = .ok (.iconst 2, 1) := by decide +kernel
theorem dL_law_801 : decode code 801 = .ok (.iadd, 1) := by decide +kernel
theorem dL_law_802 : decode code 802 = .ok (.iaload, 1) := by decide +kernel
theorem dL_law_803 : decode code 803 = .ok (.aload_n 0, 1) := by decide +kernel
theorem dL_law_804 : decode code 804 = .ok (.iload 4, 2) := by decide +kernel
theorem dL_law_806 : decode code 806 = .ok (.iconst 3, 1) := by decide +kernel
theorem dL_law_807 : decode code 807 = .ok (.iadd, 1) := by decide +kernel
theorem dL_law_808 : decode code 808 = .ok (.iaload, 1) := by decide +kernel
theorem dL_law_809 : decode code 809 = .ok (.aload_n 3, 1) := by decide +kernel
theorem dL_law_810 : decode code 810 = .ok (.invokestatic 98, 3) := by decide +kernel
theorem dL_law_813 : decode code 813 = .ok (.istore 5, 2) := by decide +kernel
theorem dL_law_815 : decode code 815 = .ok (.aload_n 2, 1) := by decide +kernel
theorem dL_law_816 : decode code 816 = .ok (.aload_n 0, 1) := by decide +kernel
theorem dL_law_817 : decode code 817 = .ok (.iload 4, 2) := by decide +kernel
theorem dL_law_819 : decode code 819 = .ok (.iconst 1, 1) := by decide +kernel
theorem dL_law_820 : decode code 820 = .ok (.iadd, 1) := by decide +kernel
theorem dL_law_821 : decode code 821 = .ok (.iaload, 1) := by decide +kernel
theorem dL_law_822 : decode code 822 = .ok (.aload_n 0, 1) := by decide +kernel
theorem dL_law_823 : decode code 823 = .ok (.iload 4, 2) := by decide +kernel
theorem dL_law_825 : decode code 825 = .ok (.iconst 2, 1) := by decide +kernel
theorem dL_law_826 : decode code 826 = .ok (.iadd, 1) := by decide +kernel
theorem dL_law_827 : decode code 827 = .ok (.iaload, 1) := by decide +kernel
theorem dL_law_828 : decode code 828 = .ok (.aload_n 0, 1) := by decide +kernel
theorem dL_law_829 : decode code 829 = .ok (.iload 4, 2) := by decide +kernel
theorem dL_law_831 : decode code 831 = .ok (.iconst 3, 1) := by decide +kernel
theorem dL_law_832 : decode code 832 = .ok (.iadd, 1) := by decide +kernel
theorem dL_law_833 : decode code 833 = .ok (.iaload, 1) := by decide +kernel
theorem dL_law_834 : decode code 834 = .ok (.invokevirtual 100, 3) := by decide +kernel
theorem dL_law_837 : decode code 837 = .ok (.istore 6, 2) := by decide +kernel
theorem dL_law_839 : decode code 839 = .ok (.aload_n 2, 1) := by decide +kernel
theorem dL_law_840 : decode code 840 = .ok (.invokevirtual 69, 3) := by decide +kernel
theorem dL_law_843 : decode code 843 = .ok (.iload 5, 2) := by decide +kernel
theorem dL_law_845 : decode code 845 = .ok (.if_icmp .eq 5, 3) := by decide +kernel
theorem dL_law_848 : decode code 848 = .ok (.iconst 0, 1) := by decide +kernel
theorem dL_law_849 : decode code 849 = .ok (.ireturn, 1) := by decide +kernel
theorem dL_law_850 : decode code 850 = .ok (.iload 5, 2) := by decide +kernel
theorem dL_law_852 : decode code 852 = .ok (.ifCond .ne 15, 3) := by decide +kernel
theorem dL_law_855 : decode code 855 = .ok (.aload_n 3, 1) := by decide +kernel
theorem dL_law_856 : decode code 856 = .ok (.iconst 0, 1) := by decide +kernel
theorem dL_law_857 : decode code 857 = .ok (.laload, 1) := by decide +kernel
theorem dL_law_858 : decode code 858 = .ok (.iload 6, 2) := by decide +kernel
theorem dL_law_860 : decode code 860 = .ok (.i2l, 1) := by decide +kernel
theorem dL_law_861 : decode code 861 = .ok (.lcmp, 1) := by decide +kernel
theorem dL_law_862 : decode code 862 = .ok (.ifCond .eq 5, 3) := by decide +kernel
theorem dL_law_865 : decode code 865 = .ok (.iconst 0, 1) := by decide +kernel
theorem dL_law_866 : decode code 866 = .ok (.ireturn, 1) := by decide +kernel
theorem dL_law_867 : decode code 867 = .ok (.goto 227, 3) := by decide +kernel
theorem dL_law_870 : decode code 870 = .ok (.aload_n 1, 1) := by decide +kernel
theorem dL_law_871 : decode code 871 = .ok (.invokevirtual 101, 3) := by decide +kernel
theorem dL_law_874 : decode code 874 = .ok (.aload_n 2, 1) := by decide +kernel
theorem dL_law_875 : decode code 875 = .ok (.invokevirtual 104, 3) := by decide +kernel
theorem dL_law_878 : decode code 878 = .ok (.if_icmp .eq 216, 3) := by decide +kernel
theorem dL_law_881 : decode code 881 = .ok (.iconst 0, 1) := by decide +kernel
theorem dL_law_882 : decode code 882 = .ok (.ireturn, 1) := by decide +kernel
theorem dL_law_883 : decode code 883 = .ok (.aload_n 1, 1) := by decide +kernel
theorem dL_law_884 : decode code 884 = .ok (.aload_n 0, 1) := by decide +kernel
theorem dL_law_885 : decode code 885 = .ok (.iload 4, 2) := by decide +kernel
theorem dL_law_887 : decode code 887 = .ok (.iconst 1, 1) := by decide +kernel
theorem dL_law_888 : decode code 888 = .ok (.iadd, 1) := by decide +kernel
theorem dL_law_889 : decode code 889 = .ok (.iaload, 1) := by decide +kernel
theorem dL_law_890 : decode code 890 = .ok (.aload_n 0, 1) := by decide +kernel
theorem dL_law_891 : decode code 891 = .ok (.iload 4, 2) := by decide +kernel
theorem dL_law_893 : decode code 893 = .ok (.iconst 2, 1) := by decide +kernel
theorem dL_law_894 : decode code 894 = .ok (.iadd, 1) := by decide +kernel
theorem dL_law_895 : decode code 895 = .ok (.iaload, 1) := by decide +kernel
theorem dL_law_896 : decode code 896 = .ok (.aload_n 0, 1) := by decide +kernel
theorem dL_law_897 : decode code 897 = .ok (.iload 4, 2) := by decide +kernel
theorem dL_law_899 : decode code 899 = .ok (.iconst 3, 1) := by decide +kernel
theorem dL_law_900 : decode code 900 = .ok (.iadd, 1) := by decide +kernel
theorem dL_law_901 : decode code 901 = .ok (.iaload, 1) := by decide +kernel
theorem dL_law_902 : decode code 902 = .ok (.aload_n 3, 1) := by decide +kernel
theorem dL_law_903 : decode code 903 = .ok (.invokestatic 105, 3) := by decide +kernel
theorem dL_law_906 : decode code 906 = .ok (.istore 5, 2) := by decide +kernel
theorem dL_law_908 : decode code 908 = .ok (.aload_n 2, 1) := by decide +kernel
theorem dL_law_909 : decode code 909 = .ok (.aload_n 0, 1) := by decide +kernel
theorem dL_law_910 : decode code 910 = .ok (.iload 4, 2) := by decide +kernel
theorem dL_law_912 : decode code 912 = .ok (.iconst 1, 1) := by decide +kernel
theorem dL_law_913 : decode code 913 = .ok (.iadd, 1) := by decide +kernel
theorem dL_law_914 : decode code 914 = .ok (.iaload, 1) := by decide +kernel
theorem dL_law_915 : decode code 915 = .ok (.aload_n 0, 1) := by decide +kernel
theorem dL_law_916 : decode code 916 = .ok (.iload 4, 2) := by decide +kernel
theorem dL_law_918 : decode code 918 = .ok (.iconst 2, 1) := by decide +kernel
theorem dL_law_919 : decode code 919 = .ok (.iadd, 1) := by decide +kernel
theorem dL_law_920 : decode code 920 = .ok (.iaload, 1) := by decide +kernel
theorem dL_law_921 : decode code 921 = .ok (.aload_n 0, 1) := by decide +kernel
theorem dL_law_922 : decode code 922 = .ok (.iload 4, 2) := by decide +kernel
theorem dL_law_924 : decode code 924 = .ok (.iconst 3, 1) := by decide +kernel
theorem dL_law_925 : decode code 925 = .ok (.iadd, 1) := by decide +kernel
theorem dL_law_926 : decode code 926 = .ok (.iaload, 1) := by decide +kernel
theorem dL_law_927 : decode code 927 = .ok (.invokevirtual 107, 3) := by decide +kernel
theorem dL_law_930 : decode code 930 = .ok (.lstore 6, 2) := by decide +kernel
theorem dL_law_932 : decode code 932 = .ok (.aload_n 2, 1) := by decide +kernel
theorem dL_law_933 : decode code 933 = .ok (.invokevirtual 69, 3) := by decide +kernel
theorem dL_law_936 : decode code 936 = .ok (.iload 5, 2) := by decide +kernel
theorem dL_law_938 : decode code 938 = .ok (.if_icmp .eq 5, 3) := by decide +kernel
theorem dL_law_941 : decode code 941 = .ok (.iconst 0, 1) := by decide +kernel
theorem dL_law_942 : decode code 942 = .ok (.ireturn, 1) := by decide +kernel
theorem dL_law_943 : decode code 943 = .ok (.iload 5, 2) := by decide +kernel
theorem dL_law_945 : decode code 945 = .ok (.ifCond .ne 14, 3) := by decide +kernel
theorem dL_law_948 : decode code 948 = .ok (.aload_n 3, 1) := by decide +kernel
theorem dL_law_949 : decode code 949 = .ok (.iconst 0, 1) := by decide +kernel
theorem dL_law_950 : decode code 950 = .ok (.laload, 1) := by decide +kernel
theorem dL_law_951 : decode code 951 = .ok (.lload 6, 2) := by decide +kernel
theorem dL_law_953 : decode code 953 = .ok (.lcmp, 1) := by decide +kernel
theorem dL_law_954 : decode code 954 = .ok (.ifCond .eq 5, 3) := by decide +kernel
theorem dL_law_957 : decode code 957 = .ok (.iconst 0, 1) := by decide +kernel
theorem dL_law_958 : decode code 958 = .ok (.ireturn, 1) := by decide +kernel
theorem dL_law_959 : decode code 959 = .ok (.goto 135, 3) := by decide +kernel
theorem dL_law_962 : decode code 962 = .ok (.aload_n 1, 1) := by decide +kernel
theorem dL_law_963 : decode code 963 = .ok (.aload_n 0, 1) := by decide +kernel
theorem dL_law_964 : decode code 964 = .ok (.iload 4, 2) := by decide +kernel
theorem dL_law_966 : decode code 966 = .ok (.iconst 1, 1) := by decide +kernel
theorem dL_law_967 : decode code 967 = .ok (.iadd, 1) := by decide +kernel
theorem dL_law_968 : decode code 968 = .ok (.iaload, 1) := by decide +kernel
theorem dL_law_969 : decode code 969 = .ok (.aload_n 0, 1) := by decide +kernel
theorem dL_law_970 : decode code 970 = .ok (.iload 4, 2) := by decide +kernel
theorem dL_law_972 : decode code 972 = .ok (.iconst 2, 1) := by decide +kernel
theorem dL_law_973 : decode code 973 = .ok (.iadd, 1) := by decide +kernel
theorem dL_law_974 : decode code 974 = .ok (.iaload, 1) := by decide +kernel
theorem dL_law_975 : decode code 975 = .ok (.aload_n 0, 1) := by decide +kernel
theorem dL_law_976 : decode code 976 = .ok (.iload 4, 2) := by decide +kernel
theorem dL_law_978 : decode code 978 = .ok (.iconst 3, 1) := by decide +kernel
theorem dL_law_979 : decode code 979 = .ok (.iadd, 1) := by decide +kernel
theorem dL_law_980 : decode code 980 = .ok (.iaload, 1) := by decide +kernel
theorem dL_law_981 : decode code 981 = .ok (.aload_n 0, 1) := by decide +kernel
theorem dL_law_982 : decode code 982 = .ok (.iload 4, 2) := by decide +kernel
theorem dL_law_984 : decode code 984 = .ok (.iconst 4, 1) := by decide +kernel
theorem dL_law_985 : decode code 985 = .ok (.iadd, 1) := by decide +kernel
theorem dL_law_986 : decode code 986 = .ok (.iaload, 1) := by decide +kernel
theorem dL_law_987 : decode code 987 = .ok (.aload_n 0, 1) := by decide +kernel
theorem dL_law_988 : decode code 988 = .ok (.iload 4, 2) := by decide +kernel
theorem dL_law_990 : decode code 990 = .ok (.iconst 5, 1) := by decide +kernel
theorem dL_law_991 : decode code 991 = .ok (.iadd, 1) := by decide +kernel
theorem dL_law_992 : decode code 992 = .ok (.iaload, 1) := by decide +kernel
theorem dL_law_993 : decode code 993 = .ok (.aload_n 0, 1) := by decide +kernel
theorem dL_law_994 : decode code 994 = .ok (.iload 4, 2) := by decide +kernel
theorem dL_law_996 : decode code 996 = .ok (.bipush 6, 2) := by decide +kernel
theorem dL_law_998 : decode code 998 = .ok (.iadd, 1) := by decide +kernel
theorem dL_law_999 : decode code 999 = .ok (.iaload, 1) := by decide +kernel
theorem dL_law_1000 : decode code 1000 = .ok (.aload_n 0, 1) := by decide +kernel
theorem dL_law_1001 : decode code 1001 = .ok (.iload 4, 2) := by decide +kernel
theorem dL_law_1003 : decode code 1003 = .ok (.bipush 7, 2) := by decide +kernel
theorem dL_law_1005 : decode code 1005 = .ok (.iadd, 1) := by decide +kernel
theorem dL_law_1006 : decode code 1006 = .ok (.iaload, 1) := by decide +kernel
theorem dL_law_1007 : decode code 1007 = .ok (.aload_n 3, 1) := by decide +kernel
theorem dL_law_1008 : decode code 1008 = .ok (.invokestatic 108, 3) := by decide +kernel
theorem dL_law_1011 : decode code 1011 = .ok (.istore 5, 2) := by decide +kernel
theorem dL_law_1013 : decode code 1013 = .ok (.aload_n 2, 1) := by decide +kernel
theorem dL_law_1014 : decode code 1014 = .ok (.aload_n 0, 1) := by decide +kernel
theorem dL_law_1015 : decode code 1015 = .ok (.iload 4, 2) := by decide +kernel
theorem dL_law_1017 : decode code 1017 = .ok (.iconst 1, 1) := by decide +kernel
theorem dL_law_1018 : decode code 1018 = .ok (.iadd, 1) := by decide +kernel
theorem dL_law_1019 : decode code 1019 = .ok (.iaload, 1) := by decide +kernel
theorem dL_law_1020 : decode code 1020 = .ok (.aload_n 0, 1) := by decide +kernel
theorem dL_law_1021 : decode code 1021 = .ok (.iload 4, 2) := by decide +kernel
theorem dL_law_1023 : decode code 1023 = .ok (.iconst 2, 1) := by decide +kernel
theorem dL_law_1024 : decode code 1024 = .ok (.iadd, 1) := by decide +kernel
theorem dL_law_1025 : decode code 1025 = .ok (.iaload, 1) := by decide +kernel
theorem dL_law_1026 : decode code 1026 = .ok (.aload_n 0, 1) := by decide +kernel
theorem dL_law_1027 : decode code 1027 = .ok (.iload 4, 2) := by decide +kernel
theorem dL_law_1029 : decode code 1029 = .ok (.iconst 3, 1) := by decide +kernel
theorem dL_law_1030 : decode code 1030 = .ok (.iadd, 1) := by decide +kernel
theorem dL_law_1031 : decode code 1031 = .ok (.iaload, 1) := by decide +kernel
theorem dL_law_1032 : decode code 1032 = .ok (.aload_n 0, 1) := by decide +kernel
theorem dL_law_1033 : decode code 1033 = .ok (.iload 4, 2) := by decide +kernel
theorem dL_law_1035 : decode code 1035 = .ok (.iconst 4, 1) := by decide +kernel
theorem dL_law_1036 : decode code 1036 = .ok (.iadd, 1) := by decide +kernel
theorem dL_law_1037 : decode code 1037 = .ok (.iaload, 1) := by decide +kernel
theorem dL_law_1038 : decode code 1038 = .ok (.aload_n 0, 1) := by decide +kernel
theorem dL_law_1039 : decode code 1039 = .ok (.iload 4, 2) := by decide +kernel
theorem dL_law_1041 : decode code 1041 = .ok (.iconst 5, 1) := by decide +kernel
theorem dL_law_1042 : decode code 1042 = .ok (.iadd, 1) := by decide +kernel
theorem dL_law_1043 : decode code 1043 = .ok (.iaload, 1) := by decide +kernel
theorem dL_law_1044 : decode code 1044 = .ok (.aload_n 0, 1) := by decide +kernel
theorem dL_law_1045 : decode code 1045 = .ok (.iload 4, 2) := by decide +kernel
theorem dL_law_1047 : decode code 1047 = .ok (.bipush 6, 2) := by decide +kernel
theorem dL_law_1049 : decode code 1049 = .ok (.iadd, 1) := by decide +kernel
theorem dL_law_1050 : decode code 1050 = .ok (.iaload, 1) := by decide +kernel
theorem dL_law_1051 : decode code 1051 = .ok (.aload_n 0, 1) := by decide +kernel
theorem dL_law_1052 : decode code 1052 = .ok (.iload 4, 2) := by decide +kernel
theorem dL_law_1054 : decode code 1054 = .ok (.bipush 7, 2) := by decide +kernel
theorem dL_law_1056 : decode code 1056 = .ok (.iadd, 1) := by decide +kernel
theorem dL_law_1057 : decode code 1057 = .ok (.iaload, 1) := by decide +kernel
theorem dL_law_1058 : decode code 1058 = .ok (.invokevirtual 111, 3) := by decide +kernel
theorem dL_law_1061 : decode code 1061 = .ok (.istore 6, 2) := by decide +kernel
theorem dL_law_1063 : decode code 1063 = .ok (.aload_n 2, 1) := by decide +kernel
theorem dL_law_1064 : decode code 1064 = .ok (.invokevirtual 69, 3) := by decide +kernel
theorem dL_law_1067 : decode code 1067 = .ok (.iload 5, 2) := by decide +kernel
theorem dL_law_1069 : decode code 1069 = .ok (.if_icmp .eq 5, 3) := by decide +kernel
theorem dL_law_1072 : decode code 1072 = .ok (.iconst 0, 1) := by decide +kernel
theorem dL_law_1073 : decode code 1073 = .ok (.ireturn, 1) := by decide +kernel
theorem dL_law_1074 : decode code 1074 = .ok (.iload 5, 2) := by decide +kernel
theorem dL_law_1076 : decode code 1076 = .ok (.ifCond .ne 15, 3) := by decide +kernel
theorem dL_law_1079 : decode code 1079 = .ok (.aload_n 3, 1) := by decide +kernel
theorem dL_law_1080 : decode code 1080 = .ok (.iconst 0, 1) := by decide +kernel
theorem dL_law_1081 : decode code 1081 = .ok (.laload, 1) := by decide +kernel
theorem dL_law_1082 : decode code 1082 = .ok (.iload 6, 2) := by decide +kernel
theorem dL_law_1084 : decode code 1084 = .ok (.i2l, 1) := by decide +kernel
theorem dL_law_1085 : decode code 1085 = .ok (.lcmp, 1) := by decide +kernel
theorem dL_law_1086 : decode code 1086 = .ok (.ifCond .eq 5, 3) := by decide +kernel
theorem dL_law_1089 : decode code 1089 = .ok (.iconst 0, 1) := by decide +kernel
theorem dL_law_1090 : decode code 1090 = .ok (.ireturn, 1) := by decide +kernel
theorem dL_law_1091 : decode code 1091 = .ok (.goto 3, 3) := by decide +kernel
theorem dL_law_1094 : decode code 1094 = .ok (.iinc 4 8, 3) := by decide +kernel
theorem dL_law_1097 : decode code 1097 = .ok (.goto (-1064), 3) := by decide +kernel
theorem dL_law_1100 : decode code 1100 = .ok (.iconst 1, 1) := by decide +kernel
theorem dL_law_1101 : decode code 1101 = .ok (.ireturn, 1) := by decide +kernel
end
section
theorem iX0 : ∀ w ∈ u_ws RX0 TX0 6, w ∈ gw := by
  have h : u_ws RX0 TX0 6 = [Cond.laysFinal RX0 RX0 "lows" "[I", Cond.laysFinal RX0 RX0 "highs" "[I", Cond.laysFinal RX0 RX0 "kinds" "[I", Cond.laysFinal RX0 RX0 "shares" "[I", Cond.laysFinal RX0 RX0 "offs" "[Z", Cond.lays RX0 RX0 "count" "I"] := rfl
  rw [h]
  exact List.forall_mem_cons.mpr ⟨kw85, List.forall_mem_cons.mpr ⟨kw87, List.forall_mem_cons.mpr ⟨kw89, List.forall_mem_cons.mpr ⟨kw91, List.forall_mem_cons.mpr ⟨kw93, List.forall_mem_cons.mpr ⟨kw95, fun _ h => nomatch h⟩⟩⟩⟩⟩⟩
theorem iX1 : ∀ w ∈ u_ws RX1 TX1 4, w ∈ gw := by
  have h : u_ws RX1 TX1 4 = [Cond.lays RX1 RX1 "box" "I", Cond.lays RX1 RX1 "axis" "I", Cond.lays RX1 RX1 "above" "I", Cond.lays RX1 RX1 "below" "I"] := rfl
  rw [h]
  exact List.forall_mem_cons.mpr ⟨kw120, List.forall_mem_cons.mpr ⟨kw122, List.forall_mem_cons.mpr ⟨kw124, List.forall_mem_cons.mpr ⟨kw126, fun _ h => nomatch h⟩⟩⟩⟩
theorem iX2 : ∀ w ∈ u_ws RX2 TX2 13, w ∈ gw := by
  have h : u_ws RX2 TX2 13 = [Cond.laysFinal RX2 RX2 "origin" "[I", Cond.laysFinal RX2 RX2 "direction" "[I", Cond.laysFinal RX2 RX2 "arrival" "[I", Cond.laysFinal RX2 RX2 "hitBoxes" "[I", Cond.laysFinal RX2 RX2 "hitAxes" "[I", Cond.laysFinal RX2 RX2 "hitAbove" "[I", Cond.laysFinal RX2 RX2 "hitBelow" "[I", Cond.laysFinal RX2 RX2 "hitSpots" "[I", Cond.laysFinal RX2 RX2 "latest" "LLightRays$Meeting;", Cond.laysFinal RX2 RX2 "next" "LLightRays$Meeting;", Cond.laysFinal RX2 RX2 "trial" "LLightRays$Meeting;", Cond.lays RX2 RX2 "hits" "I", Cond.lays RX2 RX2 "light" "I"] := rfl
  rw [h]
  exact List.forall_mem_cons.mpr ⟨kw150, List.forall_mem_cons.mpr ⟨kw152, List.forall_mem_cons.mpr ⟨kw154, List.forall_mem_cons.mpr ⟨kw156, List.forall_mem_cons.mpr ⟨kw158, List.forall_mem_cons.mpr ⟨kw160, List.forall_mem_cons.mpr ⟨kw162, List.forall_mem_cons.mpr ⟨kw164, List.forall_mem_cons.mpr ⟨kw166, List.forall_mem_cons.mpr ⟨kw168, List.forall_mem_cons.mpr ⟨kw170, List.forall_mem_cons.mpr ⟨kw172, List.forall_mem_cons.mpr ⟨kw174, fun _ h => nomatch h⟩⟩⟩⟩⟩⟩⟩⟩⟩⟩⟩⟩⟩
theorem iX3 : ∀ w ∈ u_ws RX3 TX3 8, w ∈ gw := by
  have h : u_ws RX3 TX3 8 = [Cond.laysFinal RX3 RX3 "size" "I", Cond.laysFinal RX3 RX3 "boxes" "LLightRays$Boxes;", Cond.laysFinal RX3 RX3 "brightness" "[I", Cond.laysFinal RX3 RX3 "fanDirections" "[I", Cond.lays RX3 RX3 "fanCount" "I", Cond.laysFinal RX3 RX3 "latestRay" "LLightRays$Path;", Cond.lays RX3 RX3 "rayWas" "Z", Cond.laysFinal RX3 RX3 "fanRay" "LLightRays$Path;"] := rfl
  rw [h]
  exact List.forall_mem_cons.mpr ⟨kw185, List.forall_mem_cons.mpr ⟨kw187, List.forall_mem_cons.mpr ⟨kw189, List.forall_mem_cons.mpr ⟨kw191, List.forall_mem_cons.mpr ⟨kw193, List.forall_mem_cons.mpr ⟨kw195, List.forall_mem_cons.mpr ⟨kw197, List.forall_mem_cons.mpr ⟨kw199, fun _ h => nomatch h⟩⟩⟩⟩⟩⟩⟩⟩
theorem iX4 : ∀ w ∈ u_ws RX4 TX4 38, w ∈ gw := by
  have h : u_ws RX4 TX4 38 = [Cond.lays RX4 RX4 "thrown" "I", Cond.laysFinal RX4 RX4 "size" "I", Cond.lays RX4 RX4 "boxes" "I", Cond.laysFinal RX4 RX4 "corners" "[I", Cond.laysFinal RX4 RX4 "kinds" "[I", Cond.laysFinal RX4 RX4 "shares" "[I", Cond.laysFinal RX4 RX4 "isOff" "[Z", Cond.laysFinal RX4 RX4 "at" "[I", Cond.laysFinal RX4 RX4 "by" "[I", Cond.laysFinal RX4 RX4 "atBefore" "[I", Cond.laysFinal RX4 RX4 "byBefore" "[I", Cond.lays RX4 RX4 "light" "I", Cond.lays RX4 RX4 "hits" "I", Cond.lays RX4 RX4 "lastAbove" "J", Cond.lays RX4 RX4 "lastBelow" "J", Cond.lays RX4 RX4 "lastBox" "I", Cond.lays RX4 RX4 "inAbove" "J", Cond.lays RX4 RX4 "inBelow" "J", Cond.lays RX4 RX4 "inAxis" "I", Cond.lays RX4 RX4 "outAbove" "J", Cond.lays RX4 RX4 "outBelow" "J", Cond.laysFinal RX4 RX4 "hitBox" "[I", Cond.laysFinal RX4 RX4 "hitAxis" "[I", Cond.laysFinal RX4 RX4 "hitAbove" "[J", Cond.laysFinal RX4 RX4 "hitBelow" "[J", Cond.laysFinal RX4 RX4 "hitPlace" "[J", Cond.lays RX4 RX4 "hasRay" "Z", Cond.lays RX4 RX4 "rayHits" "I", Cond.lays RX4 RX4 "rayLight" "I", Cond.laysFinal RX4 RX4 "rayBy" "[I", Cond.laysFinal RX4 RX4 "rayBox" "[I", Cond.laysFinal RX4 RX4 "rayAxis" "[I", Cond.laysFinal RX4 RX4 "rayAbove" "[J", Cond.laysFinal RX4 RX4 "rayBelow" "[J", Cond.laysFinal RX4 RX4 "rayPlace" "[J", Cond.laysFinal RX4 RX4 "sky" "[I", Cond.lays RX4 RX4 "fans" "I", Cond.laysFinal RX4 RX4 "fan" "[I"] := rfl
  rw [h]
  exact List.forall_mem_cons.mpr ⟨kw531, List.forall_mem_cons.mpr ⟨kw533, List.forall_mem_cons.mpr ⟨kw535, List.forall_mem_cons.mpr ⟨kw537, List.forall_mem_cons.mpr ⟨kw539, List.forall_mem_cons.mpr ⟨kw541, List.forall_mem_cons.mpr ⟨kw543, List.forall_mem_cons.mpr ⟨kw545, List.forall_mem_cons.mpr ⟨kw547, List.forall_mem_cons.mpr ⟨kw549, List.forall_mem_cons.mpr ⟨kw551, List.forall_mem_cons.mpr ⟨kw553, List.forall_mem_cons.mpr ⟨kw555, List.forall_mem_cons.mpr ⟨kw557, List.forall_mem_cons.mpr ⟨kw559, List.forall_mem_cons.mpr ⟨kw561, List.forall_mem_cons.mpr ⟨kw563, List.forall_mem_cons.mpr ⟨kw565, List.forall_mem_cons.mpr ⟨kw567, List.forall_mem_cons.mpr ⟨kw569, List.forall_mem_cons.mpr ⟨kw571, List.forall_mem_cons.mpr ⟨kw573, List.forall_mem_cons.mpr ⟨kw575, List.forall_mem_cons.mpr ⟨kw577, List.forall_mem_cons.mpr ⟨kw579, List.forall_mem_cons.mpr ⟨kw581, List.forall_mem_cons.mpr ⟨kw583, List.forall_mem_cons.mpr ⟨kw585, List.forall_mem_cons.mpr ⟨kw587, List.forall_mem_cons.mpr ⟨kw589, List.forall_mem_cons.mpr ⟨kw591, List.forall_mem_cons.mpr ⟨kw593, List.forall_mem_cons.mpr ⟨kw595, List.forall_mem_cons.mpr ⟨kw597, List.forall_mem_cons.mpr ⟨kw599, List.forall_mem_cons.mpr ⟨kw601, List.forall_mem_cons.mpr ⟨kw603, List.forall_mem_cons.mpr ⟨kw605, fun _ h => nomatch h⟩⟩⟩⟩⟩⟩⟩⟩⟩⟩⟩⟩⟩⟩⟩⟩⟩⟩⟩⟩⟩⟩⟩⟩⟩⟩⟩⟩⟩⟩⟩⟩⟩⟩⟩⟩⟩⟩
/-! the ground that every contract stands on: links inside the nest, casts, texts of exceptions -/
def sx_iae : String := "java/lang/IllegalArgumentException"
def sx_ise : String := "java/lang/IllegalStateException"
def gz (U : State) : Prop :=
  (∀ t ∈ nzF, va_Nw (.fieldLinkNest t.1 t.2.1 t.2.2.1 t.2.2.2.1 t.2.2.2.2.1 t.2.2.2.2.2) U) ∧
  (∀ t ∈ nzM, va_Nw (.methodLinkNest t.1 t.2.1 t.2.2.1 t.2.2.2) U) ∧
  (∀ t ∈ nzC, va_Nw (.castable t.1 t.2) U) ∧ (∀ t ∈ nzD, va_Nw (.declares t) U) ∧
  (∃ q, vk_R RX3 153 "out of bounds" q U) ∧ (∃ q, vk_R RX3 66 "there are 20 boxes" q U) ∧ (∃ q, vk_R RX3 156 "there was no ray" q U) ∧ (∃ q, vk_R RX3 139 "the fan has 40 directions" q U)
theorem gz_warm {s U : State} (hW : s.WarmedH U.vm) (h : gz s) : gz U := by
  obtain ⟨h1, h2, h3, h4, ⟨q5, h5⟩, ⟨q6, h6⟩, ⟨q7, h7⟩, ⟨q8, h8⟩⟩ := h
  exact ⟨fun t ht => va_Nw.warmF hW (h1 t ht), fun t ht => va_Nw.warmM hW (h2 t ht), fun t ht => va_Nw.warmC hW (h3 t ht),
    fun t ht => va_tabs rfl (rfl : (s.setVm U.vm).vm = U.vm) (by rw [Cond.declares_setVm hW.alike]; exact h4 t ht),
    ⟨q5, vk_R.warm hW h5⟩, ⟨q6, vk_R.warm hW h6⟩, ⟨q7, vk_R.warm hW h7⟩, ⟨q8, vk_R.warm hW h8⟩⟩
theorem gz_calling {U : State} (g : JFrame) (mk : MethodId) (a : Array Value) (h : gz U) : gz (U.calling g mk a) := gz_warm (U := U.calling g mk a) (State.WarmedH.refl U) h
theorem nzF_0 {U : State} (h : gz U) : va_Nw (.fieldLinkNest RX2 109 RX0 "lows" "[I" RX3) U := h.1 (RX2, 109, RX0, "lows", "[I", RX3) (List.mem_of_getElem? (i := 0) rfl)
theorem nzF_1 {U : State} (h : gz U) : va_Nw (.fieldLinkNest RX2 112 RX0 "highs" "[I" RX3) U := h.1 (RX2, 112, RX0, "highs", "[I", RX3) (List.mem_of_getElem? (i := 1) rfl)
theorem nzF_2 {U : State} (h : gz U) : va_Nw (.fieldLinkNest RX3 82 RX0 "kinds" "[I" RX3) U := h.1 (RX3, 82, RX0, "kinds", "[I", RX3) (List.mem_of_getElem? (i := 2) rfl)
theorem nzF_3 {U : State} (h : gz U) : va_Nw (.fieldLinkNest RX2 74 RX0 "kinds" "[I" RX3) U := h.1 (RX2, 74, RX0, "kinds", "[I", RX3) (List.mem_of_getElem? (i := 3) rfl)
theorem nzF_4 {U : State} (h : gz U) : va_Nw (.fieldLinkNest RX3 85 RX0 "shares" "[I" RX3) U := h.1 (RX3, 85, RX0, "shares", "[I", RX3) (List.mem_of_getElem? (i := 4) rfl)
theorem nzF_5 {U : State} (h : gz U) : va_Nw (.fieldLinkNest RX2 80 RX0 "shares" "[I" RX3) U := h.1 (RX2, 80, RX0, "shares", "[I", RX3) (List.mem_of_getElem? (i := 5) rfl)
theorem nzF_6 {U : State} (h : gz U) : va_Nw (.fieldLinkNest RX3 88 RX0 "offs" "[Z" RX3) U := h.1 (RX3, 88, RX0, "offs", "[Z", RX3) (List.mem_of_getElem? (i := 6) rfl)
theorem nzF_7 {U : State} (h : gz U) : va_Nw (.fieldLinkNest RX2 90 RX0 "offs" "[Z" RX3) U := h.1 (RX2, 90, RX0, "offs", "[Z", RX3) (List.mem_of_getElem? (i := 7) rfl)
theorem nzF_8 {U : State} (h : gz U) : va_Nw (.fieldLinkNest RX3 61 RX0 "count" "I" RX3) U := h.1 (RX3, 61, RX0, "count", "I", RX3) (List.mem_of_getElem? (i := 8) rfl)
theorem nzF_9 {U : State} (h : gz U) : va_Nw (.fieldLinkNest RX2 87 RX0 "count" "I" RX3) U := h.1 (RX2, 87, RX0, "count", "I", RX3) (List.mem_of_getElem? (i := 9) rfl)
theorem nzF_10 {U : State} (h : gz U) : va_Nw (.fieldLinkNest RX2 77 RX1 "box" "I" RX3) U := h.1 (RX2, 77, RX1, "box", "I", RX3) (List.mem_of_getElem? (i := 10) rfl)
theorem nzF_11 {U : State} (h : gz U) : va_Nw (.fieldLinkNest RX2 121 RX1 "axis" "I" RX3) U := h.1 (RX2, 121, RX1, "axis", "I", RX3) (List.mem_of_getElem? (i := 11) rfl)
theorem nzF_12 {U : State} (h : gz U) : va_Nw (.fieldLinkNest RX2 127 RX1 "above" "I" RX3) U := h.1 (RX2, 127, RX1, "above", "I", RX3) (List.mem_of_getElem? (i := 12) rfl)
theorem nzF_13 {U : State} (h : gz U) : va_Nw (.fieldLinkNest RX2 124 RX1 "below" "I" RX3) U := h.1 (RX2, 124, RX1, "below", "I", RX3) (List.mem_of_getElem? (i := 13) rfl)
theorem nzF_14 {U : State} (h : gz U) : va_Nw (.fieldLinkNest RX3 114 RX2 "direction" "[I" RX3) U := h.1 (RX3, 114, RX2, "direction", "[I", RX3) (List.mem_of_getElem? (i := 14) rfl)
theorem nzF_15 {U : State} (h : gz U) : va_Nw (.fieldLinkNest RX3 121 RX2 "hitBoxes" "[I" RX3) U := h.1 (RX3, 121, RX2, "hitBoxes", "[I", RX3) (List.mem_of_getElem? (i := 15) rfl)
theorem nzF_16 {U : State} (h : gz U) : va_Nw (.fieldLinkNest RX3 124 RX2 "hitAxes" "[I" RX3) U := h.1 (RX3, 124, RX2, "hitAxes", "[I", RX3) (List.mem_of_getElem? (i := 16) rfl)
theorem nzF_17 {U : State} (h : gz U) : va_Nw (.fieldLinkNest RX3 127 RX2 "hitAbove" "[I" RX3) U := h.1 (RX3, 127, RX2, "hitAbove", "[I", RX3) (List.mem_of_getElem? (i := 17) rfl)
theorem nzF_18 {U : State} (h : gz U) : va_Nw (.fieldLinkNest RX3 130 RX2 "hitBelow" "[I" RX3) U := h.1 (RX3, 130, RX2, "hitBelow", "[I", RX3) (List.mem_of_getElem? (i := 18) rfl)
theorem nzF_19 {U : State} (h : gz U) : va_Nw (.fieldLinkNest RX3 133 RX2 "hitSpots" "[I" RX3) U := h.1 (RX3, 133, RX2, "hitSpots", "[I", RX3) (List.mem_of_getElem? (i := 19) rfl)
theorem nzF_20 {U : State} (h : gz U) : va_Nw (.fieldLinkNest RX3 108 RX2 "hits" "I" RX3) U := h.1 (RX3, 108, RX2, "hits", "I", RX3) (List.mem_of_getElem? (i := 20) rfl)
theorem nzF_21 {U : State} (h : gz U) : va_Nw (.fieldLinkNest RX3 111 RX2 "light" "I" RX3) U := h.1 (RX3, 111, RX2, "light", "I", RX3) (List.mem_of_getElem? (i := 21) rfl)
theorem nzM_0 {U : State} (h : gz U) : va_Nw (.methodLinkNest RX3 24 yX0_init RX3) U := h.2.1 (RX3, 24, yX0_init, RX3) (List.mem_of_getElem? (i := 0) rfl)
theorem nzM_1 {U : State} (h : gz U) : va_Nw (.methodLinkNest RX3 41 yX2_init RX3) U := h.2.1 (RX3, 41, yX2_init, RX3) (List.mem_of_getElem? (i := 1) rfl)
theorem nzM_2 {U : State} (h : gz U) : va_Nw (.methodLinkNest RX2 38 yX1_init RX3) U := h.2.1 (RX2, 38, yX1_init, RX3) (List.mem_of_getElem? (i := 2) rfl)
theorem nzM_3 {U : State} (h : gz U) : va_Nw (.methodLinkNest RX3 71 yX0_add RX3) U := h.2.1 (RX3, 71, yX0_add, RX3) (List.mem_of_getElem? (i := 3) rfl)
theorem nzM_4 {U : State} (h : gz U) : va_Nw (.methodLinkNest RX3 95 yX2_begin RX3) U := h.2.1 (RX3, 95, yX2_begin, RX3) (List.mem_of_getElem? (i := 4) rfl)
theorem nzM_5 {U : State} (h : gz U) : va_Nw (.methodLinkNest RX2 57 yX1_set RX3) U := h.2.1 (RX2, 57, yX1_set, RX3) (List.mem_of_getElem? (i := 5) rfl)
theorem nzM_6 {U : State} (h : gz U) : va_Nw (.methodLinkNest RX3 98 yX2_aim RX3) U := h.2.1 (RX3, 98, yX2_aim, RX3) (List.mem_of_getElem? (i := 6) rfl)
theorem nzM_7 {U : State} (h : gz U) : va_Nw (.methodLinkNest RX3 101 yX2_follow RX3) U := h.2.1 (RX3, 101, yX2_follow, RX3) (List.mem_of_getElem? (i := 7) rfl)
theorem nzM_8 {U : State} (h : gz U) : va_Nw (.methodLinkNest RX2 61 yX0_anySolidRound RX3) U := h.2.1 (RX2, 61, yX0_anySolidRound, RX3) (List.mem_of_getElem? (i := 8) rfl)
theorem nzM_9 {U : State} (h : gz U) : va_Nw (.methodLinkNest RX2 101 yX1_compareTime RX3) U := h.2.1 (RX2, 101, yX1_compareTime, RX3) (List.mem_of_getElem? (i := 9) rfl)
theorem nzM_10 {U : State} (h : gz U) : va_Nw (.methodLinkNest RX2 105 yX1_copy RX3) U := h.2.1 (RX2, 105, yX1_copy, RX3) (List.mem_of_getElem? (i := 10) rfl)
theorem nzM_11 {U : State} (h : gz U) : va_Nw (.methodLinkNest RX2 142 yX3_commonDivisor RX3) U := h.2.1 (RX2, 142, yX3_commonDivisor, RX3) (List.mem_of_getElem? (i := 11) rfl)
theorem nzM_12 {U : State} (h : gz U) : va_Nw (.methodLinkNest RX3 117 yX2_hasHit RX3) U := h.2.1 (RX3, 117, yX2_hasHit, RX3) (List.mem_of_getElem? (i := 12) rfl)
theorem nzM_13 {U : State} (h : gz U) : va_Nw (.methodLinkNest RX3 147 yX2_octant RX3) U := h.2.1 (RX3, 147, yX2_octant, RX3) (List.mem_of_getElem? (i := 13) rfl)
/-- the start of a method that only reads -/
def pq (D : va_G) (av : List Value) (ws : va_W) (tys : List (ClassId × FieldType)) : Array Value → State → Prop := va_Pc av (fun U => va_P D vwCl ws U.heap ∧ va_K D vwCl tys U ∧ gz U)
/-- the start of a method that writes in its world -/
def wq (D : va_G) (av : List Value) (sz : Nat) (ws : va_W) (tys : List (ClassId × FieldType)) : Array Value → State → Prop := va_Pc av (fun U => U.heap.size = sz ∧ va_P D vwCl ws U.heap ∧ va_K D vwCl tys U ∧ va_D (fun _ => True) ws ∧ gz U)
/-- the world behind a method -/
def bq (D : va_G) (tys : List (ClassId × FieldType)) (A : Nat → Prop) (ws : va_W) (t : State) : Prop := va_P D vwCl ws t.heap ∧ va_K D vwCl tys t ∧ va_D A ws
section CTX
variable {D : va_G} {av : List Value} {sz : Nat} {ws : va_W} {tys : List (ClassId × FieldType)} {s : State} {H : Heap}
theorem pq_blind : FrameBlind (pq D av ws tys) := fun a U g mk q => by
  obtain ⟨q0, qP, qK, qZ⟩ := q
  exact ⟨q0, qP, va_K.moved (u := U) (U := U.calling g mk a) (Vm.Alike.refl U.vm) qK, gz_calling g mk a qZ⟩
theorem wq_blind : FrameBlind (wq D av sz ws tys) := fun a U g mk q => by
  obtain ⟨q0, q1, qP, qK, qD, qZ⟩ := q
  exact ⟨q0, q1, qP, va_K.moved (u := U) (U := U.calling g mk a) (Vm.Alike.refl U.vm) qK, qD, gz_calling g mk a qZ⟩
theorem pq_pre (hP : va_P D vwCl ws H) (hK : va_K D vwCl tys s) (hZ : gz s) : PreS s H (pq D av ws tys) av :=
  ⟨pq_blind, fun U hU hW => ⟨rfl, by rw [hU]; exact hP, va_K.moved hW.alike hK, gz_warm hW hZ⟩⟩
theorem wq_pre {A : Nat → Prop} (hP : va_P D vwCl ws H) (hK : va_K D vwCl tys s) (hD : va_D A ws) (hZ : gz s) : PreS s H (wq D av H.size ws tys) av :=
  ⟨wq_blind, fun U hU hW => ⟨rfl, by rw [hU], by rw [hU]; exact hP, va_K.moved hW.alike hK, hD.weaken (fun _ _ _ _ => trivial), gz_warm hW hZ⟩⟩
theorem pq_preV {C : String} {b : Addr} {As : List Value} (hP : va_P D vwCl ws H) (hK : va_K D vwCl tys s) (hZ : gz s) (hr : ∃ cell : Cell, H[b]? = some cell ∧ cell.vm.isStatics = false ∧ s.vm.findClass C = some cell.cls) : PreV s H C b (pq D (.ref b :: As) ws tys) As :=
  ⟨pq_blind, hr, (pq_pre hP hK hZ).2⟩
theorem wq_preV {A : Nat → Prop} {C : String} {b : Addr} {As : List Value} (hP : va_P D vwCl ws H) (hK : va_K D vwCl tys s) (hD : va_D A ws) (hZ : gz s) (hr : ∃ cell : Cell, H[b]? = some cell ∧ cell.vm.isStatics = false ∧ s.vm.findClass C = some cell.cls) : PreV s H C b (wq D (.ref b :: As) H.size ws tys) As :=
  ⟨wq_blind, hr, (wq_pre hP hK hD hZ).2⟩
theorem bq_end {A : Nat → Prop} {t : State} (hP : va_P D vwCl ws H) (hK : va_K D vwCl tys s) (hD : va_D A ws) (ht : t.heap = H) (hW : s.WarmedH t.vm) : bq D tys A ws t := ⟨by rw [ht]; exact hP, va_K.moved hW.alike hK, hD⟩
end CTX
section CALLS
variable {p : Program} {l : Launch} {e : Env} {R : Room} {s : State} {m : MethodId} {args : Array Value} {below : List Frame} {meth : Method} {c : Code} {H : Heap} {locs : List Loc} {cells slots : Nat} {Q : State → Prop} {pc : Nat} {ls : Array Slot} {st0 rest : List Value} {a : Array Value}
theorem tp_i {x y : Int32} (h : x = y) (k : W p l e R s m args below meth c H locs cells slots Q (F0 m pc ls (.int y :: rest))) : W p l e R s m args below meth c H locs cells slots Q (F0 m pc ls (.int x :: rest)) := by rw [h]; exact k
theorem tp_l {x y : Int64} (h : x = y) (k : W p l e R s m args below meth c H locs cells slots Q (F0 m pc ls (.long y :: rest))) : W p l e R s m args below meth c H locs cells slots Q (F0 m pc ls (.long x :: rest)) := by rw [h]; exact k
/-- a call of a method that only reads: an int back, the heap as it was -/
theorem rq_call {r : Int32} (hr : va_Run p l e R s m args below meth c H locs cells slots 0 0 (F0 m pc ls st0) rest (QcRead r a) (fun _ => False))
    (kk : W p l e R s m args below meth c H locs cells slots Q (F0 m (pc + 3) ls (.int r :: rest))) : W p l e R s m args below meth c H locs cells slots Q (F0 m pc ls st0) := by
  intro T hT X
  obtain ⟨v, st₀, t, T', L, h0, X', hL, e1, -, ⟨hv, hh⟩, st⟩ := hr T hT X
  cases hv
  obtain ⟨t2, a1, b1⟩ := kk T' (by rw [e1, hh, h0]) (Stand.forget X' (fun q h => (hL q h).elim))
  exact ⟨t2, st t2 a1, b1⟩
def QcReadL (r : Int64) : Array Value → State → Outcome → State → Prop := fun _ st o t => o = .returned (some (.long r)) ∧ t.heap = st.heap
theorem rq_callL {r : Int64} (hr : va_Run p l e R s m args below meth c H locs cells slots 0 0 (F0 m pc ls st0) rest (QcReadL r a) (fun _ => False))
    (kk : W p l e R s m args below meth c H locs cells slots Q (F0 m (pc + 3) ls (.long r :: rest))) : W p l e R s m args below meth c H locs cells slots Q (F0 m pc ls st0) := by
  intro T hT X
  obtain ⟨v, st₀, t, T', L, h0, X', hL, e1, -, ⟨hv, hh⟩, st⟩ := hr T hT X
  cases hv
  obtain ⟨t2, a1, b1⟩ := kk T' (by rw [e1, hh, h0]) (Stand.forget X' (fun q h => (hL q h).elim))
  exact ⟨t2, st t2 a1, b1⟩
/-- a check: comes back, the heap as it was, if C holds; throws E if not -/
def cx_Q (C : Prop) : Array Value → State → Outcome → State → Prop := fun _ st o t => C ∧ o = .returned none ∧ t.heap = st.heap
def cx_X (C : Prop) (E0 : String) : String → State → State → Prop := fun E st t => ¬ C ∧ E = E0 ∧ st.heap.size ≤ t.heap.size ∧ ∀ q : Nat, q < st.heap.size → t.heap[q]? = st.heap[q]?
theorem cx_call {C : Prop} {E0 : String} {mc ms : Nat} (hr : vx_Run p l e R s m args below meth c H locs cells slots mc ms (F0 m pc ls st0) rest (cx_Q C a) (cx_X C E0) (fun _ => False))
    (kx : ∀ (ce : Cell) (q9 : Addr) (H1 : Heap), ¬ C → H.size ≤ H1.size → (∀ q : Nat, q < H.size → H1[q]? = H[q]?) → H1[q9]? = some ce → ce.vm = .none → s.vm.findClass E0 = some ce.cls → vx_W p l e R s m args below meth c H1 locs (cells + mc) (slots + ms) Q (F0 m pc ls rest) q9)
    (kk : C → W p l e R s m args below meth c H locs (cells + mc) (slots + ms) Q (F0 m (pc + 3) ls rest)) : W p l e R s m args below meth c H locs cells slots Q (F0 m pc ls st0) := by
  intro T hT X
  rcases hr T hT X with ⟨v, st₀, t, T', L, h0, X', hL, e1, e2, ⟨hC, hv, hh⟩, st⟩ | ⟨q, st₀, t, T', L, E, ce, h0, X', hL, e1, e2, ⟨hC, rfl, hz, hk⟩, hce, hcv, hcl, st⟩
  · cases hv
    obtain ⟨t2, a1, b1⟩ := kk hC T' (by rw [e1, hh, h0]) (Stand.forget X' (fun q h => (hL q h).elim))
    exact ⟨t2, st t2 a1, b1⟩
  · rw [h0] at hz hk
    obtain ⟨t2, a1, b1⟩ := kx ce q T'.heap hC (by rw [e1]; exact hz) (fun q h => by rw [e1]; exact hk q h) (by rw [e1]; exact hce) hcv hcl T' rfl (Stand.forget X' (fun q h => (hL q h).elim))
    exact ⟨t2, st.trans a1, b1⟩
end CALLS
end
section
/-- Integer.compare -/
def cmpI (x y : Int32) : Int32 := if x < y then -1 else if x = y then 0 else 1

set_option maxHeartbeats 4000000 in
set_option maxRecDepth 100000 in
/-- Integer.compare(x, y) -/
theorem qJI_compare (l : Launch) (D : va_G) (cI cZ cJ : ClassId) (x y : Int32) : Met l yJI_compare (Cond.code yJI_compare cJI_compare 2 (some .int) :: gw) ({ frames := 0, cells := 0, slots := 0, locals := 0 }) (pq D [.int x, .int y] [] [(cI, .int), (cZ, .boolean), (cJ, .long)]) (QcRead (cmpI x y)) 0 0 (fun _ => False) := by
  refine Met.ofW (cc := cJI_compare) (maxL := 2) (ret := (some .int)) (by decide) rfl ?_
  intro p e s m args below meth c s₁ B hml hv
  obtain ⟨rfl, hP, hK, hZ⟩ := hv
  have hx := B.exec
  have hb := B.bytes
  have hr := B.returns
  have hg : ∀ w ∈ gw, w.before _ s = true := fun w h => atoms_spec (ws := Cond.code yJI_compare cJI_compare 2 (some .int) :: gw) B.pre w (List.mem_cons_of_mem _ h)
  have hown : s.vm.findClass RJI = some m.cls := findClass_of_methodNamed B.named
  have hlocks := B.notSynchronized
  have hP : va_P D vwCl [] s.heap := hP
  have hl := lv_entry ([.int x, .int y]) (n := 2) (Nat.le_of_ble_eq_true rfl)
  rw [lg_entry_eq]
  generalize (lg_sl ([.int x, .int y]) ++ List.replicate (2 - (lg_sl ([.int x, .int y])).length) Slot.unset).toArray = ls at hl ⊢
  have hl : lv_has ls 2 [(0, .int x), (1, .int y)] := hl
  refine lv_iload_n hx hb dJI_compare_0 rfl (lv_at hl 0 rfl) ?_
  refine lv_iload_n hx hb dJI_compare_1 rfl (lv_at hl 1 rfl) ?_
  refine lv_icmp_ge (tgt := 9) hx hb dJI_compare_2 (by decide) (fun c2 => ?_) (fun c2 => ?_)
  · have c2n := Int32.not_lt.mpr c2
    refine lv_iload_n hx hb dJI_compare_9 rfl (lv_at hl 0 rfl) ?_
    refine lv_iload_n hx hb dJI_compare_10 rfl (lv_at hl 1 rfl) ?_
    refine lv_icmp_ne (tgt := 18) hx hb dJI_compare_11 (by decide) (fun c11 => ?_) (fun c11 => ?_)
    · refine lv_iconst (v := 1) hx hb dJI_compare_18 (by decide) ?_
      exact W.iret (v := 1) hx hb hr (fun t ht hW => ⟨congrArg (fun z => Outcome.returned (some (Value.int z))) (by unfold cmpI; rw [if_neg (Int32.not_lt.mpr c2), if_neg c11]), ht⟩) (fun q hq => nomatch hq) dJI_compare_19
    · refine lv_iconst (v := 0) hx hb dJI_compare_14 (by decide) ?_
      refine lv_goto (tgt := 19) hx hb dJI_compare_15 (by decide) ?_
      exact W.iret (v := 0) hx hb hr (fun t ht hW => ⟨congrArg (fun z => Outcome.returned (some (Value.int z))) (by unfold cmpI; rw [if_neg (Int32.not_lt.mpr c2), if_pos c11]), ht⟩) (fun q hq => nomatch hq) dJI_compare_19
  · have c2n := Int32.not_le.mp c2
    refine lv_iconst (v := (-1)) hx hb dJI_compare_5 (by decide) ?_
    refine lv_goto (tgt := 19) hx hb dJI_compare_6 (by decide) ?_
    exact W.iret (v := (-1)) hx hb hr (fun t ht hW => ⟨congrArg (fun z => Outcome.returned (some (Value.int z))) (by unfold cmpI; rw [if_pos (Int32.not_le.mp c2)]), ht⟩) (fun q hq => nomatch hq) dJI_compare_19

set_option maxHeartbeats 4000000 in
set_option maxRecDepth 100000 in
/-- Meeting() -/
theorem qX1_init (l : Launch) (D : va_G) (cI cZ cJ : ClassId) (h0 : Nat) (sz : Nat) : Met l yX1_init (Cond.code yX1_init cX1_init 1 none :: gw) ({ frames := 1, cells := 0, slots := 0, locals := 12 }) (wq D [.ref h0] sz [(h0, .inr (1, [.int 0, .int 0, .int 0, .int 0]))] [(cI, .int), (cZ, .boolean), (cJ, .long)]) (va_Qv (S := Unit) (fun _ => True) (fun u => bq D [(cI, .int), (cZ, .boolean), (cJ, .long)] (va_A [(h0, .inr (1, [.int 0, .int 0, .int 0, .int 0]))] sz) ([(h0, .inr (1, [.int 0, .int 0, .int 0, .int 0]))])) (va_A [(h0, .inr (1, [.int 0, .int 0, .int 0, .int 0]))] sz)) 0 0 (va_A [(h0, .inr (1, [.int 0, .int 0, .int 0, .int 0]))] sz) := by
  refine Met.ofW (cc := cX1_init) (maxL := 1) (ret := none) (by decide) rfl ?_
  intro p e s m args below meth c s₁ B hml hv
  obtain ⟨rfl, hsz, hP, hK, hD0, hZ⟩ := hv
  have hx := B.exec
  have hb := B.bytes
  have hr := B.returns
  have hg : ∀ w ∈ gw, w.before _ s = true := fun w h => atoms_spec (ws := Cond.code yX1_init cX1_init 1 none :: gw) B.pre w (List.mem_cons_of_mem _ h)
  have hown : s.vm.findClass RX1 = some m.cls := findClass_of_methodNamed B.named
  have hlocks := B.notSynchronized
  have hin : meth.name = "<init>" := (name_of_methodNamed B.named B.method).1
  subst hsz
  have hD := hD0.self (sz := s.heap.size)
  generalize hAe : va_A [(h0, .inr (1, [.int 0, .int 0, .int 0, .int 0]))] s.heap.size = A at hD ⊢
  have hA : ∀ q : Nat, s.heap.size ≤ q → A q := fun q h => by rw [← hAe]; exact Or.inr h
  have hS : va_S A s.heap s.heap [] := va_S.rf
  have hP : va_P D vwCl [(h0, .inr (1, [.int 0, .int 0, .int 0, .int 0]))] s.heap := hP
  have hl := lv_entry ([.ref h0]) (n := 1) (Nat.le_of_ble_eq_true rfl)
  rw [lg_entry_eq]
  generalize (lg_sl ([.ref h0]) ++ List.replicate (1 - (lg_sl ([.ref h0])).length) Slot.unset).toArray = ls at hl ⊢
  have hl : lv_has ls 1 [(0, .ref h0)] := hl
  refine lv_aload_n hx hb dX1_init_0 rfl (lv_at hl 0 rfl) ?_
  refine W.objInit hx hb hown (hg _ kw111) (hg _ kw55) (hg _ kw56) rfl (by rw [hml]; exact hl.1) rfl dX1_init_1 (Nat.le_of_ble_eq_true rfl) (Nat.le_of_ble_eq_true rfl) ?_
  refine W.eq (g2 := F0 m 4 ls []) rfl ?_
  exact W.vret hx hb hr (fun t ht hW => ⟨⟨(), rfl, trivial, bq_end hP hK hD ht hW⟩, hS.F ht⟩) hS.2.2 dX1_init_4

set_option maxHeartbeats 4000000 in
set_option maxRecDepth 100000 in
/-- Meeting.set -/
theorem qX1_set (l : Launch) (D : va_G) (cI cZ cJ : ClassId) (h0 : Nat) (b a ab be b' a' ab' be' : Int32) (sz : Nat) : Met l yX1_set (Cond.code yX1_set cX1_set 5 none :: gw) ({ frames := 0, cells := 0, slots := 0, locals := 0 }) (wq D [.ref h0, .int b', .int a', .int ab', .int be'] sz [(h0, .inr (1, [.int b, .int a, .int ab, .int be]))] [(cI, .int), (cZ, .boolean), (cJ, .long)]) (va_Qv (S := Unit) (fun _ => True) (fun u => bq D [(cI, .int), (cZ, .boolean), (cJ, .long)] (va_A [(h0, .inr (1, [.int b, .int a, .int ab, .int be]))] sz) ([(h0, .inr (1, [.int b', .int a', .int ab', .int be']))])) (va_A [(h0, .inr (1, [.int b, .int a, .int ab, .int be]))] sz)) 0 0 (va_A [(h0, .inr (1, [.int b, .int a, .int ab, .int be]))] sz) := by
  refine Met.ofW (cc := cX1_set) (maxL := 5) (ret := none) (by decide) rfl ?_
  intro p e s m args below meth c s₁ B hml hv
  obtain ⟨rfl, hsz, hP, hK, hD0, hZ⟩ := hv
  have hx := B.exec
  have hb := B.bytes
  have hr := B.returns
  have hg : ∀ w ∈ gw, w.before _ s = true := fun w h => atoms_spec (ws := Cond.code yX1_set cX1_set 5 none :: gw) B.pre w (List.mem_cons_of_mem _ h)
  have hown : s.vm.findClass RX1 = some m.cls := findClass_of_methodNamed B.named
  have hlocks := B.notSynchronized
  subst hsz
  have hD := hD0.self (sz := s.heap.size)
  generalize hAe : va_A [(h0, .inr (1, [.int b, .int a, .int ab, .int be]))] s.heap.size = A at hD ⊢
  have hA : ∀ q : Nat, s.heap.size ≤ q → A q := fun q h => by rw [← hAe]; exact Or.inr h
  have hS : va_S A s.heap s.heap [] := va_S.rf
  have hP : va_P D vwCl [(h0, .inr (1, [.int b, .int a, .int ab, .int be]))] s.heap := hP
  have hl := lv_entry ([.ref h0, .int b', .int a', .int ab', .int be']) (n := 5) (Nat.le_of_ble_eq_true rfl)
  rw [lg_entry_eq]
  generalize (lg_sl ([.ref h0, .int b', .int a', .int ab', .int be']) ++ List.replicate (5 - (lg_sl ([.ref h0, .int b', .int a', .int ab', .int be'])).length) Slot.unset).toArray = ls at hl ⊢
  have hl : lv_has ls 5 [(0, .ref h0), (1, .int b'), (2, .int a'), (3, .int ab'), (4, .int be')] := hl
  refine lv_aload_n hx hb dX1_set_0 rfl (lv_at hl 0 rfl) ?_
  refine lv_iload_n hx hb dX1_set_1 rfl (lv_at hl 1 rfl) ?_
  refine va_put (D := D) (ci := 1) (v := .int b') (ty := .int) (C := RX1) (T := TX1) (N := 4) hx hb hg iX1 tyX1 tyX1_ok nmX1 hown hK hP hD hS 0 rfl rfl 0 (by decide) (hg _ kw112) (fun _ h9 => h9) rfl (by decide +kernel) rfl rfl (Nat.le_of_ble_eq_true rfl) dX1_set_2 (fun H locs hP hD hS => ?_)
  have hP : va_P D vwCl [(h0, .inr (1, [.int b', .int a, .int ab, .int be]))] H := hP
  have hD : va_D A [(h0, .inr (1, [.int b', .int a, .int ab, .int be]))] := hD
  refine lv_aload_n hx hb dX1_set_5 rfl (lv_at hl 0 rfl) ?_
  refine lv_iload_n hx hb dX1_set_6 rfl (lv_at hl 2 rfl) ?_
  refine va_put (D := D) (ci := 1) (v := .int a') (ty := .int) (C := RX1) (T := TX1) (N := 4) hx hb hg iX1 tyX1 tyX1_ok nmX1 hown hK hP hD hS 0 rfl rfl 1 (by decide) (hg _ kw114) (fun _ h9 => h9) rfl (by decide +kernel) rfl rfl (Nat.le_of_ble_eq_true rfl) dX1_set_7 (fun H locs hP hD hS => ?_)
  have hP : va_P D vwCl [(h0, .inr (1, [.int b', .int a', .int ab, .int be]))] H := hP
  have hD : va_D A [(h0, .inr (1, [.int b', .int a', .int ab, .int be]))] := hD
  refine lv_aload_n hx hb dX1_set_10 rfl (lv_at hl 0 rfl) ?_
  refine lv_iload_n hx hb dX1_set_11 rfl (lv_at hl 3 rfl) ?_
  refine va_put (D := D) (ci := 1) (v := .int ab') (ty := .int) (C := RX1) (T := TX1) (N := 4) hx hb hg iX1 tyX1 tyX1_ok nmX1 hown hK hP hD hS 0 rfl rfl 2 (by decide) (hg _ kw116) (fun _ h9 => h9) rfl (by decide +kernel) rfl rfl (Nat.le_of_ble_eq_true rfl) dX1_set_12 (fun H locs hP hD hS => ?_)
  have hP : va_P D vwCl [(h0, .inr (1, [.int b', .int a', .int ab', .int be]))] H := hP
  have hD : va_D A [(h0, .inr (1, [.int b', .int a', .int ab', .int be]))] := hD
  refine lv_aload_n hx hb dX1_set_15 rfl (lv_at hl 0 rfl) ?_
  refine lv_iload hx hb dX1_set_16 (lv_at hl 4 rfl) ?_
  refine va_put (D := D) (ci := 1) (v := .int be') (ty := .int) (C := RX1) (T := TX1) (N := 4) hx hb hg iX1 tyX1 tyX1_ok nmX1 hown hK hP hD hS 0 rfl rfl 3 (by decide) (hg _ kw118) (fun _ h9 => h9) rfl (by decide +kernel) rfl rfl (Nat.le_of_ble_eq_true rfl) dX1_set_18 (fun H locs hP hD hS => ?_)
  have hP : va_P D vwCl [(h0, .inr (1, [.int b', .int a', .int ab', .int be']))] H := hP
  have hD : va_D A [(h0, .inr (1, [.int b', .int a', .int ab', .int be']))] := hD
  exact W.vret hx hb hr (fun t ht hW => ⟨⟨(), rfl, trivial, bq_end hP hK hD ht hW⟩, hS.F ht⟩) hS.2.2 dX1_set_21

set_option maxHeartbeats 4000000 in
set_option maxRecDepth 100000 in
/-- Meeting.copy -/
theorem qX1_copy (l : Launch) (D : va_G) (cI cZ cJ : ClassId) (h0 h1 : Nat) (b a ab be b1 a1 ab1 be1 : Int32) (sz : Nat) : Met l yX1_copy (Cond.code yX1_copy cX1_copy 2 none :: gw) ({ frames := 1, cells := 0, slots := 0, locals := 24 }) (wq D [.ref h0, .ref h1] sz [(h0, .inr (1, [.int b, .int a, .int ab, .int be])), (h1, .inr (1, [.int b1, .int a1, .int ab1, .int be1]))] [(cI, .int), (cZ, .boolean), (cJ, .long)]) (va_Qv (S := Unit) (fun _ => True) (fun u => bq D [(cI, .int), (cZ, .boolean), (cJ, .long)] (va_A [(h0, .inr (1, [.int b, .int a, .int ab, .int be])), (h1, .inr (1, [.int b1, .int a1, .int ab1, .int be1]))] sz) ([(h0, .inr (1, [.int b1, .int a1, .int ab1, .int be1])), (h1, .inr (1, [.int b1, .int a1, .int ab1, .int be1]))])) (va_A [(h0, .inr (1, [.int b, .int a, .int ab, .int be])), (h1, .inr (1, [.int b1, .int a1, .int ab1, .int be1]))] sz)) 0 0 (va_A [(h0, .inr (1, [.int b, .int a, .int ab, .int be])), (h1, .inr (1, [.int b1, .int a1, .int ab1, .int be1]))] sz) := by
  refine Met.ofW (cc := cX1_copy) (maxL := 2) (ret := none) (by decide) rfl ?_
  intro p e s m args below meth c s₁ B hml hv
  obtain ⟨rfl, hsz, hP, hK, hD0, hZ⟩ := hv
  have hx := B.exec
  have hb := B.bytes
  have hr := B.returns
  have hg : ∀ w ∈ gw, w.before _ s = true := fun w h => atoms_spec (ws := Cond.code yX1_copy cX1_copy 2 none :: gw) B.pre w (List.mem_cons_of_mem _ h)
  have hown : s.vm.findClass RX1 = some m.cls := findClass_of_methodNamed B.named
  have hlocks := B.notSynchronized
  subst hsz
  have hD := hD0.self (sz := s.heap.size)
  generalize hAe : va_A [(h0, .inr (1, [.int b, .int a, .int ab, .int be])), (h1, .inr (1, [.int b1, .int a1, .int ab1, .int be1]))] s.heap.size = A at hD ⊢
  have hA : ∀ q : Nat, s.heap.size ≤ q → A q := fun q h => by rw [← hAe]; exact Or.inr h
  have hS : va_S A s.heap s.heap [] := va_S.rf
  have hP : va_P D vwCl [(h0, .inr (1, [.int b, .int a, .int ab, .int be])), (h1, .inr (1, [.int b1, .int a1, .int ab1, .int be1]))] s.heap := hP
  have hl := lv_entry ([.ref h0, .ref h1]) (n := 2) (Nat.le_of_ble_eq_true rfl)
  rw [lg_entry_eq]
  generalize (lg_sl ([.ref h0, .ref h1]) ++ List.replicate (2 - (lg_sl ([.ref h0, .ref h1])).length) Slot.unset).toArray = ls at hl ⊢
  have hl : lv_has ls 2 [(0, .ref h0), (1, .ref h1)] := hl
  refine lv_aload_n hx hb dX1_copy_0 rfl (lv_at hl 0 rfl) ?_
  refine lv_aload_n hx hb dX1_copy_1 rfl (lv_at hl 1 rfl) ?_
  refine va_get (D := D) (ci := 1) (v := .int b1) (C := RX1) (T := TX1) (N := 4) hx hb hg iX1 hown hK hP 1 rfl rfl 0 (by decide) (hg _ kw112) (fun _ h9 => h9) rfl dX1_copy_2 ?_
  refine lv_aload_n hx hb dX1_copy_5 rfl (lv_at hl 1 rfl) ?_
  refine va_get (D := D) (ci := 1) (v := .int a1) (C := RX1) (T := TX1) (N := 4) hx hb hg iX1 hown hK hP 1 rfl rfl 1 (by decide) (hg _ kw114) (fun _ h9 => h9) rfl dX1_copy_6 ?_
  refine lv_aload_n hx hb dX1_copy_9 rfl (lv_at hl 1 rfl) ?_
  refine va_get (D := D) (ci := 1) (v := .int ab1) (C := RX1) (T := TX1) (N := 4) hx hb hg iX1 hown hK hP 1 rfl rfl 2 (by decide) (hg _ kw116) (fun _ h9 => h9) rfl dX1_copy_10 ?_
  refine lv_aload_n hx hb dX1_copy_13 rfl (lv_at hl 1 rfl) ?_
  refine va_get (D := D) (ci := 1) (v := .int be1) (C := RX1) (T := TX1) (N := 4) hx hb hg iX1 hown hK hP 1 rfl rfl 3 (by decide) (hg _ kw118) (fun _ h9 => h9) rfl dX1_copy_14 ?_
  have hPc := hP.sub (ws' := [(h0, .inr (1, [.int b, .int a, .int ab, .int be]))]) [0] rfl
  have hDc := hD.sub (ws' := [(h0, .inr (1, [.int b, .int a, .int ab, .int be]))]) [0] (by decide) rfl
  have hFc := va_free (wc := [(h0, .inr (1, [.int b, .int a, .int ab, .int be]))]) hD hS hA [0] rfl
  refine va_callv (va_runV (As := [.int b1, .int a1, .int ab1, .int be1]) (rest := []) ⟨hx, hb, hml, hown, hg⟩ (qX1_set l D cI cZ cJ h0 b a ab be b1 a1 ab1 be1 s.heap.size) (cwV 4 hg (gw_V kw402 kw350 kw5 kw40 kw351) rfl rfl rfl (by decide +kernel) ⟨Nat.le_of_ble_eq_true rfl, Nat.le_of_ble_eq_true rfl⟩) (wq_preV hPc hK hDc hZ (va_recv hK hPc (ci := 1) (q0 := 0) rfl rfl)) rfl rfl hl.1 rfl (lv_room (Nat.le_of_ble_eq_true rfl)) dX1_copy_17 ⟨Nat.le_of_ble_eq_true rfl, Nat.le_of_ble_eq_true rfl⟩) hS (fun q _ h => hFc q h) hFc (fun u t H locs ht hvm hw hB hz1 hk1 hS => ?_)
  obtain ⟨hP1, hK1, hD1⟩ := hB
  rw [ht] at hP1
  try dsimp only at hw hP1 hD1
  obtain ⟨hP, hD⟩ := va_join (wr := [(h1, .inr (1, [.int b1, .int a1, .int ab1, .int be1]))]) (w1 := [(h0, .inr (1, [.int b1, .int a1, .int ab1, .int be1]))]) hP hD [0] [1] rfl rfl (by decide) (by decide) hk1 hFc hP1 hD1
  replace hP := hP.sub (ws' := [(h0, .inr (1, [.int b1, .int a1, .int ab1, .int be1])), (h1, .inr (1, [.int b1, .int a1, .int ab1, .int be1]))]) [1, 0] rfl
  replace hD := hD.sub (ws' := [(h0, .inr (1, [.int b1, .int a1, .int ab1, .int be1])), (h1, .inr (1, [.int b1, .int a1, .int ab1, .int be1]))]) [1, 0] (by decide) rfl
  exact W.vret hx hb hr (fun t ht hW => ⟨⟨(), rfl, trivial, bq_end hP hK hD ht hW⟩, hS.F ht⟩) hS.2.2 dX1_copy_20

set_option maxHeartbeats 4000000 in
set_option maxRecDepth 100000 in
/-- Meeting.compareTime -/
theorem qX1_compareTime (l : Launch) (D : va_G) (cI cZ cJ : ClassId) (h0 h1 : Nat) (b a ab be b1 a1 ab1 be1 : Int32) : Met l yX1_compareTime (Cond.code yX1_compareTime cX1_compareTime 2 (some .int) :: gw) ({ frames := 1, cells := 0, slots := 0, locals := 21 }) (pq D [.ref h0, .ref h1] [(h0, .inr (1, [.int b, .int a, .int ab, .int be])), (h1, .inr (1, [.int b1, .int a1, .int ab1, .int be1]))] [(cI, .int), (cZ, .boolean), (cJ, .long)]) (QcRead (cmpI (ab * be1) (ab1 * be))) 0 0 (fun _ => False) := by
  refine Met.ofW (cc := cX1_compareTime) (maxL := 2) (ret := (some .int)) (by decide) rfl ?_
  intro p e s m args below meth c s₁ B hml hv
  obtain ⟨rfl, hP, hK, hZ⟩ := hv
  have hx := B.exec
  have hb := B.bytes
  have hr := B.returns
  have hg : ∀ w ∈ gw, w.before _ s = true := fun w h => atoms_spec (ws := Cond.code yX1_compareTime cX1_compareTime 2 (some .int) :: gw) B.pre w (List.mem_cons_of_mem _ h)
  have hown : s.vm.findClass RX1 = some m.cls := findClass_of_methodNamed B.named
  have hlocks := B.notSynchronized
  have hP : va_P D vwCl [(h0, .inr (1, [.int b, .int a, .int ab, .int be])), (h1, .inr (1, [.int b1, .int a1, .int ab1, .int be1]))] s.heap := hP
  have hl := lv_entry ([.ref h0, .ref h1]) (n := 2) (Nat.le_of_ble_eq_true rfl)
  rw [lg_entry_eq]
  generalize (lg_sl ([.ref h0, .ref h1]) ++ List.replicate (2 - (lg_sl ([.ref h0, .ref h1])).length) Slot.unset).toArray = ls at hl ⊢
  have hl : lv_has ls 2 [(0, .ref h0), (1, .ref h1)] := hl
  refine lv_aload_n hx hb dX1_compareTime_0 rfl (lv_at hl 0 rfl) ?_
  refine va_get (D := D) (ci := 1) (v := .int ab) (C := RX1) (T := TX1) (N := 4) hx hb hg iX1 hown hK hP 0 rfl rfl 2 (by decide) (hg _ kw116) (fun _ h9 => h9) rfl dX1_compareTime_1 ?_
  refine lv_aload_n hx hb dX1_compareTime_4 rfl (lv_at hl 1 rfl) ?_
  refine va_get (D := D) (ci := 1) (v := .int be1) (C := RX1) (T := TX1) (N := 4) hx hb hg iX1 hown hK hP 1 rfl rfl 3 (by decide) (hg _ kw118) (fun _ h9 => h9) rfl dX1_compareTime_5 ?_
  refine lv_imul hx hb dX1_compareTime_8 ?_
  refine lv_aload_n hx hb dX1_compareTime_9 rfl (lv_at hl 1 rfl) ?_
  refine va_get (D := D) (ci := 1) (v := .int ab1) (C := RX1) (T := TX1) (N := 4) hx hb hg iX1 hown hK hP 1 rfl rfl 2 (by decide) (hg _ kw116) (fun _ h9 => h9) rfl dX1_compareTime_10 ?_
  refine lv_aload_n hx hb dX1_compareTime_13 rfl (lv_at hl 0 rfl) ?_
  refine va_get (D := D) (ci := 1) (v := .int be) (C := RX1) (T := TX1) (N := 4) hx hb hg iX1 hown hK hP 0 rfl rfl 3 (by decide) (hg _ kw118) (fun _ h9 => h9) rfl dX1_compareTime_14 ?_
  refine lv_imul hx hb dX1_compareTime_17 ?_
  have hPc := hP.sub (ws' := []) [] rfl
  refine rq_call (va_runS (As := [.int (ab * be1), .int (ab1 * be)]) (rest := []) ⟨hx, hb, hml, hown, hg⟩ (qJI_compare l D cI cZ cJ (ab * be1) (ab1 * be)) (va_cwS 2 hg (gw_S kw387 kw388 kw47 kw389) rfl rfl rfl (by decide +kernel) ⟨Nat.le_of_ble_eq_true rfl, Nat.le_of_ble_eq_true rfl⟩) (pq_pre hPc hK hZ) rfl rfl hl.1 rfl (lv_room (Nat.le_of_ble_eq_true rfl)) dX1_compareTime_18 ⟨Nat.le_of_ble_eq_true rfl, Nat.le_of_ble_eq_true rfl⟩) ?_
  exact W.iret (v := cmpI (ab * be1) (ab1 * be)) hx hb hr (fun t ht hW => ⟨congrArg (fun z => Outcome.returned (some (Value.int z))) (rfl), ht⟩) (fun q hq => nomatch hq) dX1_compareTime_21
end
section
/-! numbers of the class -/
theorem n3 (i k : Nat) : nI i * 3 + nI k = nI (i * 3 + k) := by rw [show (3 : Int32) = nI 3 from rfl, pk_mul, nI_add]
theorem vin3 {i k N : Nat} (h : i * 3 + k < N) (hN : N < 2 ^ 31) : vp_in (nI i * 3 + nI k) N := by rw [n3]; exact vp_in_nI h hN
theorem vcl3 {i k : Nat} (h : i * 3 + k < 2 ^ 31) : (nI i * 3 + nI k).toNatClampNeg = i * 3 + k := by rw [n3]; exact nI_clamp h
theorem vin30 {i N : Nat} (h : i * 3 < N) (hN : N < 2 ^ 31) : vp_in (nI i * 3) N := by rw [show (3 : Int32) = nI 3 from rfl, pk_mul]; exact vp_in_nI h hN
theorem vcl30 {i : Nat} (h : i * 3 < 2 ^ 31) : (nI i * 3).toNatClampNeg = i * 3 := by rw [show (3 : Int32) = nI 3 from rfl, pk_mul]; exact nI_clamp h
def bI (b : Bool) : Int32 := if b = true then 1 else 0
theorem bI_f {b : Bool} (h : bI b = 0) : b = false := by cases b <;> first | rfl | (revert h; decide)
theorem bI_t {b : Bool} (h : ¬ bI b = 0) : b = true := by cases b <;> first | rfl | (revert h; decide)
/-- a point lies inside the box i -/
def inB (lo hi pt : Nat → Int32) (i : Nat) : Bool := (!decide (pt 0 ≤ lo (i * 3)) && !decide (hi (i * 3) ≤ pt 0)) && ((!decide (pt 1 ≤ lo (i * 3 + 1)) && !decide (hi (i * 3 + 1) ≤ pt 1)) && (!decide (pt 2 ≤ lo (i * 3 + 2)) && !decide (hi (i * 3 + 2) ≤ pt 2)))
def solidB (lo hi ki of pt : Nat → Int32) (i : Nat) : Bool := decide (of i = 0) && (decide (ki i = 0) && inB lo hi pt i)
def anyB (lo hi ki of pt : Nat → Int32) : Nat → Nat → Bool
  | 0, _ => false
  | n + 1, i => solidB lo hi ki of pt i || anyB lo hi ki of pt n (i + 1)

set_option maxHeartbeats 4000000 in
set_option maxRecDepth 100000 in
/-- Boxes.isInside -/
theorem qX0_isInside (l : Launch) (D : va_G) (cI cZ cJ : ClassId) (b0 b1 b2 b3 b4 b5 : Nat) (a1 : Nat) (lo hi ki sh of : Nat → Int32) (cn : Int32) (pt : Nat → Int32) (i : Nat) (hi2 : i < 20) : Met l yX0_isInside (Cond.code yX0_isInside cX0_isInside 5 (some .boolean) :: gw) ({ frames := 0, cells := 0, slots := 0, locals := 0 }) (pq D [.ref b0, .int (nI i), .ref a1] [(b0, .inr (0, [.ref b1, .ref b2, .ref b3, .ref b4, .ref b5, .int cn])), (b1, .inl (cI, 60, .inl lo)), (b2, .inl (cI, 60, .inl hi)), (b3, .inl (cI, 20, .inl ki)), (b4, .inl (cI, 20, .inl sh)), (b5, .inl (cZ, 20, .inl of)), (a1, .inl (cI, 3, .inl pt))] [(cI, .int), (cZ, .boolean), (cJ, .long)]) (QcRead (bI (inB lo hi pt i))) 0 0 (fun _ => False) := by
  refine Met.ofW (cc := cX0_isInside) (maxL := 5) (ret := (some .boolean)) (by decide) rfl ?_
  intro p e s m args below meth c s₁ B hml hv
  obtain ⟨rfl, hP, hK, hZ⟩ := hv
  have hx := B.exec
  have hb := B.bytes
  have hr := B.returns
  have hg : ∀ w ∈ gw, w.before _ s = true := fun w h => atoms_spec (ws := Cond.code yX0_isInside cX0_isInside 5 (some .boolean) :: gw) B.pre w (List.mem_cons_of_mem _ h)
  have hown : s.vm.findClass RX0 = some m.cls := findClass_of_methodNamed B.named
  have hlocks := B.notSynchronized
  have hP : va_P D vwCl [(b0, .inr (0, [.ref b1, .ref b2, .ref b3, .ref b4, .ref b5, .int cn])), (b1, .inl (cI, 60, .inl lo)), (b2, .inl (cI, 60, .inl hi)), (b3, .inl (cI, 20, .inl ki)), (b4, .inl (cI, 20, .inl sh)), (b5, .inl (cZ, 20, .inl of)), (a1, .inl (cI, 3, .inl pt))] s.heap := hP
  have hl := lv_entry ([.ref b0, .int (nI i), .ref a1]) (n := 5) (Nat.le_of_ble_eq_true rfl)
  rw [lg_entry_eq]
  generalize (lg_sl ([.ref b0, .int (nI i), .ref a1]) ++ List.replicate (5 - (lg_sl ([.ref b0, .int (nI i), .ref a1])).length) Slot.unset).toArray = ls at hl ⊢
  have hl : lv_has ls 5 [(0, .ref b0), (1, .int (nI i)), (2, .ref a1)] := hl
  refine lv_iconst (v := 0) hx hb dX0_isInside_0 (by decide) ?_
  refine lv_istore_n (lv' := [(3, .int 0), (0, .ref b0), (1, .int (nI i)), (2, .ref a1)]) hx hb dX0_isInside_1 rfl hl (by decide) rfl (fun ls hl => ?_)
  refine lv_iload_n hx hb dX0_isInside_2 rfl (lv_at hl 0 rfl) ?_
  refine lv_iconst (v := 3) hx hb dX0_isInside_3 (by decide) ?_
  refine lv_icmp_ge (tgt := 50) hx hb dX0_isInside_4 (by decide) (fun c4 => absurd c4 (by decide)) (fun _ => ?_)
  refine lv_aload_n hx hb dX0_isInside_7 rfl (lv_at hl 3 rfl) ?_
  refine lv_iload_n hx hb dX0_isInside_8 rfl (lv_at hl 0 rfl) ?_
  refine va_iald hx hb hK hP 6 0 rfl rfl (vp_in_nI (n := 0) (by decide) (by decide)) dX0_isInside_9 ?_
  refine tp_i (y := pt 0) (congrArg pt (rfl)) ?_
  refine lv_istore (lv' := [(4, .int (pt 0)), (3, .int 0), (0, .ref b0), (1, .int (nI i)), (2, .ref a1)]) hx hb dX0_isInside_10 hl (by decide) rfl (fun ls hl => ?_)
  refine lv_iload hx hb dX0_isInside_12 (lv_at hl 0 rfl) ?_
  refine lv_aload_n hx hb dX0_isInside_14 rfl (lv_at hl 2 rfl) ?_
  refine va_get (D := D) (ci := 0) (v := .ref b1) (C := RX0) (T := TX0) (N := 6) hx hb hg iX0 hown hK hP 0 rfl rfl 0 (by decide) (hg _ kw69) (fun _ h9 => h9) rfl dX0_isInside_15 ?_
  refine lv_iload_n hx hb dX0_isInside_18 rfl (lv_at hl 3 rfl) ?_
  refine lv_iconst (v := 3) hx hb dX0_isInside_19 (by decide) ?_
  refine lv_imul hx hb dX0_isInside_20 ?_
  refine lv_iload_n hx hb dX0_isInside_21 rfl (lv_at hl 1 rfl) ?_
  refine lv_iadd hx hb dX0_isInside_22 ?_
  refine va_iald hx hb hK hP 1 0 rfl rfl (vin3 (k := 0) (by omega) (by decide)) dX0_isInside_23 ?_
  refine tp_i (y := lo (i * 3)) (congrArg lo (vcl3 (k := 0) (by omega))) ?_
  refine lv_icmp_le (tgt := 42) hx hb dX0_isInside_24 (by decide) (fun c24 => ?_) (fun c24 => ?_)
  · have c24n := Int32.not_lt.mpr c24
    refine lv_iconst (v := 0) hx hb dX0_isInside_42 (by decide) ?_
    exact W.zret (v := 0) hx hb hr (by decide) (fun t ht hW => ⟨congrArg (fun z => Outcome.returned (some (Value.int z))) (by simp [inB, bI, c24, c24n]), ht⟩) (fun q hq => nomatch hq) dX0_isInside_43
  · have c24n := Int32.not_le.mp c24
    refine lv_iload hx hb dX0_isInside_27 (lv_at hl 0 rfl) ?_
    refine lv_aload_n hx hb dX0_isInside_29 rfl (lv_at hl 2 rfl) ?_
    refine va_get (D := D) (ci := 0) (v := .ref b2) (C := RX0) (T := TX0) (N := 6) hx hb hg iX0 hown hK hP 0 rfl rfl 1 (by decide) (hg _ kw71) (fun _ h9 => h9) rfl dX0_isInside_30 ?_
    refine lv_iload_n hx hb dX0_isInside_33 rfl (lv_at hl 3 rfl) ?_
    refine lv_iconst (v := 3) hx hb dX0_isInside_34 (by decide) ?_
    refine lv_imul hx hb dX0_isInside_35 ?_
    refine lv_iload_n hx hb dX0_isInside_36 rfl (lv_at hl 1 rfl) ?_
    refine lv_iadd hx hb dX0_isInside_37 ?_
    refine va_iald hx hb hK hP 2 0 rfl rfl (vin3 (k := 0) (by omega) (by decide)) dX0_isInside_38 ?_
    refine tp_i (y := hi (i * 3)) (congrArg hi (vcl3 (k := 0) (by omega))) ?_
    refine lv_icmp_lt (tgt := 44) hx hb dX0_isInside_39 (by decide) (fun c39 => ?_) (fun c39 => ?_)
    · have c39n := Int32.not_le.mpr c39
      refine lv_iinc (v := 1) (lv' := [(3, .int 1), (4, .int (pt 0)), (0, .ref b0), (1, .int (nI i)), (2, .ref a1)]) hx hb dX0_isInside_44 hl (k := 1) rfl (by decide) (by decide) rfl (fun ls hl => ?_)
      refine lv_goto (tgt := 2) hx hb dX0_isInside_47 (by decide) ?_
      refine lv_iload_n hx hb dX0_isInside_2 rfl (lv_at hl 0 rfl) ?_
      refine lv_iconst (v := 3) hx hb dX0_isInside_3 (by decide) ?_
      refine lv_icmp_ge (tgt := 50) hx hb dX0_isInside_4 (by decide) (fun c4 => absurd c4 (by decide)) (fun _ => ?_)
      refine lv_aload_n hx hb dX0_isInside_7 rfl (lv_at hl 4 rfl) ?_
      refine lv_iload_n hx hb dX0_isInside_8 rfl (lv_at hl 0 rfl) ?_
      refine va_iald hx hb hK hP 6 0 rfl rfl (vp_in_nI (n := 1) (by decide) (by decide)) dX0_isInside_9 ?_
      refine tp_i (y := pt 1) (congrArg pt (rfl)) ?_
      refine lv_istore (lv' := [(4, .int (pt 1)), (3, .int 1), (0, .ref b0), (1, .int (nI i)), (2, .ref a1)]) hx hb dX0_isInside_10 hl (by decide) rfl (fun ls hl => ?_)
      refine lv_iload hx hb dX0_isInside_12 (lv_at hl 0 rfl) ?_
      refine lv_aload_n hx hb dX0_isInside_14 rfl (lv_at hl 2 rfl) ?_
      refine va_get (D := D) (ci := 0) (v := .ref b1) (C := RX0) (T := TX0) (N := 6) hx hb hg iX0 hown hK hP 0 rfl rfl 0 (by decide) (hg _ kw69) (fun _ h9 => h9) rfl dX0_isInside_15 ?_
      refine lv_iload_n hx hb dX0_isInside_18 rfl (lv_at hl 3 rfl) ?_
      refine lv_iconst (v := 3) hx hb dX0_isInside_19 (by decide) ?_
      refine lv_imul hx hb dX0_isInside_20 ?_
      refine lv_iload_n hx hb dX0_isInside_21 rfl (lv_at hl 1 rfl) ?_
      refine lv_iadd hx hb dX0_isInside_22 ?_
      refine va_iald hx hb hK hP 1 0 rfl rfl (vin3 (k := 1) (by omega) (by decide)) dX0_isInside_23 ?_
      refine tp_i (y := lo (i * 3 + 1)) (congrArg lo (vcl3 (k := 1) (by omega))) ?_
      refine lv_icmp_le (tgt := 42) hx hb dX0_isInside_24 (by decide) (fun c24_1 => ?_) (fun c24_1 => ?_)
      · have c24_1n := Int32.not_lt.mpr c24_1
        refine lv_iconst (v := 0) hx hb dX0_isInside_42 (by decide) ?_
        exact W.zret (v := 0) hx hb hr (by decide) (fun t ht hW => ⟨congrArg (fun z => Outcome.returned (some (Value.int z))) (by simp [inB, bI, c24, c24n, c39, c39n, c24_1, c24_1n]), ht⟩) (fun q hq => nomatch hq) dX0_isInside_43
      · have c24_1n := Int32.not_le.mp c24_1
        refine lv_iload hx hb dX0_isInside_27 (lv_at hl 0 rfl) ?_
        refine lv_aload_n hx hb dX0_isInside_29 rfl (lv_at hl 2 rfl) ?_
        refine va_get (D := D) (ci := 0) (v := .ref b2) (C := RX0) (T := TX0) (N := 6) hx hb hg iX0 hown hK hP 0 rfl rfl 1 (by decide) (hg _ kw71) (fun _ h9 => h9) rfl dX0_isInside_30 ?_
        refine lv_iload_n hx hb dX0_isInside_33 rfl (lv_at hl 3 rfl) ?_
        refine lv_iconst (v := 3) hx hb dX0_isInside_34 (by decide) ?_
        refine lv_imul hx hb dX0_isInside_35 ?_
        refine lv_iload_n hx hb dX0_isInside_36 rfl (lv_at hl 1 rfl) ?_
        refine lv_iadd hx hb dX0_isInside_37 ?_
        refine va_iald hx hb hK hP 2 0 rfl rfl (vin3 (k := 1) (by omega) (by decide)) dX0_isInside_38 ?_
        refine tp_i (y := hi (i * 3 + 1)) (congrArg hi (vcl3 (k := 1) (by omega))) ?_
        refine lv_icmp_lt (tgt := 44) hx hb dX0_isInside_39 (by decide) (fun c39_1 => ?_) (fun c39_1 => ?_)
        · have c39_1n := Int32.not_le.mpr c39_1
          refine lv_iinc (v := 2) (lv' := [(3, .int 2), (4, .int (pt 1)), (0, .ref b0), (1, .int (nI i)), (2, .ref a1)]) hx hb dX0_isInside_44 hl (k := 1) rfl (by decide) (by decide) rfl (fun ls hl => ?_)
          refine lv_goto (tgt := 2) hx hb dX0_isInside_47 (by decide) ?_
          refine lv_iload_n hx hb dX0_isInside_2 rfl (lv_at hl 0 rfl) ?_
          refine lv_iconst (v := 3) hx hb dX0_isInside_3 (by decide) ?_
          refine lv_icmp_ge (tgt := 50) hx hb dX0_isInside_4 (by decide) (fun c4 => absurd c4 (by decide)) (fun _ => ?_)
          refine lv_aload_n hx hb dX0_isInside_7 rfl (lv_at hl 4 rfl) ?_
          refine lv_iload_n hx hb dX0_isInside_8 rfl (lv_at hl 0 rfl) ?_
          refine va_iald hx hb hK hP 6 0 rfl rfl (vp_in_nI (n := 2) (by decide) (by decide)) dX0_isInside_9 ?_
          refine tp_i (y := pt 2) (congrArg pt (rfl)) ?_
          refine lv_istore (lv' := [(4, .int (pt 2)), (3, .int 2), (0, .ref b0), (1, .int (nI i)), (2, .ref a1)]) hx hb dX0_isInside_10 hl (by decide) rfl (fun ls hl => ?_)
          refine lv_iload hx hb dX0_isInside_12 (lv_at hl 0 rfl) ?_
          refine lv_aload_n hx hb dX0_isInside_14 rfl (lv_at hl 2 rfl) ?_
          refine va_get (D := D) (ci := 0) (v := .ref b1) (C := RX0) (T := TX0) (N := 6) hx hb hg iX0 hown hK hP 0 rfl rfl 0 (by decide) (hg _ kw69) (fun _ h9 => h9) rfl dX0_isInside_15 ?_
          refine lv_iload_n hx hb dX0_isInside_18 rfl (lv_at hl 3 rfl) ?_
          refine lv_iconst (v := 3) hx hb dX0_isInside_19 (by decide) ?_
          refine lv_imul hx hb dX0_isInside_20 ?_
          refine lv_iload_n hx hb dX0_isInside_21 rfl (lv_at hl 1 rfl) ?_
          refine lv_iadd hx hb dX0_isInside_22 ?_
          refine va_iald hx hb hK hP 1 0 rfl rfl (vin3 (k := 2) (by omega) (by decide)) dX0_isInside_23 ?_
          refine tp_i (y := lo (i * 3 + 2)) (congrArg lo (vcl3 (k := 2) (by omega))) ?_
          refine lv_icmp_le (tgt := 42) hx hb dX0_isInside_24 (by decide) (fun c24_2 => ?_) (fun c24_2 => ?_)
          · have c24_2n := Int32.not_lt.mpr c24_2
            refine lv_iconst (v := 0) hx hb dX0_isInside_42 (by decide) ?_
            exact W.zret (v := 0) hx hb hr (by decide) (fun t ht hW => ⟨congrArg (fun z => Outcome.returned (some (Value.int z))) (by simp [inB, bI, c24, c24n, c39, c39n, c24_1, c24_1n, c39_1, c39_1n, c24_2, c24_2n]), ht⟩) (fun q hq => nomatch hq) dX0_isInside_43
          · have c24_2n := Int32.not_le.mp c24_2
            refine lv_iload hx hb dX0_isInside_27 (lv_at hl 0 rfl) ?_
            refine lv_aload_n hx hb dX0_isInside_29 rfl (lv_at hl 2 rfl) ?_
            refine va_get (D := D) (ci := 0) (v := .ref b2) (C := RX0) (T := TX0) (N := 6) hx hb hg iX0 hown hK hP 0 rfl rfl 1 (by decide) (hg _ kw71) (fun _ h9 => h9) rfl dX0_isInside_30 ?_
            refine lv_iload_n hx hb dX0_isInside_33 rfl (lv_at hl 3 rfl) ?_
            refine lv_iconst (v := 3) hx hb dX0_isInside_34 (by decide) ?_
            refine lv_imul hx hb dX0_isInside_35 ?_
            refine lv_iload_n hx hb dX0_isInside_36 rfl (lv_at hl 1 rfl) ?_
            refine lv_iadd hx hb dX0_isInside_37 ?_
            refine va_iald hx hb hK hP 2 0 rfl rfl (vin3 (k := 2) (by omega) (by decide)) dX0_isInside_38 ?_
            refine tp_i (y := hi (i * 3 + 2)) (congrArg hi (vcl3 (k := 2) (by omega))) ?_
            refine lv_icmp_lt (tgt := 44) hx hb dX0_isInside_39 (by decide) (fun c39_2 => ?_) (fun c39_2 => ?_)
            · have c39_2n := Int32.not_le.mpr c39_2
              refine lv_iinc (v := 3) (lv' := [(3, .int 3), (4, .int (pt 2)), (0, .ref b0), (1, .int (nI i)), (2, .ref a1)]) hx hb dX0_isInside_44 hl (k := 1) rfl (by decide) (by decide) rfl (fun ls hl => ?_)
              refine lv_goto (tgt := 2) hx hb dX0_isInside_47 (by decide) ?_
              refine lv_iload_n hx hb dX0_isInside_2 rfl (lv_at hl 0 rfl) ?_
              refine lv_iconst (v := 3) hx hb dX0_isInside_3 (by decide) ?_
              refine lv_icmp_ge (tgt := 50) hx hb dX0_isInside_4 (by decide) (fun _ => ?_) (fun c4 => absurd (by decide) c4)
              refine lv_iconst (v := 1) hx hb dX0_isInside_50 (by decide) ?_
              exact W.zret (v := 1) hx hb hr (by decide) (fun t ht hW => ⟨congrArg (fun z => Outcome.returned (some (Value.int z))) (by simp [inB, bI, c24, c24n, c39, c39n, c24_1, c24_1n, c39_1, c39_1n, c24_2, c24_2n, c39_2, c39_2n]), ht⟩) (fun q hq => nomatch hq) dX0_isInside_51
            · have c39_2n := Int32.not_lt.mp c39_2
              refine lv_iconst (v := 0) hx hb dX0_isInside_42 (by decide) ?_
              exact W.zret (v := 0) hx hb hr (by decide) (fun t ht hW => ⟨congrArg (fun z => Outcome.returned (some (Value.int z))) (by simp [inB, bI, c24, c24n, c39, c39n, c24_1, c24_1n, c39_1, c39_1n, c24_2, c24_2n, c39_2, c39_2n]), ht⟩) (fun q hq => nomatch hq) dX0_isInside_43
        · have c39_1n := Int32.not_lt.mp c39_1
          refine lv_iconst (v := 0) hx hb dX0_isInside_42 (by decide) ?_
          exact W.zret (v := 0) hx hb hr (by decide) (fun t ht hW => ⟨congrArg (fun z => Outcome.returned (some (Value.int z))) (by simp [inB, bI, c24, c24n, c39, c39n, c24_1, c24_1n, c39_1, c39_1n]), ht⟩) (fun q hq => nomatch hq) dX0_isInside_43
    · have c39n := Int32.not_lt.mp c39
      refine lv_iconst (v := 0) hx hb dX0_isInside_42 (by decide) ?_
      exact W.zret (v := 0) hx hb hr (by decide) (fun t ht hW => ⟨congrArg (fun z => Outcome.returned (some (Value.int z))) (by simp [inB, bI, c24, c24n, c39, c39n]), ht⟩) (fun q hq => nomatch hq) dX0_isInside_43

set_option maxHeartbeats 4000000 in
set_option maxRecDepth 100000 in
/-- Boxes.anySolidRound -/
theorem qX0_anySolidRound (l : Launch) (D : va_G) (cI cZ cJ : ClassId) (b0 b1 b2 b3 b4 b5 : Nat) (a1 : Nat) (lo hi ki sh of : Nat → Int32) (nb : Nat) (pt : Nat → Int32) (hnb : nb ≤ 20) : Met l yX0_anySolidRound (Cond.code yX0_anySolidRound cX0_anySolidRound 3 (some .boolean) :: gw) ({ frames := 1, cells := 0, slots := 0, locals := 24 }) (pq D [.ref b0, .ref a1] [(b0, .inr (0, [.ref b1, .ref b2, .ref b3, .ref b4, .ref b5, .int (nI nb)])), (b1, .inl (cI, 60, .inl lo)), (b2, .inl (cI, 60, .inl hi)), (b3, .inl (cI, 20, .inl ki)), (b4, .inl (cI, 20, .inl sh)), (b5, .inl (cZ, 20, .inl of)), (a1, .inl (cI, 3, .inl pt))] [(cI, .int), (cZ, .boolean), (cJ, .long)]) (QcRead (bI (anyB lo hi ki of pt nb 0))) 0 0 (fun _ => False) := by
  refine Met.ofW (cc := cX0_anySolidRound) (maxL := 3) (ret := (some .boolean)) (by decide) rfl ?_
  intro p e s m args below meth c s₁ B hml hv
  obtain ⟨rfl, hP, hK, hZ⟩ := hv
  have hx := B.exec
  have hb := B.bytes
  have hr := B.returns
  have hg : ∀ w ∈ gw, w.before _ s = true := fun w h => atoms_spec (ws := Cond.code yX0_anySolidRound cX0_anySolidRound 3 (some .boolean) :: gw) B.pre w (List.mem_cons_of_mem _ h)
  have hown : s.vm.findClass RX0 = some m.cls := findClass_of_methodNamed B.named
  have hlocks := B.notSynchronized
  have hP : va_P D vwCl [(b0, .inr (0, [.ref b1, .ref b2, .ref b3, .ref b4, .ref b5, .int (nI nb)])), (b1, .inl (cI, 60, .inl lo)), (b2, .inl (cI, 60, .inl hi)), (b3, .inl (cI, 20, .inl ki)), (b4, .inl (cI, 20, .inl sh)), (b5, .inl (cZ, 20, .inl of)), (a1, .inl (cI, 3, .inl pt))] s.heap := hP
  have hl := lv_entry ([.ref b0, .ref a1]) (n := 3) (Nat.le_of_ble_eq_true rfl)
  rw [lg_entry_eq]
  generalize (lg_sl ([.ref b0, .ref a1]) ++ List.replicate (3 - (lg_sl ([.ref b0, .ref a1])).length) Slot.unset).toArray = ls at hl ⊢
  have hl : lv_has ls 3 [(0, .ref b0), (1, .ref a1)] := hl
  refine lv_iconst (v := 0) hx hb dX0_anySolidRound_0 (by decide) ?_
  refine lv_istore_n (lv' := [(2, .int 0), (0, .ref b0), (1, .ref a1)]) hx hb dX0_anySolidRound_1 rfl hl (by decide) rfl (fun ls hl => ?_)
  have loop : ∀ (n i : Nat), i + n = nb → ∀ ls : Array Slot, lv_has ls 3 [(0, .ref b0), (1, .ref a1), (2, .int (nI i))] → W p l e (headSpec (Cond.code yX0_anySolidRound cX0_anySolidRound 3 (some .boolean) :: gw) ({ frames := 1, cells := 0, slots := 0, locals := 24 })).room s m ([.ref b0, .ref a1] : List Value).toArray below meth c s.heap [] 0 0 (MQ below (QcRead (bI (anyB lo hi ki of pt n i))) ([.ref b0, .ref a1] : List Value).toArray s 0 0 (fun _ => False)) (F0 m 2 ls []) := by
    intro n
    induction n with
    | zero =>
      intro i hi2 ls hl
      refine lv_iload_n hx hb dX0_anySolidRound_2 rfl (lv_at hl 2 rfl) ?_
      refine lv_aload_n hx hb dX0_anySolidRound_3 rfl (lv_at hl 0 rfl) ?_
      refine va_get (D := D) (ci := 0) (v := .int (nI nb)) (C := RX0) (T := TX0) (N := 6) hx hb hg iX0 hown hK hP 0 rfl rfl 5 (by decide) (hg _ kw82) (fun _ h9 => h9) rfl dX0_anySolidRound_4 ?_
      refine lv_icmp_ge (tgt := 45) hx hb dX0_anySolidRound_7 (by decide) (fun _ => ?_) (fun c7 => absurd (nI_le (by omega) (by omega)) c7)
      refine lv_iconst (v := 0) hx hb dX0_anySolidRound_45 (by decide) ?_
      exact W.zret (v := 0) hx hb hr (by decide) (fun t ht hW => ⟨congrArg (fun z => Outcome.returned (some (Value.int z))) (rfl), ht⟩) (fun q hq => nomatch hq) dX0_anySolidRound_46
    | succ n ih =>
      intro i hi2 ls hl
      refine lv_iload_n hx hb dX0_anySolidRound_2 rfl (lv_at hl 2 rfl) ?_
      refine lv_aload_n hx hb dX0_anySolidRound_3 rfl (lv_at hl 0 rfl) ?_
      refine va_get (D := D) (ci := 0) (v := .int (nI nb)) (C := RX0) (T := TX0) (N := 6) hx hb hg iX0 hown hK hP 0 rfl rfl 5 (by decide) (hg _ kw82) (fun _ h9 => h9) rfl dX0_anySolidRound_4 ?_
      refine lv_icmp_ge (tgt := 45) hx hb dX0_anySolidRound_7 (by decide) (fun c7 => absurd c7 (nI_ge (by omega) (by omega))) (fun _ => ?_)
      refine lv_aload_n hx hb dX0_anySolidRound_10 rfl (lv_at hl 0 rfl) ?_
      refine va_get (D := D) (ci := 0) (v := .ref b5) (C := RX0) (T := TX0) (N := 6) hx hb hg iX0 hown hK hP 0 rfl rfl 4 (by decide) (hg _ kw79) (fun _ h9 => h9) rfl dX0_anySolidRound_11 ?_
      refine lv_iload_n hx hb dX0_anySolidRound_14 rfl (lv_at hl 2 rfl) ?_
      refine va_zald hx hb hK hP 5 1 rfl rfl (vp_in_nI (by omega) (by decide)) dX0_anySolidRound_15 ?_
      refine tp_i (y := of i) (congrArg of (nI_clamp (by omega))) ?_
      refine lv_if_ne (tgt := 39) hx hb dX0_anySolidRound_16 (by decide) (fun c16 => ?_) (fun c16 => ?_)
      · refine lv_iinc (v := nI (i + 1)) (lv' := [(2, .int (nI (i + 1))), (0, .ref b0), (1, .ref a1)]) hx hb dX0_anySolidRound_39 hl (k := 2) rfl (nI_1 _) (by decide) rfl (fun ls hl => ?_)
        refine lv_goto (tgt := 2) hx hb dX0_anySolidRound_42 (by decide) ?_
        rw [show anyB lo hi ki of pt (n + 1) i = anyB lo hi ki of pt n (i + 1) by simp [anyB, solidB, c16]]
        exact ih (i + 1) (by omega) ls (lv_sub hl [1, 2, 0] rfl)
      · refine lv_aload_n hx hb dX0_anySolidRound_19 rfl (lv_at hl 0 rfl) ?_
        refine va_get (D := D) (ci := 0) (v := .ref b3) (C := RX0) (T := TX0) (N := 6) hx hb hg iX0 hown hK hP 0 rfl rfl 2 (by decide) (hg _ kw73) (fun _ h9 => h9) rfl dX0_anySolidRound_20 ?_
        refine lv_iload_n hx hb dX0_anySolidRound_23 rfl (lv_at hl 2 rfl) ?_
        refine va_iald hx hb hK hP 3 0 rfl rfl (vp_in_nI (by omega) (by decide)) dX0_anySolidRound_24 ?_
        refine tp_i (y := ki i) (congrArg ki (nI_clamp (by omega))) ?_
        refine lv_if_ne (tgt := 39) hx hb dX0_anySolidRound_25 (by decide) (fun c25 => ?_) (fun c25 => ?_)
        · refine lv_iinc (v := nI (i + 1)) (lv' := [(2, .int (nI (i + 1))), (0, .ref b0), (1, .ref a1)]) hx hb dX0_anySolidRound_39 hl (k := 2) rfl (nI_1 _) (by decide) rfl (fun ls hl => ?_)
          refine lv_goto (tgt := 2) hx hb dX0_anySolidRound_42 (by decide) ?_
          rw [show anyB lo hi ki of pt (n + 1) i = anyB lo hi ki of pt n (i + 1) by simp [anyB, solidB, c16, c25]]
          exact ih (i + 1) (by omega) ls (lv_sub hl [1, 2, 0] rfl)
        · refine lv_aload_n hx hb dX0_anySolidRound_28 rfl (lv_at hl 0 rfl) ?_
          refine lv_iload_n hx hb dX0_anySolidRound_29 rfl (lv_at hl 2 rfl) ?_
          refine lv_aload_n hx hb dX0_anySolidRound_30 rfl (lv_at hl 1 rfl) ?_
          have hPc := hP.sub (ws' := [(b0, .inr (0, [.ref b1, .ref b2, .ref b3, .ref b4, .ref b5, .int (nI nb)])), (b1, .inl (cI, 60, .inl lo)), (b2, .inl (cI, 60, .inl hi)), (b3, .inl (cI, 20, .inl ki)), (b4, .inl (cI, 20, .inl sh)), (b5, .inl (cZ, 20, .inl of)), (a1, .inl (cI, 3, .inl pt))]) [0, 1, 2, 3, 4, 5, 6] rfl
          refine rq_call (va_runV (As := [.int (nI i), .ref a1]) (rest := []) ⟨hx, hb, hml, hown, hg⟩ (qX0_isInside l D cI cZ cJ b0 b1 b2 b3 b4 b5 a1 lo hi ki sh of (nI nb) pt i (by omega)) (cwV 2 hg (gw_V kw364 kw366 kw9 kw38 kw367) rfl rfl rfl (by decide +kernel) ⟨Nat.le_of_ble_eq_true rfl, Nat.le_of_ble_eq_true rfl⟩) (pq_preV hPc hK hZ (va_recv hK hPc (ci := 0) (q0 := 0) rfl rfl)) rfl rfl hl.1 rfl (lv_room (Nat.le_of_ble_eq_true rfl)) dX0_anySolidRound_31 ⟨Nat.le_of_ble_eq_true rfl, Nat.le_of_ble_eq_true rfl⟩) ?_
          refine lv_if_eq (tgt := 39) hx hb dX0_anySolidRound_34 (by decide) (fun c34 => ?_) (fun c34 => ?_)
          · replace c34 := bI_f c34
            refine lv_iinc (v := nI (i + 1)) (lv' := [(2, .int (nI (i + 1))), (0, .ref b0), (1, .ref a1)]) hx hb dX0_anySolidRound_39 hl (k := 2) rfl (nI_1 _) (by decide) rfl (fun ls hl => ?_)
            refine lv_goto (tgt := 2) hx hb dX0_anySolidRound_42 (by decide) ?_
            rw [show anyB lo hi ki of pt (n + 1) i = anyB lo hi ki of pt n (i + 1) by simp [anyB, solidB, c16, c25, c34]]
            exact ih (i + 1) (by omega) ls (lv_sub hl [1, 2, 0] rfl)
          · replace c34 := bI_t c34
            refine lv_iconst (v := 1) hx hb dX0_anySolidRound_37 (by decide) ?_
            exact W.zret (v := 1) hx hb hr (by decide) (fun t ht hW => ⟨congrArg (fun z => Outcome.returned (some (Value.int z))) (by simp [anyB, solidB, bI, c16, c25, c34]), ht⟩) (fun q hq => nomatch hq) dX0_anySolidRound_38
  exact loop nb 0 (by omega) ls (lv_sub hl [1, 2, 0] rfl)

set_option maxHeartbeats 4000000 in
set_option maxRecDepth 100000 in
/-- Boxes.add -/
theorem qX0_add (l : Launch) (D : va_G) (cI cZ cJ : ClassId) (b0 b1 b2 b3 b4 b5 : Nat) (lo hi ki sh of : Nat → Int32) (nb : Nat) (x0 y0 z0 x1 y1 z1 : Int32) (hnb : nb < 20) (sz : Nat) : Met l yX0_add (Cond.code yX0_add cX0_add 8 (some .int) :: gw) ({ frames := 0, cells := 0, slots := 0, locals := 0 }) (wq D [.ref b0, .int x0, .int y0, .int z0, .int x1, .int y1, .int z1] sz [(b0, .inr (0, [.ref b1, .ref b2, .ref b3, .ref b4, .ref b5, .int (nI nb)])), (b1, .inl (cI, 60, .inl lo)), (b2, .inl (cI, 60, .inl hi)), (b3, .inl (cI, 20, .inl ki)), (b4, .inl (cI, 20, .inl sh)), (b5, .inl (cZ, 20, .inl of))] [(cI, .int), (cZ, .boolean), (cJ, .long)]) (va_Qi (S := Unit) (fun r _ => r = nI nb) (fun u => bq D [(cI, .int), (cZ, .boolean), (cJ, .long)] (va_A [(b0, .inr (0, [.ref b1, .ref b2, .ref b3, .ref b4, .ref b5, .int (nI nb)])), (b1, .inl (cI, 60, .inl lo)), (b2, .inl (cI, 60, .inl hi)), (b3, .inl (cI, 20, .inl ki)), (b4, .inl (cI, 20, .inl sh)), (b5, .inl (cZ, 20, .inl of))] sz) ([(b0, .inr (0, [.ref b1, .ref b2, .ref b3, .ref b4, .ref b5, .int (nI (nb + 1))])), (b1, .inl (cI, 60, .inl (upd (upd (upd lo (nb * 3) x0) (nb * 3 + 1) y0) (nb * 3 + 2) z0))), (b2, .inl (cI, 60, .inl (upd (upd (upd hi (nb * 3) x1) (nb * 3 + 1) y1) (nb * 3 + 2) z1))), (b3, .inl (cI, 20, .inl (upd ki nb 0))), (b4, .inl (cI, 20, .inl (upd sh nb 1000))), (b5, .inl (cZ, 20, .inl (upd of nb 0)))])) (va_A [(b0, .inr (0, [.ref b1, .ref b2, .ref b3, .ref b4, .ref b5, .int (nI nb)])), (b1, .inl (cI, 60, .inl lo)), (b2, .inl (cI, 60, .inl hi)), (b3, .inl (cI, 20, .inl ki)), (b4, .inl (cI, 20, .inl sh)), (b5, .inl (cZ, 20, .inl of))] sz)) 0 0 (va_A [(b0, .inr (0, [.ref b1, .ref b2, .ref b3, .ref b4, .ref b5, .int (nI nb)])), (b1, .inl (cI, 60, .inl lo)), (b2, .inl (cI, 60, .inl hi)), (b3, .inl (cI, 20, .inl ki)), (b4, .inl (cI, 20, .inl sh)), (b5, .inl (cZ, 20, .inl of))] sz) := by
  refine Met.ofW (cc := cX0_add) (maxL := 8) (ret := (some .int)) (by decide) rfl ?_
  intro p e s m args below meth c s₁ B hml hv
  obtain ⟨rfl, hsz, hP, hK, hD0, hZ⟩ := hv
  have hx := B.exec
  have hb := B.bytes
  have hr := B.returns
  have hg : ∀ w ∈ gw, w.before _ s = true := fun w h => atoms_spec (ws := Cond.code yX0_add cX0_add 8 (some .int) :: gw) B.pre w (List.mem_cons_of_mem _ h)
  have hown : s.vm.findClass RX0 = some m.cls := findClass_of_methodNamed B.named
  have hlocks := B.notSynchronized
  subst hsz
  have hD := hD0.self (sz := s.heap.size)
  generalize hAe : va_A [(b0, .inr (0, [.ref b1, .ref b2, .ref b3, .ref b4, .ref b5, .int (nI nb)])), (b1, .inl (cI, 60, .inl lo)), (b2, .inl (cI, 60, .inl hi)), (b3, .inl (cI, 20, .inl ki)), (b4, .inl (cI, 20, .inl sh)), (b5, .inl (cZ, 20, .inl of))] s.heap.size = A at hD ⊢
  have hA : ∀ q : Nat, s.heap.size ≤ q → A q := fun q h => by rw [← hAe]; exact Or.inr h
  have hS : va_S A s.heap s.heap [] := va_S.rf
  have hP : va_P D vwCl [(b0, .inr (0, [.ref b1, .ref b2, .ref b3, .ref b4, .ref b5, .int (nI nb)])), (b1, .inl (cI, 60, .inl lo)), (b2, .inl (cI, 60, .inl hi)), (b3, .inl (cI, 20, .inl ki)), (b4, .inl (cI, 20, .inl sh)), (b5, .inl (cZ, 20, .inl of))] s.heap := hP
  have hl := lv_entry ([.ref b0, .int x0, .int y0, .int z0, .int x1, .int y1, .int z1]) (n := 8) (Nat.le_of_ble_eq_true rfl)
  rw [lg_entry_eq]
  generalize (lg_sl ([.ref b0, .int x0, .int y0, .int z0, .int x1, .int y1, .int z1]) ++ List.replicate (8 - (lg_sl ([.ref b0, .int x0, .int y0, .int z0, .int x1, .int y1, .int z1])).length) Slot.unset).toArray = ls at hl ⊢
  have hl : lv_has ls 8 [(0, .ref b0), (1, .int x0), (2, .int y0), (3, .int z0), (4, .int x1), (5, .int y1), (6, .int z1)] := hl
  refine lv_aload_n hx hb dX0_add_0 rfl (lv_at hl 0 rfl) ?_
  refine va_get (D := D) (ci := 0) (v := .int (nI nb)) (C := RX0) (T := TX0) (N := 6) hx hb hg iX0 hown hK hP 0 rfl rfl 5 (by decide) (hg _ kw82) (fun _ h9 => h9) rfl dX0_add_1 ?_
  refine lv_iconst (v := 3) hx hb dX0_add_4 (by decide) ?_
  refine lv_imul hx hb dX0_add_5 ?_
  refine lv_istore (lv' := [(7, .int ((nI nb) * 3)), (0, .ref b0), (1, .int x0), (2, .int y0), (3, .int z0), (4, .int x1), (5, .int y1), (6, .int z1)]) hx hb dX0_add_6 hl (by decide) rfl (fun ls hl => ?_)
  refine lv_aload_n hx hb dX0_add_8 rfl (lv_at hl 1 rfl) ?_
  refine va_get (D := D) (ci := 0) (v := .ref b1) (C := RX0) (T := TX0) (N := 6) hx hb hg iX0 hown hK hP 0 rfl rfl 0 (by decide) (hg _ kw69) (fun _ h9 => h9) rfl dX0_add_9 ?_
  refine lv_iload hx hb dX0_add_12 (lv_at hl 0 rfl) ?_
  refine lv_iload_n hx hb dX0_add_14 rfl (lv_at hl 2 rfl) ?_
  refine va_iast hx hb hK hP hD hS 1 0 rfl rfl (vin30 (by omega) (by decide)) dX0_add_15 (fun H locs hP hD hS => ?_)
  rw [show ((nI nb) * 3).toNatClampNeg = nb * 3 from vcl30 (by omega)] at hP hD
  have hP : va_P D vwCl [(b0, .inr (0, [.ref b1, .ref b2, .ref b3, .ref b4, .ref b5, .int (nI nb)])), (b1, .inl (cI, 60, .inl (upd lo (nb * 3) x0))), (b2, .inl (cI, 60, .inl hi)), (b3, .inl (cI, 20, .inl ki)), (b4, .inl (cI, 20, .inl sh)), (b5, .inl (cZ, 20, .inl of))] H := hP
  have hD : va_D A [(b0, .inr (0, [.ref b1, .ref b2, .ref b3, .ref b4, .ref b5, .int (nI nb)])), (b1, .inl (cI, 60, .inl (upd lo (nb * 3) x0))), (b2, .inl (cI, 60, .inl hi)), (b3, .inl (cI, 20, .inl ki)), (b4, .inl (cI, 20, .inl sh)), (b5, .inl (cZ, 20, .inl of))] := hD
  refine lv_aload_n hx hb dX0_add_16 rfl (lv_at hl 1 rfl) ?_
  refine va_get (D := D) (ci := 0) (v := .ref b1) (C := RX0) (T := TX0) (N := 6) hx hb hg iX0 hown hK hP 0 rfl rfl 0 (by decide) (hg _ kw69) (fun _ h9 => h9) rfl dX0_add_17 ?_
  refine lv_iload hx hb dX0_add_20 (lv_at hl 0 rfl) ?_
  refine lv_iconst (v := 1) hx hb dX0_add_22 (by decide) ?_
  refine lv_iadd hx hb dX0_add_23 ?_
  refine lv_iload_n hx hb dX0_add_24 rfl (lv_at hl 3 rfl) ?_
  refine va_iast hx hb hK hP hD hS 1 0 rfl rfl (vin3 (k := 1) (by omega) (by decide)) dX0_add_25 (fun H locs hP hD hS => ?_)
  rw [show (((nI nb) * 3) + 1).toNatClampNeg = nb * 3 + 1 from vcl3 (k := 1) (by omega)] at hP hD
  have hP : va_P D vwCl [(b0, .inr (0, [.ref b1, .ref b2, .ref b3, .ref b4, .ref b5, .int (nI nb)])), (b1, .inl (cI, 60, .inl (upd (upd lo (nb * 3) x0) (nb * 3 + 1) y0))), (b2, .inl (cI, 60, .inl hi)), (b3, .inl (cI, 20, .inl ki)), (b4, .inl (cI, 20, .inl sh)), (b5, .inl (cZ, 20, .inl of))] H := hP
  have hD : va_D A [(b0, .inr (0, [.ref b1, .ref b2, .ref b3, .ref b4, .ref b5, .int (nI nb)])), (b1, .inl (cI, 60, .inl (upd (upd lo (nb * 3) x0) (nb * 3 + 1) y0))), (b2, .inl (cI, 60, .inl hi)), (b3, .inl (cI, 20, .inl ki)), (b4, .inl (cI, 20, .inl sh)), (b5, .inl (cZ, 20, .inl of))] := hD
  refine lv_aload_n hx hb dX0_add_26 rfl (lv_at hl 1 rfl) ?_
  refine va_get (D := D) (ci := 0) (v := .ref b1) (C := RX0) (T := TX0) (N := 6) hx hb hg iX0 hown hK hP 0 rfl rfl 0 (by decide) (hg _ kw69) (fun _ h9 => h9) rfl dX0_add_27 ?_
  refine lv_iload hx hb dX0_add_30 (lv_at hl 0 rfl) ?_
  refine lv_iconst (v := 2) hx hb dX0_add_32 (by decide) ?_
  refine lv_iadd hx hb dX0_add_33 ?_
  refine lv_iload_n hx hb dX0_add_34 rfl (lv_at hl 4 rfl) ?_
  refine va_iast hx hb hK hP hD hS 1 0 rfl rfl (vin3 (k := 2) (by omega) (by decide)) dX0_add_35 (fun H locs hP hD hS => ?_)
  rw [show (((nI nb) * 3) + 2).toNatClampNeg = nb * 3 + 2 from vcl3 (k := 2) (by omega)] at hP hD
  have hP : va_P D vwCl [(b0, .inr (0, [.ref b1, .ref b2, .ref b3, .ref b4, .ref b5, .int (nI nb)])), (b1, .inl (cI, 60, .inl (upd (upd (upd lo (nb * 3) x0) (nb * 3 + 1) y0) (nb * 3 + 2) z0))), (b2, .inl (cI, 60, .inl hi)), (b3, .inl (cI, 20, .inl ki)), (b4, .inl (cI, 20, .inl sh)), (b5, .inl (cZ, 20, .inl of))] H := hP
  have hD : va_D A [(b0, .inr (0, [.ref b1, .ref b2, .ref b3, .ref b4, .ref b5, .int (nI nb)])), (b1, .inl (cI, 60, .inl (upd (upd (upd lo (nb * 3) x0) (nb * 3 + 1) y0) (nb * 3 + 2) z0))), (b2, .inl (cI, 60, .inl hi)), (b3, .inl (cI, 20, .inl ki)), (b4, .inl (cI, 20, .inl sh)), (b5, .inl (cZ, 20, .inl of))] := hD
  refine lv_aload_n hx hb dX0_add_36 rfl (lv_at hl 1 rfl) ?_
  refine va_get (D := D) (ci := 0) (v := .ref b2) (C := RX0) (T := TX0) (N := 6) hx hb hg iX0 hown hK hP 0 rfl rfl 1 (by decide) (hg _ kw71) (fun _ h9 => h9) rfl dX0_add_37 ?_
  refine lv_iload hx hb dX0_add_40 (lv_at hl 0 rfl) ?_
  refine lv_iload hx hb dX0_add_42 (lv_at hl 5 rfl) ?_
  refine va_iast hx hb hK hP hD hS 2 0 rfl rfl (vin30 (by omega) (by decide)) dX0_add_44 (fun H locs hP hD hS => ?_)
  rw [show ((nI nb) * 3).toNatClampNeg = nb * 3 from vcl30 (by omega)] at hP hD
  have hP : va_P D vwCl [(b0, .inr (0, [.ref b1, .ref b2, .ref b3, .ref b4, .ref b5, .int (nI nb)])), (b1, .inl (cI, 60, .inl (upd (upd (upd lo (nb * 3) x0) (nb * 3 + 1) y0) (nb * 3 + 2) z0))), (b2, .inl (cI, 60, .inl (upd hi (nb * 3) x1))), (b3, .inl (cI, 20, .inl ki)), (b4, .inl (cI, 20, .inl sh)), (b5, .inl (cZ, 20, .inl of))] H := hP
  have hD : va_D A [(b0, .inr (0, [.ref b1, .ref b2, .ref b3, .ref b4, .ref b5, .int (nI nb)])), (b1, .inl (cI, 60, .inl (upd (upd (upd lo (nb * 3) x0) (nb * 3 + 1) y0) (nb * 3 + 2) z0))), (b2, .inl (cI, 60, .inl (upd hi (nb * 3) x1))), (b3, .inl (cI, 20, .inl ki)), (b4, .inl (cI, 20, .inl sh)), (b5, .inl (cZ, 20, .inl of))] := hD
  refine lv_aload_n hx hb dX0_add_45 rfl (lv_at hl 1 rfl) ?_
  refine va_get (D := D) (ci := 0) (v := .ref b2) (C := RX0) (T := TX0) (N := 6) hx hb hg iX0 hown hK hP 0 rfl rfl 1 (by decide) (hg _ kw71) (fun _ h9 => h9) rfl dX0_add_46 ?_
  refine lv_iload hx hb dX0_add_49 (lv_at hl 0 rfl) ?_
  refine lv_iconst (v := 1) hx hb dX0_add_51 (by decide) ?_
  refine lv_iadd hx hb dX0_add_52 ?_
  refine lv_iload hx hb dX0_add_53 (lv_at hl 6 rfl) ?_
  refine va_iast hx hb hK hP hD hS 2 0 rfl rfl (vin3 (k := 1) (by omega) (by decide)) dX0_add_55 (fun H locs hP hD hS => ?_)
  rw [show (((nI nb) * 3) + 1).toNatClampNeg = nb * 3 + 1 from vcl3 (k := 1) (by omega)] at hP hD
  have hP : va_P D vwCl [(b0, .inr (0, [.ref b1, .ref b2, .ref b3, .ref b4, .ref b5, .int (nI nb)])), (b1, .inl (cI, 60, .inl (upd (upd (upd lo (nb * 3) x0) (nb * 3 + 1) y0) (nb * 3 + 2) z0))), (b2, .inl (cI, 60, .inl (upd (upd hi (nb * 3) x1) (nb * 3 + 1) y1))), (b3, .inl (cI, 20, .inl ki)), (b4, .inl (cI, 20, .inl sh)), (b5, .inl (cZ, 20, .inl of))] H := hP
  have hD : va_D A [(b0, .inr (0, [.ref b1, .ref b2, .ref b3, .ref b4, .ref b5, .int (nI nb)])), (b1, .inl (cI, 60, .inl (upd (upd (upd lo (nb * 3) x0) (nb * 3 + 1) y0) (nb * 3 + 2) z0))), (b2, .inl (cI, 60, .inl (upd (upd hi (nb * 3) x1) (nb * 3 + 1) y1))), (b3, .inl (cI, 20, .inl ki)), (b4, .inl (cI, 20, .inl sh)), (b5, .inl (cZ, 20, .inl of))] := hD
  refine lv_aload_n hx hb dX0_add_56 rfl (lv_at hl 1 rfl) ?_
  refine va_get (D := D) (ci := 0) (v := .ref b2) (C := RX0) (T := TX0) (N := 6) hx hb hg iX0 hown hK hP 0 rfl rfl 1 (by decide) (hg _ kw71) (fun _ h9 => h9) rfl dX0_add_57 ?_
  refine lv_iload hx hb dX0_add_60 (lv_at hl 0 rfl) ?_
  refine lv_iconst (v := 2) hx hb dX0_add_62 (by decide) ?_
  refine lv_iadd hx hb dX0_add_63 ?_
  refine lv_iload hx hb dX0_add_64 (lv_at hl 7 rfl) ?_
  refine va_iast hx hb hK hP hD hS 2 0 rfl rfl (vin3 (k := 2) (by omega) (by decide)) dX0_add_66 (fun H locs hP hD hS => ?_)
  rw [show (((nI nb) * 3) + 2).toNatClampNeg = nb * 3 + 2 from vcl3 (k := 2) (by omega)] at hP hD
  have hP : va_P D vwCl [(b0, .inr (0, [.ref b1, .ref b2, .ref b3, .ref b4, .ref b5, .int (nI nb)])), (b1, .inl (cI, 60, .inl (upd (upd (upd lo (nb * 3) x0) (nb * 3 + 1) y0) (nb * 3 + 2) z0))), (b2, .inl (cI, 60, .inl (upd (upd (upd hi (nb * 3) x1) (nb * 3 + 1) y1) (nb * 3 + 2) z1))), (b3, .inl (cI, 20, .inl ki)), (b4, .inl (cI, 20, .inl sh)), (b5, .inl (cZ, 20, .inl of))] H := hP
  have hD : va_D A [(b0, .inr (0, [.ref b1, .ref b2, .ref b3, .ref b4, .ref b5, .int (nI nb)])), (b1, .inl (cI, 60, .inl (upd (upd (upd lo (nb * 3) x0) (nb * 3 + 1) y0) (nb * 3 + 2) z0))), (b2, .inl (cI, 60, .inl (upd (upd (upd hi (nb * 3) x1) (nb * 3 + 1) y1) (nb * 3 + 2) z1))), (b3, .inl (cI, 20, .inl ki)), (b4, .inl (cI, 20, .inl sh)), (b5, .inl (cZ, 20, .inl of))] := hD
  refine lv_aload_n hx hb dX0_add_67 rfl (lv_at hl 1 rfl) ?_
  refine va_get (D := D) (ci := 0) (v := .ref b3) (C := RX0) (T := TX0) (N := 6) hx hb hg iX0 hown hK hP 0 rfl rfl 2 (by decide) (hg _ kw73) (fun _ h9 => h9) rfl dX0_add_68 ?_
  refine lv_aload_n hx hb dX0_add_71 rfl (lv_at hl 1 rfl) ?_
  refine va_get (D := D) (ci := 0) (v := .int (nI nb)) (C := RX0) (T := TX0) (N := 6) hx hb hg iX0 hown hK hP 0 rfl rfl 5 (by decide) (hg _ kw82) (fun _ h9 => h9) rfl dX0_add_72 ?_
  refine lv_iconst (v := 0) hx hb dX0_add_75 (by decide) ?_
  refine va_iast hx hb hK hP hD hS 3 0 rfl rfl (vp_in_nI (by omega) (by decide)) dX0_add_76 (fun H locs hP hD hS => ?_)
  rw [show (nI nb).toNatClampNeg = nb from nI_clamp (by omega)] at hP hD
  have hP : va_P D vwCl [(b0, .inr (0, [.ref b1, .ref b2, .ref b3, .ref b4, .ref b5, .int (nI nb)])), (b1, .inl (cI, 60, .inl (upd (upd (upd lo (nb * 3) x0) (nb * 3 + 1) y0) (nb * 3 + 2) z0))), (b2, .inl (cI, 60, .inl (upd (upd (upd hi (nb * 3) x1) (nb * 3 + 1) y1) (nb * 3 + 2) z1))), (b3, .inl (cI, 20, .inl (upd ki nb 0))), (b4, .inl (cI, 20, .inl sh)), (b5, .inl (cZ, 20, .inl of))] H := hP
  have hD : va_D A [(b0, .inr (0, [.ref b1, .ref b2, .ref b3, .ref b4, .ref b5, .int (nI nb)])), (b1, .inl (cI, 60, .inl (upd (upd (upd lo (nb * 3) x0) (nb * 3 + 1) y0) (nb * 3 + 2) z0))), (b2, .inl (cI, 60, .inl (upd (upd (upd hi (nb * 3) x1) (nb * 3 + 1) y1) (nb * 3 + 2) z1))), (b3, .inl (cI, 20, .inl (upd ki nb 0))), (b4, .inl (cI, 20, .inl sh)), (b5, .inl (cZ, 20, .inl of))] := hD
  refine lv_aload_n hx hb dX0_add_77 rfl (lv_at hl 1 rfl) ?_
  refine va_get (D := D) (ci := 0) (v := .ref b4) (C := RX0) (T := TX0) (N := 6) hx hb hg iX0 hown hK hP 0 rfl rfl 3 (by decide) (hg _ kw76) (fun _ h9 => h9) rfl dX0_add_78 ?_
  refine lv_aload_n hx hb dX0_add_81 rfl (lv_at hl 1 rfl) ?_
  refine va_get (D := D) (ci := 0) (v := .int (nI nb)) (C := RX0) (T := TX0) (N := 6) hx hb hg iX0 hown hK hP 0 rfl rfl 5 (by decide) (hg _ kw82) (fun _ h9 => h9) rfl dX0_add_82 ?_
  refine lv_sipush (v := 1000) hx hb dX0_add_85 (by decide) ?_
  refine va_iast hx hb hK hP hD hS 4 0 rfl rfl (vp_in_nI (by omega) (by decide)) dX0_add_88 (fun H locs hP hD hS => ?_)
  rw [show (nI nb).toNatClampNeg = nb from nI_clamp (by omega)] at hP hD
  have hP : va_P D vwCl [(b0, .inr (0, [.ref b1, .ref b2, .ref b3, .ref b4, .ref b5, .int (nI nb)])), (b1, .inl (cI, 60, .inl (upd (upd (upd lo (nb * 3) x0) (nb * 3 + 1) y0) (nb * 3 + 2) z0))), (b2, .inl (cI, 60, .inl (upd (upd (upd hi (nb * 3) x1) (nb * 3 + 1) y1) (nb * 3 + 2) z1))), (b3, .inl (cI, 20, .inl (upd ki nb 0))), (b4, .inl (cI, 20, .inl (upd sh nb 1000))), (b5, .inl (cZ, 20, .inl of))] H := hP
  have hD : va_D A [(b0, .inr (0, [.ref b1, .ref b2, .ref b3, .ref b4, .ref b5, .int (nI nb)])), (b1, .inl (cI, 60, .inl (upd (upd (upd lo (nb * 3) x0) (nb * 3 + 1) y0) (nb * 3 + 2) z0))), (b2, .inl (cI, 60, .inl (upd (upd (upd hi (nb * 3) x1) (nb * 3 + 1) y1) (nb * 3 + 2) z1))), (b3, .inl (cI, 20, .inl (upd ki nb 0))), (b4, .inl (cI, 20, .inl (upd sh nb 1000))), (b5, .inl (cZ, 20, .inl of))] := hD
  refine lv_aload_n hx hb dX0_add_89 rfl (lv_at hl 1 rfl) ?_
  refine va_get (D := D) (ci := 0) (v := .ref b5) (C := RX0) (T := TX0) (N := 6) hx hb hg iX0 hown hK hP 0 rfl rfl 4 (by decide) (hg _ kw79) (fun _ h9 => h9) rfl dX0_add_90 ?_
  refine lv_aload_n hx hb dX0_add_93 rfl (lv_at hl 1 rfl) ?_
  refine va_get (D := D) (ci := 0) (v := .int (nI nb)) (C := RX0) (T := TX0) (N := 6) hx hb hg iX0 hown hK hP 0 rfl rfl 5 (by decide) (hg _ kw82) (fun _ h9 => h9) rfl dX0_add_94 ?_
  refine lv_iconst (v := 0) hx hb dX0_add_97 (by decide) ?_
  refine va_zast hx hb hK hP hD hS 5 1 rfl rfl (vp_in_nI (by omega) (by decide)) dX0_add_98 (fun H locs hP hD hS => ?_)
  rw [show (nI nb).toNatClampNeg = nb from nI_clamp (by omega)] at hP hD
  rw [show vp_nar .boolean 0 = 0 from rfl] at hP hD
  have hP : va_P D vwCl [(b0, .inr (0, [.ref b1, .ref b2, .ref b3, .ref b4, .ref b5, .int (nI nb)])), (b1, .inl (cI, 60, .inl (upd (upd (upd lo (nb * 3) x0) (nb * 3 + 1) y0) (nb * 3 + 2) z0))), (b2, .inl (cI, 60, .inl (upd (upd (upd hi (nb * 3) x1) (nb * 3 + 1) y1) (nb * 3 + 2) z1))), (b3, .inl (cI, 20, .inl (upd ki nb 0))), (b4, .inl (cI, 20, .inl (upd sh nb 1000))), (b5, .inl (cZ, 20, .inl (upd of nb 0)))] H := hP
  have hD : va_D A [(b0, .inr (0, [.ref b1, .ref b2, .ref b3, .ref b4, .ref b5, .int (nI nb)])), (b1, .inl (cI, 60, .inl (upd (upd (upd lo (nb * 3) x0) (nb * 3 + 1) y0) (nb * 3 + 2) z0))), (b2, .inl (cI, 60, .inl (upd (upd (upd hi (nb * 3) x1) (nb * 3 + 1) y1) (nb * 3 + 2) z1))), (b3, .inl (cI, 20, .inl (upd ki nb 0))), (b4, .inl (cI, 20, .inl (upd sh nb 1000))), (b5, .inl (cZ, 20, .inl (upd of nb 0)))] := hD
  refine lv_aload_n hx hb dX0_add_99 rfl (lv_at hl 1 rfl) ?_
  refine lv_dup hx hb dX0_add_100 rfl ?_
  refine va_get (D := D) (ci := 0) (v := .int (nI nb)) (C := RX0) (T := TX0) (N := 6) hx hb hg iX0 hown hK hP 0 rfl rfl 5 (by decide) (hg _ kw82) (fun _ h9 => h9) rfl dX0_add_101 ?_
  refine lv_iconst (v := 1) hx hb dX0_add_104 (by decide) ?_
  refine lv_iadd hx hb dX0_add_105 ?_
  refine tp_i (y := nI (nb + 1)) (nI_1 nb) ?_
  refine va_put (D := D) (ci := 0) (v := .int (nI (nb + 1))) (ty := .int) (C := RX0) (T := TX0) (N := 6) hx hb hg iX0 tyX0 tyX0_ok nmX0 hown hK hP hD hS 0 rfl rfl 5 (by decide) (hg _ kw82) (fun _ h9 => h9) rfl (by decide +kernel) rfl rfl (Nat.le_of_ble_eq_true rfl) dX0_add_106 (fun H locs hP hD hS => ?_)
  have hP : va_P D vwCl [(b0, .inr (0, [.ref b1, .ref b2, .ref b3, .ref b4, .ref b5, .int (nI (nb + 1))])), (b1, .inl (cI, 60, .inl (upd (upd (upd lo (nb * 3) x0) (nb * 3 + 1) y0) (nb * 3 + 2) z0))), (b2, .inl (cI, 60, .inl (upd (upd (upd hi (nb * 3) x1) (nb * 3 + 1) y1) (nb * 3 + 2) z1))), (b3, .inl (cI, 20, .inl (upd ki nb 0))), (b4, .inl (cI, 20, .inl (upd sh nb 1000))), (b5, .inl (cZ, 20, .inl (upd of nb 0)))] H := hP
  have hD : va_D A [(b0, .inr (0, [.ref b1, .ref b2, .ref b3, .ref b4, .ref b5, .int (nI (nb + 1))])), (b1, .inl (cI, 60, .inl (upd (upd (upd lo (nb * 3) x0) (nb * 3 + 1) y0) (nb * 3 + 2) z0))), (b2, .inl (cI, 60, .inl (upd (upd (upd hi (nb * 3) x1) (nb * 3 + 1) y1) (nb * 3 + 2) z1))), (b3, .inl (cI, 20, .inl (upd ki nb 0))), (b4, .inl (cI, 20, .inl (upd sh nb 1000))), (b5, .inl (cZ, 20, .inl (upd of nb 0)))] := hD
  refine lv_aload_n hx hb dX0_add_109 rfl (lv_at hl 1 rfl) ?_
  refine va_get (D := D) (ci := 0) (v := .int (nI (nb + 1))) (C := RX0) (T := TX0) (N := 6) hx hb hg iX0 hown hK hP 0 rfl rfl 5 (by decide) (hg _ kw82) (fun _ h9 => h9) rfl dX0_add_110 ?_
  refine lv_iconst (v := 1) hx hb dX0_add_113 (by decide) ?_
  refine lv_isub hx hb dX0_add_114 ?_
  exact W.iret (v := (nI (nb + 1)) - 1) hx hb hr (fun t ht hW => ⟨⟨(nI (nb + 1)) - 1, (), rfl, nI_pred nb, bq_end hP hK hD ht hW⟩, hS.F ht⟩) hS.2.2 dX0_add_115
end
section
/-! Math, and what a path only asks -/
def absI (x : Int32) : Int32 := if 0 ≤ x then x else 0 - x
def maxI (x y : Int32) : Int32 := if x < y then y else x
def minI (x y : Int32) : Int32 := if y < x then y else x

/-- Euclid's steps -/
def gcdL : Nat → Int32 → Int32 → Int32
  | 0, a, _ => a
  | n + 1, a, b => if b = 0 then a else gcdL n b (a - a / b * b)

set_option maxHeartbeats 4000000 in
set_option maxRecDepth 100000 in
/-- LightRays.commonDivisor -/
theorem qX3_commonDivisor (l : Launch) (D : va_G) (cI cZ cJ : ClassId) (x y : Int32) : Met l yX3_commonDivisor (Cond.code yX3_commonDivisor cX3_commonDivisor 6 (some .int) :: gw) ({ frames := 1, cells := 0, slots := 0, locals := 20 }) (pq D [.int x, .int y] [] [(cI, .int), (cZ, .boolean), (cJ, .long)]) (QcRead (maxI 1 (gcdL 64 (absI x) (absI y)))) 0 0 (fun _ => False) := by
  refine Met.ofW (cc := cX3_commonDivisor) (maxL := 6) (ret := (some .int)) (by decide) rfl ?_
  intro p e s m args below meth c s₁ B hml hv
  obtain ⟨rfl, hP, hK, hZ⟩ := hv
  have hx := B.exec
  have hb := B.bytes
  have hr := B.returns
  have hg : ∀ w ∈ gw, w.before _ s = true := fun w h => atoms_spec (ws := Cond.code yX3_commonDivisor cX3_commonDivisor 6 (some .int) :: gw) B.pre w (List.mem_cons_of_mem _ h)
  have hown : s.vm.findClass RX3 = some m.cls := findClass_of_methodNamed B.named
  have hlocks := B.notSynchronized
  have hP : va_P D vwCl [] s.heap := hP
  have hl := lv_entry ([.int x, .int y]) (n := 6) (Nat.le_of_ble_eq_true rfl)
  rw [lg_entry_eq]
  generalize (lg_sl ([.int x, .int y]) ++ List.replicate (6 - (lg_sl ([.int x, .int y])).length) Slot.unset).toArray = ls at hl ⊢
  have hl : lv_has ls 6 [(0, .int x), (1, .int y)] := hl
  refine lv_iload_n hx hb dX3_commonDivisor_0 rfl (lv_at hl 0 rfl) ?_
  refine va_mabs hx hb (hml.trans hl.1.symm) hown (hg _ kw413) (hg _ kw377) (hg _ kw37) (hg _ kw378) (Nat.le_of_ble_eq_true rfl) (Nat.le_of_ble_eq_true rfl) (Nat.le_of_ble_eq_true rfl) (Nat.le_of_ble_eq_true rfl) dX3_commonDivisor_1 ?_
  refine tp_i (y := absI x) (rfl) ?_
  refine lv_istore_n (lv' := [(2, .int (absI x)), (0, .int x), (1, .int y)]) hx hb dX3_commonDivisor_4 rfl hl (by decide) rfl (fun ls hl => ?_)
  refine lv_iload_n hx hb dX3_commonDivisor_5 rfl (lv_at hl 2 rfl) ?_
  refine va_mabs hx hb (hml.trans hl.1.symm) hown (hg _ kw413) (hg _ kw377) (hg _ kw37) (hg _ kw378) (Nat.le_of_ble_eq_true rfl) (Nat.le_of_ble_eq_true rfl) (Nat.le_of_ble_eq_true rfl) (Nat.le_of_ble_eq_true rfl) dX3_commonDivisor_6 ?_
  refine tp_i (y := absI y) (rfl) ?_
  refine lv_istore_n (lv' := [(3, .int (absI y)), (2, .int (absI x)), (0, .int x), (1, .int y)]) hx hb dX3_commonDivisor_9 rfl hl (by decide) rfl (fun ls hl => ?_)
  refine lv_iconst (v := 0) hx hb dX3_commonDivisor_10 (by decide) ?_
  refine lv_istore (lv' := [(4, .int 0), (3, .int (absI y)), (2, .int (absI x)), (0, .int x), (1, .int y)]) hx hb dX3_commonDivisor_11 hl (by decide) rfl (fun ls hl => ?_)
  have loop_1 : ∀ (n : Nat) (i : Nat) (a b : Int32), i + n = 64 → ∀ ls : Array Slot, lv_has ls 6 [(2, .int a), (3, .int b), (4, .int (nI i))] → W p l e (headSpec (Cond.code yX3_commonDivisor cX3_commonDivisor 6 (some .int) :: gw) ({ frames := 1, cells := 0, slots := 0, locals := 20 })).room s m ([.int x, .int y] : List Value).toArray below meth c s.heap [] 0 0 (MQ below (QcRead (maxI 1 (gcdL n a b))) ([.int x, .int y] : List Value).toArray s 0 0 (fun _ => False)) (F0 m 13 ls []) := by
    intro n
    induction n with
    | zero =>
      intro i a b hlp ls hl
      refine lv_iload hx hb dX3_commonDivisor_13 (lv_at hl 2 rfl) ?_
      refine lv_bipush (v := 64) hx hb dX3_commonDivisor_15 (by decide) ?_
      refine lv_icmp_ge (tgt := 40) hx hb dX3_commonDivisor_17 (by decide) (fun _ => ?_) (fun c17 => absurd (nI_le (a := 64) (by omega) (by omega)) c17)
      refine lv_iconst (v := 1) hx hb dX3_commonDivisor_40 (by decide) ?_
      refine lv_iload_n hx hb dX3_commonDivisor_41 rfl (lv_at hl 0 rfl) ?_
      refine va_mmax hx hb (hml.trans hl.1.symm) hown (hg _ kw60) (hg _ kw61) (hg _ kw37) (hg _ kw62) (Nat.le_of_ble_eq_true rfl) (Nat.le_of_ble_eq_true rfl) (Nat.le_of_ble_eq_true rfl) (Nat.le_of_ble_eq_true rfl) dX3_commonDivisor_42 ?_
      refine tp_i (y := maxI 1 a) (rfl) ?_
      exact W.iret (v := maxI 1 a) hx hb hr (fun t ht hW => ⟨congrArg (fun z => Outcome.returned (some (Value.int z))) (rfl), ht⟩) (fun q hq => nomatch hq) dX3_commonDivisor_45
    | succ n ih =>
      intro i a b hlp ls hl
      refine lv_iload hx hb dX3_commonDivisor_13 (lv_at hl 2 rfl) ?_
      refine lv_bipush (v := 64) hx hb dX3_commonDivisor_15 (by decide) ?_
      refine lv_icmp_ge (tgt := 40) hx hb dX3_commonDivisor_17 (by decide) (fun c17 => absurd c17 (nI_ge (b := 64) (by omega) (by omega))) (fun _ => ?_)
      refine lv_iload_n hx hb dX3_commonDivisor_20 rfl (lv_at hl 1 rfl) ?_
      refine lv_if_eq (tgt := 40) hx hb dX3_commonDivisor_21 (by decide) (fun c21 => ?_) (fun c21 => ?_)
      · refine lv_iconst (v := 1) hx hb dX3_commonDivisor_40 (by decide) ?_
        refine lv_iload_n hx hb dX3_commonDivisor_41 rfl (lv_at hl 0 rfl) ?_
        refine va_mmax hx hb (hml.trans hl.1.symm) hown (hg _ kw60) (hg _ kw61) (hg _ kw37) (hg _ kw62) (Nat.le_of_ble_eq_true rfl) (Nat.le_of_ble_eq_true rfl) (Nat.le_of_ble_eq_true rfl) (Nat.le_of_ble_eq_true rfl) dX3_commonDivisor_42 ?_
        refine tp_i (y := maxI 1 a) (rfl) ?_
        exact W.iret (v := maxI 1 a) hx hb hr (fun t ht hW => ⟨congrArg (fun z => Outcome.returned (some (Value.int z))) (by simp [gcdL, c21]), ht⟩) (fun q hq => nomatch hq) dX3_commonDivisor_45
      · refine lv_iload_n hx hb dX3_commonDivisor_24 rfl (lv_at hl 0 rfl) ?_
        refine lv_iload_n hx hb dX3_commonDivisor_25 rfl (lv_at hl 1 rfl) ?_
        refine lv_irem hx hb dX3_commonDivisor_26 (c21) ?_
        refine lv_istore (lv' := [(5, .int (a - a / b * b)), (2, .int a), (3, .int b), (4, .int (nI i))]) hx hb dX3_commonDivisor_27 hl (by decide) rfl (fun ls hl => ?_)
        refine lv_iload_n hx hb dX3_commonDivisor_29 rfl (lv_at hl 2 rfl) ?_
        refine lv_istore_n (lv' := [(2, .int b), (5, .int (a - a / b * b)), (3, .int b), (4, .int (nI i))]) hx hb dX3_commonDivisor_30 rfl hl (by decide) rfl (fun ls hl => ?_)
        refine lv_iload hx hb dX3_commonDivisor_31 (lv_at hl 1 rfl) ?_
        refine lv_istore_n (lv' := [(3, .int (a - a / b * b)), (2, .int b), (5, .int (a - a / b * b)), (4, .int (nI i))]) hx hb dX3_commonDivisor_33 rfl hl (by decide) rfl (fun ls hl => ?_)
        refine lv_iinc (v := nI (i + 1)) (lv' := [(4, .int (nI (i + 1))), (3, .int (a - a / b * b)), (2, .int b), (5, .int (a - a / b * b))]) hx hb dX3_commonDivisor_34 hl (k := 3) rfl (nI_1 _) (by decide) rfl (fun ls hl => ?_)
        refine lv_goto (tgt := 13) hx hb dX3_commonDivisor_37 (by decide) ?_
        rw [show gcdL (n + 1) a b = gcdL n b (a - a / b * b) from by simp [gcdL, c21]]
        exact ih (i + 1) b (a - a / b * b) (by omega) ls (lv_sub hl [2, 1, 0] rfl)
  exact loop_1 64 0 (absI x) (absI y) (by omega) ls (lv_sub hl [2, 1, 0] rfl)
end
section
set_option maxHeartbeats 4000000 in
set_option maxRecDepth 100000 in
/-- Path.hasHit -/
theorem qX2_hasHit (l : Launch) (D : va_G) (cI cZ cJ : ClassId) (a0 a1 a2 a3 a4 a5 a6 a7 a8 a9 a10 a11 : Nat) (b0 b1 b2 b3 b4 b5 : Nat) (og di ar ho hx9 ha hl9 hs : Nat → Int32) (lb la lv lw nb9 na nv nw tb ta tv tw : Int32) (nh0 li : Int32) (lo hi ki sh of : Nat → Int32) (cn : Int32) (k : Int32) : Met l yX2_hasHit (Cond.code yX2_hasHit cX2_hasHit 2 (some .boolean) :: gw) ({ frames := 0, cells := 0, slots := 0, locals := 0 }) (pq D [.ref a0, .int k] [(a0, .inr (2, [.ref a1, .ref a2, .ref a3, .ref a4, .ref a5, .ref a6, .ref a7, .ref a8, .ref a9, .ref a10, .ref a11, .int nh0, .int li])), (a1, .inl (cI, 3, .inl og)), (a2, .inl (cI, 3, .inl di)), (a3, .inl (cI, 3, .inl ar)), (a4, .inl (cI, 30, .inl ho)), (a5, .inl (cI, 30, .inl hx9)), (a6, .inl (cI, 30, .inl ha)), (a7, .inl (cI, 30, .inl hl9)), (a8, .inl (cI, 90, .inl hs)), (a9, .inr (1, [.int lb, .int la, .int lv, .int lw])), (a10, .inr (1, [.int nb9, .int na, .int nv, .int nw])), (a11, .inr (1, [.int tb, .int ta, .int tv, .int tw])), (b0, .inr (0, [.ref b1, .ref b2, .ref b3, .ref b4, .ref b5, .int cn])), (b1, .inl (cI, 60, .inl lo)), (b2, .inl (cI, 60, .inl hi)), (b3, .inl (cI, 20, .inl ki)), (b4, .inl (cI, 20, .inl sh)), (b5, .inl (cZ, 20, .inl of))] [(cI, .int), (cZ, .boolean), (cJ, .long)]) (QcRead (bI (decide (0 ≤ k) && decide (k < nh0)))) 0 0 (fun _ => False) := by
  refine Met.ofW (cc := cX2_hasHit) (maxL := 2) (ret := (some .boolean)) (by decide) rfl ?_
  intro p e s m args below meth c s₁ B hml hv
  obtain ⟨rfl, hP, hK, hZ⟩ := hv
  have hx := B.exec
  have hb := B.bytes
  have hr := B.returns
  have hg : ∀ w ∈ gw, w.before _ s = true := fun w h => atoms_spec (ws := Cond.code yX2_hasHit cX2_hasHit 2 (some .boolean) :: gw) B.pre w (List.mem_cons_of_mem _ h)
  have hown : s.vm.findClass RX2 = some m.cls := findClass_of_methodNamed B.named
  have hlocks := B.notSynchronized
  have hP : va_P D vwCl [(a0, .inr (2, [.ref a1, .ref a2, .ref a3, .ref a4, .ref a5, .ref a6, .ref a7, .ref a8, .ref a9, .ref a10, .ref a11, .int nh0, .int li])), (a1, .inl (cI, 3, .inl og)), (a2, .inl (cI, 3, .inl di)), (a3, .inl (cI, 3, .inl ar)), (a4, .inl (cI, 30, .inl ho)), (a5, .inl (cI, 30, .inl hx9)), (a6, .inl (cI, 30, .inl ha)), (a7, .inl (cI, 30, .inl hl9)), (a8, .inl (cI, 90, .inl hs)), (a9, .inr (1, [.int lb, .int la, .int lv, .int lw])), (a10, .inr (1, [.int nb9, .int na, .int nv, .int nw])), (a11, .inr (1, [.int tb, .int ta, .int tv, .int tw])), (b0, .inr (0, [.ref b1, .ref b2, .ref b3, .ref b4, .ref b5, .int cn])), (b1, .inl (cI, 60, .inl lo)), (b2, .inl (cI, 60, .inl hi)), (b3, .inl (cI, 20, .inl ki)), (b4, .inl (cI, 20, .inl sh)), (b5, .inl (cZ, 20, .inl of))] s.heap := hP
  have hl := lv_entry ([.ref a0, .int k]) (n := 2) (Nat.le_of_ble_eq_true rfl)
  rw [lg_entry_eq]
  generalize (lg_sl ([.ref a0, .int k]) ++ List.replicate (2 - (lg_sl ([.ref a0, .int k])).length) Slot.unset).toArray = ls at hl ⊢
  have hl : lv_has ls 2 [(0, .ref a0), (1, .int k)] := hl
  refine lv_iconst (v := 0) hx hb dX2_hasHit_0 (by decide) ?_
  refine lv_iload_n hx hb dX2_hasHit_1 rfl (lv_at hl 1 rfl) ?_
  refine lv_icmp_gt (tgt := 17) hx hb dX2_hasHit_2 (by decide) (fun c2 => ?_) (fun c2 => ?_)
  · have c2n := Int32.not_le.mpr c2
    refine lv_iconst (v := 0) hx hb dX2_hasHit_17 (by decide) ?_
    exact W.zret (v := 0) hx hb hr (by decide) (fun t ht hW => ⟨congrArg (fun z => Outcome.returned (some (Value.int z))) (by simp [bI, c2, c2n]), ht⟩) (fun q hq => nomatch hq) dX2_hasHit_18
  · have c2n := Int32.not_lt.mp c2
    refine lv_iload_n hx hb dX2_hasHit_5 rfl (lv_at hl 1 rfl) ?_
    refine lv_aload_n hx hb dX2_hasHit_6 rfl (lv_at hl 0 rfl) ?_
    refine va_get (D := D) (ci := 2) (v := .int nh0) (C := RX2) (T := TX2) (N := 13) hx hb hg iX2 hown hK hP 0 rfl rfl 11 (by decide) (hg _ kw146) (fun _ h9 => h9) rfl dX2_hasHit_7 ?_
    refine lv_icmp_ge (tgt := 17) hx hb dX2_hasHit_10 (by decide) (fun c10 => ?_) (fun c10 => ?_)
    · have c10n := Int32.not_lt.mpr c10
      refine lv_iconst (v := 0) hx hb dX2_hasHit_17 (by decide) ?_
      exact W.zret (v := 0) hx hb hr (by decide) (fun t ht hW => ⟨congrArg (fun z => Outcome.returned (some (Value.int z))) (by simp [bI, c2, c2n, c10, c10n]), ht⟩) (fun q hq => nomatch hq) dX2_hasHit_18
    · have c10n := Int32.not_le.mp c10
      refine lv_iconst (v := 1) hx hb dX2_hasHit_13 (by decide) ?_
      refine lv_goto (tgt := 18) hx hb dX2_hasHit_14 (by decide) ?_
      exact W.zret (v := 1) hx hb hr (by decide) (fun t ht hW => ⟨congrArg (fun z => Outcome.returned (some (Value.int z))) (by simp [bI, c2, c2n, c10, c10n]), ht⟩) (fun q hq => nomatch hq) dX2_hasHit_18

def octF (di : Nat → Int32) : Int32 := ((if di 0 < 0 then 4 else 0) + (if di 1 < 0 then 2 else 0)) + (if di 2 < 0 then 1 else 0)

set_option maxHeartbeats 4000000 in
set_option maxRecDepth 100000 in
/-- Path.octant -/
theorem qX2_octant (l : Launch) (D : va_G) (cI cZ cJ : ClassId) (a0 a1 a2 a3 a4 a5 a6 a7 a8 a9 a10 a11 : Nat) (b0 b1 b2 b3 b4 b5 : Nat) (og di ar ho hx9 ha hl9 hs : Nat → Int32) (lb la lv lw nb9 na nv nw tb ta tv tw : Int32) (nh0 li : Int32) (lo hi ki sh of : Nat → Int32) (cn : Int32) : Met l yX2_octant (Cond.code yX2_octant cX2_octant 1 (some .int) :: gw) ({ frames := 0, cells := 0, slots := 0, locals := 0 }) (pq D [.ref a0] [(a0, .inr (2, [.ref a1, .ref a2, .ref a3, .ref a4, .ref a5, .ref a6, .ref a7, .ref a8, .ref a9, .ref a10, .ref a11, .int nh0, .int li])), (a1, .inl (cI, 3, .inl og)), (a2, .inl (cI, 3, .inl di)), (a3, .inl (cI, 3, .inl ar)), (a4, .inl (cI, 30, .inl ho)), (a5, .inl (cI, 30, .inl hx9)), (a6, .inl (cI, 30, .inl ha)), (a7, .inl (cI, 30, .inl hl9)), (a8, .inl (cI, 90, .inl hs)), (a9, .inr (1, [.int lb, .int la, .int lv, .int lw])), (a10, .inr (1, [.int nb9, .int na, .int nv, .int nw])), (a11, .inr (1, [.int tb, .int ta, .int tv, .int tw])), (b0, .inr (0, [.ref b1, .ref b2, .ref b3, .ref b4, .ref b5, .int cn])), (b1, .inl (cI, 60, .inl lo)), (b2, .inl (cI, 60, .inl hi)), (b3, .inl (cI, 20, .inl ki)), (b4, .inl (cI, 20, .inl sh)), (b5, .inl (cZ, 20, .inl of))] [(cI, .int), (cZ, .boolean), (cJ, .long)]) (QcRead (octF di)) 0 0 (fun _ => False) := by
  refine Met.ofW (cc := cX2_octant) (maxL := 1) (ret := (some .int)) (by decide) rfl ?_
  intro p e s m args below meth c s₁ B hml hv
  obtain ⟨rfl, hP, hK, hZ⟩ := hv
  have hx := B.exec
  have hb := B.bytes
  have hr := B.returns
  have hg : ∀ w ∈ gw, w.before _ s = true := fun w h => atoms_spec (ws := Cond.code yX2_octant cX2_octant 1 (some .int) :: gw) B.pre w (List.mem_cons_of_mem _ h)
  have hown : s.vm.findClass RX2 = some m.cls := findClass_of_methodNamed B.named
  have hlocks := B.notSynchronized
  have hP : va_P D vwCl [(a0, .inr (2, [.ref a1, .ref a2, .ref a3, .ref a4, .ref a5, .ref a6, .ref a7, .ref a8, .ref a9, .ref a10, .ref a11, .int nh0, .int li])), (a1, .inl (cI, 3, .inl og)), (a2, .inl (cI, 3, .inl di)), (a3, .inl (cI, 3, .inl ar)), (a4, .inl (cI, 30, .inl ho)), (a5, .inl (cI, 30, .inl hx9)), (a6, .inl (cI, 30, .inl ha)), (a7, .inl (cI, 30, .inl hl9)), (a8, .inl (cI, 90, .inl hs)), (a9, .inr (1, [.int lb, .int la, .int lv, .int lw])), (a10, .inr (1, [.int nb9, .int na, .int nv, .int nw])), (a11, .inr (1, [.int tb, .int ta, .int tv, .int tw])), (b0, .inr (0, [.ref b1, .ref b2, .ref b3, .ref b4, .ref b5, .int cn])), (b1, .inl (cI, 60, .inl lo)), (b2, .inl (cI, 60, .inl hi)), (b3, .inl (cI, 20, .inl ki)), (b4, .inl (cI, 20, .inl sh)), (b5, .inl (cZ, 20, .inl of))] s.heap := hP
  have hl := lv_entry ([.ref a0]) (n := 1) (Nat.le_of_ble_eq_true rfl)
  rw [lg_entry_eq]
  generalize (lg_sl ([.ref a0]) ++ List.replicate (1 - (lg_sl ([.ref a0])).length) Slot.unset).toArray = ls at hl ⊢
  have hl : lv_has ls 1 [(0, .ref a0)] := hl
  have J_2 : W p l e (headSpec (Cond.code yX2_octant cX2_octant 1 (some .int) :: gw) ({ frames := 0, cells := 0, slots := 0, locals := 0 })).room s m ([.ref a0] : List Value).toArray below meth c s.heap [] 0 0 (MQ below (QcRead (octF di)) ([.ref a0] : List Value).toArray s 0 0 (fun _ => False)) (F0 m 14 ls [.int (if di 0 < 0 then ((4 : Int32)) else 0)]) := by
    have J_3 : W p l e (headSpec (Cond.code yX2_octant cX2_octant 1 (some .int) :: gw) ({ frames := 0, cells := 0, slots := 0, locals := 0 })).room s m ([.ref a0] : List Value).toArray below meth c s.heap [] 0 0 (MQ below (QcRead (octF di)) ([.ref a0] : List Value).toArray s 0 0 (fun _ => False)) (F0 m 28 ls [.int (if di 1 < 0 then ((2 : Int32)) else 0), .int (if di 0 < 0 then ((4 : Int32)) else 0)]) := by
      refine lv_iadd hx hb dX2_octant_28 ?_
      have J_4 : W p l e (headSpec (Cond.code yX2_octant cX2_octant 1 (some .int) :: gw) ({ frames := 0, cells := 0, slots := 0, locals := 0 })).room s m ([.ref a0] : List Value).toArray below meth c s.heap [] 0 0 (MQ below (QcRead (octF di)) ([.ref a0] : List Value).toArray s 0 0 (fun _ => False)) (F0 m 43 ls [.int (if di 2 < 0 then ((1 : Int32)) else 0), .int ((if di 0 < 0 then ((4 : Int32)) else 0) + (if di 1 < 0 then ((2 : Int32)) else 0))]) := by
        refine lv_iadd hx hb dX2_octant_43 ?_
        exact W.iret (v := ((if di 0 < 0 then ((4 : Int32)) else 0) + (if di 1 < 0 then ((2 : Int32)) else 0)) + (if di 2 < 0 then ((1 : Int32)) else 0)) hx hb hr (fun t ht hW => ⟨congrArg (fun z => Outcome.returned (some (Value.int z))) (rfl), ht⟩) (fun q hq => nomatch hq) dX2_octant_44
      refine lv_aload_n hx hb dX2_octant_29 rfl (lv_at hl 0 rfl) ?_
      refine va_get (D := D) (ci := 2) (v := .ref a2) (C := RX2) (T := TX2) (N := 13) hx hb hg iX2 hown hK hP 0 rfl rfl 1 (by decide) (hg _ kw130) (fun _ h9 => h9) rfl dX2_octant_30 ?_
      refine lv_iconst (v := 2) hx hb dX2_octant_33 (by decide) ?_
      refine va_iald hx hb hK hP 2 0 rfl rfl (vp_in_nI (n := 2) (by decide) (by decide)) dX2_octant_34 ?_
      refine tp_i (y := di 2) (congrArg di (rfl)) ?_
      refine lv_if_ge (tgt := 42) hx hb dX2_octant_35 (by decide) (fun c35 => ?_) (fun c35 => ?_)
      · have c35n := Int32.not_lt.mpr c35
        refine lv_iconst (v := 0) hx hb dX2_octant_42 (by decide) ?_
        refine tp_i (y := if di 2 < 0 then ((1 : Int32)) else 0) (by simp [c35, c35n]) ?_
        exact J_4
      · have c35n := Int32.not_le.mp c35
        refine lv_iconst (v := 1) hx hb dX2_octant_38 (by decide) ?_
        refine lv_goto (tgt := 43) hx hb dX2_octant_39 (by decide) ?_
        refine tp_i (y := if di 2 < 0 then ((1 : Int32)) else 0) (by simp [c35, c35n]) ?_
        exact J_4
    refine lv_aload_n hx hb dX2_octant_14 rfl (lv_at hl 0 rfl) ?_
    refine va_get (D := D) (ci := 2) (v := .ref a2) (C := RX2) (T := TX2) (N := 13) hx hb hg iX2 hown hK hP 0 rfl rfl 1 (by decide) (hg _ kw130) (fun _ h9 => h9) rfl dX2_octant_15 ?_
    refine lv_iconst (v := 1) hx hb dX2_octant_18 (by decide) ?_
    refine va_iald hx hb hK hP 2 0 rfl rfl (vp_in_nI (n := 1) (by decide) (by decide)) dX2_octant_19 ?_
    refine tp_i (y := di 1) (congrArg di (rfl)) ?_
    refine lv_if_ge (tgt := 27) hx hb dX2_octant_20 (by decide) (fun c20 => ?_) (fun c20 => ?_)
    · have c20n := Int32.not_lt.mpr c20
      refine lv_iconst (v := 0) hx hb dX2_octant_27 (by decide) ?_
      refine tp_i (y := if di 1 < 0 then ((2 : Int32)) else 0) (by simp [c20, c20n]) ?_
      exact J_3
    · have c20n := Int32.not_le.mp c20
      refine lv_iconst (v := 2) hx hb dX2_octant_23 (by decide) ?_
      refine lv_goto (tgt := 28) hx hb dX2_octant_24 (by decide) ?_
      refine tp_i (y := if di 1 < 0 then ((2 : Int32)) else 0) (by simp [c20, c20n]) ?_
      exact J_3
  refine lv_aload_n hx hb dX2_octant_0 rfl (lv_at hl 0 rfl) ?_
  refine va_get (D := D) (ci := 2) (v := .ref a2) (C := RX2) (T := TX2) (N := 13) hx hb hg iX2 hown hK hP 0 rfl rfl 1 (by decide) (hg _ kw130) (fun _ h9 => h9) rfl dX2_octant_1 ?_
  refine lv_iconst (v := 0) hx hb dX2_octant_4 (by decide) ?_
  refine va_iald hx hb hK hP 2 0 rfl rfl (vp_in_nI (n := 0) (by decide) (by decide)) dX2_octant_5 ?_
  refine tp_i (y := di 0) (congrArg di (rfl)) ?_
  refine lv_if_ge (tgt := 13) hx hb dX2_octant_6 (by decide) (fun c6 => ?_) (fun c6 => ?_)
  · have c6n := Int32.not_lt.mpr c6
    refine lv_iconst (v := 0) hx hb dX2_octant_13 (by decide) ?_
    refine tp_i (y := if di 0 < 0 then ((4 : Int32)) else 0) (by simp [c6, c6n]) ?_
    exact J_2
  · have c6n := Int32.not_le.mp c6
    refine lv_iconst (v := 4) hx hb dX2_octant_9 (by decide) ?_
    refine lv_goto (tgt := 14) hx hb dX2_octant_10 (by decide) ?_
    refine tp_i (y := if di 0 < 0 then ((4 : Int32)) else 0) (by simp [c6, c6n]) ?_
    exact J_2

set_option maxHeartbeats 4000000 in
set_option maxRecDepth 100000 in
/-- Path.spotAtLatest -/
theorem qX2_spotAtLatest (l : Launch) (D : va_G) (cI cZ cJ : ClassId) (a0 a1 a2 a3 a4 a5 a6 a7 a8 a9 a10 a11 : Nat) (b0 b1 b2 b3 b4 b5 : Nat) (og di ar ho hx9 ha hl9 hs : Nat → Int32) (lb la lv lw nb9 na nv nw tb ta tv tw : Int32) (nh0 li : Int32) (lo hi ki sh of : Nat → Int32) (cn : Int32) (k : Nat) (hk : k < 3) : Met l yX2_spotAtLatest (Cond.code yX2_spotAtLatest cX2_spotAtLatest 2 (some .int) :: gw) ({ frames := 0, cells := 0, slots := 0, locals := 0 }) (pq D [.ref a0, .int (nI k)] [(a0, .inr (2, [.ref a1, .ref a2, .ref a3, .ref a4, .ref a5, .ref a6, .ref a7, .ref a8, .ref a9, .ref a10, .ref a11, .int nh0, .int li])), (a1, .inl (cI, 3, .inl og)), (a2, .inl (cI, 3, .inl di)), (a3, .inl (cI, 3, .inl ar)), (a4, .inl (cI, 30, .inl ho)), (a5, .inl (cI, 30, .inl hx9)), (a6, .inl (cI, 30, .inl ha)), (a7, .inl (cI, 30, .inl hl9)), (a8, .inl (cI, 90, .inl hs)), (a9, .inr (1, [.int lb, .int la, .int lv, .int lw])), (a10, .inr (1, [.int nb9, .int na, .int nv, .int nw])), (a11, .inr (1, [.int tb, .int ta, .int tv, .int tw])), (b0, .inr (0, [.ref b1, .ref b2, .ref b3, .ref b4, .ref b5, .int cn])), (b1, .inl (cI, 60, .inl lo)), (b2, .inl (cI, 60, .inl hi)), (b3, .inl (cI, 20, .inl ki)), (b4, .inl (cI, 20, .inl sh)), (b5, .inl (cZ, 20, .inl of))] [(cI, .int), (cZ, .boolean), (cJ, .long)]) (QcRead (og k * lw + di k * lv)) 0 0 (fun _ => False) := by
  refine Met.ofW (cc := cX2_spotAtLatest) (maxL := 2) (ret := (some .int)) (by decide) rfl ?_
  intro p e s m args below meth c s₁ B hml hv
  obtain ⟨rfl, hP, hK, hZ⟩ := hv
  have hx := B.exec
  have hb := B.bytes
  have hr := B.returns
  have hg : ∀ w ∈ gw, w.before _ s = true := fun w h => atoms_spec (ws := Cond.code yX2_spotAtLatest cX2_spotAtLatest 2 (some .int) :: gw) B.pre w (List.mem_cons_of_mem _ h)
  have hown : s.vm.findClass RX2 = some m.cls := findClass_of_methodNamed B.named
  have hlocks := B.notSynchronized
  have hP : va_P D vwCl [(a0, .inr (2, [.ref a1, .ref a2, .ref a3, .ref a4, .ref a5, .ref a6, .ref a7, .ref a8, .ref a9, .ref a10, .ref a11, .int nh0, .int li])), (a1, .inl (cI, 3, .inl og)), (a2, .inl (cI, 3, .inl di)), (a3, .inl (cI, 3, .inl ar)), (a4, .inl (cI, 30, .inl ho)), (a5, .inl (cI, 30, .inl hx9)), (a6, .inl (cI, 30, .inl ha)), (a7, .inl (cI, 30, .inl hl9)), (a8, .inl (cI, 90, .inl hs)), (a9, .inr (1, [.int lb, .int la, .int lv, .int lw])), (a10, .inr (1, [.int nb9, .int na, .int nv, .int nw])), (a11, .inr (1, [.int tb, .int ta, .int tv, .int tw])), (b0, .inr (0, [.ref b1, .ref b2, .ref b3, .ref b4, .ref b5, .int cn])), (b1, .inl (cI, 60, .inl lo)), (b2, .inl (cI, 60, .inl hi)), (b3, .inl (cI, 20, .inl ki)), (b4, .inl (cI, 20, .inl sh)), (b5, .inl (cZ, 20, .inl of))] s.heap := hP
  have hl := lv_entry ([.ref a0, .int (nI k)]) (n := 2) (Nat.le_of_ble_eq_true rfl)
  rw [lg_entry_eq]
  generalize (lg_sl ([.ref a0, .int (nI k)]) ++ List.replicate (2 - (lg_sl ([.ref a0, .int (nI k)])).length) Slot.unset).toArray = ls at hl ⊢
  have hl : lv_has ls 2 [(0, .ref a0), (1, .int (nI k))] := hl
  refine lv_aload_n hx hb dX2_spotAtLatest_0 rfl (lv_at hl 0 rfl) ?_
  refine va_get (D := D) (ci := 2) (v := .ref a1) (C := RX2) (T := TX2) (N := 13) hx hb hg iX2 hown hK hP 0 rfl rfl 0 (by decide) (hg _ kw129) (fun _ h9 => h9) rfl dX2_spotAtLatest_1 ?_
  refine lv_iload_n hx hb dX2_spotAtLatest_4 rfl (lv_at hl 1 rfl) ?_
  refine va_iald hx hb hK hP 1 0 rfl rfl (vp_in_nI (by omega) (by decide)) dX2_spotAtLatest_5 ?_
  refine tp_i (y := og k) (congrArg og (nI_clamp (by omega))) ?_
  refine lv_aload_n hx hb dX2_spotAtLatest_6 rfl (lv_at hl 0 rfl) ?_
  refine va_get (D := D) (ci := 2) (v := .ref a9) (C := RX2) (T := TX2) (N := 13) hx hb hg iX2 hown hK hP 0 rfl rfl 8 (by decide) (hg _ kw143) (fun _ h9 => h9) rfl dX2_spotAtLatest_7 ?_
  refine va_getN (D := D) (ci := 1) (v := .int lw) (C := RX1) (T := TX1) (N := 4) hx hb hg iX1 hown hK hP 9 rfl rfl 3 (by decide) (va_Nw.use rfl (nzF_13 hZ)) (fun _ h9 => h9) rfl dX2_spotAtLatest_10 ?_
  refine lv_imul hx hb dX2_spotAtLatest_13 ?_
  refine lv_aload_n hx hb dX2_spotAtLatest_14 rfl (lv_at hl 0 rfl) ?_
  refine va_get (D := D) (ci := 2) (v := .ref a2) (C := RX2) (T := TX2) (N := 13) hx hb hg iX2 hown hK hP 0 rfl rfl 1 (by decide) (hg _ kw130) (fun _ h9 => h9) rfl dX2_spotAtLatest_15 ?_
  refine lv_iload_n hx hb dX2_spotAtLatest_18 rfl (lv_at hl 1 rfl) ?_
  refine va_iald hx hb hK hP 2 0 rfl rfl (vp_in_nI (by omega) (by decide)) dX2_spotAtLatest_19 ?_
  refine tp_i (y := di k) (congrArg di (nI_clamp (by omega))) ?_
  refine lv_aload_n hx hb dX2_spotAtLatest_20 rfl (lv_at hl 0 rfl) ?_
  refine va_get (D := D) (ci := 2) (v := .ref a9) (C := RX2) (T := TX2) (N := 13) hx hb hg iX2 hown hK hP 0 rfl rfl 8 (by decide) (hg _ kw143) (fun _ h9 => h9) rfl dX2_spotAtLatest_21 ?_
  refine va_getN (D := D) (ci := 1) (v := .int lv) (C := RX1) (T := TX1) (N := 4) hx hb hg iX1 hown hK hP 9 rfl rfl 2 (by decide) (va_Nw.use rfl (nzF_12 hZ)) (fun _ h9 => h9) rfl dX2_spotAtLatest_24 ?_
  refine lv_imul hx hb dX2_spotAtLatest_27 ?_
  refine lv_iadd hx hb dX2_spotAtLatest_28 ?_
  exact W.iret (v := ((og k) * lw) + ((di k) * lv)) hx hb hr (fun t ht hW => ⟨congrArg (fun z => Outcome.returned (some (Value.int z))) (rfl), ht⟩) (fun q hq => nomatch hq) dX2_spotAtLatest_29
end
section
def geB (sp lo a : Int32) : Bool := decide (lo < sp) || (decide (sp = lo) && decide (a < 0))
def leB (sp hi a : Int32) : Bool := decide (sp < hi) || (decide (sp = hi) && decide (0 < a))
def cameK (lo hi og di ar : Nat → Int32) (lv lw : Int32) (k j : Nat) : Bool := geB (og k * lw + di k * lv) (lo j * lw) (ar k) && leB (og k * lw + di k * lv) (hi j * lw) (ar k)
/-- it was in the inside of the box i just before the latest hit's time -/
def cameB (lo hi og di ar : Nat → Int32) (lv lw : Int32) (i : Nat) : Bool := !decide (lv = 0) && (cameK lo hi og di ar lv lw 0 (i * 3) && (cameK lo hi og di ar lv lw 1 (i * 3 + 1) && cameK lo hi og di ar lv lw 2 (i * 3 + 2)))
def countsB (lo hi og di ar : Nat → Int32) (lb lv lw tv tw : Int32) (i : Nat) : Bool := if cmpI (tv * lw) (lv * tw) = 0 then (decide (lb < nI i) && !cameB lo hi og di ar lv lw i) else decide (0 < cmpI (tv * lw) (lv * tw))

set_option maxHeartbeats 4000000 in
set_option maxRecDepth 100000 in
/-- Path.cameInside -/
theorem qX2_cameInside (l : Launch) (D : va_G) (cI cZ cJ : ClassId) (a0 a1 a2 a3 a4 a5 a6 a7 a8 a9 a10 a11 : Nat) (b0 b1 b2 b3 b4 b5 : Nat) (og di ar ho hx9 ha hl9 hs : Nat → Int32) (lb la lv lw nb9 na nv nw tb ta tv tw : Int32) (nh0 li : Int32) (lo hi ki sh of : Nat → Int32) (cn : Int32) (i : Nat) (hi2 : i < 20) : Met l yX2_cameInside (Cond.code yX2_cameInside cX2_cameInside 9 (some .boolean) :: gw) ({ frames := 1, cells := 0, slots := 0, locals := 21 }) (pq D [.ref a0, .ref b0, .int (nI i)] [(a0, .inr (2, [.ref a1, .ref a2, .ref a3, .ref a4, .ref a5, .ref a6, .ref a7, .ref a8, .ref a9, .ref a10, .ref a11, .int nh0, .int li])), (a1, .inl (cI, 3, .inl og)), (a2, .inl (cI, 3, .inl di)), (a3, .inl (cI, 3, .inl ar)), (a4, .inl (cI, 30, .inl ho)), (a5, .inl (cI, 30, .inl hx9)), (a6, .inl (cI, 30, .inl ha)), (a7, .inl (cI, 30, .inl hl9)), (a8, .inl (cI, 90, .inl hs)), (a9, .inr (1, [.int lb, .int la, .int lv, .int lw])), (a10, .inr (1, [.int nb9, .int na, .int nv, .int nw])), (a11, .inr (1, [.int tb, .int ta, .int tv, .int tw])), (b0, .inr (0, [.ref b1, .ref b2, .ref b3, .ref b4, .ref b5, .int cn])), (b1, .inl (cI, 60, .inl lo)), (b2, .inl (cI, 60, .inl hi)), (b3, .inl (cI, 20, .inl ki)), (b4, .inl (cI, 20, .inl sh)), (b5, .inl (cZ, 20, .inl of))] [(cI, .int), (cZ, .boolean), (cJ, .long)]) (QcRead (bI (cameB lo hi og di ar lv lw i))) 0 0 (fun _ => False) := by
  refine Met.ofW (cc := cX2_cameInside) (maxL := 9) (ret := (some .boolean)) (by decide) rfl ?_
  intro p e s m args below meth c s₁ B hml hv
  obtain ⟨rfl, hP, hK, hZ⟩ := hv
  have hx := B.exec
  have hb := B.bytes
  have hr := B.returns
  have hg : ∀ w ∈ gw, w.before _ s = true := fun w h => atoms_spec (ws := Cond.code yX2_cameInside cX2_cameInside 9 (some .boolean) :: gw) B.pre w (List.mem_cons_of_mem _ h)
  have hown : s.vm.findClass RX2 = some m.cls := findClass_of_methodNamed B.named
  have hlocks := B.notSynchronized
  have hP : va_P D vwCl [(a0, .inr (2, [.ref a1, .ref a2, .ref a3, .ref a4, .ref a5, .ref a6, .ref a7, .ref a8, .ref a9, .ref a10, .ref a11, .int nh0, .int li])), (a1, .inl (cI, 3, .inl og)), (a2, .inl (cI, 3, .inl di)), (a3, .inl (cI, 3, .inl ar)), (a4, .inl (cI, 30, .inl ho)), (a5, .inl (cI, 30, .inl hx9)), (a6, .inl (cI, 30, .inl ha)), (a7, .inl (cI, 30, .inl hl9)), (a8, .inl (cI, 90, .inl hs)), (a9, .inr (1, [.int lb, .int la, .int lv, .int lw])), (a10, .inr (1, [.int nb9, .int na, .int nv, .int nw])), (a11, .inr (1, [.int tb, .int ta, .int tv, .int tw])), (b0, .inr (0, [.ref b1, .ref b2, .ref b3, .ref b4, .ref b5, .int cn])), (b1, .inl (cI, 60, .inl lo)), (b2, .inl (cI, 60, .inl hi)), (b3, .inl (cI, 20, .inl ki)), (b4, .inl (cI, 20, .inl sh)), (b5, .inl (cZ, 20, .inl of))] s.heap := hP
  have hl := lv_entry ([.ref a0, .ref b0, .int (nI i)]) (n := 9) (Nat.le_of_ble_eq_true rfl)
  rw [lg_entry_eq]
  generalize (lg_sl ([.ref a0, .ref b0, .int (nI i)]) ++ List.replicate (9 - (lg_sl ([.ref a0, .ref b0, .int (nI i)])).length) Slot.unset).toArray = ls at hl ⊢
  have hl : lv_has ls 9 [(0, .ref a0), (1, .ref b0), (2, .int (nI i))] := hl
  refine lv_aload_n hx hb dX2_cameInside_0 rfl (lv_at hl 0 rfl) ?_
  refine va_get (D := D) (ci := 2) (v := .ref a9) (C := RX2) (T := TX2) (N := 13) hx hb hg iX2 hown hK hP 0 rfl rfl 8 (by decide) (hg _ kw143) (fun _ h9 => h9) rfl dX2_cameInside_1 ?_
  refine va_getN (D := D) (ci := 1) (v := .int lv) (C := RX1) (T := TX1) (N := 4) hx hb hg iX1 hown hK hP 9 rfl rfl 2 (by decide) (va_Nw.use rfl (nzF_12 hZ)) (fun _ h9 => h9) rfl dX2_cameInside_4 ?_
  refine lv_if_ne (tgt := 12) hx hb dX2_cameInside_7 (by decide) (fun c7 => ?_) (fun c7 => ?_)
  · refine lv_iconst (v := 0) hx hb dX2_cameInside_12 (by decide) ?_
    refine lv_istore_n (lv' := [(3, .int 0), (0, .ref a0), (1, .ref b0), (2, .int (nI i))]) hx hb dX2_cameInside_13 rfl hl (by decide) rfl (fun ls hl => ?_)
    refine lv_iload_n hx hb dX2_cameInside_14 rfl (lv_at hl 0 rfl) ?_
    refine lv_iconst (v := 3) hx hb dX2_cameInside_15 (by decide) ?_
    refine lv_icmp_ge (tgt := 144) hx hb dX2_cameInside_16 (by decide) (fun c16 => absurd c16 (by decide)) (fun _ => ?_)
    refine lv_aload_n hx hb dX2_cameInside_19 rfl (lv_at hl 1 rfl) ?_
    refine lv_iload_n hx hb dX2_cameInside_20 rfl (lv_at hl 0 rfl) ?_
    have hPc := hP.sub (ws' := [(a0, .inr (2, [.ref a1, .ref a2, .ref a3, .ref a4, .ref a5, .ref a6, .ref a7, .ref a8, .ref a9, .ref a10, .ref a11, .int nh0, .int li])), (a1, .inl (cI, 3, .inl og)), (a2, .inl (cI, 3, .inl di)), (a3, .inl (cI, 3, .inl ar)), (a4, .inl (cI, 30, .inl ho)), (a5, .inl (cI, 30, .inl hx9)), (a6, .inl (cI, 30, .inl ha)), (a7, .inl (cI, 30, .inl hl9)), (a8, .inl (cI, 90, .inl hs)), (a9, .inr (1, [.int lb, .int la, .int lv, .int lw])), (a10, .inr (1, [.int nb9, .int na, .int nv, .int nw])), (a11, .inr (1, [.int tb, .int ta, .int tv, .int tw])), (b0, .inr (0, [.ref b1, .ref b2, .ref b3, .ref b4, .ref b5, .int cn])), (b1, .inl (cI, 60, .inl lo)), (b2, .inl (cI, 60, .inl hi)), (b3, .inl (cI, 20, .inl ki)), (b4, .inl (cI, 20, .inl sh)), (b5, .inl (cZ, 20, .inl of))]) [0, 1, 2, 3, 4, 5, 6, 7, 8, 9, 10, 11, 12, 13, 14, 15, 16, 17] rfl
    refine rq_call (va_runV (As := [.int 0]) (rest := []) ⟨hx, hb, hml, hown, hg⟩ (qX2_spotAtLatest l D cI cZ cJ a0 a1 a2 a3 a4 a5 a6 a7 a8 a9 a10 a11 b0 b1 b2 b3 b4 b5 og di ar ho hx9 ha hl9 hs lb la lv lw nb9 na nv nw tb ta tv tw nh0 li lo hi ki sh of cn 0 (by omega)) (cwV 1 hg (gw_V kw394 kw396 kw15 kw39 kw397) rfl rfl rfl (by decide +kernel) ⟨Nat.le_of_ble_eq_true rfl, Nat.le_of_ble_eq_true rfl⟩) (pq_preV hPc hK hZ (va_recv hK hPc (ci := 2) (q0 := 0) rfl rfl)) rfl rfl hl.1 rfl (lv_room (Nat.le_of_ble_eq_true rfl)) dX2_cameInside_21 ⟨Nat.le_of_ble_eq_true rfl, Nat.le_of_ble_eq_true rfl⟩) ?_
    refine lv_istore (lv' := [(4, .int (og 0 * lw + di 0 * lv)), (3, .int 0), (0, .ref a0), (1, .ref b0), (2, .int (nI i))]) hx hb dX2_cameInside_24 hl (by decide) rfl (fun ls hl => ?_)
    refine lv_aload_n hx hb dX2_cameInside_26 rfl (lv_at hl 3 rfl) ?_
    refine va_getN (D := D) (ci := 0) (v := .ref b1) (C := RX0) (T := TX0) (N := 6) hx hb hg iX0 hown hK hP 12 rfl rfl 0 (by decide) (va_Nw.use rfl (nzF_0 hZ)) (fun _ h9 => h9) rfl dX2_cameInside_27 ?_
    refine lv_iload_n hx hb dX2_cameInside_30 rfl (lv_at hl 4 rfl) ?_
    refine lv_iconst (v := 3) hx hb dX2_cameInside_31 (by decide) ?_
    refine lv_imul hx hb dX2_cameInside_32 ?_
    refine lv_iload_n hx hb dX2_cameInside_33 rfl (lv_at hl 1 rfl) ?_
    refine lv_iadd hx hb dX2_cameInside_34 ?_
    refine va_iald hx hb hK hP 13 0 rfl rfl (vin3 (k := 0) (by omega) (by decide)) dX2_cameInside_35 ?_
    refine tp_i (y := lo (i * 3)) (congrArg lo (vcl3 (k := 0) (by omega))) ?_
    refine lv_aload_n hx hb dX2_cameInside_36 rfl (lv_at hl 2 rfl) ?_
    refine va_get (D := D) (ci := 2) (v := .ref a9) (C := RX2) (T := TX2) (N := 13) hx hb hg iX2 hown hK hP 0 rfl rfl 8 (by decide) (hg _ kw143) (fun _ h9 => h9) rfl dX2_cameInside_37 ?_
    refine va_getN (D := D) (ci := 1) (v := .int lw) (C := RX1) (T := TX1) (N := 4) hx hb hg iX1 hown hK hP 9 rfl rfl 3 (by decide) (va_Nw.use rfl (nzF_13 hZ)) (fun _ h9 => h9) rfl dX2_cameInside_40 ?_
    refine lv_imul hx hb dX2_cameInside_43 ?_
    refine lv_istore (lv' := [(5, .int ((lo (i * 3)) * lw)), (4, .int (og 0 * lw + di 0 * lv)), (3, .int 0), (0, .ref a0), (1, .ref b0), (2, .int (nI i))]) hx hb dX2_cameInside_44 hl (by decide) rfl (fun ls hl => ?_)
    refine lv_aload_n hx hb dX2_cameInside_46 rfl (lv_at hl 4 rfl) ?_
    refine va_getN (D := D) (ci := 0) (v := .ref b2) (C := RX0) (T := TX0) (N := 6) hx hb hg iX0 hown hK hP 12 rfl rfl 1 (by decide) (va_Nw.use rfl (nzF_1 hZ)) (fun _ h9 => h9) rfl dX2_cameInside_47 ?_
    refine lv_iload_n hx hb dX2_cameInside_50 rfl (lv_at hl 5 rfl) ?_
    refine lv_iconst (v := 3) hx hb dX2_cameInside_51 (by decide) ?_
    refine lv_imul hx hb dX2_cameInside_52 ?_
    refine lv_iload_n hx hb dX2_cameInside_53 rfl (lv_at hl 2 rfl) ?_
    refine lv_iadd hx hb dX2_cameInside_54 ?_
    refine va_iald hx hb hK hP 14 0 rfl rfl (vin3 (k := 0) (by omega) (by decide)) dX2_cameInside_55 ?_
    refine tp_i (y := hi (i * 3)) (congrArg hi (vcl3 (k := 0) (by omega))) ?_
    refine lv_aload_n hx hb dX2_cameInside_56 rfl (lv_at hl 3 rfl) ?_
    refine va_get (D := D) (ci := 2) (v := .ref a9) (C := RX2) (T := TX2) (N := 13) hx hb hg iX2 hown hK hP 0 rfl rfl 8 (by decide) (hg _ kw143) (fun _ h9 => h9) rfl dX2_cameInside_57 ?_
    refine va_getN (D := D) (ci := 1) (v := .int lw) (C := RX1) (T := TX1) (N := 4) hx hb hg iX1 hown hK hP 9 rfl rfl 3 (by decide) (va_Nw.use rfl (nzF_13 hZ)) (fun _ h9 => h9) rfl dX2_cameInside_60 ?_
    refine lv_imul hx hb dX2_cameInside_63 ?_
    refine lv_istore (lv' := [(6, .int ((hi (i * 3)) * lw)), (5, .int ((lo (i * 3)) * lw)), (4, .int (og 0 * lw + di 0 * lv)), (3, .int 0), (0, .ref a0), (1, .ref b0), (2, .int (nI i))]) hx hb dX2_cameInside_64 hl (by decide) rfl (fun ls hl => ?_)
    have J_5 : W p l e (headSpec (Cond.code yX2_cameInside cX2_cameInside 9 (some .boolean) :: gw) ({ frames := 1, cells := 0, slots := 0, locals := 21 })).room s m ([.ref a0, .ref b0, .int (nI i)] : List Value).toArray below meth c s.heap [] 0 0 (MQ below (QcRead (bI (cameB lo hi og di ar lv lw i))) ([.ref a0, .ref b0, .int (nI i)] : List Value).toArray s 0 0 (fun _ => False)) (F0 m 94 ls [.int (bI (geB (og 0 * lw + di 0 * lv) ((lo (i * 3)) * lw) (ar 0)))]) := by
      refine lv_istore (lv' := [(7, .int (bI (geB (og 0 * lw + di 0 * lv) ((lo (i * 3)) * lw) (ar 0)))), (6, .int ((hi (i * 3)) * lw)), (5, .int ((lo (i * 3)) * lw)), (4, .int (og 0 * lw + di 0 * lv)), (3, .int 0), (0, .ref a0), (1, .ref b0), (2, .int (nI i))]) hx hb dX2_cameInside_94 hl (by decide) rfl (fun ls hl => ?_)
      have J_6 : W p l e (headSpec (Cond.code yX2_cameInside cX2_cameInside 9 (some .boolean) :: gw) ({ frames := 1, cells := 0, slots := 0, locals := 21 })).room s m ([.ref a0, .ref b0, .int (nI i)] : List Value).toArray below meth c s.heap [] 0 0 (MQ below (QcRead (bI (cameB lo hi og di ar lv lw i))) ([.ref a0, .ref b0, .int (nI i)] : List Value).toArray s 0 0 (fun _ => False)) (F0 m 124 ls [.int (bI (leB (og 0 * lw + di 0 * lv) ((hi (i * 3)) * lw) (ar 0)))]) := by
        refine lv_istore (lv' := [(8, .int (bI (leB (og 0 * lw + di 0 * lv) ((hi (i * 3)) * lw) (ar 0)))), (7, .int (bI (geB (og 0 * lw + di 0 * lv) ((lo (i * 3)) * lw) (ar 0)))), (6, .int ((hi (i * 3)) * lw)), (5, .int ((lo (i * 3)) * lw)), (4, .int (og 0 * lw + di 0 * lv)), (3, .int 0), (0, .ref a0), (1, .ref b0), (2, .int (nI i))]) hx hb dX2_cameInside_124 hl (by decide) rfl (fun ls hl => ?_)
        refine lv_iload hx hb dX2_cameInside_126 (lv_at hl 1 rfl) ?_
        refine lv_if_eq (tgt := 136) hx hb dX2_cameInside_128 (by decide) (fun c128 => ?_) (fun c128 => ?_)
        · replace c128 := bI_f c128
          refine lv_iconst (v := 0) hx hb dX2_cameInside_136 (by decide) ?_
          exact W.zret (v := 0) hx hb hr (by decide) (fun t ht hW => ⟨congrArg (fun z => Outcome.returned (some (Value.int z))) (by simp [bI, cameB, cameK, c7, c128]), ht⟩) (fun q hq => nomatch hq) dX2_cameInside_137
        · replace c128 := bI_t c128
          refine lv_iload hx hb dX2_cameInside_131 (lv_at hl 0 rfl) ?_
          refine lv_if_ne (tgt := 138) hx hb dX2_cameInside_133 (by decide) (fun c133 => ?_) (fun c133 => ?_)
          · replace c133 := bI_t c133
            refine lv_iinc (v := 1) (lv' := [(3, .int 1), (8, .int (bI (leB (og 0 * lw + di 0 * lv) ((hi (i * 3)) * lw) (ar 0)))), (7, .int (bI (geB (og 0 * lw + di 0 * lv) ((lo (i * 3)) * lw) (ar 0)))), (6, .int ((hi (i * 3)) * lw)), (5, .int ((lo (i * 3)) * lw)), (4, .int (og 0 * lw + di 0 * lv)), (0, .ref a0), (1, .ref b0), (2, .int (nI i))]) hx hb dX2_cameInside_138 hl (k := 5) rfl (by decide) (by decide) rfl (fun ls hl => ?_)
            refine lv_goto (tgt := 14) hx hb dX2_cameInside_141 (by decide) ?_
            refine lv_iload_n hx hb dX2_cameInside_14 rfl (lv_at hl 0 rfl) ?_
            refine lv_iconst (v := 3) hx hb dX2_cameInside_15 (by decide) ?_
            refine lv_icmp_ge (tgt := 144) hx hb dX2_cameInside_16 (by decide) (fun c16 => absurd c16 (by decide)) (fun _ => ?_)
            refine lv_aload_n hx hb dX2_cameInside_19 rfl (lv_at hl 6 rfl) ?_
            refine lv_iload_n hx hb dX2_cameInside_20 rfl (lv_at hl 0 rfl) ?_
            have hPc := hP.sub (ws' := [(a0, .inr (2, [.ref a1, .ref a2, .ref a3, .ref a4, .ref a5, .ref a6, .ref a7, .ref a8, .ref a9, .ref a10, .ref a11, .int nh0, .int li])), (a1, .inl (cI, 3, .inl og)), (a2, .inl (cI, 3, .inl di)), (a3, .inl (cI, 3, .inl ar)), (a4, .inl (cI, 30, .inl ho)), (a5, .inl (cI, 30, .inl hx9)), (a6, .inl (cI, 30, .inl ha)), (a7, .inl (cI, 30, .inl hl9)), (a8, .inl (cI, 90, .inl hs)), (a9, .inr (1, [.int lb, .int la, .int lv, .int lw])), (a10, .inr (1, [.int nb9, .int na, .int nv, .int nw])), (a11, .inr (1, [.int tb, .int ta, .int tv, .int tw])), (b0, .inr (0, [.ref b1, .ref b2, .ref b3, .ref b4, .ref b5, .int cn])), (b1, .inl (cI, 60, .inl lo)), (b2, .inl (cI, 60, .inl hi)), (b3, .inl (cI, 20, .inl ki)), (b4, .inl (cI, 20, .inl sh)), (b5, .inl (cZ, 20, .inl of))]) [0, 1, 2, 3, 4, 5, 6, 7, 8, 9, 10, 11, 12, 13, 14, 15, 16, 17] rfl
            refine rq_call (va_runV (As := [.int 1]) (rest := []) ⟨hx, hb, hml, hown, hg⟩ (qX2_spotAtLatest l D cI cZ cJ a0 a1 a2 a3 a4 a5 a6 a7 a8 a9 a10 a11 b0 b1 b2 b3 b4 b5 og di ar ho hx9 ha hl9 hs lb la lv lw nb9 na nv nw tb ta tv tw nh0 li lo hi ki sh of cn 1 (by omega)) (cwV 1 hg (gw_V kw394 kw396 kw15 kw39 kw397) rfl rfl rfl (by decide +kernel) ⟨Nat.le_of_ble_eq_true rfl, Nat.le_of_ble_eq_true rfl⟩) (pq_preV hPc hK hZ (va_recv hK hPc (ci := 2) (q0 := 0) rfl rfl)) rfl rfl hl.1 rfl (lv_room (Nat.le_of_ble_eq_true rfl)) dX2_cameInside_21 ⟨Nat.le_of_ble_eq_true rfl, Nat.le_of_ble_eq_true rfl⟩) ?_
            refine lv_istore (lv' := [(4, .int (og 1 * lw + di 1 * lv)), (3, .int 1), (8, .int (bI (leB (og 0 * lw + di 0 * lv) ((hi (i * 3)) * lw) (ar 0)))), (7, .int (bI (geB (og 0 * lw + di 0 * lv) ((lo (i * 3)) * lw) (ar 0)))), (6, .int ((hi (i * 3)) * lw)), (5, .int ((lo (i * 3)) * lw)), (0, .ref a0), (1, .ref b0), (2, .int (nI i))]) hx hb dX2_cameInside_24 hl (by decide) rfl (fun ls hl => ?_)
            refine lv_aload_n hx hb dX2_cameInside_26 rfl (lv_at hl 7 rfl) ?_
            refine va_getN (D := D) (ci := 0) (v := .ref b1) (C := RX0) (T := TX0) (N := 6) hx hb hg iX0 hown hK hP 12 rfl rfl 0 (by decide) (va_Nw.use rfl (nzF_0 hZ)) (fun _ h9 => h9) rfl dX2_cameInside_27 ?_
            refine lv_iload_n hx hb dX2_cameInside_30 rfl (lv_at hl 8 rfl) ?_
            refine lv_iconst (v := 3) hx hb dX2_cameInside_31 (by decide) ?_
            refine lv_imul hx hb dX2_cameInside_32 ?_
            refine lv_iload_n hx hb dX2_cameInside_33 rfl (lv_at hl 1 rfl) ?_
            refine lv_iadd hx hb dX2_cameInside_34 ?_
            refine va_iald hx hb hK hP 13 0 rfl rfl (vin3 (k := 1) (by omega) (by decide)) dX2_cameInside_35 ?_
            refine tp_i (y := lo (i * 3 + 1)) (congrArg lo (vcl3 (k := 1) (by omega))) ?_
            refine lv_aload_n hx hb dX2_cameInside_36 rfl (lv_at hl 6 rfl) ?_
            refine va_get (D := D) (ci := 2) (v := .ref a9) (C := RX2) (T := TX2) (N := 13) hx hb hg iX2 hown hK hP 0 rfl rfl 8 (by decide) (hg _ kw143) (fun _ h9 => h9) rfl dX2_cameInside_37 ?_
            refine va_getN (D := D) (ci := 1) (v := .int lw) (C := RX1) (T := TX1) (N := 4) hx hb hg iX1 hown hK hP 9 rfl rfl 3 (by decide) (va_Nw.use rfl (nzF_13 hZ)) (fun _ h9 => h9) rfl dX2_cameInside_40 ?_
            refine lv_imul hx hb dX2_cameInside_43 ?_
            refine lv_istore (lv' := [(5, .int ((lo (i * 3 + 1)) * lw)), (4, .int (og 1 * lw + di 1 * lv)), (3, .int 1), (8, .int (bI (leB (og 0 * lw + di 0 * lv) ((hi (i * 3)) * lw) (ar 0)))), (7, .int (bI (geB (og 0 * lw + di 0 * lv) ((lo (i * 3)) * lw) (ar 0)))), (6, .int ((hi (i * 3)) * lw)), (0, .ref a0), (1, .ref b0), (2, .int (nI i))]) hx hb dX2_cameInside_44 hl (by decide) rfl (fun ls hl => ?_)
            refine lv_aload_n hx hb dX2_cameInside_46 rfl (lv_at hl 7 rfl) ?_
            refine va_getN (D := D) (ci := 0) (v := .ref b2) (C := RX0) (T := TX0) (N := 6) hx hb hg iX0 hown hK hP 12 rfl rfl 1 (by decide) (va_Nw.use rfl (nzF_1 hZ)) (fun _ h9 => h9) rfl dX2_cameInside_47 ?_
            refine lv_iload_n hx hb dX2_cameInside_50 rfl (lv_at hl 8 rfl) ?_
            refine lv_iconst (v := 3) hx hb dX2_cameInside_51 (by decide) ?_
            refine lv_imul hx hb dX2_cameInside_52 ?_
            refine lv_iload_n hx hb dX2_cameInside_53 rfl (lv_at hl 2 rfl) ?_
            refine lv_iadd hx hb dX2_cameInside_54 ?_
            refine va_iald hx hb hK hP 14 0 rfl rfl (vin3 (k := 1) (by omega) (by decide)) dX2_cameInside_55 ?_
            refine tp_i (y := hi (i * 3 + 1)) (congrArg hi (vcl3 (k := 1) (by omega))) ?_
            refine lv_aload_n hx hb dX2_cameInside_56 rfl (lv_at hl 6 rfl) ?_
            refine va_get (D := D) (ci := 2) (v := .ref a9) (C := RX2) (T := TX2) (N := 13) hx hb hg iX2 hown hK hP 0 rfl rfl 8 (by decide) (hg _ kw143) (fun _ h9 => h9) rfl dX2_cameInside_57 ?_
            refine va_getN (D := D) (ci := 1) (v := .int lw) (C := RX1) (T := TX1) (N := 4) hx hb hg iX1 hown hK hP 9 rfl rfl 3 (by decide) (va_Nw.use rfl (nzF_13 hZ)) (fun _ h9 => h9) rfl dX2_cameInside_60 ?_
            refine lv_imul hx hb dX2_cameInside_63 ?_
            refine lv_istore (lv' := [(6, .int ((hi (i * 3 + 1)) * lw)), (5, .int ((lo (i * 3 + 1)) * lw)), (4, .int (og 1 * lw + di 1 * lv)), (3, .int 1), (8, .int (bI (leB (og 0 * lw + di 0 * lv) ((hi (i * 3)) * lw) (ar 0)))), (7, .int (bI (geB (og 0 * lw + di 0 * lv) ((lo (i * 3)) * lw) (ar 0)))), (0, .ref a0), (1, .ref b0), (2, .int (nI i))]) hx hb dX2_cameInside_64 hl (by decide) rfl (fun ls hl => ?_)
            have J_7 : W p l e (headSpec (Cond.code yX2_cameInside cX2_cameInside 9 (some .boolean) :: gw) ({ frames := 1, cells := 0, slots := 0, locals := 21 })).room s m ([.ref a0, .ref b0, .int (nI i)] : List Value).toArray below meth c s.heap [] 0 0 (MQ below (QcRead (bI (cameB lo hi og di ar lv lw i))) ([.ref a0, .ref b0, .int (nI i)] : List Value).toArray s 0 0 (fun _ => False)) (F0 m 94 ls [.int (bI (geB (og 1 * lw + di 1 * lv) ((lo (i * 3 + 1)) * lw) (ar 1)))]) := by
              refine lv_istore (lv' := [(7, .int (bI (geB (og 1 * lw + di 1 * lv) ((lo (i * 3 + 1)) * lw) (ar 1)))), (6, .int ((hi (i * 3 + 1)) * lw)), (5, .int ((lo (i * 3 + 1)) * lw)), (4, .int (og 1 * lw + di 1 * lv)), (3, .int 1), (8, .int (bI (leB (og 0 * lw + di 0 * lv) ((hi (i * 3)) * lw) (ar 0)))), (0, .ref a0), (1, .ref b0), (2, .int (nI i))]) hx hb dX2_cameInside_94 hl (by decide) rfl (fun ls hl => ?_)
              have J_8 : W p l e (headSpec (Cond.code yX2_cameInside cX2_cameInside 9 (some .boolean) :: gw) ({ frames := 1, cells := 0, slots := 0, locals := 21 })).room s m ([.ref a0, .ref b0, .int (nI i)] : List Value).toArray below meth c s.heap [] 0 0 (MQ below (QcRead (bI (cameB lo hi og di ar lv lw i))) ([.ref a0, .ref b0, .int (nI i)] : List Value).toArray s 0 0 (fun _ => False)) (F0 m 124 ls [.int (bI (leB (og 1 * lw + di 1 * lv) ((hi (i * 3 + 1)) * lw) (ar 1)))]) := by
                refine lv_istore (lv' := [(8, .int (bI (leB (og 1 * lw + di 1 * lv) ((hi (i * 3 + 1)) * lw) (ar 1)))), (7, .int (bI (geB (og 1 * lw + di 1 * lv) ((lo (i * 3 + 1)) * lw) (ar 1)))), (6, .int ((hi (i * 3 + 1)) * lw)), (5, .int ((lo (i * 3 + 1)) * lw)), (4, .int (og 1 * lw + di 1 * lv)), (3, .int 1), (0, .ref a0), (1, .ref b0), (2, .int (nI i))]) hx hb dX2_cameInside_124 hl (by decide) rfl (fun ls hl => ?_)
                refine lv_iload hx hb dX2_cameInside_126 (lv_at hl 1 rfl) ?_
                refine lv_if_eq (tgt := 136) hx hb dX2_cameInside_128 (by decide) (fun c128_1 => ?_) (fun c128_1 => ?_)
                · replace c128_1 := bI_f c128_1
                  refine lv_iconst (v := 0) hx hb dX2_cameInside_136 (by decide) ?_
                  exact W.zret (v := 0) hx hb hr (by decide) (fun t ht hW => ⟨congrArg (fun z => Outcome.returned (some (Value.int z))) (by simp [bI, cameB, cameK, c7, c128, c133, c128_1]), ht⟩) (fun q hq => nomatch hq) dX2_cameInside_137
                · replace c128_1 := bI_t c128_1
                  refine lv_iload hx hb dX2_cameInside_131 (lv_at hl 0 rfl) ?_
                  refine lv_if_ne (tgt := 138) hx hb dX2_cameInside_133 (by decide) (fun c133_1 => ?_) (fun c133_1 => ?_)
                  · replace c133_1 := bI_t c133_1
                    refine lv_iinc (v := 2) (lv' := [(3, .int 2), (8, .int (bI (leB (og 1 * lw + di 1 * lv) ((hi (i * 3 + 1)) * lw) (ar 1)))), (7, .int (bI (geB (og 1 * lw + di 1 * lv) ((lo (i * 3 + 1)) * lw) (ar 1)))), (6, .int ((hi (i * 3 + 1)) * lw)), (5, .int ((lo (i * 3 + 1)) * lw)), (4, .int (og 1 * lw + di 1 * lv)), (0, .ref a0), (1, .ref b0), (2, .int (nI i))]) hx hb dX2_cameInside_138 hl (k := 5) rfl (by decide) (by decide) rfl (fun ls hl => ?_)
                    refine lv_goto (tgt := 14) hx hb dX2_cameInside_141 (by decide) ?_
                    refine lv_iload_n hx hb dX2_cameInside_14 rfl (lv_at hl 0 rfl) ?_
                    refine lv_iconst (v := 3) hx hb dX2_cameInside_15 (by decide) ?_
                    refine lv_icmp_ge (tgt := 144) hx hb dX2_cameInside_16 (by decide) (fun c16 => absurd c16 (by decide)) (fun _ => ?_)
                    refine lv_aload_n hx hb dX2_cameInside_19 rfl (lv_at hl 6 rfl) ?_
                    refine lv_iload_n hx hb dX2_cameInside_20 rfl (lv_at hl 0 rfl) ?_
                    have hPc := hP.sub (ws' := [(a0, .inr (2, [.ref a1, .ref a2, .ref a3, .ref a4, .ref a5, .ref a6, .ref a7, .ref a8, .ref a9, .ref a10, .ref a11, .int nh0, .int li])), (a1, .inl (cI, 3, .inl og)), (a2, .inl (cI, 3, .inl di)), (a3, .inl (cI, 3, .inl ar)), (a4, .inl (cI, 30, .inl ho)), (a5, .inl (cI, 30, .inl hx9)), (a6, .inl (cI, 30, .inl ha)), (a7, .inl (cI, 30, .inl hl9)), (a8, .inl (cI, 90, .inl hs)), (a9, .inr (1, [.int lb, .int la, .int lv, .int lw])), (a10, .inr (1, [.int nb9, .int na, .int nv, .int nw])), (a11, .inr (1, [.int tb, .int ta, .int tv, .int tw])), (b0, .inr (0, [.ref b1, .ref b2, .ref b3, .ref b4, .ref b5, .int cn])), (b1, .inl (cI, 60, .inl lo)), (b2, .inl (cI, 60, .inl hi)), (b3, .inl (cI, 20, .inl ki)), (b4, .inl (cI, 20, .inl sh)), (b5, .inl (cZ, 20, .inl of))]) [0, 1, 2, 3, 4, 5, 6, 7, 8, 9, 10, 11, 12, 13, 14, 15, 16, 17] rfl
                    refine rq_call (va_runV (As := [.int 2]) (rest := []) ⟨hx, hb, hml, hown, hg⟩ (qX2_spotAtLatest l D cI cZ cJ a0 a1 a2 a3 a4 a5 a6 a7 a8 a9 a10 a11 b0 b1 b2 b3 b4 b5 og di ar ho hx9 ha hl9 hs lb la lv lw nb9 na nv nw tb ta tv tw nh0 li lo hi ki sh of cn 2 (by omega)) (cwV 1 hg (gw_V kw394 kw396 kw15 kw39 kw397) rfl rfl rfl (by decide +kernel) ⟨Nat.le_of_ble_eq_true rfl, Nat.le_of_ble_eq_true rfl⟩) (pq_preV hPc hK hZ (va_recv hK hPc (ci := 2) (q0 := 0) rfl rfl)) rfl rfl hl.1 rfl (lv_room (Nat.le_of_ble_eq_true rfl)) dX2_cameInside_21 ⟨Nat.le_of_ble_eq_true rfl, Nat.le_of_ble_eq_true rfl⟩) ?_
                    refine lv_istore (lv' := [(4, .int (og 2 * lw + di 2 * lv)), (3, .int 2), (8, .int (bI (leB (og 1 * lw + di 1 * lv) ((hi (i * 3 + 1)) * lw) (ar 1)))), (7, .int (bI (geB (og 1 * lw + di 1 * lv) ((lo (i * 3 + 1)) * lw) (ar 1)))), (6, .int ((hi (i * 3 + 1)) * lw)), (5, .int ((lo (i * 3 + 1)) * lw)), (0, .ref a0), (1, .ref b0), (2, .int (nI i))]) hx hb dX2_cameInside_24 hl (by decide) rfl (fun ls hl => ?_)
                    refine lv_aload_n hx hb dX2_cameInside_26 rfl (lv_at hl 7 rfl) ?_
                    refine va_getN (D := D) (ci := 0) (v := .ref b1) (C := RX0) (T := TX0) (N := 6) hx hb hg iX0 hown hK hP 12 rfl rfl 0 (by decide) (va_Nw.use rfl (nzF_0 hZ)) (fun _ h9 => h9) rfl dX2_cameInside_27 ?_
                    refine lv_iload_n hx hb dX2_cameInside_30 rfl (lv_at hl 8 rfl) ?_
                    refine lv_iconst (v := 3) hx hb dX2_cameInside_31 (by decide) ?_
                    refine lv_imul hx hb dX2_cameInside_32 ?_
                    refine lv_iload_n hx hb dX2_cameInside_33 rfl (lv_at hl 1 rfl) ?_
                    refine lv_iadd hx hb dX2_cameInside_34 ?_
                    refine va_iald hx hb hK hP 13 0 rfl rfl (vin3 (k := 2) (by omega) (by decide)) dX2_cameInside_35 ?_
                    refine tp_i (y := lo (i * 3 + 2)) (congrArg lo (vcl3 (k := 2) (by omega))) ?_
                    refine lv_aload_n hx hb dX2_cameInside_36 rfl (lv_at hl 6 rfl) ?_
                    refine va_get (D := D) (ci := 2) (v := .ref a9) (C := RX2) (T := TX2) (N := 13) hx hb hg iX2 hown hK hP 0 rfl rfl 8 (by decide) (hg _ kw143) (fun _ h9 => h9) rfl dX2_cameInside_37 ?_
                    refine va_getN (D := D) (ci := 1) (v := .int lw) (C := RX1) (T := TX1) (N := 4) hx hb hg iX1 hown hK hP 9 rfl rfl 3 (by decide) (va_Nw.use rfl (nzF_13 hZ)) (fun _ h9 => h9) rfl dX2_cameInside_40 ?_
                    refine lv_imul hx hb dX2_cameInside_43 ?_
                    refine lv_istore (lv' := [(5, .int ((lo (i * 3 + 2)) * lw)), (4, .int (og 2 * lw + di 2 * lv)), (3, .int 2), (8, .int (bI (leB (og 1 * lw + di 1 * lv) ((hi (i * 3 + 1)) * lw) (ar 1)))), (7, .int (bI (geB (og 1 * lw + di 1 * lv) ((lo (i * 3 + 1)) * lw) (ar 1)))), (6, .int ((hi (i * 3 + 1)) * lw)), (0, .ref a0), (1, .ref b0), (2, .int (nI i))]) hx hb dX2_cameInside_44 hl (by decide) rfl (fun ls hl => ?_)
                    refine lv_aload_n hx hb dX2_cameInside_46 rfl (lv_at hl 7 rfl) ?_
                    refine va_getN (D := D) (ci := 0) (v := .ref b2) (C := RX0) (T := TX0) (N := 6) hx hb hg iX0 hown hK hP 12 rfl rfl 1 (by decide) (va_Nw.use rfl (nzF_1 hZ)) (fun _ h9 => h9) rfl dX2_cameInside_47 ?_
                    refine lv_iload_n hx hb dX2_cameInside_50 rfl (lv_at hl 8 rfl) ?_
                    refine lv_iconst (v := 3) hx hb dX2_cameInside_51 (by decide) ?_
                    refine lv_imul hx hb dX2_cameInside_52 ?_
                    refine lv_iload_n hx hb dX2_cameInside_53 rfl (lv_at hl 2 rfl) ?_
                    refine lv_iadd hx hb dX2_cameInside_54 ?_
                    refine va_iald hx hb hK hP 14 0 rfl rfl (vin3 (k := 2) (by omega) (by decide)) dX2_cameInside_55 ?_
                    refine tp_i (y := hi (i * 3 + 2)) (congrArg hi (vcl3 (k := 2) (by omega))) ?_
                    refine lv_aload_n hx hb dX2_cameInside_56 rfl (lv_at hl 6 rfl) ?_
                    refine va_get (D := D) (ci := 2) (v := .ref a9) (C := RX2) (T := TX2) (N := 13) hx hb hg iX2 hown hK hP 0 rfl rfl 8 (by decide) (hg _ kw143) (fun _ h9 => h9) rfl dX2_cameInside_57 ?_
                    refine va_getN (D := D) (ci := 1) (v := .int lw) (C := RX1) (T := TX1) (N := 4) hx hb hg iX1 hown hK hP 9 rfl rfl 3 (by decide) (va_Nw.use rfl (nzF_13 hZ)) (fun _ h9 => h9) rfl dX2_cameInside_60 ?_
                    refine lv_imul hx hb dX2_cameInside_63 ?_
                    refine lv_istore (lv' := [(6, .int ((hi (i * 3 + 2)) * lw)), (5, .int ((lo (i * 3 + 2)) * lw)), (4, .int (og 2 * lw + di 2 * lv)), (3, .int 2), (8, .int (bI (leB (og 1 * lw + di 1 * lv) ((hi (i * 3 + 1)) * lw) (ar 1)))), (7, .int (bI (geB (og 1 * lw + di 1 * lv) ((lo (i * 3 + 1)) * lw) (ar 1)))), (0, .ref a0), (1, .ref b0), (2, .int (nI i))]) hx hb dX2_cameInside_64 hl (by decide) rfl (fun ls hl => ?_)
                    have J_9 : W p l e (headSpec (Cond.code yX2_cameInside cX2_cameInside 9 (some .boolean) :: gw) ({ frames := 1, cells := 0, slots := 0, locals := 21 })).room s m ([.ref a0, .ref b0, .int (nI i)] : List Value).toArray below meth c s.heap [] 0 0 (MQ below (QcRead (bI (cameB lo hi og di ar lv lw i))) ([.ref a0, .ref b0, .int (nI i)] : List Value).toArray s 0 0 (fun _ => False)) (F0 m 94 ls [.int (bI (geB (og 2 * lw + di 2 * lv) ((lo (i * 3 + 2)) * lw) (ar 2)))]) := by
                      refine lv_istore (lv' := [(7, .int (bI (geB (og 2 * lw + di 2 * lv) ((lo (i * 3 + 2)) * lw) (ar 2)))), (6, .int ((hi (i * 3 + 2)) * lw)), (5, .int ((lo (i * 3 + 2)) * lw)), (4, .int (og 2 * lw + di 2 * lv)), (3, .int 2), (8, .int (bI (leB (og 1 * lw + di 1 * lv) ((hi (i * 3 + 1)) * lw) (ar 1)))), (0, .ref a0), (1, .ref b0), (2, .int (nI i))]) hx hb dX2_cameInside_94 hl (by decide) rfl (fun ls hl => ?_)
                      have J_10 : W p l e (headSpec (Cond.code yX2_cameInside cX2_cameInside 9 (some .boolean) :: gw) ({ frames := 1, cells := 0, slots := 0, locals := 21 })).room s m ([.ref a0, .ref b0, .int (nI i)] : List Value).toArray below meth c s.heap [] 0 0 (MQ below (QcRead (bI (cameB lo hi og di ar lv lw i))) ([.ref a0, .ref b0, .int (nI i)] : List Value).toArray s 0 0 (fun _ => False)) (F0 m 124 ls [.int (bI (leB (og 2 * lw + di 2 * lv) ((hi (i * 3 + 2)) * lw) (ar 2)))]) := by
                        refine lv_istore (lv' := [(8, .int (bI (leB (og 2 * lw + di 2 * lv) ((hi (i * 3 + 2)) * lw) (ar 2)))), (7, .int (bI (geB (og 2 * lw + di 2 * lv) ((lo (i * 3 + 2)) * lw) (ar 2)))), (6, .int ((hi (i * 3 + 2)) * lw)), (5, .int ((lo (i * 3 + 2)) * lw)), (4, .int (og 2 * lw + di 2 * lv)), (3, .int 2), (0, .ref a0), (1, .ref b0), (2, .int (nI i))]) hx hb dX2_cameInside_124 hl (by decide) rfl (fun ls hl => ?_)
                        refine lv_iload hx hb dX2_cameInside_126 (lv_at hl 1 rfl) ?_
                        refine lv_if_eq (tgt := 136) hx hb dX2_cameInside_128 (by decide) (fun c128_2 => ?_) (fun c128_2 => ?_)
                        · replace c128_2 := bI_f c128_2
                          refine lv_iconst (v := 0) hx hb dX2_cameInside_136 (by decide) ?_
                          exact W.zret (v := 0) hx hb hr (by decide) (fun t ht hW => ⟨congrArg (fun z => Outcome.returned (some (Value.int z))) (by simp [bI, cameB, cameK, c7, c128, c133, c128_1, c133_1, c128_2]), ht⟩) (fun q hq => nomatch hq) dX2_cameInside_137
                        · replace c128_2 := bI_t c128_2
                          refine lv_iload hx hb dX2_cameInside_131 (lv_at hl 0 rfl) ?_
                          refine lv_if_ne (tgt := 138) hx hb dX2_cameInside_133 (by decide) (fun c133_2 => ?_) (fun c133_2 => ?_)
                          · replace c133_2 := bI_t c133_2
                            refine lv_iinc (v := 3) (lv' := [(3, .int 3), (8, .int (bI (leB (og 2 * lw + di 2 * lv) ((hi (i * 3 + 2)) * lw) (ar 2)))), (7, .int (bI (geB (og 2 * lw + di 2 * lv) ((lo (i * 3 + 2)) * lw) (ar 2)))), (6, .int ((hi (i * 3 + 2)) * lw)), (5, .int ((lo (i * 3 + 2)) * lw)), (4, .int (og 2 * lw + di 2 * lv)), (0, .ref a0), (1, .ref b0), (2, .int (nI i))]) hx hb dX2_cameInside_138 hl (k := 5) rfl (by decide) (by decide) rfl (fun ls hl => ?_)
                            refine lv_goto (tgt := 14) hx hb dX2_cameInside_141 (by decide) ?_
                            refine lv_iload_n hx hb dX2_cameInside_14 rfl (lv_at hl 0 rfl) ?_
                            refine lv_iconst (v := 3) hx hb dX2_cameInside_15 (by decide) ?_
                            refine lv_icmp_ge (tgt := 144) hx hb dX2_cameInside_16 (by decide) (fun _ => ?_) (fun c16 => absurd (by decide) c16)
                            refine lv_iconst (v := 1) hx hb dX2_cameInside_144 (by decide) ?_
                            exact W.zret (v := 1) hx hb hr (by decide) (fun t ht hW => ⟨congrArg (fun z => Outcome.returned (some (Value.int z))) (by simp [bI, cameB, cameK, c7, c128, c133, c128_1, c133_1, c128_2, c133_2]), ht⟩) (fun q hq => nomatch hq) dX2_cameInside_145
                          · replace c133_2 := bI_f c133_2
                            refine lv_iconst (v := 0) hx hb dX2_cameInside_136 (by decide) ?_
                            exact W.zret (v := 0) hx hb hr (by decide) (fun t ht hW => ⟨congrArg (fun z => Outcome.returned (some (Value.int z))) (by simp [bI, cameB, cameK, c7, c128, c133, c128_1, c133_1, c128_2, c133_2]), ht⟩) (fun q hq => nomatch hq) dX2_cameInside_137
                      refine lv_iload hx hb dX2_cameInside_96 (lv_at hl 3 rfl) ?_
                      refine lv_iload hx hb dX2_cameInside_98 (lv_at hl 1 rfl) ?_
                      refine lv_icmp_lt (tgt := 119) hx hb dX2_cameInside_100 (by decide) (fun c100 => ?_) (fun c100 => ?_)
                      · have c100n := Int32.not_le.mpr c100
                        refine lv_iconst (v := 1) hx hb dX2_cameInside_119 (by decide) ?_
                        refine lv_goto (tgt := 124) hx hb dX2_cameInside_120 (by decide) ?_
                        refine tp_i (y := bI (leB (og 2 * lw + di 2 * lv) ((hi (i * 3 + 2)) * lw) (ar 2))) (by simp [bI, leB, c7, c128, c133, c128_1, c133_1, c100, c100n]) ?_
                        exact J_10
                      · have c100n := Int32.not_lt.mp c100
                        refine lv_iload hx hb dX2_cameInside_103 (lv_at hl 3 rfl) ?_
                        refine lv_iload hx hb dX2_cameInside_105 (lv_at hl 1 rfl) ?_
                        refine lv_icmp_ne (tgt := 123) hx hb dX2_cameInside_107 (by decide) (fun c107 => ?_) (fun c107 => ?_)
                        · refine lv_iconst (v := 0) hx hb dX2_cameInside_123 (by decide) ?_
                          refine tp_i (y := bI (leB (og 2 * lw + di 2 * lv) ((hi (i * 3 + 2)) * lw) (ar 2))) (by simp [bI, leB, c7, c128, c133, c128_1, c133_1, c100, c100n, c107]) ?_
                          exact J_10
                        · refine lv_aload_n hx hb dX2_cameInside_110 rfl (lv_at hl 6 rfl) ?_
                          refine va_get (D := D) (ci := 2) (v := .ref a3) (C := RX2) (T := TX2) (N := 13) hx hb hg iX2 hown hK hP 0 rfl rfl 2 (by decide) (hg _ kw132) (fun _ h9 => h9) rfl dX2_cameInside_111 ?_
                          refine lv_iload_n hx hb dX2_cameInside_114 rfl (lv_at hl 4 rfl) ?_
                          refine va_iald hx hb hK hP 3 0 rfl rfl (vp_in_nI (n := 2) (by decide) (by decide)) dX2_cameInside_115 ?_
                          refine tp_i (y := ar 2) (congrArg ar (rfl)) ?_
                          refine lv_if_le (tgt := 123) hx hb dX2_cameInside_116 (by decide) (fun c116 => ?_) (fun c116 => ?_)
                          · have c116n := Int32.not_lt.mpr c116
                            refine lv_iconst (v := 0) hx hb dX2_cameInside_123 (by decide) ?_
                            refine tp_i (y := bI (leB (og 2 * lw + di 2 * lv) ((hi (i * 3 + 2)) * lw) (ar 2))) (by simp [bI, leB, c7, c128, c133, c128_1, c133_1, c100, c100n, c107, c116, c116n]) ?_
                            exact J_10
                          · have c116n := Int32.not_le.mp c116
                            refine lv_iconst (v := 1) hx hb dX2_cameInside_119 (by decide) ?_
                            refine lv_goto (tgt := 124) hx hb dX2_cameInside_120 (by decide) ?_
                            refine tp_i (y := bI (leB (og 2 * lw + di 2 * lv) ((hi (i * 3 + 2)) * lw) (ar 2))) (by simp [bI, leB, c7, c128, c133, c128_1, c133_1, c100, c100n, c107, c116, c116n]) ?_
                            exact J_10
                    refine lv_iload hx hb dX2_cameInside_66 (lv_at hl 2 rfl) ?_
                    refine lv_iload hx hb dX2_cameInside_68 (lv_at hl 1 rfl) ?_
                    refine lv_icmp_gt (tgt := 89) hx hb dX2_cameInside_70 (by decide) (fun c70 => ?_) (fun c70 => ?_)
                    · have c70n := Int32.not_le.mpr c70
                      refine lv_iconst (v := 1) hx hb dX2_cameInside_89 (by decide) ?_
                      refine lv_goto (tgt := 94) hx hb dX2_cameInside_90 (by decide) ?_
                      refine tp_i (y := bI (geB (og 2 * lw + di 2 * lv) ((lo (i * 3 + 2)) * lw) (ar 2))) (by simp [bI, geB, c7, c128, c133, c128_1, c133_1, c70, c70n]) ?_
                      exact J_9
                    · have c70n := Int32.not_lt.mp c70
                      refine lv_iload hx hb dX2_cameInside_73 (lv_at hl 2 rfl) ?_
                      refine lv_iload hx hb dX2_cameInside_75 (lv_at hl 1 rfl) ?_
                      refine lv_icmp_ne (tgt := 93) hx hb dX2_cameInside_77 (by decide) (fun c77 => ?_) (fun c77 => ?_)
                      · refine lv_iconst (v := 0) hx hb dX2_cameInside_93 (by decide) ?_
                        refine tp_i (y := bI (geB (og 2 * lw + di 2 * lv) ((lo (i * 3 + 2)) * lw) (ar 2))) (by simp [bI, geB, c7, c128, c133, c128_1, c133_1, c70, c70n, c77]) ?_
                        exact J_9
                      · refine lv_aload_n hx hb dX2_cameInside_80 rfl (lv_at hl 6 rfl) ?_
                        refine va_get (D := D) (ci := 2) (v := .ref a3) (C := RX2) (T := TX2) (N := 13) hx hb hg iX2 hown hK hP 0 rfl rfl 2 (by decide) (hg _ kw132) (fun _ h9 => h9) rfl dX2_cameInside_81 ?_
                        refine lv_iload_n hx hb dX2_cameInside_84 rfl (lv_at hl 3 rfl) ?_
                        refine va_iald hx hb hK hP 3 0 rfl rfl (vp_in_nI (n := 2) (by decide) (by decide)) dX2_cameInside_85 ?_
                        refine tp_i (y := ar 2) (congrArg ar (rfl)) ?_
                        refine lv_if_ge (tgt := 93) hx hb dX2_cameInside_86 (by decide) (fun c86 => ?_) (fun c86 => ?_)
                        · have c86n := Int32.not_lt.mpr c86
                          refine lv_iconst (v := 0) hx hb dX2_cameInside_93 (by decide) ?_
                          refine tp_i (y := bI (geB (og 2 * lw + di 2 * lv) ((lo (i * 3 + 2)) * lw) (ar 2))) (by simp [bI, geB, c7, c128, c133, c128_1, c133_1, c70, c70n, c77, c86, c86n]) ?_
                          exact J_9
                        · have c86n := Int32.not_le.mp c86
                          refine lv_iconst (v := 1) hx hb dX2_cameInside_89 (by decide) ?_
                          refine lv_goto (tgt := 94) hx hb dX2_cameInside_90 (by decide) ?_
                          refine tp_i (y := bI (geB (og 2 * lw + di 2 * lv) ((lo (i * 3 + 2)) * lw) (ar 2))) (by simp [bI, geB, c7, c128, c133, c128_1, c133_1, c70, c70n, c77, c86, c86n]) ?_
                          exact J_9
                  · replace c133_1 := bI_f c133_1
                    refine lv_iconst (v := 0) hx hb dX2_cameInside_136 (by decide) ?_
                    exact W.zret (v := 0) hx hb hr (by decide) (fun t ht hW => ⟨congrArg (fun z => Outcome.returned (some (Value.int z))) (by simp [bI, cameB, cameK, c7, c128, c133, c128_1, c133_1]), ht⟩) (fun q hq => nomatch hq) dX2_cameInside_137
              refine lv_iload hx hb dX2_cameInside_96 (lv_at hl 3 rfl) ?_
              refine lv_iload hx hb dX2_cameInside_98 (lv_at hl 1 rfl) ?_
              refine lv_icmp_lt (tgt := 119) hx hb dX2_cameInside_100 (by decide) (fun c100 => ?_) (fun c100 => ?_)
              · have c100n := Int32.not_le.mpr c100
                refine lv_iconst (v := 1) hx hb dX2_cameInside_119 (by decide) ?_
                refine lv_goto (tgt := 124) hx hb dX2_cameInside_120 (by decide) ?_
                refine tp_i (y := bI (leB (og 1 * lw + di 1 * lv) ((hi (i * 3 + 1)) * lw) (ar 1))) (by simp [bI, leB, c7, c128, c133, c100, c100n]) ?_
                exact J_8
              · have c100n := Int32.not_lt.mp c100
                refine lv_iload hx hb dX2_cameInside_103 (lv_at hl 3 rfl) ?_
                refine lv_iload hx hb dX2_cameInside_105 (lv_at hl 1 rfl) ?_
                refine lv_icmp_ne (tgt := 123) hx hb dX2_cameInside_107 (by decide) (fun c107 => ?_) (fun c107 => ?_)
                · refine lv_iconst (v := 0) hx hb dX2_cameInside_123 (by decide) ?_
                  refine tp_i (y := bI (leB (og 1 * lw + di 1 * lv) ((hi (i * 3 + 1)) * lw) (ar 1))) (by simp [bI, leB, c7, c128, c133, c100, c100n, c107]) ?_
                  exact J_8
                · refine lv_aload_n hx hb dX2_cameInside_110 rfl (lv_at hl 6 rfl) ?_
                  refine va_get (D := D) (ci := 2) (v := .ref a3) (C := RX2) (T := TX2) (N := 13) hx hb hg iX2 hown hK hP 0 rfl rfl 2 (by decide) (hg _ kw132) (fun _ h9 => h9) rfl dX2_cameInside_111 ?_
                  refine lv_iload_n hx hb dX2_cameInside_114 rfl (lv_at hl 4 rfl) ?_
                  refine va_iald hx hb hK hP 3 0 rfl rfl (vp_in_nI (n := 1) (by decide) (by decide)) dX2_cameInside_115 ?_
                  refine tp_i (y := ar 1) (congrArg ar (rfl)) ?_
                  refine lv_if_le (tgt := 123) hx hb dX2_cameInside_116 (by decide) (fun c116 => ?_) (fun c116 => ?_)
                  · have c116n := Int32.not_lt.mpr c116
                    refine lv_iconst (v := 0) hx hb dX2_cameInside_123 (by decide) ?_
                    refine tp_i (y := bI (leB (og 1 * lw + di 1 * lv) ((hi (i * 3 + 1)) * lw) (ar 1))) (by simp [bI, leB, c7, c128, c133, c100, c100n, c107, c116, c116n]) ?_
                    exact J_8
                  · have c116n := Int32.not_le.mp c116
                    refine lv_iconst (v := 1) hx hb dX2_cameInside_119 (by decide) ?_
                    refine lv_goto (tgt := 124) hx hb dX2_cameInside_120 (by decide) ?_
                    refine tp_i (y := bI (leB (og 1 * lw + di 1 * lv) ((hi (i * 3 + 1)) * lw) (ar 1))) (by simp [bI, leB, c7, c128, c133, c100, c100n, c107, c116, c116n]) ?_
                    exact J_8
            refine lv_iload hx hb dX2_cameInside_66 (lv_at hl 2 rfl) ?_
            refine lv_iload hx hb dX2_cameInside_68 (lv_at hl 1 rfl) ?_
            refine lv_icmp_gt (tgt := 89) hx hb dX2_cameInside_70 (by decide) (fun c70 => ?_) (fun c70 => ?_)
            · have c70n := Int32.not_le.mpr c70
              refine lv_iconst (v := 1) hx hb dX2_cameInside_89 (by decide) ?_
              refine lv_goto (tgt := 94) hx hb dX2_cameInside_90 (by decide) ?_
              refine tp_i (y := bI (geB (og 1 * lw + di 1 * lv) ((lo (i * 3 + 1)) * lw) (ar 1))) (by simp [bI, geB, c7, c128, c133, c70, c70n]) ?_
              exact J_7
            · have c70n := Int32.not_lt.mp c70
              refine lv_iload hx hb dX2_cameInside_73 (lv_at hl 2 rfl) ?_
              refine lv_iload hx hb dX2_cameInside_75 (lv_at hl 1 rfl) ?_
              refine lv_icmp_ne (tgt := 93) hx hb dX2_cameInside_77 (by decide) (fun c77 => ?_) (fun c77 => ?_)
              · refine lv_iconst (v := 0) hx hb dX2_cameInside_93 (by decide) ?_
                refine tp_i (y := bI (geB (og 1 * lw + di 1 * lv) ((lo (i * 3 + 1)) * lw) (ar 1))) (by simp [bI, geB, c7, c128, c133, c70, c70n, c77]) ?_
                exact J_7
              · refine lv_aload_n hx hb dX2_cameInside_80 rfl (lv_at hl 6 rfl) ?_
                refine va_get (D := D) (ci := 2) (v := .ref a3) (C := RX2) (T := TX2) (N := 13) hx hb hg iX2 hown hK hP 0 rfl rfl 2 (by decide) (hg _ kw132) (fun _ h9 => h9) rfl dX2_cameInside_81 ?_
                refine lv_iload_n hx hb dX2_cameInside_84 rfl (lv_at hl 3 rfl) ?_
                refine va_iald hx hb hK hP 3 0 rfl rfl (vp_in_nI (n := 1) (by decide) (by decide)) dX2_cameInside_85 ?_
                refine tp_i (y := ar 1) (congrArg ar (rfl)) ?_
                refine lv_if_ge (tgt := 93) hx hb dX2_cameInside_86 (by decide) (fun c86 => ?_) (fun c86 => ?_)
                · have c86n := Int32.not_lt.mpr c86
                  refine lv_iconst (v := 0) hx hb dX2_cameInside_93 (by decide) ?_
                  refine tp_i (y := bI (geB (og 1 * lw + di 1 * lv) ((lo (i * 3 + 1)) * lw) (ar 1))) (by simp [bI, geB, c7, c128, c133, c70, c70n, c77, c86, c86n]) ?_
                  exact J_7
                · have c86n := Int32.not_le.mp c86
                  refine lv_iconst (v := 1) hx hb dX2_cameInside_89 (by decide) ?_
                  refine lv_goto (tgt := 94) hx hb dX2_cameInside_90 (by decide) ?_
                  refine tp_i (y := bI (geB (og 1 * lw + di 1 * lv) ((lo (i * 3 + 1)) * lw) (ar 1))) (by simp [bI, geB, c7, c128, c133, c70, c70n, c77, c86, c86n]) ?_
                  exact J_7
          · replace c133 := bI_f c133
            refine lv_iconst (v := 0) hx hb dX2_cameInside_136 (by decide) ?_
            exact W.zret (v := 0) hx hb hr (by decide) (fun t ht hW => ⟨congrArg (fun z => Outcome.returned (some (Value.int z))) (by simp [bI, cameB, cameK, c7, c128, c133]), ht⟩) (fun q hq => nomatch hq) dX2_cameInside_137
      refine lv_iload hx hb dX2_cameInside_96 (lv_at hl 3 rfl) ?_
      refine lv_iload hx hb dX2_cameInside_98 (lv_at hl 1 rfl) ?_
      refine lv_icmp_lt (tgt := 119) hx hb dX2_cameInside_100 (by decide) (fun c100 => ?_) (fun c100 => ?_)
      · have c100n := Int32.not_le.mpr c100
        refine lv_iconst (v := 1) hx hb dX2_cameInside_119 (by decide) ?_
        refine lv_goto (tgt := 124) hx hb dX2_cameInside_120 (by decide) ?_
        refine tp_i (y := bI (leB (og 0 * lw + di 0 * lv) ((hi (i * 3)) * lw) (ar 0))) (by simp [bI, leB, c7, c100, c100n]) ?_
        exact J_6
      · have c100n := Int32.not_lt.mp c100
        refine lv_iload hx hb dX2_cameInside_103 (lv_at hl 3 rfl) ?_
        refine lv_iload hx hb dX2_cameInside_105 (lv_at hl 1 rfl) ?_
        refine lv_icmp_ne (tgt := 123) hx hb dX2_cameInside_107 (by decide) (fun c107 => ?_) (fun c107 => ?_)
        · refine lv_iconst (v := 0) hx hb dX2_cameInside_123 (by decide) ?_
          refine tp_i (y := bI (leB (og 0 * lw + di 0 * lv) ((hi (i * 3)) * lw) (ar 0))) (by simp [bI, leB, c7, c100, c100n, c107]) ?_
          exact J_6
        · refine lv_aload_n hx hb dX2_cameInside_110 rfl (lv_at hl 5 rfl) ?_
          refine va_get (D := D) (ci := 2) (v := .ref a3) (C := RX2) (T := TX2) (N := 13) hx hb hg iX2 hown hK hP 0 rfl rfl 2 (by decide) (hg _ kw132) (fun _ h9 => h9) rfl dX2_cameInside_111 ?_
          refine lv_iload_n hx hb dX2_cameInside_114 rfl (lv_at hl 4 rfl) ?_
          refine va_iald hx hb hK hP 3 0 rfl rfl (vp_in_nI (n := 0) (by decide) (by decide)) dX2_cameInside_115 ?_
          refine tp_i (y := ar 0) (congrArg ar (rfl)) ?_
          refine lv_if_le (tgt := 123) hx hb dX2_cameInside_116 (by decide) (fun c116 => ?_) (fun c116 => ?_)
          · have c116n := Int32.not_lt.mpr c116
            refine lv_iconst (v := 0) hx hb dX2_cameInside_123 (by decide) ?_
            refine tp_i (y := bI (leB (og 0 * lw + di 0 * lv) ((hi (i * 3)) * lw) (ar 0))) (by simp [bI, leB, c7, c100, c100n, c107, c116, c116n]) ?_
            exact J_6
          · have c116n := Int32.not_le.mp c116
            refine lv_iconst (v := 1) hx hb dX2_cameInside_119 (by decide) ?_
            refine lv_goto (tgt := 124) hx hb dX2_cameInside_120 (by decide) ?_
            refine tp_i (y := bI (leB (og 0 * lw + di 0 * lv) ((hi (i * 3)) * lw) (ar 0))) (by simp [bI, leB, c7, c100, c100n, c107, c116, c116n]) ?_
            exact J_6
    refine lv_iload hx hb dX2_cameInside_66 (lv_at hl 2 rfl) ?_
    refine lv_iload hx hb dX2_cameInside_68 (lv_at hl 1 rfl) ?_
    refine lv_icmp_gt (tgt := 89) hx hb dX2_cameInside_70 (by decide) (fun c70 => ?_) (fun c70 => ?_)
    · have c70n := Int32.not_le.mpr c70
      refine lv_iconst (v := 1) hx hb dX2_cameInside_89 (by decide) ?_
      refine lv_goto (tgt := 94) hx hb dX2_cameInside_90 (by decide) ?_
      refine tp_i (y := bI (geB (og 0 * lw + di 0 * lv) ((lo (i * 3)) * lw) (ar 0))) (by simp [bI, geB, c7, c70, c70n]) ?_
      exact J_5
    · have c70n := Int32.not_lt.mp c70
      refine lv_iload hx hb dX2_cameInside_73 (lv_at hl 2 rfl) ?_
      refine lv_iload hx hb dX2_cameInside_75 (lv_at hl 1 rfl) ?_
      refine lv_icmp_ne (tgt := 93) hx hb dX2_cameInside_77 (by decide) (fun c77 => ?_) (fun c77 => ?_)
      · refine lv_iconst (v := 0) hx hb dX2_cameInside_93 (by decide) ?_
        refine tp_i (y := bI (geB (og 0 * lw + di 0 * lv) ((lo (i * 3)) * lw) (ar 0))) (by simp [bI, geB, c7, c70, c70n, c77]) ?_
        exact J_5
      · refine lv_aload_n hx hb dX2_cameInside_80 rfl (lv_at hl 4 rfl) ?_
        refine va_get (D := D) (ci := 2) (v := .ref a3) (C := RX2) (T := TX2) (N := 13) hx hb hg iX2 hown hK hP 0 rfl rfl 2 (by decide) (hg _ kw132) (fun _ h9 => h9) rfl dX2_cameInside_81 ?_
        refine lv_iload_n hx hb dX2_cameInside_84 rfl (lv_at hl 3 rfl) ?_
        refine va_iald hx hb hK hP 3 0 rfl rfl (vp_in_nI (n := 0) (by decide) (by decide)) dX2_cameInside_85 ?_
        refine tp_i (y := ar 0) (congrArg ar (rfl)) ?_
        refine lv_if_ge (tgt := 93) hx hb dX2_cameInside_86 (by decide) (fun c86 => ?_) (fun c86 => ?_)
        · have c86n := Int32.not_lt.mpr c86
          refine lv_iconst (v := 0) hx hb dX2_cameInside_93 (by decide) ?_
          refine tp_i (y := bI (geB (og 0 * lw + di 0 * lv) ((lo (i * 3)) * lw) (ar 0))) (by simp [bI, geB, c7, c70, c70n, c77, c86, c86n]) ?_
          exact J_5
        · have c86n := Int32.not_le.mp c86
          refine lv_iconst (v := 1) hx hb dX2_cameInside_89 (by decide) ?_
          refine lv_goto (tgt := 94) hx hb dX2_cameInside_90 (by decide) ?_
          refine tp_i (y := bI (geB (og 0 * lw + di 0 * lv) ((lo (i * 3)) * lw) (ar 0))) (by simp [bI, geB, c7, c70, c70n, c77, c86, c86n]) ?_
          exact J_5
  · refine lv_iconst (v := 0) hx hb dX2_cameInside_10 (by decide) ?_
    exact W.zret (v := 0) hx hb hr (by decide) (fun t ht hW => ⟨congrArg (fun z => Outcome.returned (some (Value.int z))) (by simp [bI, cameB, cameK, c7]), ht⟩) (fun q hq => nomatch hq) dX2_cameInside_11
end
section
set_option maxHeartbeats 4000000 in
set_option maxRecDepth 100000 in
/-- Path.countsNow -/
theorem qX2_countsNow (l : Launch) (D : va_G) (cI cZ cJ : ClassId) (a0 a1 a2 a3 a4 a5 a6 a7 a8 a9 a10 a11 : Nat) (b0 b1 b2 b3 b4 b5 : Nat) (og di ar ho hx9 ha hl9 hs : Nat → Int32) (lb la lv lw nb9 na nv nw ta tv tw : Int32) (nh0 li : Int32) (lo hi ki sh of : Nat → Int32) (cn : Int32) (i : Nat) (hi2 : i < 20) : Met l yX2_countsNow (Cond.code yX2_countsNow cX2_countsNow 3 (some .boolean) :: gw) ({ frames := 2, cells := 0, slots := 0, locals := 49 }) (pq D [.ref a0, .ref b0] [(a0, .inr (2, [.ref a1, .ref a2, .ref a3, .ref a4, .ref a5, .ref a6, .ref a7, .ref a8, .ref a9, .ref a10, .ref a11, .int nh0, .int li])), (a1, .inl (cI, 3, .inl og)), (a2, .inl (cI, 3, .inl di)), (a3, .inl (cI, 3, .inl ar)), (a4, .inl (cI, 30, .inl ho)), (a5, .inl (cI, 30, .inl hx9)), (a6, .inl (cI, 30, .inl ha)), (a7, .inl (cI, 30, .inl hl9)), (a8, .inl (cI, 90, .inl hs)), (a9, .inr (1, [.int lb, .int la, .int lv, .int lw])), (a10, .inr (1, [.int nb9, .int na, .int nv, .int nw])), (a11, .inr (1, [.int (nI i), .int ta, .int tv, .int tw])), (b0, .inr (0, [.ref b1, .ref b2, .ref b3, .ref b4, .ref b5, .int cn])), (b1, .inl (cI, 60, .inl lo)), (b2, .inl (cI, 60, .inl hi)), (b3, .inl (cI, 20, .inl ki)), (b4, .inl (cI, 20, .inl sh)), (b5, .inl (cZ, 20, .inl of))] [(cI, .int), (cZ, .boolean), (cJ, .long)]) (QcRead (bI (countsB lo hi og di ar lb lv lw tv tw i))) 0 0 (fun _ => False) := by
  refine Met.ofW (cc := cX2_countsNow) (maxL := 3) (ret := (some .boolean)) (by decide) rfl ?_
  intro p e s m args below meth c s₁ B hml hv
  obtain ⟨rfl, hP, hK, hZ⟩ := hv
  have hx := B.exec
  have hb := B.bytes
  have hr := B.returns
  have hg : ∀ w ∈ gw, w.before _ s = true := fun w h => atoms_spec (ws := Cond.code yX2_countsNow cX2_countsNow 3 (some .boolean) :: gw) B.pre w (List.mem_cons_of_mem _ h)
  have hown : s.vm.findClass RX2 = some m.cls := findClass_of_methodNamed B.named
  have hlocks := B.notSynchronized
  have hP : va_P D vwCl [(a0, .inr (2, [.ref a1, .ref a2, .ref a3, .ref a4, .ref a5, .ref a6, .ref a7, .ref a8, .ref a9, .ref a10, .ref a11, .int nh0, .int li])), (a1, .inl (cI, 3, .inl og)), (a2, .inl (cI, 3, .inl di)), (a3, .inl (cI, 3, .inl ar)), (a4, .inl (cI, 30, .inl ho)), (a5, .inl (cI, 30, .inl hx9)), (a6, .inl (cI, 30, .inl ha)), (a7, .inl (cI, 30, .inl hl9)), (a8, .inl (cI, 90, .inl hs)), (a9, .inr (1, [.int lb, .int la, .int lv, .int lw])), (a10, .inr (1, [.int nb9, .int na, .int nv, .int nw])), (a11, .inr (1, [.int (nI i), .int ta, .int tv, .int tw])), (b0, .inr (0, [.ref b1, .ref b2, .ref b3, .ref b4, .ref b5, .int cn])), (b1, .inl (cI, 60, .inl lo)), (b2, .inl (cI, 60, .inl hi)), (b3, .inl (cI, 20, .inl ki)), (b4, .inl (cI, 20, .inl sh)), (b5, .inl (cZ, 20, .inl of))] s.heap := hP
  have hl := lv_entry ([.ref a0, .ref b0]) (n := 3) (Nat.le_of_ble_eq_true rfl)
  rw [lg_entry_eq]
  generalize (lg_sl ([.ref a0, .ref b0]) ++ List.replicate (3 - (lg_sl ([.ref a0, .ref b0])).length) Slot.unset).toArray = ls at hl ⊢
  have hl : lv_has ls 3 [(0, .ref a0), (1, .ref b0)] := hl
  refine lv_aload_n hx hb dX2_countsNow_0 rfl (lv_at hl 0 rfl) ?_
  refine va_get (D := D) (ci := 2) (v := .ref a11) (C := RX2) (T := TX2) (N := 13) hx hb hg iX2 hown hK hP 0 rfl rfl 10 (by decide) (hg _ kw145) (fun _ h9 => h9) rfl dX2_countsNow_1 ?_
  refine lv_aload_n hx hb dX2_countsNow_4 rfl (lv_at hl 0 rfl) ?_
  refine va_get (D := D) (ci := 2) (v := .ref a9) (C := RX2) (T := TX2) (N := 13) hx hb hg iX2 hown hK hP 0 rfl rfl 8 (by decide) (hg _ kw143) (fun _ h9 => h9) rfl dX2_countsNow_5 ?_
  have hPc := hP.sub (ws' := [(a11, .inr (1, [.int (nI i), .int ta, .int tv, .int tw])), (a9, .inr (1, [.int lb, .int la, .int lv, .int lw]))]) [11, 9] rfl
  refine rq_call (va_runVN (As := [.ref a9]) (rest := []) ⟨hx, hb, hml, hown, hg⟩ (qX1_compareTime l D cI cZ cJ a11 a9 (nI i) ta tv tw lb la lv lw) ⟨va_cnB 1 hg (gw_in kw386) rfl rfl rfl (nzM_9 hZ) (hg _ kw40) (by decide +kernel) ⟨Nat.le_of_ble_eq_true rfl, Nat.le_of_ble_eq_true rfl⟩, hg _ kw385, hg _ kw13⟩ (pq_preV hPc hK hZ (va_recv hK hPc (ci := 1) (q0 := 0) rfl rfl)) rfl rfl hl.1 rfl (lv_room (Nat.le_of_ble_eq_true rfl)) dX2_countsNow_8 ⟨Nat.le_of_ble_eq_true rfl, Nat.le_of_ble_eq_true rfl⟩) ?_
  refine lv_istore_n (lv' := [(2, .int (cmpI (tv * lw) (lv * tw))), (0, .ref a0), (1, .ref b0)]) hx hb dX2_countsNow_11 rfl hl (by decide) rfl (fun ls hl => ?_)
  refine lv_iload_n hx hb dX2_countsNow_12 rfl (lv_at hl 0 rfl) ?_
  refine lv_if_eq (tgt := 26) hx hb dX2_countsNow_13 (by decide) (fun c13 => ?_) (fun c13 => ?_)
  · refine lv_aload_n hx hb dX2_countsNow_26 rfl (lv_at hl 1 rfl) ?_
    refine va_get (D := D) (ci := 2) (v := .ref a11) (C := RX2) (T := TX2) (N := 13) hx hb hg iX2 hown hK hP 0 rfl rfl 10 (by decide) (hg _ kw145) (fun _ h9 => h9) rfl dX2_countsNow_27 ?_
    refine va_getN (D := D) (ci := 1) (v := .int (nI i)) (C := RX1) (T := TX1) (N := 4) hx hb hg iX1 hown hK hP 11 rfl rfl 0 (by decide) (va_Nw.use rfl (nzF_10 hZ)) (fun _ h9 => h9) rfl dX2_countsNow_30 ?_
    refine lv_aload_n hx hb dX2_countsNow_33 rfl (lv_at hl 1 rfl) ?_
    refine va_get (D := D) (ci := 2) (v := .ref a9) (C := RX2) (T := TX2) (N := 13) hx hb hg iX2 hown hK hP 0 rfl rfl 8 (by decide) (hg _ kw143) (fun _ h9 => h9) rfl dX2_countsNow_34 ?_
    refine va_getN (D := D) (ci := 1) (v := .int lb) (C := RX1) (T := TX1) (N := 4) hx hb hg iX1 hown hK hP 9 rfl rfl 0 (by decide) (va_Nw.use rfl (nzF_10 hZ)) (fun _ h9 => h9) rfl dX2_countsNow_37 ?_
    refine lv_icmp_le (tgt := 62) hx hb dX2_countsNow_40 (by decide) (fun c40 => ?_) (fun c40 => ?_)
    · have c40n := Int32.not_lt.mpr c40
      refine lv_iconst (v := 0) hx hb dX2_countsNow_62 (by decide) ?_
      exact W.zret (v := 0) hx hb hr (by decide) (fun t ht hW => ⟨congrArg (fun z => Outcome.returned (some (Value.int z))) (by simp [bI, countsB, c13, c40, c40n]), ht⟩) (fun q hq => nomatch hq) dX2_countsNow_63
    · have c40n := Int32.not_le.mp c40
      refine lv_aload_n hx hb dX2_countsNow_43 rfl (lv_at hl 1 rfl) ?_
      refine lv_aload_n hx hb dX2_countsNow_44 rfl (lv_at hl 2 rfl) ?_
      refine lv_aload_n hx hb dX2_countsNow_45 rfl (lv_at hl 1 rfl) ?_
      refine va_get (D := D) (ci := 2) (v := .ref a11) (C := RX2) (T := TX2) (N := 13) hx hb hg iX2 hown hK hP 0 rfl rfl 10 (by decide) (hg _ kw145) (fun _ h9 => h9) rfl dX2_countsNow_46 ?_
      refine va_getN (D := D) (ci := 1) (v := .int (nI i)) (C := RX1) (T := TX1) (N := 4) hx hb hg iX1 hown hK hP 11 rfl rfl 0 (by decide) (va_Nw.use rfl (nzF_10 hZ)) (fun _ h9 => h9) rfl dX2_countsNow_49 ?_
      have hPc := hP.sub (ws' := [(a0, .inr (2, [.ref a1, .ref a2, .ref a3, .ref a4, .ref a5, .ref a6, .ref a7, .ref a8, .ref a9, .ref a10, .ref a11, .int nh0, .int li])), (a1, .inl (cI, 3, .inl og)), (a2, .inl (cI, 3, .inl di)), (a3, .inl (cI, 3, .inl ar)), (a4, .inl (cI, 30, .inl ho)), (a5, .inl (cI, 30, .inl hx9)), (a6, .inl (cI, 30, .inl ha)), (a7, .inl (cI, 30, .inl hl9)), (a8, .inl (cI, 90, .inl hs)), (a9, .inr (1, [.int lb, .int la, .int lv, .int lw])), (a10, .inr (1, [.int nb9, .int na, .int nv, .int nw])), (a11, .inr (1, [.int (nI i), .int ta, .int tv, .int tw])), (b0, .inr (0, [.ref b1, .ref b2, .ref b3, .ref b4, .ref b5, .int cn])), (b1, .inl (cI, 60, .inl lo)), (b2, .inl (cI, 60, .inl hi)), (b3, .inl (cI, 20, .inl ki)), (b4, .inl (cI, 20, .inl sh)), (b5, .inl (cZ, 20, .inl of))]) [0, 1, 2, 3, 4, 5, 6, 7, 8, 9, 10, 11, 12, 13, 14, 15, 16, 17] rfl
      refine rq_call (va_runV (As := [.ref b0, .int (nI i)]) (rest := []) ⟨hx, hb, hml, hown, hg⟩ (qX2_cameInside l D cI cZ cJ a0 a1 a2 a3 a4 a5 a6 a7 a8 a9 a10 a11 b0 b1 b2 b3 b4 b5 og di ar ho hx9 ha hl9 hs lb la lv lw nb9 na nv nw (nI i) ta tv tw nh0 li lo hi ki sh of cn i hi2) (cwV 2 hg (gw_V kw390 kw392 kw14 kw39 kw393) rfl rfl rfl (by decide +kernel) ⟨Nat.le_of_ble_eq_true rfl, Nat.le_of_ble_eq_true rfl⟩) (pq_preV hPc hK hZ (va_recv hK hPc (ci := 2) (q0 := 0) rfl rfl)) rfl rfl hl.1 rfl (lv_room (Nat.le_of_ble_eq_true rfl)) dX2_countsNow_52 ⟨Nat.le_of_ble_eq_true rfl, Nat.le_of_ble_eq_true rfl⟩) ?_
      refine lv_if_ne (tgt := 62) hx hb dX2_countsNow_55 (by decide) (fun c55 => ?_) (fun c55 => ?_)
      · replace c55 := bI_t c55
        refine lv_iconst (v := 0) hx hb dX2_countsNow_62 (by decide) ?_
        exact W.zret (v := 0) hx hb hr (by decide) (fun t ht hW => ⟨congrArg (fun z => Outcome.returned (some (Value.int z))) (by simp [bI, countsB, c13, c40, c40n, c55]), ht⟩) (fun q hq => nomatch hq) dX2_countsNow_63
      · replace c55 := bI_f c55
        refine lv_iconst (v := 1) hx hb dX2_countsNow_58 (by decide) ?_
        refine lv_goto (tgt := 63) hx hb dX2_countsNow_59 (by decide) ?_
        exact W.zret (v := 1) hx hb hr (by decide) (fun t ht hW => ⟨congrArg (fun z => Outcome.returned (some (Value.int z))) (by simp [bI, countsB, c13, c40, c40n, c55]), ht⟩) (fun q hq => nomatch hq) dX2_countsNow_63
  · refine lv_iload_n hx hb dX2_countsNow_16 rfl (lv_at hl 0 rfl) ?_
    refine lv_if_le (tgt := 24) hx hb dX2_countsNow_17 (by decide) (fun c17 => ?_) (fun c17 => ?_)
    · have c17n := Int32.not_lt.mpr c17
      refine lv_iconst (v := 0) hx hb dX2_countsNow_24 (by decide) ?_
      exact W.zret (v := 0) hx hb hr (by decide) (fun t ht hW => ⟨congrArg (fun z => Outcome.returned (some (Value.int z))) (by simp [bI, countsB, c13, c17, c17n]), ht⟩) (fun q hq => nomatch hq) dX2_countsNow_25
    · have c17n := Int32.not_le.mp c17
      refine lv_iconst (v := 1) hx hb dX2_countsNow_20 (by decide) ?_
      refine lv_goto (tgt := 25) hx hb dX2_countsNow_21 (by decide) ?_
      exact W.zret (v := 1) hx hb hr (by decide) (fun t ht hW => ⟨congrArg (fun z => Outcome.returned (some (Value.int z))) (by simp [bI, countsB, c13, c17, c17n]), ht⟩) (fun q hq => nomatch hq) dX2_countsNow_25
end
section
set_option maxHeartbeats 4000000 in
set_option maxRecDepth 100000 in
/-- Path.begin -/
theorem qX2_begin (l : Launch) (D : va_G) (cI cZ cJ : ClassId) (a0 a1 a2 a3 a4 a5 a6 a7 a8 a9 a10 a11 : Nat) (og : Nat → Int32) (lb la lv lw nh0 li x y z : Int32) (sz : Nat) : Met l yX2_begin (Cond.code yX2_begin cX2_begin 4 none :: gw) ({ frames := 1, cells := 0, slots := 0, locals := 24 }) (wq D [.ref a0, .int x, .int y, .int z] sz [(a0, .inr (2, [.ref a1, .ref a2, .ref a3, .ref a4, .ref a5, .ref a6, .ref a7, .ref a8, .ref a9, .ref a10, .ref a11, .int nh0, .int li])), (a1, .inl (cI, 3, .inl og)), (a9, .inr (1, [.int lb, .int la, .int lv, .int lw]))] [(cI, .int), (cZ, .boolean), (cJ, .long)]) (va_Qv (S := Unit) (fun _ => True) (fun u => bq D [(cI, .int), (cZ, .boolean), (cJ, .long)] (va_A [(a0, .inr (2, [.ref a1, .ref a2, .ref a3, .ref a4, .ref a5, .ref a6, .ref a7, .ref a8, .ref a9, .ref a10, .ref a11, .int nh0, .int li])), (a1, .inl (cI, 3, .inl og)), (a9, .inr (1, [.int lb, .int la, .int lv, .int lw]))] sz) ([(a0, .inr (2, [.ref a1, .ref a2, .ref a3, .ref a4, .ref a5, .ref a6, .ref a7, .ref a8, .ref a9, .ref a10, .ref a11, .int 0, .int 1000000])), (a1, .inl (cI, 3, .inl (upd (upd (upd og 0 x) 1 y) 2 z))), (a9, .inr (1, [.int (-1), .int (-1), .int 0, .int 1]))])) (va_A [(a0, .inr (2, [.ref a1, .ref a2, .ref a3, .ref a4, .ref a5, .ref a6, .ref a7, .ref a8, .ref a9, .ref a10, .ref a11, .int nh0, .int li])), (a1, .inl (cI, 3, .inl og)), (a9, .inr (1, [.int lb, .int la, .int lv, .int lw]))] sz)) 0 0 (va_A [(a0, .inr (2, [.ref a1, .ref a2, .ref a3, .ref a4, .ref a5, .ref a6, .ref a7, .ref a8, .ref a9, .ref a10, .ref a11, .int nh0, .int li])), (a1, .inl (cI, 3, .inl og)), (a9, .inr (1, [.int lb, .int la, .int lv, .int lw]))] sz) := by
  refine Met.ofW (cc := cX2_begin) (maxL := 4) (ret := none) (by decide) rfl ?_
  intro p e s m args below meth c s₁ B hml hv
  obtain ⟨rfl, hsz, hP, hK, hD0, hZ⟩ := hv
  have hx := B.exec
  have hb := B.bytes
  have hr := B.returns
  have hg : ∀ w ∈ gw, w.before _ s = true := fun w h => atoms_spec (ws := Cond.code yX2_begin cX2_begin 4 none :: gw) B.pre w (List.mem_cons_of_mem _ h)
  have hown : s.vm.findClass RX2 = some m.cls := findClass_of_methodNamed B.named
  have hlocks := B.notSynchronized
  subst hsz
  have hD := hD0.self (sz := s.heap.size)
  generalize hAe : va_A [(a0, .inr (2, [.ref a1, .ref a2, .ref a3, .ref a4, .ref a5, .ref a6, .ref a7, .ref a8, .ref a9, .ref a10, .ref a11, .int nh0, .int li])), (a1, .inl (cI, 3, .inl og)), (a9, .inr (1, [.int lb, .int la, .int lv, .int lw]))] s.heap.size = A at hD ⊢
  have hA : ∀ q : Nat, s.heap.size ≤ q → A q := fun q h => by rw [← hAe]; exact Or.inr h
  have hS : va_S A s.heap s.heap [] := va_S.rf
  have hP : va_P D vwCl [(a0, .inr (2, [.ref a1, .ref a2, .ref a3, .ref a4, .ref a5, .ref a6, .ref a7, .ref a8, .ref a9, .ref a10, .ref a11, .int nh0, .int li])), (a1, .inl (cI, 3, .inl og)), (a9, .inr (1, [.int lb, .int la, .int lv, .int lw]))] s.heap := hP
  have hl := lv_entry ([.ref a0, .int x, .int y, .int z]) (n := 4) (Nat.le_of_ble_eq_true rfl)
  rw [lg_entry_eq]
  generalize (lg_sl ([.ref a0, .int x, .int y, .int z]) ++ List.replicate (4 - (lg_sl ([.ref a0, .int x, .int y, .int z])).length) Slot.unset).toArray = ls at hl ⊢
  have hl : lv_has ls 4 [(0, .ref a0), (1, .int x), (2, .int y), (3, .int z)] := hl
  refine lv_aload_n hx hb dX2_begin_0 rfl (lv_at hl 0 rfl) ?_
  refine va_get (D := D) (ci := 2) (v := .ref a1) (C := RX2) (T := TX2) (N := 13) hx hb hg iX2 hown hK hP 0 rfl rfl 0 (by decide) (hg _ kw129) (fun _ h9 => h9) rfl dX2_begin_1 ?_
  refine lv_iconst (v := 0) hx hb dX2_begin_4 (by decide) ?_
  refine lv_iload_n hx hb dX2_begin_5 rfl (lv_at hl 1 rfl) ?_
  refine va_iast hx hb hK hP hD hS 1 0 rfl rfl (vp_in_nI (n := 0) (by decide) (by decide)) dX2_begin_6 (fun H locs hP hD hS => ?_)
  rw [show (0 : Int32).toNatClampNeg = 0 from rfl] at hP hD
  have hP : va_P D vwCl [(a0, .inr (2, [.ref a1, .ref a2, .ref a3, .ref a4, .ref a5, .ref a6, .ref a7, .ref a8, .ref a9, .ref a10, .ref a11, .int nh0, .int li])), (a1, .inl (cI, 3, .inl (upd og 0 x))), (a9, .inr (1, [.int lb, .int la, .int lv, .int lw]))] H := hP
  have hD : va_D A [(a0, .inr (2, [.ref a1, .ref a2, .ref a3, .ref a4, .ref a5, .ref a6, .ref a7, .ref a8, .ref a9, .ref a10, .ref a11, .int nh0, .int li])), (a1, .inl (cI, 3, .inl (upd og 0 x))), (a9, .inr (1, [.int lb, .int la, .int lv, .int lw]))] := hD
  refine lv_aload_n hx hb dX2_begin_7 rfl (lv_at hl 0 rfl) ?_
  refine va_get (D := D) (ci := 2) (v := .ref a1) (C := RX2) (T := TX2) (N := 13) hx hb hg iX2 hown hK hP 0 rfl rfl 0 (by decide) (hg _ kw129) (fun _ h9 => h9) rfl dX2_begin_8 ?_
  refine lv_iconst (v := 1) hx hb dX2_begin_11 (by decide) ?_
  refine lv_iload_n hx hb dX2_begin_12 rfl (lv_at hl 2 rfl) ?_
  refine va_iast hx hb hK hP hD hS 1 0 rfl rfl (vp_in_nI (n := 1) (by decide) (by decide)) dX2_begin_13 (fun H locs hP hD hS => ?_)
  rw [show (1 : Int32).toNatClampNeg = 1 from rfl] at hP hD
  have hP : va_P D vwCl [(a0, .inr (2, [.ref a1, .ref a2, .ref a3, .ref a4, .ref a5, .ref a6, .ref a7, .ref a8, .ref a9, .ref a10, .ref a11, .int nh0, .int li])), (a1, .inl (cI, 3, .inl (upd (upd og 0 x) 1 y))), (a9, .inr (1, [.int lb, .int la, .int lv, .int lw]))] H := hP
  have hD : va_D A [(a0, .inr (2, [.ref a1, .ref a2, .ref a3, .ref a4, .ref a5, .ref a6, .ref a7, .ref a8, .ref a9, .ref a10, .ref a11, .int nh0, .int li])), (a1, .inl (cI, 3, .inl (upd (upd og 0 x) 1 y))), (a9, .inr (1, [.int lb, .int la, .int lv, .int lw]))] := hD
  refine lv_aload_n hx hb dX2_begin_14 rfl (lv_at hl 0 rfl) ?_
  refine va_get (D := D) (ci := 2) (v := .ref a1) (C := RX2) (T := TX2) (N := 13) hx hb hg iX2 hown hK hP 0 rfl rfl 0 (by decide) (hg _ kw129) (fun _ h9 => h9) rfl dX2_begin_15 ?_
  refine lv_iconst (v := 2) hx hb dX2_begin_18 (by decide) ?_
  refine lv_iload_n hx hb dX2_begin_19 rfl (lv_at hl 3 rfl) ?_
  refine va_iast hx hb hK hP hD hS 1 0 rfl rfl (vp_in_nI (n := 2) (by decide) (by decide)) dX2_begin_20 (fun H locs hP hD hS => ?_)
  rw [show (2 : Int32).toNatClampNeg = 2 from rfl] at hP hD
  have hP : va_P D vwCl [(a0, .inr (2, [.ref a1, .ref a2, .ref a3, .ref a4, .ref a5, .ref a6, .ref a7, .ref a8, .ref a9, .ref a10, .ref a11, .int nh0, .int li])), (a1, .inl (cI, 3, .inl (upd (upd (upd og 0 x) 1 y) 2 z))), (a9, .inr (1, [.int lb, .int la, .int lv, .int lw]))] H := hP
  have hD : va_D A [(a0, .inr (2, [.ref a1, .ref a2, .ref a3, .ref a4, .ref a5, .ref a6, .ref a7, .ref a8, .ref a9, .ref a10, .ref a11, .int nh0, .int li])), (a1, .inl (cI, 3, .inl (upd (upd (upd og 0 x) 1 y) 2 z))), (a9, .inr (1, [.int lb, .int la, .int lv, .int lw]))] := hD
  refine lv_aload_n hx hb dX2_begin_21 rfl (lv_at hl 0 rfl) ?_
  refine lv_iconst (v := 0) hx hb dX2_begin_22 (by decide) ?_
  refine va_put (D := D) (ci := 2) (v := .int 0) (ty := .int) (C := RX2) (T := TX2) (N := 13) hx hb hg iX2 tyX2 tyX2_ok nmX2 hown hK hP hD hS 0 rfl rfl 11 (by decide) (hg _ kw146) (fun _ h9 => h9) rfl (by decide +kernel) rfl rfl (Nat.le_of_ble_eq_true rfl) dX2_begin_23 (fun H locs hP hD hS => ?_)
  have hP : va_P D vwCl [(a0, .inr (2, [.ref a1, .ref a2, .ref a3, .ref a4, .ref a5, .ref a6, .ref a7, .ref a8, .ref a9, .ref a10, .ref a11, .int 0, .int li])), (a1, .inl (cI, 3, .inl (upd (upd (upd og 0 x) 1 y) 2 z))), (a9, .inr (1, [.int lb, .int la, .int lv, .int lw]))] H := hP
  have hD : va_D A [(a0, .inr (2, [.ref a1, .ref a2, .ref a3, .ref a4, .ref a5, .ref a6, .ref a7, .ref a8, .ref a9, .ref a10, .ref a11, .int 0, .int li])), (a1, .inl (cI, 3, .inl (upd (upd (upd og 0 x) 1 y) 2 z))), (a9, .inr (1, [.int lb, .int la, .int lv, .int lw]))] := hD
  refine lv_aload_n hx hb dX2_begin_26 rfl (lv_at hl 0 rfl) ?_
  refine lv_ldc hx hb hown (hg _ kw347) dX2_begin_27 ?_
  refine va_put (D := D) (ci := 2) (v := .int 1000000) (ty := .int) (C := RX2) (T := TX2) (N := 13) hx hb hg iX2 tyX2 tyX2_ok nmX2 hown hK hP hD hS 0 rfl rfl 12 (by decide) (hg _ kw148) (fun _ h9 => h9) rfl (by decide +kernel) rfl rfl (Nat.le_of_ble_eq_true rfl) dX2_begin_29 (fun H locs hP hD hS => ?_)
  have hP : va_P D vwCl [(a0, .inr (2, [.ref a1, .ref a2, .ref a3, .ref a4, .ref a5, .ref a6, .ref a7, .ref a8, .ref a9, .ref a10, .ref a11, .int 0, .int 1000000])), (a1, .inl (cI, 3, .inl (upd (upd (upd og 0 x) 1 y) 2 z))), (a9, .inr (1, [.int lb, .int la, .int lv, .int lw]))] H := hP
  have hD : va_D A [(a0, .inr (2, [.ref a1, .ref a2, .ref a3, .ref a4, .ref a5, .ref a6, .ref a7, .ref a8, .ref a9, .ref a10, .ref a11, .int 0, .int 1000000])), (a1, .inl (cI, 3, .inl (upd (upd (upd og 0 x) 1 y) 2 z))), (a9, .inr (1, [.int lb, .int la, .int lv, .int lw]))] := hD
  refine lv_aload_n hx hb dX2_begin_32 rfl (lv_at hl 0 rfl) ?_
  refine va_get (D := D) (ci := 2) (v := .ref a9) (C := RX2) (T := TX2) (N := 13) hx hb hg iX2 hown hK hP 0 rfl rfl 8 (by decide) (hg _ kw143) (fun _ h9 => h9) rfl dX2_begin_33 ?_
  refine lv_iconst (v := (-1)) hx hb dX2_begin_36 (by decide) ?_
  refine lv_iconst (v := (-1)) hx hb dX2_begin_37 (by decide) ?_
  refine lv_iconst (v := 0) hx hb dX2_begin_38 (by decide) ?_
  refine lv_iconst (v := 1) hx hb dX2_begin_39 (by decide) ?_
  have hPc := hP.sub (ws' := [(a9, .inr (1, [.int lb, .int la, .int lv, .int lw]))]) [2] rfl
  have hDc := hD.sub (ws' := [(a9, .inr (1, [.int lb, .int la, .int lv, .int lw]))]) [2] (by decide) rfl
  have hFc := va_free (wc := [(a9, .inr (1, [.int lb, .int la, .int lv, .int lw]))]) hD hS hA [2] rfl
  refine va_callv (va_runVN (As := [.int (-1), .int (-1), .int 0, .int 1]) (rest := []) ⟨hx, hb, hml, hown, hg⟩ (qX1_set l D cI cZ cJ a9 lb la lv lw (-1) (-1) 0 1 H.size) ⟨va_cnB 4 hg (gw_in kw351) rfl rfl rfl (nzM_5 hZ) (hg _ kw40) (by decide +kernel) ⟨Nat.le_of_ble_eq_true rfl, Nat.le_of_ble_eq_true rfl⟩, hg _ kw350, hg _ kw5⟩ (wq_preV hPc hK hDc hZ (va_recv hK hPc (ci := 1) (q0 := 0) rfl rfl)) rfl rfl hl.1 rfl (lv_room (Nat.le_of_ble_eq_true rfl)) dX2_begin_40 ⟨Nat.le_of_ble_eq_true rfl, Nat.le_of_ble_eq_true rfl⟩) hS (fun q _ h => hFc q h) hFc (fun u t H locs ht hvm hw hB hz1 hk1 hS => ?_)
  obtain ⟨hP1, hK1, hD1⟩ := hB
  rw [ht] at hP1
  try dsimp only at hw hP1 hD1
  obtain ⟨hP, hD⟩ := va_join (wr := [(a0, .inr (2, [.ref a1, .ref a2, .ref a3, .ref a4, .ref a5, .ref a6, .ref a7, .ref a8, .ref a9, .ref a10, .ref a11, .int 0, .int 1000000])), (a1, .inl (cI, 3, .inl (upd (upd (upd og 0 x) 1 y) 2 z)))]) (w1 := [(a9, .inr (1, [.int (-1), .int (-1), .int 0, .int 1]))]) hP hD [2] [0, 1] rfl rfl (by decide) (by decide) hk1 hFc hP1 hD1
  replace hP := hP.sub (ws' := [(a0, .inr (2, [.ref a1, .ref a2, .ref a3, .ref a4, .ref a5, .ref a6, .ref a7, .ref a8, .ref a9, .ref a10, .ref a11, .int 0, .int 1000000])), (a1, .inl (cI, 3, .inl (upd (upd (upd og 0 x) 1 y) 2 z))), (a9, .inr (1, [.int (-1), .int (-1), .int 0, .int 1]))]) [0, 1, 2] rfl
  replace hD := hD.sub (ws' := [(a0, .inr (2, [.ref a1, .ref a2, .ref a3, .ref a4, .ref a5, .ref a6, .ref a7, .ref a8, .ref a9, .ref a10, .ref a11, .int 0, .int 1000000])), (a1, .inl (cI, 3, .inl (upd (upd (upd og 0 x) 1 y) 2 z))), (a9, .inr (1, [.int (-1), .int (-1), .int 0, .int 1]))]) [0, 1, 2] (by decide) rfl
  exact W.vret hx hb hr (fun t ht hW => ⟨⟨(), rfl, trivial, bq_end hP hK hD ht hW⟩, hS.F ht⟩) hS.2.2 dX2_begin_43

set_option maxHeartbeats 4000000 in
set_option maxRecDepth 100000 in
/-- Path.aim -/
theorem qX2_aim (l : Launch) (D : va_G) (cI cZ cJ : ClassId) (a0 a1 a2 a3 a4 a5 a6 a7 a8 a9 a10 a11 : Nat) (di : Nat → Int32) (nh0 li x y z : Int32) (sz : Nat) : Met l yX2_aim (Cond.code yX2_aim cX2_aim 4 none :: gw) ({ frames := 0, cells := 0, slots := 0, locals := 0 }) (wq D [.ref a0, .int x, .int y, .int z] sz [(a0, .inr (2, [.ref a1, .ref a2, .ref a3, .ref a4, .ref a5, .ref a6, .ref a7, .ref a8, .ref a9, .ref a10, .ref a11, .int nh0, .int li])), (a2, .inl (cI, 3, .inl di))] [(cI, .int), (cZ, .boolean), (cJ, .long)]) (va_Qv (S := Unit) (fun _ => True) (fun u => bq D [(cI, .int), (cZ, .boolean), (cJ, .long)] (va_A [(a0, .inr (2, [.ref a1, .ref a2, .ref a3, .ref a4, .ref a5, .ref a6, .ref a7, .ref a8, .ref a9, .ref a10, .ref a11, .int nh0, .int li])), (a2, .inl (cI, 3, .inl di))] sz) ([(a0, .inr (2, [.ref a1, .ref a2, .ref a3, .ref a4, .ref a5, .ref a6, .ref a7, .ref a8, .ref a9, .ref a10, .ref a11, .int nh0, .int li])), (a2, .inl (cI, 3, .inl (upd (upd (upd di 0 x) 1 y) 2 z)))])) (va_A [(a0, .inr (2, [.ref a1, .ref a2, .ref a3, .ref a4, .ref a5, .ref a6, .ref a7, .ref a8, .ref a9, .ref a10, .ref a11, .int nh0, .int li])), (a2, .inl (cI, 3, .inl di))] sz)) 0 0 (va_A [(a0, .inr (2, [.ref a1, .ref a2, .ref a3, .ref a4, .ref a5, .ref a6, .ref a7, .ref a8, .ref a9, .ref a10, .ref a11, .int nh0, .int li])), (a2, .inl (cI, 3, .inl di))] sz) := by
  refine Met.ofW (cc := cX2_aim) (maxL := 4) (ret := none) (by decide) rfl ?_
  intro p e s m args below meth c s₁ B hml hv
  obtain ⟨rfl, hsz, hP, hK, hD0, hZ⟩ := hv
  have hx := B.exec
  have hb := B.bytes
  have hr := B.returns
  have hg : ∀ w ∈ gw, w.before _ s = true := fun w h => atoms_spec (ws := Cond.code yX2_aim cX2_aim 4 none :: gw) B.pre w (List.mem_cons_of_mem _ h)
  have hown : s.vm.findClass RX2 = some m.cls := findClass_of_methodNamed B.named
  have hlocks := B.notSynchronized
  subst hsz
  have hD := hD0.self (sz := s.heap.size)
  generalize hAe : va_A [(a0, .inr (2, [.ref a1, .ref a2, .ref a3, .ref a4, .ref a5, .ref a6, .ref a7, .ref a8, .ref a9, .ref a10, .ref a11, .int nh0, .int li])), (a2, .inl (cI, 3, .inl di))] s.heap.size = A at hD ⊢
  have hA : ∀ q : Nat, s.heap.size ≤ q → A q := fun q h => by rw [← hAe]; exact Or.inr h
  have hS : va_S A s.heap s.heap [] := va_S.rf
  have hP : va_P D vwCl [(a0, .inr (2, [.ref a1, .ref a2, .ref a3, .ref a4, .ref a5, .ref a6, .ref a7, .ref a8, .ref a9, .ref a10, .ref a11, .int nh0, .int li])), (a2, .inl (cI, 3, .inl di))] s.heap := hP
  have hl := lv_entry ([.ref a0, .int x, .int y, .int z]) (n := 4) (Nat.le_of_ble_eq_true rfl)
  rw [lg_entry_eq]
  generalize (lg_sl ([.ref a0, .int x, .int y, .int z]) ++ List.replicate (4 - (lg_sl ([.ref a0, .int x, .int y, .int z])).length) Slot.unset).toArray = ls at hl ⊢
  have hl : lv_has ls 4 [(0, .ref a0), (1, .int x), (2, .int y), (3, .int z)] := hl
  refine lv_aload_n hx hb dX2_aim_0 rfl (lv_at hl 0 rfl) ?_
  refine va_get (D := D) (ci := 2) (v := .ref a2) (C := RX2) (T := TX2) (N := 13) hx hb hg iX2 hown hK hP 0 rfl rfl 1 (by decide) (hg _ kw130) (fun _ h9 => h9) rfl dX2_aim_1 ?_
  refine lv_iconst (v := 0) hx hb dX2_aim_4 (by decide) ?_
  refine lv_iload_n hx hb dX2_aim_5 rfl (lv_at hl 1 rfl) ?_
  refine va_iast hx hb hK hP hD hS 1 0 rfl rfl (vp_in_nI (n := 0) (by decide) (by decide)) dX2_aim_6 (fun H locs hP hD hS => ?_)
  rw [show (0 : Int32).toNatClampNeg = 0 from rfl] at hP hD
  have hP : va_P D vwCl [(a0, .inr (2, [.ref a1, .ref a2, .ref a3, .ref a4, .ref a5, .ref a6, .ref a7, .ref a8, .ref a9, .ref a10, .ref a11, .int nh0, .int li])), (a2, .inl (cI, 3, .inl (upd di 0 x)))] H := hP
  have hD : va_D A [(a0, .inr (2, [.ref a1, .ref a2, .ref a3, .ref a4, .ref a5, .ref a6, .ref a7, .ref a8, .ref a9, .ref a10, .ref a11, .int nh0, .int li])), (a2, .inl (cI, 3, .inl (upd di 0 x)))] := hD
  refine lv_aload_n hx hb dX2_aim_7 rfl (lv_at hl 0 rfl) ?_
  refine va_get (D := D) (ci := 2) (v := .ref a2) (C := RX2) (T := TX2) (N := 13) hx hb hg iX2 hown hK hP 0 rfl rfl 1 (by decide) (hg _ kw130) (fun _ h9 => h9) rfl dX2_aim_8 ?_
  refine lv_iconst (v := 1) hx hb dX2_aim_11 (by decide) ?_
  refine lv_iload_n hx hb dX2_aim_12 rfl (lv_at hl 2 rfl) ?_
  refine va_iast hx hb hK hP hD hS 1 0 rfl rfl (vp_in_nI (n := 1) (by decide) (by decide)) dX2_aim_13 (fun H locs hP hD hS => ?_)
  rw [show (1 : Int32).toNatClampNeg = 1 from rfl] at hP hD
  have hP : va_P D vwCl [(a0, .inr (2, [.ref a1, .ref a2, .ref a3, .ref a4, .ref a5, .ref a6, .ref a7, .ref a8, .ref a9, .ref a10, .ref a11, .int nh0, .int li])), (a2, .inl (cI, 3, .inl (upd (upd di 0 x) 1 y)))] H := hP
  have hD : va_D A [(a0, .inr (2, [.ref a1, .ref a2, .ref a3, .ref a4, .ref a5, .ref a6, .ref a7, .ref a8, .ref a9, .ref a10, .ref a11, .int nh0, .int li])), (a2, .inl (cI, 3, .inl (upd (upd di 0 x) 1 y)))] := hD
  refine lv_aload_n hx hb dX2_aim_14 rfl (lv_at hl 0 rfl) ?_
  refine va_get (D := D) (ci := 2) (v := .ref a2) (C := RX2) (T := TX2) (N := 13) hx hb hg iX2 hown hK hP 0 rfl rfl 1 (by decide) (hg _ kw130) (fun _ h9 => h9) rfl dX2_aim_15 ?_
  refine lv_iconst (v := 2) hx hb dX2_aim_18 (by decide) ?_
  refine lv_iload_n hx hb dX2_aim_19 rfl (lv_at hl 3 rfl) ?_
  refine va_iast hx hb hK hP hD hS 1 0 rfl rfl (vp_in_nI (n := 2) (by decide) (by decide)) dX2_aim_20 (fun H locs hP hD hS => ?_)
  rw [show (2 : Int32).toNatClampNeg = 2 from rfl] at hP hD
  have hP : va_P D vwCl [(a0, .inr (2, [.ref a1, .ref a2, .ref a3, .ref a4, .ref a5, .ref a6, .ref a7, .ref a8, .ref a9, .ref a10, .ref a11, .int nh0, .int li])), (a2, .inl (cI, 3, .inl (upd (upd (upd di 0 x) 1 y) 2 z)))] H := hP
  have hD : va_D A [(a0, .inr (2, [.ref a1, .ref a2, .ref a3, .ref a4, .ref a5, .ref a6, .ref a7, .ref a8, .ref a9, .ref a10, .ref a11, .int nh0, .int li])), (a2, .inl (cI, 3, .inl (upd (upd (upd di 0 x) 1 y) 2 z)))] := hD
  exact W.vret hx hb hr (fun t ht hW => ⟨⟨(), rfl, trivial, bq_end hP hK hD ht hW⟩, hS.F ht⟩) hS.2.2 dX2_aim_21

def mirF (lo hi di : Nat → Int32) (i k : Nat) : Int32 := if 0 < di k then lo (i * 3 + k) else hi (i * 3 + k)

set_option maxHeartbeats 4000000 in
set_option maxRecDepth 100000 in
/-- Path.turn -/
theorem qX2_turn (l : Launch) (D : va_G) (cI cZ cJ : ClassId) (a0 a1 a2 a3 a4 a5 a6 a7 a8 a9 a10 a11 : Nat) (b0 b1 b2 b3 b4 b5 : Nat) (og di lo hi : Nat → Int32) (lv lw nh0 li cn : Int32) (i k : Nat) (hi2 : i < 20) (hk : k < 3) (sz : Nat) : Met l yX2_turn (Cond.code yX2_turn cX2_turn 4 none :: gw) ({ frames := 0, cells := 0, slots := 0, locals := 0 }) (wq D [.ref a0, .ref b0] sz [(a0, .inr (2, [.ref a1, .ref a2, .ref a3, .ref a4, .ref a5, .ref a6, .ref a7, .ref a8, .ref a9, .ref a10, .ref a11, .int nh0, .int li])), (a1, .inl (cI, 3, .inl og)), (a2, .inl (cI, 3, .inl di)), (a9, .inr (1, [.int (nI i), .int (nI k), .int lv, .int lw])), (b0, .inr (0, [.ref b1, .ref b2, .ref b3, .ref b4, .ref b5, .int cn])), (b1, .inl (cI, 60, .inl lo)), (b2, .inl (cI, 60, .inl hi))] [(cI, .int), (cZ, .boolean), (cJ, .long)]) (va_Qv (S := Unit) (fun _ => True) (fun u => bq D [(cI, .int), (cZ, .boolean), (cJ, .long)] (va_A [(a0, .inr (2, [.ref a1, .ref a2, .ref a3, .ref a4, .ref a5, .ref a6, .ref a7, .ref a8, .ref a9, .ref a10, .ref a11, .int nh0, .int li])), (a1, .inl (cI, 3, .inl og)), (a2, .inl (cI, 3, .inl di)), (a9, .inr (1, [.int (nI i), .int (nI k), .int lv, .int lw])), (b0, .inr (0, [.ref b1, .ref b2, .ref b3, .ref b4, .ref b5, .int cn])), (b1, .inl (cI, 60, .inl lo)), (b2, .inl (cI, 60, .inl hi))] sz) ([(a0, .inr (2, [.ref a1, .ref a2, .ref a3, .ref a4, .ref a5, .ref a6, .ref a7, .ref a8, .ref a9, .ref a10, .ref a11, .int nh0, .int li])), (a1, .inl (cI, 3, .inl (upd og k (2 * mirF lo hi di i k - og k)))), (a2, .inl (cI, 3, .inl (upd di k (-(di k))))), (a9, .inr (1, [.int (nI i), .int (nI k), .int lv, .int lw])), (b0, .inr (0, [.ref b1, .ref b2, .ref b3, .ref b4, .ref b5, .int cn])), (b1, .inl (cI, 60, .inl lo)), (b2, .inl (cI, 60, .inl hi))])) (va_A [(a0, .inr (2, [.ref a1, .ref a2, .ref a3, .ref a4, .ref a5, .ref a6, .ref a7, .ref a8, .ref a9, .ref a10, .ref a11, .int nh0, .int li])), (a1, .inl (cI, 3, .inl og)), (a2, .inl (cI, 3, .inl di)), (a9, .inr (1, [.int (nI i), .int (nI k), .int lv, .int lw])), (b0, .inr (0, [.ref b1, .ref b2, .ref b3, .ref b4, .ref b5, .int cn])), (b1, .inl (cI, 60, .inl lo)), (b2, .inl (cI, 60, .inl hi))] sz)) 0 0 (va_A [(a0, .inr (2, [.ref a1, .ref a2, .ref a3, .ref a4, .ref a5, .ref a6, .ref a7, .ref a8, .ref a9, .ref a10, .ref a11, .int nh0, .int li])), (a1, .inl (cI, 3, .inl og)), (a2, .inl (cI, 3, .inl di)), (a9, .inr (1, [.int (nI i), .int (nI k), .int lv, .int lw])), (b0, .inr (0, [.ref b1, .ref b2, .ref b3, .ref b4, .ref b5, .int cn])), (b1, .inl (cI, 60, .inl lo)), (b2, .inl (cI, 60, .inl hi))] sz) := by
  refine Met.ofW (cc := cX2_turn) (maxL := 4) (ret := none) (by decide) rfl ?_
  intro p e s m args below meth c s₁ B hml hv
  obtain ⟨rfl, hsz, hP, hK, hD0, hZ⟩ := hv
  have hx := B.exec
  have hb := B.bytes
  have hr := B.returns
  have hg : ∀ w ∈ gw, w.before _ s = true := fun w h => atoms_spec (ws := Cond.code yX2_turn cX2_turn 4 none :: gw) B.pre w (List.mem_cons_of_mem _ h)
  have hown : s.vm.findClass RX2 = some m.cls := findClass_of_methodNamed B.named
  have hlocks := B.notSynchronized
  subst hsz
  have hD := hD0.self (sz := s.heap.size)
  generalize hAe : va_A [(a0, .inr (2, [.ref a1, .ref a2, .ref a3, .ref a4, .ref a5, .ref a6, .ref a7, .ref a8, .ref a9, .ref a10, .ref a11, .int nh0, .int li])), (a1, .inl (cI, 3, .inl og)), (a2, .inl (cI, 3, .inl di)), (a9, .inr (1, [.int (nI i), .int (nI k), .int lv, .int lw])), (b0, .inr (0, [.ref b1, .ref b2, .ref b3, .ref b4, .ref b5, .int cn])), (b1, .inl (cI, 60, .inl lo)), (b2, .inl (cI, 60, .inl hi))] s.heap.size = A at hD ⊢
  have hA : ∀ q : Nat, s.heap.size ≤ q → A q := fun q h => by rw [← hAe]; exact Or.inr h
  have hS : va_S A s.heap s.heap [] := va_S.rf
  have hP : va_P D vwCl [(a0, .inr (2, [.ref a1, .ref a2, .ref a3, .ref a4, .ref a5, .ref a6, .ref a7, .ref a8, .ref a9, .ref a10, .ref a11, .int nh0, .int li])), (a1, .inl (cI, 3, .inl og)), (a2, .inl (cI, 3, .inl di)), (a9, .inr (1, [.int (nI i), .int (nI k), .int lv, .int lw])), (b0, .inr (0, [.ref b1, .ref b2, .ref b3, .ref b4, .ref b5, .int cn])), (b1, .inl (cI, 60, .inl lo)), (b2, .inl (cI, 60, .inl hi))] s.heap := hP
  have hl := lv_entry ([.ref a0, .ref b0]) (n := 4) (Nat.le_of_ble_eq_true rfl)
  rw [lg_entry_eq]
  generalize (lg_sl ([.ref a0, .ref b0]) ++ List.replicate (4 - (lg_sl ([.ref a0, .ref b0])).length) Slot.unset).toArray = ls at hl ⊢
  have hl : lv_has ls 4 [(0, .ref a0), (1, .ref b0)] := hl
  refine lv_aload_n hx hb dX2_turn_0 rfl (lv_at hl 0 rfl) ?_
  refine va_get (D := D) (ci := 2) (v := .ref a9) (C := RX2) (T := TX2) (N := 13) hx hb hg iX2 hown hK hP 0 rfl rfl 8 (by decide) (hg _ kw143) (fun _ h9 => h9) rfl dX2_turn_1 ?_
  refine va_getN (D := D) (ci := 1) (v := .int (nI i)) (C := RX1) (T := TX1) (N := 4) hx hb hg iX1 hown hK hP 3 rfl rfl 0 (by decide) (va_Nw.use rfl (nzF_10 hZ)) (fun _ h9 => h9) rfl dX2_turn_4 ?_
  refine lv_iconst (v := 3) hx hb dX2_turn_7 (by decide) ?_
  refine lv_imul hx hb dX2_turn_8 ?_
  refine lv_aload_n hx hb dX2_turn_9 rfl (lv_at hl 0 rfl) ?_
  refine va_get (D := D) (ci := 2) (v := .ref a9) (C := RX2) (T := TX2) (N := 13) hx hb hg iX2 hown hK hP 0 rfl rfl 8 (by decide) (hg _ kw143) (fun _ h9 => h9) rfl dX2_turn_10 ?_
  refine va_getN (D := D) (ci := 1) (v := .int (nI k)) (C := RX1) (T := TX1) (N := 4) hx hb hg iX1 hown hK hP 3 rfl rfl 1 (by decide) (va_Nw.use rfl (nzF_11 hZ)) (fun _ h9 => h9) rfl dX2_turn_13 ?_
  refine lv_iadd hx hb dX2_turn_16 ?_
  refine lv_istore_n (lv' := [(2, .int (((nI i) * 3) + (nI k))), (0, .ref a0), (1, .ref b0)]) hx hb dX2_turn_17 rfl hl (by decide) rfl (fun ls hl => ?_)
  have J_1 : W p l e (headSpec (Cond.code yX2_turn cX2_turn 4 none :: gw) ({ frames := 0, cells := 0, slots := 0, locals := 0 })).room s m ([.ref a0, .ref b0] : List Value).toArray below meth c s.heap [] 0 0 (MQ below (va_Qv (S := Unit) (fun _ => True) (fun u => bq D [(cI, .int), (cZ, .boolean), (cJ, .long)] A ([(a0, .inr (2, [.ref a1, .ref a2, .ref a3, .ref a4, .ref a5, .ref a6, .ref a7, .ref a8, .ref a9, .ref a10, .ref a11, .int nh0, .int li])), (a1, .inl (cI, 3, .inl (upd og k (2 * mirF lo hi di i k - og k)))), (a2, .inl (cI, 3, .inl (upd di k (-(di k))))), (a9, .inr (1, [.int (nI i), .int (nI k), .int lv, .int lw])), (b0, .inr (0, [.ref b1, .ref b2, .ref b3, .ref b4, .ref b5, .int cn])), (b1, .inl (cI, 60, .inl lo)), (b2, .inl (cI, 60, .inl hi))])) A) ([.ref a0, .ref b0] : List Value).toArray s 0 0 A) (F0 m 48 ls [.int (mirF lo hi di i k)]) := by
    refine lv_istore_n (lv' := [(3, .int (mirF lo hi di i k)), (2, .int (((nI i) * 3) + (nI k))), (0, .ref a0), (1, .ref b0)]) hx hb dX2_turn_48 rfl hl (by decide) rfl (fun ls hl => ?_)
    refine lv_aload_n hx hb dX2_turn_49 rfl (lv_at hl 2 rfl) ?_
    refine va_get (D := D) (ci := 2) (v := .ref a1) (C := RX2) (T := TX2) (N := 13) hx hb hg iX2 hown hK hP 0 rfl rfl 0 (by decide) (hg _ kw129) (fun _ h9 => h9) rfl dX2_turn_50 ?_
    refine lv_aload_n hx hb dX2_turn_53 rfl (lv_at hl 2 rfl) ?_
    refine va_get (D := D) (ci := 2) (v := .ref a9) (C := RX2) (T := TX2) (N := 13) hx hb hg iX2 hown hK hP 0 rfl rfl 8 (by decide) (hg _ kw143) (fun _ h9 => h9) rfl dX2_turn_54 ?_
    refine va_getN (D := D) (ci := 1) (v := .int (nI k)) (C := RX1) (T := TX1) (N := 4) hx hb hg iX1 hown hK hP 3 rfl rfl 1 (by decide) (va_Nw.use rfl (nzF_11 hZ)) (fun _ h9 => h9) rfl dX2_turn_57 ?_
    refine lv_iconst (v := 2) hx hb dX2_turn_60 (by decide) ?_
    refine lv_iload_n hx hb dX2_turn_61 rfl (lv_at hl 0 rfl) ?_
    refine lv_imul hx hb dX2_turn_62 ?_
    refine lv_aload_n hx hb dX2_turn_63 rfl (lv_at hl 2 rfl) ?_
    refine va_get (D := D) (ci := 2) (v := .ref a1) (C := RX2) (T := TX2) (N := 13) hx hb hg iX2 hown hK hP 0 rfl rfl 0 (by decide) (hg _ kw129) (fun _ h9 => h9) rfl dX2_turn_64 ?_
    refine lv_aload_n hx hb dX2_turn_67 rfl (lv_at hl 2 rfl) ?_
    refine va_get (D := D) (ci := 2) (v := .ref a9) (C := RX2) (T := TX2) (N := 13) hx hb hg iX2 hown hK hP 0 rfl rfl 8 (by decide) (hg _ kw143) (fun _ h9 => h9) rfl dX2_turn_68 ?_
    refine va_getN (D := D) (ci := 1) (v := .int (nI k)) (C := RX1) (T := TX1) (N := 4) hx hb hg iX1 hown hK hP 3 rfl rfl 1 (by decide) (va_Nw.use rfl (nzF_11 hZ)) (fun _ h9 => h9) rfl dX2_turn_71 ?_
    refine va_iald hx hb hK hP 1 0 rfl rfl (vp_in_nI (by omega) (by decide)) dX2_turn_74 ?_
    refine tp_i (y := og k) (congrArg og (nI_clamp (by omega))) ?_
    refine lv_isub hx hb dX2_turn_75 ?_
    refine va_iast hx hb hK hP hD hS 1 0 rfl rfl (vp_in_nI (by omega) (by decide)) dX2_turn_76 (fun H locs hP hD hS => ?_)
    rw [show (nI k).toNatClampNeg = k from nI_clamp (by omega)] at hP hD
    have hP : va_P D vwCl [(a0, .inr (2, [.ref a1, .ref a2, .ref a3, .ref a4, .ref a5, .ref a6, .ref a7, .ref a8, .ref a9, .ref a10, .ref a11, .int nh0, .int li])), (a1, .inl (cI, 3, .inl (upd og k ((2 * (mirF lo hi di i k)) - (og k))))), (a2, .inl (cI, 3, .inl di)), (a9, .inr (1, [.int (nI i), .int (nI k), .int lv, .int lw])), (b0, .inr (0, [.ref b1, .ref b2, .ref b3, .ref b4, .ref b5, .int cn])), (b1, .inl (cI, 60, .inl lo)), (b2, .inl (cI, 60, .inl hi))] H := hP
    have hD : va_D A [(a0, .inr (2, [.ref a1, .ref a2, .ref a3, .ref a4, .ref a5, .ref a6, .ref a7, .ref a8, .ref a9, .ref a10, .ref a11, .int nh0, .int li])), (a1, .inl (cI, 3, .inl (upd og k ((2 * (mirF lo hi di i k)) - (og k))))), (a2, .inl (cI, 3, .inl di)), (a9, .inr (1, [.int (nI i), .int (nI k), .int lv, .int lw])), (b0, .inr (0, [.ref b1, .ref b2, .ref b3, .ref b4, .ref b5, .int cn])), (b1, .inl (cI, 60, .inl lo)), (b2, .inl (cI, 60, .inl hi))] := hD
    refine lv_aload_n hx hb dX2_turn_77 rfl (lv_at hl 2 rfl) ?_
    refine va_get (D := D) (ci := 2) (v := .ref a2) (C := RX2) (T := TX2) (N := 13) hx hb hg iX2 hown hK hP 0 rfl rfl 1 (by decide) (hg _ kw130) (fun _ h9 => h9) rfl dX2_turn_78 ?_
    refine lv_aload_n hx hb dX2_turn_81 rfl (lv_at hl 2 rfl) ?_
    refine va_get (D := D) (ci := 2) (v := .ref a9) (C := RX2) (T := TX2) (N := 13) hx hb hg iX2 hown hK hP 0 rfl rfl 8 (by decide) (hg _ kw143) (fun _ h9 => h9) rfl dX2_turn_82 ?_
    refine va_getN (D := D) (ci := 1) (v := .int (nI k)) (C := RX1) (T := TX1) (N := 4) hx hb hg iX1 hown hK hP 3 rfl rfl 1 (by decide) (va_Nw.use rfl (nzF_11 hZ)) (fun _ h9 => h9) rfl dX2_turn_85 ?_
    refine lv_aload_n hx hb dX2_turn_88 rfl (lv_at hl 2 rfl) ?_
    refine va_get (D := D) (ci := 2) (v := .ref a2) (C := RX2) (T := TX2) (N := 13) hx hb hg iX2 hown hK hP 0 rfl rfl 1 (by decide) (hg _ kw130) (fun _ h9 => h9) rfl dX2_turn_89 ?_
    refine lv_aload_n hx hb dX2_turn_92 rfl (lv_at hl 2 rfl) ?_
    refine va_get (D := D) (ci := 2) (v := .ref a9) (C := RX2) (T := TX2) (N := 13) hx hb hg iX2 hown hK hP 0 rfl rfl 8 (by decide) (hg _ kw143) (fun _ h9 => h9) rfl dX2_turn_93 ?_
    refine va_getN (D := D) (ci := 1) (v := .int (nI k)) (C := RX1) (T := TX1) (N := 4) hx hb hg iX1 hown hK hP 3 rfl rfl 1 (by decide) (va_Nw.use rfl (nzF_11 hZ)) (fun _ h9 => h9) rfl dX2_turn_96 ?_
    refine va_iald hx hb hK hP 2 0 rfl rfl (vp_in_nI (by omega) (by decide)) dX2_turn_99 ?_
    refine tp_i (y := di k) (congrArg di (nI_clamp (by omega))) ?_
    refine lv_ineg hx hb dX2_turn_100 ?_
    refine va_iast hx hb hK hP hD hS 2 0 rfl rfl (vp_in_nI (by omega) (by decide)) dX2_turn_101 (fun H locs hP hD hS => ?_)
    rw [show (nI k).toNatClampNeg = k from nI_clamp (by omega)] at hP hD
    have hP : va_P D vwCl [(a0, .inr (2, [.ref a1, .ref a2, .ref a3, .ref a4, .ref a5, .ref a6, .ref a7, .ref a8, .ref a9, .ref a10, .ref a11, .int nh0, .int li])), (a1, .inl (cI, 3, .inl (upd og k ((2 * (mirF lo hi di i k)) - (og k))))), (a2, .inl (cI, 3, .inl (upd di k (-(di k))))), (a9, .inr (1, [.int (nI i), .int (nI k), .int lv, .int lw])), (b0, .inr (0, [.ref b1, .ref b2, .ref b3, .ref b4, .ref b5, .int cn])), (b1, .inl (cI, 60, .inl lo)), (b2, .inl (cI, 60, .inl hi))] H := hP
    have hD : va_D A [(a0, .inr (2, [.ref a1, .ref a2, .ref a3, .ref a4, .ref a5, .ref a6, .ref a7, .ref a8, .ref a9, .ref a10, .ref a11, .int nh0, .int li])), (a1, .inl (cI, 3, .inl (upd og k ((2 * (mirF lo hi di i k)) - (og k))))), (a2, .inl (cI, 3, .inl (upd di k (-(di k))))), (a9, .inr (1, [.int (nI i), .int (nI k), .int lv, .int lw])), (b0, .inr (0, [.ref b1, .ref b2, .ref b3, .ref b4, .ref b5, .int cn])), (b1, .inl (cI, 60, .inl lo)), (b2, .inl (cI, 60, .inl hi))] := hD
    exact W.vret hx hb hr (fun t ht hW => ⟨⟨(), rfl, trivial, bq_end hP hK hD ht hW⟩, hS.F ht⟩) hS.2.2 dX2_turn_102
  refine lv_aload_n hx hb dX2_turn_18 rfl (lv_at hl 1 rfl) ?_
  refine va_get (D := D) (ci := 2) (v := .ref a2) (C := RX2) (T := TX2) (N := 13) hx hb hg iX2 hown hK hP 0 rfl rfl 1 (by decide) (hg _ kw130) (fun _ h9 => h9) rfl dX2_turn_19 ?_
  refine lv_aload_n hx hb dX2_turn_22 rfl (lv_at hl 1 rfl) ?_
  refine va_get (D := D) (ci := 2) (v := .ref a9) (C := RX2) (T := TX2) (N := 13) hx hb hg iX2 hown hK hP 0 rfl rfl 8 (by decide) (hg _ kw143) (fun _ h9 => h9) rfl dX2_turn_23 ?_
  refine va_getN (D := D) (ci := 1) (v := .int (nI k)) (C := RX1) (T := TX1) (N := 4) hx hb hg iX1 hown hK hP 3 rfl rfl 1 (by decide) (va_Nw.use rfl (nzF_11 hZ)) (fun _ h9 => h9) rfl dX2_turn_26 ?_
  refine va_iald hx hb hK hP 2 0 rfl rfl (vp_in_nI (by omega) (by decide)) dX2_turn_29 ?_
  refine tp_i (y := di k) (congrArg di (nI_clamp (by omega))) ?_
  refine lv_if_le (tgt := 42) hx hb dX2_turn_30 (by decide) (fun c30 => ?_) (fun c30 => ?_)
  · have c30n := Int32.not_lt.mpr c30
    refine lv_aload_n hx hb dX2_turn_42 rfl (lv_at hl 2 rfl) ?_
    refine va_getN (D := D) (ci := 0) (v := .ref b2) (C := RX0) (T := TX0) (N := 6) hx hb hg iX0 hown hK hP 4 rfl rfl 1 (by decide) (va_Nw.use rfl (nzF_1 hZ)) (fun _ h9 => h9) rfl dX2_turn_43 ?_
    refine lv_iload_n hx hb dX2_turn_46 rfl (lv_at hl 0 rfl) ?_
    refine va_iald hx hb hK hP 6 0 rfl rfl (vin3 (by omega) (by decide)) dX2_turn_47 ?_
    refine tp_i (y := hi (i * 3 + k)) (congrArg hi (vcl3 (by omega))) ?_
    refine tp_i (y := mirF lo hi di i k) (by simp [mirF, c30, c30n]) ?_
    exact J_1
  · have c30n := Int32.not_le.mp c30
    refine lv_aload_n hx hb dX2_turn_33 rfl (lv_at hl 2 rfl) ?_
    refine va_getN (D := D) (ci := 0) (v := .ref b1) (C := RX0) (T := TX0) (N := 6) hx hb hg iX0 hown hK hP 4 rfl rfl 0 (by decide) (va_Nw.use rfl (nzF_0 hZ)) (fun _ h9 => h9) rfl dX2_turn_34 ?_
    refine lv_iload_n hx hb dX2_turn_37 rfl (lv_at hl 0 rfl) ?_
    refine va_iald hx hb hK hP 5 0 rfl rfl (vin3 (by omega) (by decide)) dX2_turn_38 ?_
    refine tp_i (y := lo (i * 3 + k)) (congrArg lo (vcl3 (by omega))) ?_
    refine lv_goto (tgt := 48) hx hb dX2_turn_39 (by decide) ?_
    refine tp_i (y := mirF lo hi di i k) (by simp [mirF, c30, c30n]) ?_
    exact J_1

/-! a line and a box, axis by axis, as the class reckons it -/
def crE (d low high : Int32) : Int32 := if 0 < d then low else -high
def crL (d low high : Int32) : Int32 := if 0 < d then high else -low
def cr1 (a : Nat) (en sp ax ab be : Int32) : Int32 × Int32 × Int32 := if ax = -1 ∨ ¬ en * be ≤ ab * sp then (nI a, en, sp) else (ax, ab, be)
def cr2 (le sp la lb : Int32) : Int32 × Int32 := if lb = 0 ∨ ¬ la * sp ≤ le * lb then (le, sp) else (la, lb)
def crN (lo hi og di : Nat → Int32) (i : Nat) : Nat → Nat → Int32 → Int32 → Int32 → Int32 → Int32 → Option (Int32 × Int32 × Int32 × Int32 × Int32)
  | 0, _, ax, ab, be, la, lb => some (ax, ab, be, la, lb)
  | n + 1, a, ax, ab, be, la, lb =>
    if absI (di a) = 0 then (if 0 ≤ lo (i * 3 + a) - og a ∨ hi (i * 3 + a) - og a ≤ 0 then none else crN lo hi og di i n (a + 1) ax ab be la lb)
    else crN lo hi og di i n (a + 1) (cr1 a (crE (di a) (lo (i * 3 + a) - og a) (hi (i * 3 + a) - og a)) (absI (di a)) ax ab be).1 (cr1 a (crE (di a) (lo (i * 3 + a) - og a) (hi (i * 3 + a) - og a)) (absI (di a)) ax ab be).2.1 (cr1 a (crE (di a) (lo (i * 3 + a) - og a) (hi (i * 3 + a) - og a)) (absI (di a)) ax ab be).2.2 (cr2 (crL (di a) (lo (i * 3 + a) - og a) (hi (i * 3 + a) - og a)) (absI (di a)) la lb).1 (cr2 (crL (di a) (lo (i * 3 + a) - og a) (hi (i * 3 + a) - og a)) (absI (di a)) la lb).2
def crFin : Option (Int32 × Int32 × Int32 × Int32 × Int32) → Option (Int32 × Int32 × Int32)
  | none => none
  | some (ax, ab, be, la, lb) => if ax = -1 ∨ la * be ≤ ab * lb then none else some (ax, ab, be)
/-- how the line enters the box i, if it goes through its inside -/
def crO (lo hi og di : Nat → Int32) (i : Nat) : Option (Int32 × Int32 × Int32) := crFin (crN lo hi og di i 3 0 (-1) 0 1 0 0)

set_option maxHeartbeats 4000000 in
set_option maxRecDepth 100000 in
/-- Path.crosses -/
theorem qX2_crosses (l : Launch) (D : va_G) (cI cZ cJ : ClassId) (a0 a1 a2 a3 a4 a5 a6 a7 a8 a9 a10 a11 : Nat) (b0 b1 b2 b3 b4 b5 : Nat) (og di lo hi : Nat → Int32) (tb ta tv tw nh0 li cn : Int32) (i : Nat) (hi2 : i < 20) (sz : Nat) : Met l yX2_crosses (Cond.code yX2_crosses cX2_crosses 11 (some .boolean) :: gw) ({ frames := 1, cells := 0, slots := 0, locals := 24 }) (wq D [.ref a0, .ref b0, .int (nI i)] sz [(a0, .inr (2, [.ref a1, .ref a2, .ref a3, .ref a4, .ref a5, .ref a6, .ref a7, .ref a8, .ref a9, .ref a10, .ref a11, .int nh0, .int li])), (a1, .inl (cI, 3, .inl og)), (a2, .inl (cI, 3, .inl di)), (a11, .inr (1, [.int tb, .int ta, .int tv, .int tw])), (b0, .inr (0, [.ref b1, .ref b2, .ref b3, .ref b4, .ref b5, .int cn])), (b1, .inl (cI, 60, .inl lo)), (b2, .inl (cI, 60, .inl hi))] [(cI, .int), (cZ, .boolean), (cJ, .long)]) (va_Qi (S := Int32 × Int32 × Int32) (fun r u => r = bI ((crO lo hi og di i)).isSome ∧ ∀ z, (crO lo hi og di i) = some z → u = z) (fun u => bq D [(cI, .int), (cZ, .boolean), (cJ, .long)] (va_A [(a0, .inr (2, [.ref a1, .ref a2, .ref a3, .ref a4, .ref a5, .ref a6, .ref a7, .ref a8, .ref a9, .ref a10, .ref a11, .int nh0, .int li])), (a1, .inl (cI, 3, .inl og)), (a2, .inl (cI, 3, .inl di)), (a11, .inr (1, [.int tb, .int ta, .int tv, .int tw])), (b0, .inr (0, [.ref b1, .ref b2, .ref b3, .ref b4, .ref b5, .int cn])), (b1, .inl (cI, 60, .inl lo)), (b2, .inl (cI, 60, .inl hi))] sz) ([(a0, .inr (2, [.ref a1, .ref a2, .ref a3, .ref a4, .ref a5, .ref a6, .ref a7, .ref a8, .ref a9, .ref a10, .ref a11, .int nh0, .int li])), (a1, .inl (cI, 3, .inl og)), (a2, .inl (cI, 3, .inl di)), (a11, .inr (1, [.int (nI i), .int u.1, .int u.2.1, .int u.2.2])), (b0, .inr (0, [.ref b1, .ref b2, .ref b3, .ref b4, .ref b5, .int cn])), (b1, .inl (cI, 60, .inl lo)), (b2, .inl (cI, 60, .inl hi))])) (va_A [(a0, .inr (2, [.ref a1, .ref a2, .ref a3, .ref a4, .ref a5, .ref a6, .ref a7, .ref a8, .ref a9, .ref a10, .ref a11, .int nh0, .int li])), (a1, .inl (cI, 3, .inl og)), (a2, .inl (cI, 3, .inl di)), (a11, .inr (1, [.int tb, .int ta, .int tv, .int tw])), (b0, .inr (0, [.ref b1, .ref b2, .ref b3, .ref b4, .ref b5, .int cn])), (b1, .inl (cI, 60, .inl lo)), (b2, .inl (cI, 60, .inl hi))] sz)) 0 0 (va_A [(a0, .inr (2, [.ref a1, .ref a2, .ref a3, .ref a4, .ref a5, .ref a6, .ref a7, .ref a8, .ref a9, .ref a10, .ref a11, .int nh0, .int li])), (a1, .inl (cI, 3, .inl og)), (a2, .inl (cI, 3, .inl di)), (a11, .inr (1, [.int tb, .int ta, .int tv, .int tw])), (b0, .inr (0, [.ref b1, .ref b2, .ref b3, .ref b4, .ref b5, .int cn])), (b1, .inl (cI, 60, .inl lo)), (b2, .inl (cI, 60, .inl hi))] sz) := by
  refine Met.ofW (cc := cX2_crosses) (maxL := 11) (ret := (some .boolean)) (by decide) rfl ?_
  intro p e s m args below meth c s₁ B hml hv
  obtain ⟨rfl, hsz, hP, hK, hD0, hZ⟩ := hv
  have hx := B.exec
  have hb := B.bytes
  have hr := B.returns
  have hg : ∀ w ∈ gw, w.before _ s = true := fun w h => atoms_spec (ws := Cond.code yX2_crosses cX2_crosses 11 (some .boolean) :: gw) B.pre w (List.mem_cons_of_mem _ h)
  have hown : s.vm.findClass RX2 = some m.cls := findClass_of_methodNamed B.named
  have hlocks := B.notSynchronized
  subst hsz
  have hD := hD0.self (sz := s.heap.size)
  generalize hAe : va_A [(a0, .inr (2, [.ref a1, .ref a2, .ref a3, .ref a4, .ref a5, .ref a6, .ref a7, .ref a8, .ref a9, .ref a10, .ref a11, .int nh0, .int li])), (a1, .inl (cI, 3, .inl og)), (a2, .inl (cI, 3, .inl di)), (a11, .inr (1, [.int tb, .int ta, .int tv, .int tw])), (b0, .inr (0, [.ref b1, .ref b2, .ref b3, .ref b4, .ref b5, .int cn])), (b1, .inl (cI, 60, .inl lo)), (b2, .inl (cI, 60, .inl hi))] s.heap.size = A at hD ⊢
  have hA : ∀ q : Nat, s.heap.size ≤ q → A q := fun q h => by rw [← hAe]; exact Or.inr h
  have hS : va_S A s.heap s.heap [] := va_S.rf
  have hP : va_P D vwCl [(a0, .inr (2, [.ref a1, .ref a2, .ref a3, .ref a4, .ref a5, .ref a6, .ref a7, .ref a8, .ref a9, .ref a10, .ref a11, .int nh0, .int li])), (a1, .inl (cI, 3, .inl og)), (a2, .inl (cI, 3, .inl di)), (a11, .inr (1, [.int tb, .int ta, .int tv, .int tw])), (b0, .inr (0, [.ref b1, .ref b2, .ref b3, .ref b4, .ref b5, .int cn])), (b1, .inl (cI, 60, .inl lo)), (b2, .inl (cI, 60, .inl hi))] s.heap := hP
  have hl := lv_entry ([.ref a0, .ref b0, .int (nI i)]) (n := 11) (Nat.le_of_ble_eq_true rfl)
  rw [lg_entry_eq]
  generalize (lg_sl ([.ref a0, .ref b0, .int (nI i)]) ++ List.replicate (11 - (lg_sl ([.ref a0, .ref b0, .int (nI i)])).length) Slot.unset).toArray = ls at hl ⊢
  have hl : lv_has ls 11 [(0, .ref a0), (1, .ref b0), (2, .int (nI i))] := hl
  refine lv_iconst (v := 0) hx hb dX2_crosses_0 (by decide) ?_
  refine lv_istore_n (lv' := [(3, .int 0), (0, .ref a0), (1, .ref b0), (2, .int (nI i))]) hx hb dX2_crosses_1 rfl hl (by decide) rfl (fun ls hl => ?_)
  refine lv_iconst (v := 0) hx hb dX2_crosses_2 (by decide) ?_
  refine lv_istore (lv' := [(4, .int 0), (3, .int 0), (0, .ref a0), (1, .ref b0), (2, .int (nI i))]) hx hb dX2_crosses_3 hl (by decide) rfl (fun ls hl => ?_)
  refine lv_aload_n hx hb dX2_crosses_5 rfl (lv_at hl 2 rfl) ?_
  refine va_get (D := D) (ci := 2) (v := .ref a11) (C := RX2) (T := TX2) (N := 13) hx hb hg iX2 hown hK hP 0 rfl rfl 10 (by decide) (hg _ kw145) (fun _ h9 => h9) rfl dX2_crosses_6 ?_
  refine lv_iload_n hx hb dX2_crosses_9 rfl (lv_at hl 4 rfl) ?_
  refine lv_iconst (v := (-1)) hx hb dX2_crosses_10 (by decide) ?_
  refine lv_iconst (v := 0) hx hb dX2_crosses_11 (by decide) ?_
  refine lv_iconst (v := 1) hx hb dX2_crosses_12 (by decide) ?_
  have hPc := hP.sub (ws' := [(a11, .inr (1, [.int tb, .int ta, .int tv, .int tw]))]) [3] rfl
  have hDc := hD.sub (ws' := [(a11, .inr (1, [.int tb, .int ta, .int tv, .int tw]))]) [3] (by decide) rfl
  have hFc := va_free (wc := [(a11, .inr (1, [.int tb, .int ta, .int tv, .int tw]))]) hD hS hA [3] rfl
  refine va_callv (va_runVN (As := [.int (nI i), .int (-1), .int 0, .int 1]) (rest := []) ⟨hx, hb, hml, hown, hg⟩ (qX1_set l D cI cZ cJ a11 tb ta tv tw (nI i) (-1) 0 1 s.heap.size) ⟨va_cnB 4 hg (gw_in kw351) rfl rfl rfl (nzM_5 hZ) (hg _ kw40) (by decide +kernel) ⟨Nat.le_of_ble_eq_true rfl, Nat.le_of_ble_eq_true rfl⟩, hg _ kw350, hg _ kw5⟩ (wq_preV hPc hK hDc hZ (va_recv hK hPc (ci := 1) (q0 := 0) rfl rfl)) rfl rfl hl.1 rfl (lv_room (Nat.le_of_ble_eq_true rfl)) dX2_crosses_13 ⟨Nat.le_of_ble_eq_true rfl, Nat.le_of_ble_eq_true rfl⟩) hS (fun q _ h => hFc q h) hFc (fun u t H locs ht hvm hw hB hz1 hk1 hS => ?_)
  obtain ⟨hP1, hK1, hD1⟩ := hB
  rw [ht] at hP1
  try dsimp only at hw hP1 hD1
  obtain ⟨hP, hD⟩ := va_join (wr := [(a0, .inr (2, [.ref a1, .ref a2, .ref a3, .ref a4, .ref a5, .ref a6, .ref a7, .ref a8, .ref a9, .ref a10, .ref a11, .int nh0, .int li])), (a1, .inl (cI, 3, .inl og)), (a2, .inl (cI, 3, .inl di)), (b0, .inr (0, [.ref b1, .ref b2, .ref b3, .ref b4, .ref b5, .int cn])), (b1, .inl (cI, 60, .inl lo)), (b2, .inl (cI, 60, .inl hi))]) (w1 := [(a11, .inr (1, [.int (nI i), .int (-1), .int 0, .int 1]))]) hP hD [3] [0, 1, 2, 4, 5, 6] rfl rfl (by decide) (by decide) hk1 hFc hP1 hD1
  replace hP := hP.sub (ws' := [(a0, .inr (2, [.ref a1, .ref a2, .ref a3, .ref a4, .ref a5, .ref a6, .ref a7, .ref a8, .ref a9, .ref a10, .ref a11, .int nh0, .int li])), (a1, .inl (cI, 3, .inl og)), (a2, .inl (cI, 3, .inl di)), (a11, .inr (1, [.int (nI i), .int (-1), .int 0, .int 1])), (b0, .inr (0, [.ref b1, .ref b2, .ref b3, .ref b4, .ref b5, .int cn])), (b1, .inl (cI, 60, .inl lo)), (b2, .inl (cI, 60, .inl hi))]) [0, 1, 2, 6, 3, 4, 5] rfl
  replace hD := hD.sub (ws' := [(a0, .inr (2, [.ref a1, .ref a2, .ref a3, .ref a4, .ref a5, .ref a6, .ref a7, .ref a8, .ref a9, .ref a10, .ref a11, .int nh0, .int li])), (a1, .inl (cI, 3, .inl og)), (a2, .inl (cI, 3, .inl di)), (a11, .inr (1, [.int (nI i), .int (-1), .int 0, .int 1])), (b0, .inr (0, [.ref b1, .ref b2, .ref b3, .ref b4, .ref b5, .int cn])), (b1, .inl (cI, 60, .inl lo)), (b2, .inl (cI, 60, .inl hi))]) [0, 1, 2, 6, 3, 4, 5] (by decide) rfl
  refine lv_iconst (v := 0) hx hb dX2_crosses_16 (by decide) ?_
  refine lv_istore (lv' := [(5, .int 0), (4, .int 0), (3, .int 0), (0, .ref a0), (1, .ref b0), (2, .int (nI i))]) hx hb dX2_crosses_17 hl (by decide) rfl (fun ls hl => ?_)
  have loop_2 : ∀ (n : Nat) (a : Nat) (ax ab be la lb : Int32), a + n = 3 → ∀ (H : Heap) (locs : List Loc) (ls : Array Slot), va_P D vwCl [(a0, .inr (2, [.ref a1, .ref a2, .ref a3, .ref a4, .ref a5, .ref a6, .ref a7, .ref a8, .ref a9, .ref a10, .ref a11, .int nh0, .int li])), (a1, .inl (cI, 3, .inl og)), (a2, .inl (cI, 3, .inl di)), (a11, .inr (1, [.int (nI i), .int ax, .int ab, .int be])), (b0, .inr (0, [.ref b1, .ref b2, .ref b3, .ref b4, .ref b5, .int cn])), (b1, .inl (cI, 60, .inl lo)), (b2, .inl (cI, 60, .inl hi))] H → va_D A [(a0, .inr (2, [.ref a1, .ref a2, .ref a3, .ref a4, .ref a5, .ref a6, .ref a7, .ref a8, .ref a9, .ref a10, .ref a11, .int nh0, .int li])), (a1, .inl (cI, 3, .inl og)), (a2, .inl (cI, 3, .inl di)), (a11, .inr (1, [.int (nI i), .int ax, .int ab, .int be])), (b0, .inr (0, [.ref b1, .ref b2, .ref b3, .ref b4, .ref b5, .int cn])), (b1, .inl (cI, 60, .inl lo)), (b2, .inl (cI, 60, .inl hi))] → va_S A s.heap H locs → lv_has ls 11 [(0, .ref a0), (1, .ref b0), (2, .int (nI i)), (3, .int la), (4, .int lb), (5, .int (nI a))] → W p l e (headSpec (Cond.code yX2_crosses cX2_crosses 11 (some .boolean) :: gw) ({ frames := 1, cells := 0, slots := 0, locals := 24 })).room s m ([.ref a0, .ref b0, .int (nI i)] : List Value).toArray below meth c H locs 0 0 (MQ below (va_Qi (S := Int32 × Int32 × Int32) (fun r u => r = bI ((crFin (crN lo hi og di i n a ax ab be la lb))).isSome ∧ ∀ z, (crFin (crN lo hi og di i n a ax ab be la lb)) = some z → u = z) (fun u => bq D [(cI, .int), (cZ, .boolean), (cJ, .long)] A ([(a0, .inr (2, [.ref a1, .ref a2, .ref a3, .ref a4, .ref a5, .ref a6, .ref a7, .ref a8, .ref a9, .ref a10, .ref a11, .int nh0, .int li])), (a1, .inl (cI, 3, .inl og)), (a2, .inl (cI, 3, .inl di)), (a11, .inr (1, [.int (nI i), .int u.1, .int u.2.1, .int u.2.2])), (b0, .inr (0, [.ref b1, .ref b2, .ref b3, .ref b4, .ref b5, .int cn])), (b1, .inl (cI, 60, .inl lo)), (b2, .inl (cI, 60, .inl hi))])) A) ([.ref a0, .ref b0, .int (nI i)] : List Value).toArray s 0 0 A) (F0 m 19 ls []) := by
    intro n
    induction n with
    | zero =>
      intro a ax ab be la lb hlp H locs ls hP hD hS hl
      refine lv_iload hx hb dX2_crosses_19 (lv_at hl 5 rfl) ?_
      refine lv_iconst (v := 3) hx hb dX2_crosses_21 (by decide) ?_
      refine lv_icmp_ge (tgt := 214) hx hb dX2_crosses_22 (by decide) (fun _ => ?_) (fun c22 => absurd (nI_le (a := 3) (by omega) (by omega)) c22)
      refine lv_aload_n hx hb dX2_crosses_214 rfl (lv_at hl 0 rfl) ?_
      refine va_get (D := D) (ci := 2) (v := .ref a11) (C := RX2) (T := TX2) (N := 13) hx hb hg iX2 hown hK hP 0 rfl rfl 10 (by decide) (hg _ kw145) (fun _ h9 => h9) rfl dX2_crosses_215 ?_
      refine va_getN (D := D) (ci := 1) (v := .int ax) (C := RX1) (T := TX1) (N := 4) hx hb hg iX1 hown hK hP 3 rfl rfl 1 (by decide) (va_Nw.use rfl (nzF_11 hZ)) (fun _ h9 => h9) rfl dX2_crosses_218 ?_
      refine lv_iconst (v := (-1)) hx hb dX2_crosses_221 (by decide) ?_
      refine lv_icmp_eq (tgt := 251) hx hb dX2_crosses_222 (by decide) (fun c222 => ?_) (fun c222 => ?_)
      · refine lv_iconst (v := 0) hx hb dX2_crosses_251 (by decide) ?_
        exact W.zret (v := 0) hx hb hr (by decide) (fun t ht hW => ⟨⟨0, (ax, ab, be), rfl, ⟨by simp [crN, crFin, bI, c222], by simp [crN, crFin, c222]⟩, bq_end hP hK hD ht hW⟩, hS.F ht⟩) hS.2.2 dX2_crosses_252
      · refine lv_aload_n hx hb dX2_crosses_225 rfl (lv_at hl 0 rfl) ?_
        refine va_get (D := D) (ci := 2) (v := .ref a11) (C := RX2) (T := TX2) (N := 13) hx hb hg iX2 hown hK hP 0 rfl rfl 10 (by decide) (hg _ kw145) (fun _ h9 => h9) rfl dX2_crosses_226 ?_
        refine va_getN (D := D) (ci := 1) (v := .int ab) (C := RX1) (T := TX1) (N := 4) hx hb hg iX1 hown hK hP 3 rfl rfl 2 (by decide) (va_Nw.use rfl (nzF_12 hZ)) (fun _ h9 => h9) rfl dX2_crosses_229 ?_
        refine lv_iload hx hb dX2_crosses_232 (lv_at hl 4 rfl) ?_
        refine lv_imul hx hb dX2_crosses_234 ?_
        refine lv_iload_n hx hb dX2_crosses_235 rfl (lv_at hl 3 rfl) ?_
        refine lv_aload_n hx hb dX2_crosses_236 rfl (lv_at hl 0 rfl) ?_
        refine va_get (D := D) (ci := 2) (v := .ref a11) (C := RX2) (T := TX2) (N := 13) hx hb hg iX2 hown hK hP 0 rfl rfl 10 (by decide) (hg _ kw145) (fun _ h9 => h9) rfl dX2_crosses_237 ?_
        refine va_getN (D := D) (ci := 1) (v := .int be) (C := RX1) (T := TX1) (N := 4) hx hb hg iX1 hown hK hP 3 rfl rfl 3 (by decide) (va_Nw.use rfl (nzF_13 hZ)) (fun _ h9 => h9) rfl dX2_crosses_240 ?_
        refine lv_imul hx hb dX2_crosses_243 ?_
        refine lv_icmp_ge (tgt := 251) hx hb dX2_crosses_244 (by decide) (fun c244 => ?_) (fun c244 => ?_)
        · have c244n := Int32.not_lt.mpr c244
          refine lv_iconst (v := 0) hx hb dX2_crosses_251 (by decide) ?_
          exact W.zret (v := 0) hx hb hr (by decide) (fun t ht hW => ⟨⟨0, (ax, ab, be), rfl, ⟨by simp [crN, crFin, bI, c222, c244, c244n], by simp [crN, crFin, c222, c244, c244n]⟩, bq_end hP hK hD ht hW⟩, hS.F ht⟩) hS.2.2 dX2_crosses_252
        · have c244n := Int32.not_le.mp c244
          refine lv_iconst (v := 1) hx hb dX2_crosses_247 (by decide) ?_
          refine lv_goto (tgt := 252) hx hb dX2_crosses_248 (by decide) ?_
          exact W.zret (v := 1) hx hb hr (by decide) (fun t ht hW => ⟨⟨1, (ax, ab, be), rfl, ⟨by simp [crN, crFin, bI, c222, c244, c244n], by simp [crN, crFin, c222, c244, c244n]⟩, bq_end hP hK hD ht hW⟩, hS.F ht⟩) hS.2.2 dX2_crosses_252
    | succ n ih =>
      intro a ax ab be la lb hlp H locs ls hP hD hS hl
      refine lv_iload hx hb dX2_crosses_19 (lv_at hl 5 rfl) ?_
      refine lv_iconst (v := 3) hx hb dX2_crosses_21 (by decide) ?_
      refine lv_icmp_ge (tgt := 214) hx hb dX2_crosses_22 (by decide) (fun c22 => absurd c22 (nI_ge (b := 3) (by omega) (by omega))) (fun _ => ?_)
      refine lv_aload_n hx hb dX2_crosses_25 rfl (lv_at hl 1 rfl) ?_
      refine va_getN (D := D) (ci := 0) (v := .ref b1) (C := RX0) (T := TX0) (N := 6) hx hb hg iX0 hown hK hP 4 rfl rfl 0 (by decide) (va_Nw.use rfl (nzF_0 hZ)) (fun _ h9 => h9) rfl dX2_crosses_26 ?_
      refine lv_iload_n hx hb dX2_crosses_29 rfl (lv_at hl 2 rfl) ?_
      refine lv_iconst (v := 3) hx hb dX2_crosses_30 (by decide) ?_
      refine lv_imul hx hb dX2_crosses_31 ?_
      refine lv_iload hx hb dX2_crosses_32 (lv_at hl 5 rfl) ?_
      refine lv_iadd hx hb dX2_crosses_34 ?_
      refine va_iald hx hb hK hP 5 0 rfl rfl (vin3 (by omega) (by decide)) dX2_crosses_35 ?_
      refine tp_i (y := lo (i * 3 + a)) (congrArg lo (vcl3 (by omega))) ?_
      refine lv_aload_n hx hb dX2_crosses_36 rfl (lv_at hl 0 rfl) ?_
      refine va_get (D := D) (ci := 2) (v := .ref a1) (C := RX2) (T := TX2) (N := 13) hx hb hg iX2 hown hK hP 0 rfl rfl 0 (by decide) (hg _ kw129) (fun _ h9 => h9) rfl dX2_crosses_37 ?_
      refine lv_iload hx hb dX2_crosses_40 (lv_at hl 5 rfl) ?_
      refine va_iald hx hb hK hP 1 0 rfl rfl (vp_in_nI (by omega) (by decide)) dX2_crosses_42 ?_
      refine tp_i (y := og a) (congrArg og (nI_clamp (by omega))) ?_
      refine lv_isub hx hb dX2_crosses_43 ?_
      refine lv_istore (lv' := [(6, .int ((lo (i * 3 + a)) - (og a))), (0, .ref a0), (1, .ref b0), (2, .int (nI i)), (3, .int la), (4, .int lb), (5, .int (nI a))]) hx hb dX2_crosses_44 hl (by decide) rfl (fun ls hl => ?_)
      refine lv_aload_n hx hb dX2_crosses_46 rfl (lv_at hl 2 rfl) ?_
      refine va_getN (D := D) (ci := 0) (v := .ref b2) (C := RX0) (T := TX0) (N := 6) hx hb hg iX0 hown hK hP 4 rfl rfl 1 (by decide) (va_Nw.use rfl (nzF_1 hZ)) (fun _ h9 => h9) rfl dX2_crosses_47 ?_
      refine lv_iload_n hx hb dX2_crosses_50 rfl (lv_at hl 3 rfl) ?_
      refine lv_iconst (v := 3) hx hb dX2_crosses_51 (by decide) ?_
      refine lv_imul hx hb dX2_crosses_52 ?_
      refine lv_iload hx hb dX2_crosses_53 (lv_at hl 6 rfl) ?_
      refine lv_iadd hx hb dX2_crosses_55 ?_
      refine va_iald hx hb hK hP 6 0 rfl rfl (vin3 (by omega) (by decide)) dX2_crosses_56 ?_
      refine tp_i (y := hi (i * 3 + a)) (congrArg hi (vcl3 (by omega))) ?_
      refine lv_aload_n hx hb dX2_crosses_57 rfl (lv_at hl 1 rfl) ?_
      refine va_get (D := D) (ci := 2) (v := .ref a1) (C := RX2) (T := TX2) (N := 13) hx hb hg iX2 hown hK hP 0 rfl rfl 0 (by decide) (hg _ kw129) (fun _ h9 => h9) rfl dX2_crosses_58 ?_
      refine lv_iload hx hb dX2_crosses_61 (lv_at hl 6 rfl) ?_
      refine va_iald hx hb hK hP 1 0 rfl rfl (vp_in_nI (by omega) (by decide)) dX2_crosses_63 ?_
      refine tp_i (y := og a) (congrArg og (nI_clamp (by omega))) ?_
      refine lv_isub hx hb dX2_crosses_64 ?_
      refine lv_istore (lv' := [(7, .int ((hi (i * 3 + a)) - (og a))), (6, .int ((lo (i * 3 + a)) - (og a))), (0, .ref a0), (1, .ref b0), (2, .int (nI i)), (3, .int la), (4, .int lb), (5, .int (nI a))]) hx hb dX2_crosses_65 hl (by decide) rfl (fun ls hl => ?_)
      refine lv_aload_n hx hb dX2_crosses_67 rfl (lv_at hl 2 rfl) ?_
      refine va_get (D := D) (ci := 2) (v := .ref a2) (C := RX2) (T := TX2) (N := 13) hx hb hg iX2 hown hK hP 0 rfl rfl 1 (by decide) (hg _ kw130) (fun _ h9 => h9) rfl dX2_crosses_68 ?_
      refine lv_iload hx hb dX2_crosses_71 (lv_at hl 7 rfl) ?_
      refine va_iald hx hb hK hP 2 0 rfl rfl (vp_in_nI (by omega) (by decide)) dX2_crosses_73 ?_
      refine tp_i (y := di a) (congrArg di (nI_clamp (by omega))) ?_
      refine va_mabs hx hb (hml.trans hl.1.symm) hown (hg _ kw376) (hg _ kw377) (hg _ kw37) (hg _ kw378) (Nat.le_of_ble_eq_true rfl) (Nat.le_of_ble_eq_true rfl) (Nat.le_of_ble_eq_true rfl) (Nat.le_of_ble_eq_true rfl) dX2_crosses_74 ?_
      refine tp_i (y := absI (di a)) (rfl) ?_
      refine lv_istore (lv' := [(8, .int (absI (di a))), (7, .int ((hi (i * 3 + a)) - (og a))), (6, .int ((lo (i * 3 + a)) - (og a))), (0, .ref a0), (1, .ref b0), (2, .int (nI i)), (3, .int la), (4, .int lb), (5, .int (nI a))]) hx hb dX2_crosses_77 hl (by decide) rfl (fun ls hl => ?_)
      refine lv_iload hx hb dX2_crosses_79 (lv_at hl 0 rfl) ?_
      refine lv_if_ne (tgt := 96) hx hb dX2_crosses_81 (by decide) (fun c81 => ?_) (fun c81 => ?_)
      · have J_3 : W p l e (headSpec (Cond.code yX2_crosses cX2_crosses 11 (some .boolean) :: gw) ({ frames := 1, cells := 0, slots := 0, locals := 24 })).room s m ([.ref a0, .ref b0, .int (nI i)] : List Value).toArray below meth c H locs 0 0 (MQ below (va_Qi (S := Int32 × Int32 × Int32) (fun r u => r = bI ((crFin (crN lo hi og di i (n + 1) a ax ab be la lb))).isSome ∧ ∀ z, (crFin (crN lo hi og di i (n + 1) a ax ab be la lb)) = some z → u = z) (fun u => bq D [(cI, .int), (cZ, .boolean), (cJ, .long)] A ([(a0, .inr (2, [.ref a1, .ref a2, .ref a3, .ref a4, .ref a5, .ref a6, .ref a7, .ref a8, .ref a9, .ref a10, .ref a11, .int nh0, .int li])), (a1, .inl (cI, 3, .inl og)), (a2, .inl (cI, 3, .inl di)), (a11, .inr (1, [.int (nI i), .int u.1, .int u.2.1, .int u.2.2])), (b0, .inr (0, [.ref b1, .ref b2, .ref b3, .ref b4, .ref b5, .int cn])), (b1, .inl (cI, 60, .inl lo)), (b2, .inl (cI, 60, .inl hi))])) A) ([.ref a0, .ref b0, .int (nI i)] : List Value).toArray s 0 0 A) (F0 m 114 ls [.int (crE (di a) (lo (i * 3 + a) - og a) (hi (i * 3 + a) - og a))]) := by
          refine lv_istore (lv' := [(9, .int (crE (di a) (lo (i * 3 + a) - og a) (hi (i * 3 + a) - og a))), (8, .int (absI (di a))), (7, .int ((hi (i * 3 + a)) - (og a))), (6, .int ((lo (i * 3 + a)) - (og a))), (0, .ref a0), (1, .ref b0), (2, .int (nI i)), (3, .int la), (4, .int lb), (5, .int (nI a))]) hx hb dX2_crosses_114 hl (by decide) rfl (fun ls hl => ?_)
          have J_4 : W p l e (headSpec (Cond.code yX2_crosses cX2_crosses 11 (some .boolean) :: gw) ({ frames := 1, cells := 0, slots := 0, locals := 24 })).room s m ([.ref a0, .ref b0, .int (nI i)] : List Value).toArray below meth c H locs 0 0 (MQ below (va_Qi (S := Int32 × Int32 × Int32) (fun r u => r = bI ((crFin (crN lo hi og di i (n + 1) a ax ab be la lb))).isSome ∧ ∀ z, (crFin (crN lo hi og di i (n + 1) a ax ab be la lb)) = some z → u = z) (fun u => bq D [(cI, .int), (cZ, .boolean), (cJ, .long)] A ([(a0, .inr (2, [.ref a1, .ref a2, .ref a3, .ref a4, .ref a5, .ref a6, .ref a7, .ref a8, .ref a9, .ref a10, .ref a11, .int nh0, .int li])), (a1, .inl (cI, 3, .inl og)), (a2, .inl (cI, 3, .inl di)), (a11, .inr (1, [.int (nI i), .int u.1, .int u.2.1, .int u.2.2])), (b0, .inr (0, [.ref b1, .ref b2, .ref b3, .ref b4, .ref b5, .int cn])), (b1, .inl (cI, 60, .inl lo)), (b2, .inl (cI, 60, .inl hi))])) A) ([.ref a0, .ref b0, .int (nI i)] : List Value).toArray s 0 0 A) (F0 m 134 ls [.int (crL (di a) (lo (i * 3 + a) - og a) (hi (i * 3 + a) - og a))]) := by
            refine lv_istore (lv' := [(10, .int (crL (di a) (lo (i * 3 + a) - og a) (hi (i * 3 + a) - og a))), (9, .int (crE (di a) (lo (i * 3 + a) - og a) (hi (i * 3 + a) - og a))), (8, .int (absI (di a))), (7, .int ((hi (i * 3 + a)) - (og a))), (6, .int ((lo (i * 3 + a)) - (og a))), (0, .ref a0), (1, .ref b0), (2, .int (nI i)), (3, .int la), (4, .int lb), (5, .int (nI a))]) hx hb dX2_crosses_134 hl (by decide) rfl (fun ls hl => ?_)
            have K_5 : ∀ (ax1 ab1 be1 : Int32), ((ax1, ab1, be1) = cr1 a (crE (di a) (lo (i * 3 + a) - og a) (hi (i * 3 + a) - og a)) (absI (di a)) ax ab be) → ∀ (H : Heap) (locs : List Loc) (ls : Array Slot), va_P D vwCl [(a0, .inr (2, [.ref a1, .ref a2, .ref a3, .ref a4, .ref a5, .ref a6, .ref a7, .ref a8, .ref a9, .ref a10, .ref a11, .int nh0, .int li])), (a1, .inl (cI, 3, .inl og)), (a2, .inl (cI, 3, .inl di)), (a11, .inr (1, [.int (nI i), .int ax1, .int ab1, .int be1])), (b0, .inr (0, [.ref b1, .ref b2, .ref b3, .ref b4, .ref b5, .int cn])), (b1, .inl (cI, 60, .inl lo)), (b2, .inl (cI, 60, .inl hi))] H → va_D A [(a0, .inr (2, [.ref a1, .ref a2, .ref a3, .ref a4, .ref a5, .ref a6, .ref a7, .ref a8, .ref a9, .ref a10, .ref a11, .int nh0, .int li])), (a1, .inl (cI, 3, .inl og)), (a2, .inl (cI, 3, .inl di)), (a11, .inr (1, [.int (nI i), .int ax1, .int ab1, .int be1])), (b0, .inr (0, [.ref b1, .ref b2, .ref b3, .ref b4, .ref b5, .int cn])), (b1, .inl (cI, 60, .inl lo)), (b2, .inl (cI, 60, .inl hi))] → va_S A s.heap H locs → lv_has ls 11 [(10, .int (crL (di a) (lo (i * 3 + a) - og a) (hi (i * 3 + a) - og a))), (9, .int (crE (di a) (lo (i * 3 + a) - og a) (hi (i * 3 + a) - og a))), (8, .int (absI (di a))), (7, .int ((hi (i * 3 + a)) - (og a))), (6, .int ((lo (i * 3 + a)) - (og a))), (0, .ref a0), (1, .ref b0), (2, .int (nI i)), (3, .int la), (4, .int lb), (5, .int (nI a))] → W p l e (headSpec (Cond.code yX2_crosses cX2_crosses 11 (some .boolean) :: gw) ({ frames := 1, cells := 0, slots := 0, locals := 24 })).room s m ([.ref a0, .ref b0, .int (nI i)] : List Value).toArray below meth c H locs 0 0 (MQ below (va_Qi (S := Int32 × Int32 × Int32) (fun r u => r = bI ((crFin (crN lo hi og di i (n + 1) a ax ab be la lb))).isSome ∧ ∀ z, (crFin (crN lo hi og di i (n + 1) a ax ab be la lb)) = some z → u = z) (fun u => bq D [(cI, .int), (cZ, .boolean), (cJ, .long)] A ([(a0, .inr (2, [.ref a1, .ref a2, .ref a3, .ref a4, .ref a5, .ref a6, .ref a7, .ref a8, .ref a9, .ref a10, .ref a11, .int nh0, .int li])), (a1, .inl (cI, 3, .inl og)), (a2, .inl (cI, 3, .inl di)), (a11, .inr (1, [.int (nI i), .int u.1, .int u.2.1, .int u.2.2])), (b0, .inr (0, [.ref b1, .ref b2, .ref b3, .ref b4, .ref b5, .int cn])), (b1, .inl (cI, 60, .inl lo)), (b2, .inl (cI, 60, .inl hi))])) A) ([.ref a0, .ref b0, .int (nI i)] : List Value).toArray s 0 0 A) (F0 m 184 ls []) := by
              intro ax1 ab1 be1 hq H locs ls hP hD hS hl
              refine lv_iload hx hb dX2_crosses_184 (lv_at hl 9 rfl) ?_
              refine lv_if_eq (tgt := 201) hx hb dX2_crosses_186 (by decide) (fun c186 => ?_) (fun c186 => ?_)
              · refine lv_iload hx hb dX2_crosses_201 (lv_at hl 0 rfl) ?_
                refine lv_istore_n (lv' := [(3, .int (crL (di a) (lo (i * 3 + a) - og a) (hi (i * 3 + a) - og a))), (10, .int (crL (di a) (lo (i * 3 + a) - og a) (hi (i * 3 + a) - og a))), (9, .int (crE (di a) (lo (i * 3 + a) - og a) (hi (i * 3 + a) - og a))), (8, .int (absI (di a))), (7, .int ((hi (i * 3 + a)) - (og a))), (6, .int ((lo (i * 3 + a)) - (og a))), (0, .ref a0), (1, .ref b0), (2, .int (nI i)), (4, .int lb), (5, .int (nI a))]) hx hb dX2_crosses_203 rfl hl (by decide) rfl (fun ls hl => ?_)
                refine lv_iload hx hb dX2_crosses_204 (lv_at hl 3 rfl) ?_
                refine lv_istore (lv' := [(4, .int (absI (di a))), (3, .int (crL (di a) (lo (i * 3 + a) - og a) (hi (i * 3 + a) - og a))), (10, .int (crL (di a) (lo (i * 3 + a) - og a) (hi (i * 3 + a) - og a))), (9, .int (crE (di a) (lo (i * 3 + a) - og a) (hi (i * 3 + a) - og a))), (8, .int (absI (di a))), (7, .int ((hi (i * 3 + a)) - (og a))), (6, .int ((lo (i * 3 + a)) - (og a))), (0, .ref a0), (1, .ref b0), (2, .int (nI i)), (5, .int (nI a))]) hx hb dX2_crosses_206 hl (by decide) rfl (fun ls hl => ?_)
                refine lv_iinc (v := nI (a + 1)) (lv' := [(5, .int (nI (a + 1))), (4, .int (absI (di a))), (3, .int (crL (di a) (lo (i * 3 + a) - og a) (hi (i * 3 + a) - og a))), (10, .int (crL (di a) (lo (i * 3 + a) - og a) (hi (i * 3 + a) - og a))), (9, .int (crE (di a) (lo (i * 3 + a) - og a) (hi (i * 3 + a) - og a))), (8, .int (absI (di a))), (7, .int ((hi (i * 3 + a)) - (og a))), (6, .int ((lo (i * 3 + a)) - (og a))), (0, .ref a0), (1, .ref b0), (2, .int (nI i))]) hx hb dX2_crosses_208 hl (k := 10) rfl (nI_1 _) (by decide) rfl (fun ls hl => ?_)
                refine lv_goto (tgt := 19) hx hb dX2_crosses_211 (by decide) ?_
                rw [show crN lo hi og di i (n + 1) a ax ab be la lb = crN lo hi og di i n (a + 1) ax1 ab1 be1 (crL (di a) (lo (i * 3 + a) - og a) (hi (i * 3 + a) - og a)) (absI (di a)) from by simp [crN, cr2, ← hq, c81, c186]]
                exact ih (a + 1) ax1 ab1 be1 (crL (di a) (lo (i * 3 + a) - og a) (hi (i * 3 + a) - og a)) (absI (di a)) (by omega) H locs ls hP hD hS (lv_sub hl [8, 9, 10, 2, 1, 0] rfl)
              · refine lv_iload hx hb dX2_crosses_189 (lv_at hl 0 rfl) ?_
                refine lv_iload hx hb dX2_crosses_191 (lv_at hl 9 rfl) ?_
                refine lv_imul hx hb dX2_crosses_193 ?_
                refine lv_iload_n hx hb dX2_crosses_194 rfl (lv_at hl 8 rfl) ?_
                refine lv_iload hx hb dX2_crosses_195 (lv_at hl 2 rfl) ?_
                refine lv_imul hx hb dX2_crosses_197 ?_
                refine lv_icmp_ge (tgt := 208) hx hb dX2_crosses_198 (by decide) (fun c198 => ?_) (fun c198 => ?_)
                · have c198n := Int32.not_lt.mpr c198
                  refine lv_iinc (v := nI (a + 1)) (lv' := [(5, .int (nI (a + 1))), (10, .int (crL (di a) (lo (i * 3 + a) - og a) (hi (i * 3 + a) - og a))), (9, .int (crE (di a) (lo (i * 3 + a) - og a) (hi (i * 3 + a) - og a))), (8, .int (absI (di a))), (7, .int ((hi (i * 3 + a)) - (og a))), (6, .int ((lo (i * 3 + a)) - (og a))), (0, .ref a0), (1, .ref b0), (2, .int (nI i)), (3, .int la), (4, .int lb)]) hx hb dX2_crosses_208 hl (k := 10) rfl (nI_1 _) (by decide) rfl (fun ls hl => ?_)
                  refine lv_goto (tgt := 19) hx hb dX2_crosses_211 (by decide) ?_
                  rw [show crN lo hi og di i (n + 1) a ax ab be la lb = crN lo hi og di i n (a + 1) ax1 ab1 be1 la lb from by simp [crN, cr2, ← hq, c81, c186, c198, c198n]]
                  exact ih (a + 1) ax1 ab1 be1 la lb (by omega) H locs ls hP hD hS (lv_sub hl [6, 7, 8, 9, 10, 0] rfl)
                · have c198n := Int32.not_le.mp c198
                  refine lv_iload hx hb dX2_crosses_201 (lv_at hl 0 rfl) ?_
                  refine lv_istore_n (lv' := [(3, .int (crL (di a) (lo (i * 3 + a) - og a) (hi (i * 3 + a) - og a))), (10, .int (crL (di a) (lo (i * 3 + a) - og a) (hi (i * 3 + a) - og a))), (9, .int (crE (di a) (lo (i * 3 + a) - og a) (hi (i * 3 + a) - og a))), (8, .int (absI (di a))), (7, .int ((hi (i * 3 + a)) - (og a))), (6, .int ((lo (i * 3 + a)) - (og a))), (0, .ref a0), (1, .ref b0), (2, .int (nI i)), (4, .int lb), (5, .int (nI a))]) hx hb dX2_crosses_203 rfl hl (by decide) rfl (fun ls hl => ?_)
                  refine lv_iload hx hb dX2_crosses_204 (lv_at hl 3 rfl) ?_
                  refine lv_istore (lv' := [(4, .int (absI (di a))), (3, .int (crL (di a) (lo (i * 3 + a) - og a) (hi (i * 3 + a) - og a))), (10, .int (crL (di a) (lo (i * 3 + a) - og a) (hi (i * 3 + a) - og a))), (9, .int (crE (di a) (lo (i * 3 + a) - og a) (hi (i * 3 + a) - og a))), (8, .int (absI (di a))), (7, .int ((hi (i * 3 + a)) - (og a))), (6, .int ((lo (i * 3 + a)) - (og a))), (0, .ref a0), (1, .ref b0), (2, .int (nI i)), (5, .int (nI a))]) hx hb dX2_crosses_206 hl (by decide) rfl (fun ls hl => ?_)
                  refine lv_iinc (v := nI (a + 1)) (lv' := [(5, .int (nI (a + 1))), (4, .int (absI (di a))), (3, .int (crL (di a) (lo (i * 3 + a) - og a) (hi (i * 3 + a) - og a))), (10, .int (crL (di a) (lo (i * 3 + a) - og a) (hi (i * 3 + a) - og a))), (9, .int (crE (di a) (lo (i * 3 + a) - og a) (hi (i * 3 + a) - og a))), (8, .int (absI (di a))), (7, .int ((hi (i * 3 + a)) - (og a))), (6, .int ((lo (i * 3 + a)) - (og a))), (0, .ref a0), (1, .ref b0), (2, .int (nI i))]) hx hb dX2_crosses_208 hl (k := 10) rfl (nI_1 _) (by decide) rfl (fun ls hl => ?_)
                  refine lv_goto (tgt := 19) hx hb dX2_crosses_211 (by decide) ?_
                  rw [show crN lo hi og di i (n + 1) a ax ab be la lb = crN lo hi og di i n (a + 1) ax1 ab1 be1 (crL (di a) (lo (i * 3 + a) - og a) (hi (i * 3 + a) - og a)) (absI (di a)) from by simp [crN, cr2, ← hq, c81, c186, c198, c198n]]
                  exact ih (a + 1) ax1 ab1 be1 (crL (di a) (lo (i * 3 + a) - og a) (hi (i * 3 + a) - og a)) (absI (di a)) (by omega) H locs ls hP hD hS (lv_sub hl [8, 9, 10, 2, 1, 0] rfl)
            refine lv_aload_n hx hb dX2_crosses_136 rfl (lv_at hl 5 rfl) ?_
            refine va_get (D := D) (ci := 2) (v := .ref a11) (C := RX2) (T := TX2) (N := 13) hx hb hg iX2 hown hK hP 0 rfl rfl 10 (by decide) (hg _ kw145) (fun _ h9 => h9) rfl dX2_crosses_137 ?_
            refine va_getN (D := D) (ci := 1) (v := .int ax) (C := RX1) (T := TX1) (N := 4) hx hb hg iX1 hown hK hP 3 rfl rfl 1 (by decide) (va_Nw.use rfl (nzF_11 hZ)) (fun _ h9 => h9) rfl dX2_crosses_140 ?_
            refine lv_iconst (v := (-1)) hx hb dX2_crosses_143 (by decide) ?_
            refine lv_icmp_eq (tgt := 170) hx hb dX2_crosses_144 (by decide) (fun c144 => ?_) (fun c144 => ?_)
            · refine lv_aload_n hx hb dX2_crosses_170 rfl (lv_at hl 5 rfl) ?_
              refine va_get (D := D) (ci := 2) (v := .ref a11) (C := RX2) (T := TX2) (N := 13) hx hb hg iX2 hown hK hP 0 rfl rfl 10 (by decide) (hg _ kw145) (fun _ h9 => h9) rfl dX2_crosses_171 ?_
              refine lv_iload_n hx hb dX2_crosses_174 rfl (lv_at hl 7 rfl) ?_
              refine lv_iload hx hb dX2_crosses_175 (lv_at hl 10 rfl) ?_
              refine lv_iload hx hb dX2_crosses_177 (lv_at hl 1 rfl) ?_
              refine lv_iload hx hb dX2_crosses_179 (lv_at hl 2 rfl) ?_
              have hPc := hP.sub (ws' := [(a11, .inr (1, [.int (nI i), .int ax, .int ab, .int be]))]) [3] rfl
              have hDc := hD.sub (ws' := [(a11, .inr (1, [.int (nI i), .int ax, .int ab, .int be]))]) [3] (by decide) rfl
              have hFc := va_free (wc := [(a11, .inr (1, [.int (nI i), .int ax, .int ab, .int be]))]) hD hS hA [3] rfl
              refine va_callv (va_runVN (As := [.int (nI i), .int (nI a), .int (crE (di a) (lo (i * 3 + a) - og a) (hi (i * 3 + a) - og a)), .int (absI (di a))]) (rest := []) ⟨hx, hb, hml, hown, hg⟩ (qX1_set l D cI cZ cJ a11 (nI i) ax ab be (nI i) (nI a) (crE (di a) (lo (i * 3 + a) - og a) (hi (i * 3 + a) - og a)) (absI (di a)) H.size) ⟨va_cnB 4 hg (gw_in kw351) rfl rfl rfl (nzM_5 hZ) (hg _ kw40) (by decide +kernel) ⟨Nat.le_of_ble_eq_true rfl, Nat.le_of_ble_eq_true rfl⟩, hg _ kw350, hg _ kw5⟩ (wq_preV hPc hK hDc hZ (va_recv hK hPc (ci := 1) (q0 := 0) rfl rfl)) rfl rfl hl.1 rfl (lv_room (Nat.le_of_ble_eq_true rfl)) dX2_crosses_181 ⟨Nat.le_of_ble_eq_true rfl, Nat.le_of_ble_eq_true rfl⟩) hS (fun q _ h => hFc q h) hFc (fun u t H locs ht hvm hw hB hz1 hk1 hS => ?_)
              obtain ⟨hP1, hK1, hD1⟩ := hB
              rw [ht] at hP1
              try dsimp only at hw hP1 hD1
              obtain ⟨hP, hD⟩ := va_join (wr := [(a0, .inr (2, [.ref a1, .ref a2, .ref a3, .ref a4, .ref a5, .ref a6, .ref a7, .ref a8, .ref a9, .ref a10, .ref a11, .int nh0, .int li])), (a1, .inl (cI, 3, .inl og)), (a2, .inl (cI, 3, .inl di)), (b0, .inr (0, [.ref b1, .ref b2, .ref b3, .ref b4, .ref b5, .int cn])), (b1, .inl (cI, 60, .inl lo)), (b2, .inl (cI, 60, .inl hi))]) (w1 := [(a11, .inr (1, [.int (nI i), .int (nI a), .int (crE (di a) (lo (i * 3 + a) - og a) (hi (i * 3 + a) - og a)), .int (absI (di a))]))]) hP hD [3] [0, 1, 2, 4, 5, 6] rfl rfl (by decide) (by decide) hk1 hFc hP1 hD1
              replace hP := hP.sub (ws' := [(a0, .inr (2, [.ref a1, .ref a2, .ref a3, .ref a4, .ref a5, .ref a6, .ref a7, .ref a8, .ref a9, .ref a10, .ref a11, .int nh0, .int li])), (a1, .inl (cI, 3, .inl og)), (a2, .inl (cI, 3, .inl di)), (a11, .inr (1, [.int (nI i), .int (nI a), .int (crE (di a) (lo (i * 3 + a) - og a) (hi (i * 3 + a) - og a)), .int (absI (di a))])), (b0, .inr (0, [.ref b1, .ref b2, .ref b3, .ref b4, .ref b5, .int cn])), (b1, .inl (cI, 60, .inl lo)), (b2, .inl (cI, 60, .inl hi))]) [0, 1, 2, 6, 3, 4, 5] rfl
              replace hD := hD.sub (ws' := [(a0, .inr (2, [.ref a1, .ref a2, .ref a3, .ref a4, .ref a5, .ref a6, .ref a7, .ref a8, .ref a9, .ref a10, .ref a11, .int nh0, .int li])), (a1, .inl (cI, 3, .inl og)), (a2, .inl (cI, 3, .inl di)), (a11, .inr (1, [.int (nI i), .int (nI a), .int (crE (di a) (lo (i * 3 + a) - og a) (hi (i * 3 + a) - og a)), .int (absI (di a))])), (b0, .inr (0, [.ref b1, .ref b2, .ref b3, .ref b4, .ref b5, .int cn])), (b1, .inl (cI, 60, .inl lo)), (b2, .inl (cI, 60, .inl hi))]) [0, 1, 2, 6, 3, 4, 5] (by decide) rfl
              exact K_5 (nI a) (crE (di a) (lo (i * 3 + a) - og a) (hi (i * 3 + a) - og a)) (absI (di a)) (by simp [cr1, c81, c144]) H locs ls hP hD hS (lv_sub hl [0, 1, 2, 3, 4, 5, 6, 7, 8, 9, 10] rfl)
            · refine lv_iload hx hb dX2_crosses_147 (lv_at hl 1 rfl) ?_
              refine lv_aload_n hx hb dX2_crosses_149 rfl (lv_at hl 5 rfl) ?_
              refine va_get (D := D) (ci := 2) (v := .ref a11) (C := RX2) (T := TX2) (N := 13) hx hb hg iX2 hown hK hP 0 rfl rfl 10 (by decide) (hg _ kw145) (fun _ h9 => h9) rfl dX2_crosses_150 ?_
              refine va_getN (D := D) (ci := 1) (v := .int be) (C := RX1) (T := TX1) (N := 4) hx hb hg iX1 hown hK hP 3 rfl rfl 3 (by decide) (va_Nw.use rfl (nzF_13 hZ)) (fun _ h9 => h9) rfl dX2_crosses_153 ?_
              refine lv_imul hx hb dX2_crosses_156 ?_
              refine lv_aload_n hx hb dX2_crosses_157 rfl (lv_at hl 5 rfl) ?_
              refine va_get (D := D) (ci := 2) (v := .ref a11) (C := RX2) (T := TX2) (N := 13) hx hb hg iX2 hown hK hP 0 rfl rfl 10 (by decide) (hg _ kw145) (fun _ h9 => h9) rfl dX2_crosses_158 ?_
              refine va_getN (D := D) (ci := 1) (v := .int ab) (C := RX1) (T := TX1) (N := 4) hx hb hg iX1 hown hK hP 3 rfl rfl 2 (by decide) (va_Nw.use rfl (nzF_12 hZ)) (fun _ h9 => h9) rfl dX2_crosses_161 ?_
              refine lv_iload hx hb dX2_crosses_164 (lv_at hl 2 rfl) ?_
              refine lv_imul hx hb dX2_crosses_166 ?_
              refine lv_icmp_le (tgt := 184) hx hb dX2_crosses_167 (by decide) (fun c167 => ?_) (fun c167 => ?_)
              · have c167n := Int32.not_lt.mpr c167
                exact K_5 ax ab be (by simp [cr1, c81, c144, c167, c167n]) H locs ls hP hD hS (lv_sub hl [0, 1, 2, 3, 4, 5, 6, 7, 8, 9, 10] rfl)
              · have c167n := Int32.not_le.mp c167
                refine lv_aload_n hx hb dX2_crosses_170 rfl (lv_at hl 5 rfl) ?_
                refine va_get (D := D) (ci := 2) (v := .ref a11) (C := RX2) (T := TX2) (N := 13) hx hb hg iX2 hown hK hP 0 rfl rfl 10 (by decide) (hg _ kw145) (fun _ h9 => h9) rfl dX2_crosses_171 ?_
                refine lv_iload_n hx hb dX2_crosses_174 rfl (lv_at hl 7 rfl) ?_
                refine lv_iload hx hb dX2_crosses_175 (lv_at hl 10 rfl) ?_
                refine lv_iload hx hb dX2_crosses_177 (lv_at hl 1 rfl) ?_
                refine lv_iload hx hb dX2_crosses_179 (lv_at hl 2 rfl) ?_
                have hPc := hP.sub (ws' := [(a11, .inr (1, [.int (nI i), .int ax, .int ab, .int be]))]) [3] rfl
                have hDc := hD.sub (ws' := [(a11, .inr (1, [.int (nI i), .int ax, .int ab, .int be]))]) [3] (by decide) rfl
                have hFc := va_free (wc := [(a11, .inr (1, [.int (nI i), .int ax, .int ab, .int be]))]) hD hS hA [3] rfl
                refine va_callv (va_runVN (As := [.int (nI i), .int (nI a), .int (crE (di a) (lo (i * 3 + a) - og a) (hi (i * 3 + a) - og a)), .int (absI (di a))]) (rest := []) ⟨hx, hb, hml, hown, hg⟩ (qX1_set l D cI cZ cJ a11 (nI i) ax ab be (nI i) (nI a) (crE (di a) (lo (i * 3 + a) - og a) (hi (i * 3 + a) - og a)) (absI (di a)) H.size) ⟨va_cnB 4 hg (gw_in kw351) rfl rfl rfl (nzM_5 hZ) (hg _ kw40) (by decide +kernel) ⟨Nat.le_of_ble_eq_true rfl, Nat.le_of_ble_eq_true rfl⟩, hg _ kw350, hg _ kw5⟩ (wq_preV hPc hK hDc hZ (va_recv hK hPc (ci := 1) (q0 := 0) rfl rfl)) rfl rfl hl.1 rfl (lv_room (Nat.le_of_ble_eq_true rfl)) dX2_crosses_181 ⟨Nat.le_of_ble_eq_true rfl, Nat.le_of_ble_eq_true rfl⟩) hS (fun q _ h => hFc q h) hFc (fun u t H locs ht hvm hw hB hz1 hk1 hS => ?_)
                obtain ⟨hP1, hK1, hD1⟩ := hB
                rw [ht] at hP1
                try dsimp only at hw hP1 hD1
                obtain ⟨hP, hD⟩ := va_join (wr := [(a0, .inr (2, [.ref a1, .ref a2, .ref a3, .ref a4, .ref a5, .ref a6, .ref a7, .ref a8, .ref a9, .ref a10, .ref a11, .int nh0, .int li])), (a1, .inl (cI, 3, .inl og)), (a2, .inl (cI, 3, .inl di)), (b0, .inr (0, [.ref b1, .ref b2, .ref b3, .ref b4, .ref b5, .int cn])), (b1, .inl (cI, 60, .inl lo)), (b2, .inl (cI, 60, .inl hi))]) (w1 := [(a11, .inr (1, [.int (nI i), .int (nI a), .int (crE (di a) (lo (i * 3 + a) - og a) (hi (i * 3 + a) - og a)), .int (absI (di a))]))]) hP hD [3] [0, 1, 2, 4, 5, 6] rfl rfl (by decide) (by decide) hk1 hFc hP1 hD1
                replace hP := hP.sub (ws' := [(a0, .inr (2, [.ref a1, .ref a2, .ref a3, .ref a4, .ref a5, .ref a6, .ref a7, .ref a8, .ref a9, .ref a10, .ref a11, .int nh0, .int li])), (a1, .inl (cI, 3, .inl og)), (a2, .inl (cI, 3, .inl di)), (a11, .inr (1, [.int (nI i), .int (nI a), .int (crE (di a) (lo (i * 3 + a) - og a) (hi (i * 3 + a) - og a)), .int (absI (di a))])), (b0, .inr (0, [.ref b1, .ref b2, .ref b3, .ref b4, .ref b5, .int cn])), (b1, .inl (cI, 60, .inl lo)), (b2, .inl (cI, 60, .inl hi))]) [0, 1, 2, 6, 3, 4, 5] rfl
                replace hD := hD.sub (ws' := [(a0, .inr (2, [.ref a1, .ref a2, .ref a3, .ref a4, .ref a5, .ref a6, .ref a7, .ref a8, .ref a9, .ref a10, .ref a11, .int nh0, .int li])), (a1, .inl (cI, 3, .inl og)), (a2, .inl (cI, 3, .inl di)), (a11, .inr (1, [.int (nI i), .int (nI a), .int (crE (di a) (lo (i * 3 + a) - og a) (hi (i * 3 + a) - og a)), .int (absI (di a))])), (b0, .inr (0, [.ref b1, .ref b2, .ref b3, .ref b4, .ref b5, .int cn])), (b1, .inl (cI, 60, .inl lo)), (b2, .inl (cI, 60, .inl hi))]) [0, 1, 2, 6, 3, 4, 5] (by decide) rfl
                exact K_5 (nI a) (crE (di a) (lo (i * 3 + a) - og a) (hi (i * 3 + a) - og a)) (absI (di a)) (by simp [cr1, c81, c144, c167, c167n]) H locs ls hP hD hS (lv_sub hl [0, 1, 2, 3, 4, 5, 6, 7, 8, 9, 10] rfl)
          refine lv_aload_n hx hb dX2_crosses_116 rfl (lv_at hl 4 rfl) ?_
          refine va_get (D := D) (ci := 2) (v := .ref a2) (C := RX2) (T := TX2) (N := 13) hx hb hg iX2 hown hK hP 0 rfl rfl 1 (by decide) (hg _ kw130) (fun _ h9 => h9) rfl dX2_crosses_117 ?_
          refine lv_iload hx hb dX2_crosses_120 (lv_at hl 9 rfl) ?_
          refine va_iald hx hb hK hP 2 0 rfl rfl (vp_in_nI (by omega) (by decide)) dX2_crosses_122 ?_
          refine tp_i (y := di a) (congrArg di (nI_clamp (by omega))) ?_
          refine lv_if_le (tgt := 131) hx hb dX2_crosses_123 (by decide) (fun c123 => ?_) (fun c123 => ?_)
          · have c123n := Int32.not_lt.mpr c123
            refine lv_iload hx hb dX2_crosses_131 (lv_at hl 3 rfl) ?_
            refine lv_ineg hx hb dX2_crosses_133 ?_
            refine tp_i (y := crL (di a) (lo (i * 3 + a) - og a) (hi (i * 3 + a) - og a)) (by simp [crL, c81, c123, c123n]) ?_
            exact J_4
          · have c123n := Int32.not_le.mp c123
            refine lv_iload hx hb dX2_crosses_126 (lv_at hl 2 rfl) ?_
            refine lv_goto (tgt := 134) hx hb dX2_crosses_128 (by decide) ?_
            refine tp_i (y := crL (di a) (lo (i * 3 + a) - og a) (hi (i * 3 + a) - og a)) (by simp [crL, c81, c123, c123n]) ?_
            exact J_4
        refine lv_aload_n hx hb dX2_crosses_96 rfl (lv_at hl 3 rfl) ?_
        refine va_get (D := D) (ci := 2) (v := .ref a2) (C := RX2) (T := TX2) (N := 13) hx hb hg iX2 hown hK hP 0 rfl rfl 1 (by decide) (hg _ kw130) (fun _ h9 => h9) rfl dX2_crosses_97 ?_
        refine lv_iload hx hb dX2_crosses_100 (lv_at hl 8 rfl) ?_
        refine va_iald hx hb hK hP 2 0 rfl rfl (vp_in_nI (by omega) (by decide)) dX2_crosses_102 ?_
        refine tp_i (y := di a) (congrArg di (nI_clamp (by omega))) ?_
        refine lv_if_le (tgt := 111) hx hb dX2_crosses_103 (by decide) (fun c103 => ?_) (fun c103 => ?_)
        · have c103n := Int32.not_lt.mpr c103
          refine lv_iload hx hb dX2_crosses_111 (lv_at hl 1 rfl) ?_
          refine lv_ineg hx hb dX2_crosses_113 ?_
          refine tp_i (y := crE (di a) (lo (i * 3 + a) - og a) (hi (i * 3 + a) - og a)) (by simp [crE, c81, c103, c103n]) ?_
          exact J_3
        · have c103n := Int32.not_le.mp c103
          refine lv_iload hx hb dX2_crosses_106 (lv_at hl 2 rfl) ?_
          refine lv_goto (tgt := 114) hx hb dX2_crosses_108 (by decide) ?_
          refine tp_i (y := crE (di a) (lo (i * 3 + a) - og a) (hi (i * 3 + a) - og a)) (by simp [crE, c81, c103, c103n]) ?_
          exact J_3
      · refine lv_iload hx hb dX2_crosses_84 (lv_at hl 2 rfl) ?_
        refine lv_if_ge (tgt := 94) hx hb dX2_crosses_86 (by decide) (fun c86 => ?_) (fun c86 => ?_)
        · have c86n := Int32.not_lt.mpr c86
          refine lv_iconst (v := 0) hx hb dX2_crosses_94 (by decide) ?_
          exact W.zret (v := 0) hx hb hr (by decide) (fun t ht hW => ⟨⟨0, (ax, ab, be), rfl, ⟨by simp [crN, crFin, bI, c81, c86, c86n], by simp [crN, crFin, c81, c86, c86n]⟩, bq_end hP hK hD ht hW⟩, hS.F ht⟩) hS.2.2 dX2_crosses_95
        · have c86n := Int32.not_le.mp c86
          refine lv_iload hx hb dX2_crosses_89 (lv_at hl 1 rfl) ?_
          refine lv_if_gt (tgt := 208) hx hb dX2_crosses_91 (by decide) (fun c91 => ?_) (fun c91 => ?_)
          · have c91n := Int32.not_le.mpr c91
            refine lv_iinc (v := nI (a + 1)) (lv' := [(5, .int (nI (a + 1))), (8, .int (absI (di a))), (7, .int ((hi (i * 3 + a)) - (og a))), (6, .int ((lo (i * 3 + a)) - (og a))), (0, .ref a0), (1, .ref b0), (2, .int (nI i)), (3, .int la), (4, .int lb)]) hx hb dX2_crosses_208 hl (k := 8) rfl (nI_1 _) (by decide) rfl (fun ls hl => ?_)
            refine lv_goto (tgt := 19) hx hb dX2_crosses_211 (by decide) ?_
            rw [show crN lo hi og di i (n + 1) a ax ab be la lb = crN lo hi og di i n (a + 1) ax ab be la lb from by simp [crN, cr2, c81, c86, c86n, c91, c91n]]
            exact ih (a + 1) ax ab be la lb (by omega) H locs ls hP hD hS (lv_sub hl [4, 5, 6, 7, 8, 0] rfl)
          · have c91n := Int32.not_lt.mp c91
            refine lv_iconst (v := 0) hx hb dX2_crosses_94 (by decide) ?_
            exact W.zret (v := 0) hx hb hr (by decide) (fun t ht hW => ⟨⟨0, (ax, ab, be), rfl, ⟨by simp [crN, crFin, bI, c81, c86, c86n, c91, c91n], by simp [crN, crFin, c81, c86, c86n, c91, c91n]⟩, bq_end hP hK hD ht hW⟩, hS.F ht⟩) hS.2.2 dX2_crosses_95
  exact loop_2 3 0 (-1) 0 1 0 0 (by omega) H locs ls hP hD hS (lv_sub hl [3, 4, 5, 2, 1, 0] rfl)
end
section
/-! the next box that a path meets -/
def fn1 (lo hi og di ar of : Nat → Int32) (lb lv lw : Int32) (i : Nat) (b a v w : Int32) : Int32 × Int32 × Int32 × Int32 :=
  if of i = 0 then (match crO lo hi og di i with
    | none => (b, a, v, w)
    | some z => if countsB lo hi og di ar lb lv lw z.2.1 z.2.2 i = true ∧ (b = -1 ∨ cmpI (z.2.1 * w) (v * z.2.2) < 0) then (nI i, z.1, z.2.1, z.2.2) else (b, a, v, w))
  else (b, a, v, w)
def fnN (lo hi og di ar of : Nat → Int32) (lb lv lw : Int32) : Nat → Nat → Int32 → Int32 → Int32 → Int32 → Int32 × Int32 × Int32 × Int32
  | 0, _, b, a, v, w => (b, a, v, w)
  | n + 1, i, b, a, v, w => fnN lo hi og di ar of lb lv lw n (i + 1) (fn1 lo hi og di ar of lb lv lw i b a v w).1 (fn1 lo hi og di ar of lb lv lw i b a v w).2.1 (fn1 lo hi og di ar of lb lv lw i b a v w).2.2.1 (fn1 lo hi og di ar of lb lv lw i b a v w).2.2.2

set_option maxHeartbeats 4000000 in
set_option maxRecDepth 100000 in
/-- Path.findNext -/
theorem qX2_findNext (l : Launch) (D : va_G) (cI cZ cJ : ClassId) (a0 a1 a2 a3 a4 a5 a6 a7 a8 a9 a10 a11 : Nat) (b0 b1 b2 b3 b4 b5 : Nat) (og di ar ho hx9 ha hl9 hs : Nat → Int32) (lb la lv lw nb9 na nv nw tb ta tv tw : Int32) (nh0 li : Int32) (lo hi ki sh of : Nat → Int32) (nb : Nat) (hnb : nb ≤ 20) (sz : Nat) : Met l yX2_findNext (Cond.code yX2_findNext cX2_findNext 3 (some .boolean) :: gw) ({ frames := 3, cells := 0, slots := 0, locals := 71 }) (wq D [.ref a0, .ref b0] sz [(a0, .inr (2, [.ref a1, .ref a2, .ref a3, .ref a4, .ref a5, .ref a6, .ref a7, .ref a8, .ref a9, .ref a10, .ref a11, .int nh0, .int li])), (a1, .inl (cI, 3, .inl og)), (a2, .inl (cI, 3, .inl di)), (a3, .inl (cI, 3, .inl ar)), (a4, .inl (cI, 30, .inl ho)), (a5, .inl (cI, 30, .inl hx9)), (a6, .inl (cI, 30, .inl ha)), (a7, .inl (cI, 30, .inl hl9)), (a8, .inl (cI, 90, .inl hs)), (a9, .inr (1, [.int lb, .int la, .int lv, .int lw])), (a10, .inr (1, [.int nb9, .int na, .int nv, .int nw])), (a11, .inr (1, [.int tb, .int ta, .int tv, .int tw])), (b0, .inr (0, [.ref b1, .ref b2, .ref b3, .ref b4, .ref b5, .int (nI nb)])), (b1, .inl (cI, 60, .inl lo)), (b2, .inl (cI, 60, .inl hi)), (b3, .inl (cI, 20, .inl ki)), (b4, .inl (cI, 20, .inl sh)), (b5, .inl (cZ, 20, .inl of))] [(cI, .int), (cZ, .boolean), (cJ, .long)]) (va_Qi (S := (Int32 × Int32 × Int32 × Int32) × (Int32 × Int32 × Int32 × Int32)) (fun r u => r = bI (!decide ((fnN lo hi og di ar of lb lv lw nb 0 (-1) na nv nw).1 = -1)) ∧ u.1 = (fnN lo hi og di ar of lb lv lw nb 0 (-1) na nv nw)) (fun u => bq D [(cI, .int), (cZ, .boolean), (cJ, .long)] (va_A [(a0, .inr (2, [.ref a1, .ref a2, .ref a3, .ref a4, .ref a5, .ref a6, .ref a7, .ref a8, .ref a9, .ref a10, .ref a11, .int nh0, .int li])), (a1, .inl (cI, 3, .inl og)), (a2, .inl (cI, 3, .inl di)), (a3, .inl (cI, 3, .inl ar)), (a4, .inl (cI, 30, .inl ho)), (a5, .inl (cI, 30, .inl hx9)), (a6, .inl (cI, 30, .inl ha)), (a7, .inl (cI, 30, .inl hl9)), (a8, .inl (cI, 90, .inl hs)), (a9, .inr (1, [.int lb, .int la, .int lv, .int lw])), (a10, .inr (1, [.int nb9, .int na, .int nv, .int nw])), (a11, .inr (1, [.int tb, .int ta, .int tv, .int tw])), (b0, .inr (0, [.ref b1, .ref b2, .ref b3, .ref b4, .ref b5, .int (nI nb)])), (b1, .inl (cI, 60, .inl lo)), (b2, .inl (cI, 60, .inl hi)), (b3, .inl (cI, 20, .inl ki)), (b4, .inl (cI, 20, .inl sh)), (b5, .inl (cZ, 20, .inl of))] sz) ([(a0, .inr (2, [.ref a1, .ref a2, .ref a3, .ref a4, .ref a5, .ref a6, .ref a7, .ref a8, .ref a9, .ref a10, .ref a11, .int nh0, .int li])), (a1, .inl (cI, 3, .inl og)), (a2, .inl (cI, 3, .inl di)), (a3, .inl (cI, 3, .inl ar)), (a4, .inl (cI, 30, .inl ho)), (a5, .inl (cI, 30, .inl hx9)), (a6, .inl (cI, 30, .inl ha)), (a7, .inl (cI, 30, .inl hl9)), (a8, .inl (cI, 90, .inl hs)), (a9, .inr (1, [.int lb, .int la, .int lv, .int lw])), (a10, .inr (1, [.int u.1.1, .int u.1.2.1, .int u.1.2.2.1, .int u.1.2.2.2])), (a11, .inr (1, [.int u.2.1, .int u.2.2.1, .int u.2.2.2.1, .int u.2.2.2.2])), (b0, .inr (0, [.ref b1, .ref b2, .ref b3, .ref b4, .ref b5, .int (nI nb)])), (b1, .inl (cI, 60, .inl lo)), (b2, .inl (cI, 60, .inl hi)), (b3, .inl (cI, 20, .inl ki)), (b4, .inl (cI, 20, .inl sh)), (b5, .inl (cZ, 20, .inl of))])) (va_A [(a0, .inr (2, [.ref a1, .ref a2, .ref a3, .ref a4, .ref a5, .ref a6, .ref a7, .ref a8, .ref a9, .ref a10, .ref a11, .int nh0, .int li])), (a1, .inl (cI, 3, .inl og)), (a2, .inl (cI, 3, .inl di)), (a3, .inl (cI, 3, .inl ar)), (a4, .inl (cI, 30, .inl ho)), (a5, .inl (cI, 30, .inl hx9)), (a6, .inl (cI, 30, .inl ha)), (a7, .inl (cI, 30, .inl hl9)), (a8, .inl (cI, 90, .inl hs)), (a9, .inr (1, [.int lb, .int la, .int lv, .int lw])), (a10, .inr (1, [.int nb9, .int na, .int nv, .int nw])), (a11, .inr (1, [.int tb, .int ta, .int tv, .int tw])), (b0, .inr (0, [.ref b1, .ref b2, .ref b3, .ref b4, .ref b5, .int (nI nb)])), (b1, .inl (cI, 60, .inl lo)), (b2, .inl (cI, 60, .inl hi)), (b3, .inl (cI, 20, .inl ki)), (b4, .inl (cI, 20, .inl sh)), (b5, .inl (cZ, 20, .inl of))] sz)) 0 0 (va_A [(a0, .inr (2, [.ref a1, .ref a2, .ref a3, .ref a4, .ref a5, .ref a6, .ref a7, .ref a8, .ref a9, .ref a10, .ref a11, .int nh0, .int li])), (a1, .inl (cI, 3, .inl og)), (a2, .inl (cI, 3, .inl di)), (a3, .inl (cI, 3, .inl ar)), (a4, .inl (cI, 30, .inl ho)), (a5, .inl (cI, 30, .inl hx9)), (a6, .inl (cI, 30, .inl ha)), (a7, .inl (cI, 30, .inl hl9)), (a8, .inl (cI, 90, .inl hs)), (a9, .inr (1, [.int lb, .int la, .int lv, .int lw])), (a10, .inr (1, [.int nb9, .int na, .int nv, .int nw])), (a11, .inr (1, [.int tb, .int ta, .int tv, .int tw])), (b0, .inr (0, [.ref b1, .ref b2, .ref b3, .ref b4, .ref b5, .int (nI nb)])), (b1, .inl (cI, 60, .inl lo)), (b2, .inl (cI, 60, .inl hi)), (b3, .inl (cI, 20, .inl ki)), (b4, .inl (cI, 20, .inl sh)), (b5, .inl (cZ, 20, .inl of))] sz) := by
  refine Met.ofW (cc := cX2_findNext) (maxL := 3) (ret := (some .boolean)) (by decide) rfl ?_
  intro p e s m args below meth c s₁ B hml hv
  obtain ⟨rfl, hsz, hP, hK, hD0, hZ⟩ := hv
  have hx := B.exec
  have hb := B.bytes
  have hr := B.returns
  have hg : ∀ w ∈ gw, w.before _ s = true := fun w h => atoms_spec (ws := Cond.code yX2_findNext cX2_findNext 3 (some .boolean) :: gw) B.pre w (List.mem_cons_of_mem _ h)
  have hown : s.vm.findClass RX2 = some m.cls := findClass_of_methodNamed B.named
  have hlocks := B.notSynchronized
  subst hsz
  have hD := hD0.self (sz := s.heap.size)
  generalize hAe : va_A [(a0, .inr (2, [.ref a1, .ref a2, .ref a3, .ref a4, .ref a5, .ref a6, .ref a7, .ref a8, .ref a9, .ref a10, .ref a11, .int nh0, .int li])), (a1, .inl (cI, 3, .inl og)), (a2, .inl (cI, 3, .inl di)), (a3, .inl (cI, 3, .inl ar)), (a4, .inl (cI, 30, .inl ho)), (a5, .inl (cI, 30, .inl hx9)), (a6, .inl (cI, 30, .inl ha)), (a7, .inl (cI, 30, .inl hl9)), (a8, .inl (cI, 90, .inl hs)), (a9, .inr (1, [.int lb, .int la, .int lv, .int lw])), (a10, .inr (1, [.int nb9, .int na, .int nv, .int nw])), (a11, .inr (1, [.int tb, .int ta, .int tv, .int tw])), (b0, .inr (0, [.ref b1, .ref b2, .ref b3, .ref b4, .ref b5, .int (nI nb)])), (b1, .inl (cI, 60, .inl lo)), (b2, .inl (cI, 60, .inl hi)), (b3, .inl (cI, 20, .inl ki)), (b4, .inl (cI, 20, .inl sh)), (b5, .inl (cZ, 20, .inl of))] s.heap.size = A at hD ⊢
  have hA : ∀ q : Nat, s.heap.size ≤ q → A q := fun q h => by rw [← hAe]; exact Or.inr h
  have hS : va_S A s.heap s.heap [] := va_S.rf
  have hP : va_P D vwCl [(a0, .inr (2, [.ref a1, .ref a2, .ref a3, .ref a4, .ref a5, .ref a6, .ref a7, .ref a8, .ref a9, .ref a10, .ref a11, .int nh0, .int li])), (a1, .inl (cI, 3, .inl og)), (a2, .inl (cI, 3, .inl di)), (a3, .inl (cI, 3, .inl ar)), (a4, .inl (cI, 30, .inl ho)), (a5, .inl (cI, 30, .inl hx9)), (a6, .inl (cI, 30, .inl ha)), (a7, .inl (cI, 30, .inl hl9)), (a8, .inl (cI, 90, .inl hs)), (a9, .inr (1, [.int lb, .int la, .int lv, .int lw])), (a10, .inr (1, [.int nb9, .int na, .int nv, .int nw])), (a11, .inr (1, [.int tb, .int ta, .int tv, .int tw])), (b0, .inr (0, [.ref b1, .ref b2, .ref b3, .ref b4, .ref b5, .int (nI nb)])), (b1, .inl (cI, 60, .inl lo)), (b2, .inl (cI, 60, .inl hi)), (b3, .inl (cI, 20, .inl ki)), (b4, .inl (cI, 20, .inl sh)), (b5, .inl (cZ, 20, .inl of))] s.heap := hP
  have hl := lv_entry ([.ref a0, .ref b0]) (n := 3) (Nat.le_of_ble_eq_true rfl)
  rw [lg_entry_eq]
  generalize (lg_sl ([.ref a0, .ref b0]) ++ List.replicate (3 - (lg_sl ([.ref a0, .ref b0])).length) Slot.unset).toArray = ls at hl ⊢
  have hl : lv_has ls 3 [(0, .ref a0), (1, .ref b0)] := hl
  refine lv_aload_n hx hb dX2_findNext_0 rfl (lv_at hl 0 rfl) ?_
  refine va_get (D := D) (ci := 2) (v := .ref a10) (C := RX2) (T := TX2) (N := 13) hx hb hg iX2 hown hK hP 0 rfl rfl 9 (by decide) (hg _ kw144) (fun _ h9 => h9) rfl dX2_findNext_1 ?_
  refine lv_iconst (v := (-1)) hx hb dX2_findNext_4 (by decide) ?_
  refine va_putN (D := D) (ci := 1) (v := .int (-1)) (ty := .int) (C := RX1) (T := TX1) (N := 4) hx hb hg iX1 tyX1 tyX1_ok nmX1 hown hK hP hD hS 10 rfl rfl 0 (by decide) (va_Nw.use rfl (nzF_10 hZ)) (fun _ h9 => h9) rfl (by decide +kernel) rfl rfl (Nat.le_of_ble_eq_true rfl) dX2_findNext_5 (fun H locs hP hD hS => ?_)
  have hP : va_P D vwCl [(a0, .inr (2, [.ref a1, .ref a2, .ref a3, .ref a4, .ref a5, .ref a6, .ref a7, .ref a8, .ref a9, .ref a10, .ref a11, .int nh0, .int li])), (a1, .inl (cI, 3, .inl og)), (a2, .inl (cI, 3, .inl di)), (a3, .inl (cI, 3, .inl ar)), (a4, .inl (cI, 30, .inl ho)), (a5, .inl (cI, 30, .inl hx9)), (a6, .inl (cI, 30, .inl ha)), (a7, .inl (cI, 30, .inl hl9)), (a8, .inl (cI, 90, .inl hs)), (a9, .inr (1, [.int lb, .int la, .int lv, .int lw])), (a10, .inr (1, [.int (-1), .int na, .int nv, .int nw])), (a11, .inr (1, [.int tb, .int ta, .int tv, .int tw])), (b0, .inr (0, [.ref b1, .ref b2, .ref b3, .ref b4, .ref b5, .int (nI nb)])), (b1, .inl (cI, 60, .inl lo)), (b2, .inl (cI, 60, .inl hi)), (b3, .inl (cI, 20, .inl ki)), (b4, .inl (cI, 20, .inl sh)), (b5, .inl (cZ, 20, .inl of))] H := hP
  have hD : va_D A [(a0, .inr (2, [.ref a1, .ref a2, .ref a3, .ref a4, .ref a5, .ref a6, .ref a7, .ref a8, .ref a9, .ref a10, .ref a11, .int nh0, .int li])), (a1, .inl (cI, 3, .inl og)), (a2, .inl (cI, 3, .inl di)), (a3, .inl (cI, 3, .inl ar)), (a4, .inl (cI, 30, .inl ho)), (a5, .inl (cI, 30, .inl hx9)), (a6, .inl (cI, 30, .inl ha)), (a7, .inl (cI, 30, .inl hl9)), (a8, .inl (cI, 90, .inl hs)), (a9, .inr (1, [.int lb, .int la, .int lv, .int lw])), (a10, .inr (1, [.int (-1), .int na, .int nv, .int nw])), (a11, .inr (1, [.int tb, .int ta, .int tv, .int tw])), (b0, .inr (0, [.ref b1, .ref b2, .ref b3, .ref b4, .ref b5, .int (nI nb)])), (b1, .inl (cI, 60, .inl lo)), (b2, .inl (cI, 60, .inl hi)), (b3, .inl (cI, 20, .inl ki)), (b4, .inl (cI, 20, .inl sh)), (b5, .inl (cZ, 20, .inl of))] := hD
  refine lv_iconst (v := 0) hx hb dX2_findNext_8 (by decide) ?_
  refine lv_istore_n (lv' := [(2, .int 0), (0, .ref a0), (1, .ref b0)]) hx hb dX2_findNext_9 rfl hl (by decide) rfl (fun ls hl => ?_)
  have loop_6 : ∀ (n : Nat) (i : Nat) (b a v w tb ta tv tw : Int32), i + n = nb → ∀ (H : Heap) (locs : List Loc) (ls : Array Slot), va_P D vwCl [(a0, .inr (2, [.ref a1, .ref a2, .ref a3, .ref a4, .ref a5, .ref a6, .ref a7, .ref a8, .ref a9, .ref a10, .ref a11, .int nh0, .int li])), (a1, .inl (cI, 3, .inl og)), (a2, .inl (cI, 3, .inl di)), (a3, .inl (cI, 3, .inl ar)), (a4, .inl (cI, 30, .inl ho)), (a5, .inl (cI, 30, .inl hx9)), (a6, .inl (cI, 30, .inl ha)), (a7, .inl (cI, 30, .inl hl9)), (a8, .inl (cI, 90, .inl hs)), (a9, .inr (1, [.int lb, .int la, .int lv, .int lw])), (a10, .inr (1, [.int b, .int a, .int v, .int w])), (a11, .inr (1, [.int tb, .int ta, .int tv, .int tw])), (b0, .inr (0, [.ref b1, .ref b2, .ref b3, .ref b4, .ref b5, .int (nI nb)])), (b1, .inl (cI, 60, .inl lo)), (b2, .inl (cI, 60, .inl hi)), (b3, .inl (cI, 20, .inl ki)), (b4, .inl (cI, 20, .inl sh)), (b5, .inl (cZ, 20, .inl of))] H → va_D A [(a0, .inr (2, [.ref a1, .ref a2, .ref a3, .ref a4, .ref a5, .ref a6, .ref a7, .ref a8, .ref a9, .ref a10, .ref a11, .int nh0, .int li])), (a1, .inl (cI, 3, .inl og)), (a2, .inl (cI, 3, .inl di)), (a3, .inl (cI, 3, .inl ar)), (a4, .inl (cI, 30, .inl ho)), (a5, .inl (cI, 30, .inl hx9)), (a6, .inl (cI, 30, .inl ha)), (a7, .inl (cI, 30, .inl hl9)), (a8, .inl (cI, 90, .inl hs)), (a9, .inr (1, [.int lb, .int la, .int lv, .int lw])), (a10, .inr (1, [.int b, .int a, .int v, .int w])), (a11, .inr (1, [.int tb, .int ta, .int tv, .int tw])), (b0, .inr (0, [.ref b1, .ref b2, .ref b3, .ref b4, .ref b5, .int (nI nb)])), (b1, .inl (cI, 60, .inl lo)), (b2, .inl (cI, 60, .inl hi)), (b3, .inl (cI, 20, .inl ki)), (b4, .inl (cI, 20, .inl sh)), (b5, .inl (cZ, 20, .inl of))] → va_S A s.heap H locs → lv_has ls 3 [(0, .ref a0), (1, .ref b0), (2, .int (nI i))] → W p l e (headSpec (Cond.code yX2_findNext cX2_findNext 3 (some .boolean) :: gw) ({ frames := 3, cells := 0, slots := 0, locals := 71 })).room s m ([.ref a0, .ref b0] : List Value).toArray below meth c H locs 0 0 (MQ below (va_Qi (S := (Int32 × Int32 × Int32 × Int32) × (Int32 × Int32 × Int32 × Int32)) (fun r u => r = bI (!decide ((fnN lo hi og di ar of lb lv lw n i b a v w).1 = -1)) ∧ u.1 = (fnN lo hi og di ar of lb lv lw n i b a v w)) (fun u => bq D [(cI, .int), (cZ, .boolean), (cJ, .long)] A ([(a0, .inr (2, [.ref a1, .ref a2, .ref a3, .ref a4, .ref a5, .ref a6, .ref a7, .ref a8, .ref a9, .ref a10, .ref a11, .int nh0, .int li])), (a1, .inl (cI, 3, .inl og)), (a2, .inl (cI, 3, .inl di)), (a3, .inl (cI, 3, .inl ar)), (a4, .inl (cI, 30, .inl ho)), (a5, .inl (cI, 30, .inl hx9)), (a6, .inl (cI, 30, .inl ha)), (a7, .inl (cI, 30, .inl hl9)), (a8, .inl (cI, 90, .inl hs)), (a9, .inr (1, [.int lb, .int la, .int lv, .int lw])), (a10, .inr (1, [.int u.1.1, .int u.1.2.1, .int u.1.2.2.1, .int u.1.2.2.2])), (a11, .inr (1, [.int u.2.1, .int u.2.2.1, .int u.2.2.2.1, .int u.2.2.2.2])), (b0, .inr (0, [.ref b1, .ref b2, .ref b3, .ref b4, .ref b5, .int (nI nb)])), (b1, .inl (cI, 60, .inl lo)), (b2, .inl (cI, 60, .inl hi)), (b3, .inl (cI, 20, .inl ki)), (b4, .inl (cI, 20, .inl sh)), (b5, .inl (cZ, 20, .inl of))])) A) ([.ref a0, .ref b0] : List Value).toArray s 0 0 A) (F0 m 10 ls []) := by
    intro n
    induction n with
    | zero =>
      intro i b a v w tb ta tv tw hlp H locs ls hP hD hS hl
      refine lv_iload_n hx hb dX2_findNext_10 rfl (lv_at hl 2 rfl) ?_
      refine lv_aload_n hx hb dX2_findNext_11 rfl (lv_at hl 1 rfl) ?_
      refine va_getN (D := D) (ci := 0) (v := .int (nI nb)) (C := RX0) (T := TX0) (N := 6) hx hb hg iX0 hown hK hP 12 rfl rfl 5 (by decide) (va_Nw.use rfl (nzF_9 hZ)) (fun _ h9 => h9) rfl dX2_findNext_12 ?_
      refine lv_icmp_ge (tgt := 86) hx hb dX2_findNext_15 (by decide) (fun _ => ?_) (fun c15 => absurd (nI_le (by omega) (by omega)) c15)
      refine lv_aload_n hx hb dX2_findNext_86 rfl (lv_at hl 0 rfl) ?_
      refine va_get (D := D) (ci := 2) (v := .ref a10) (C := RX2) (T := TX2) (N := 13) hx hb hg iX2 hown hK hP 0 rfl rfl 9 (by decide) (hg _ kw144) (fun _ h9 => h9) rfl dX2_findNext_87 ?_
      refine va_getN (D := D) (ci := 1) (v := .int b) (C := RX1) (T := TX1) (N := 4) hx hb hg iX1 hown hK hP 10 rfl rfl 0 (by decide) (va_Nw.use rfl (nzF_10 hZ)) (fun _ h9 => h9) rfl dX2_findNext_90 ?_
      refine lv_iconst (v := (-1)) hx hb dX2_findNext_93 (by decide) ?_
      refine lv_icmp_eq (tgt := 101) hx hb dX2_findNext_94 (by decide) (fun c94 => ?_) (fun c94 => ?_)
      · refine lv_iconst (v := 0) hx hb dX2_findNext_101 (by decide) ?_
        exact W.zret (v := 0) hx hb hr (by decide) (fun t ht hW => ⟨⟨0, ((b, a, v, w), (tb, ta, tv, tw)), rfl, ⟨by simp [fnN, bI, c94], rfl⟩, bq_end hP hK hD ht hW⟩, hS.F ht⟩) hS.2.2 dX2_findNext_102
      · refine lv_iconst (v := 1) hx hb dX2_findNext_97 (by decide) ?_
        refine lv_goto (tgt := 102) hx hb dX2_findNext_98 (by decide) ?_
        exact W.zret (v := 1) hx hb hr (by decide) (fun t ht hW => ⟨⟨1, ((b, a, v, w), (tb, ta, tv, tw)), rfl, ⟨by simp [fnN, bI, c94], rfl⟩, bq_end hP hK hD ht hW⟩, hS.F ht⟩) hS.2.2 dX2_findNext_102
    | succ n ih =>
      intro i b a v w tb ta tv tw hlp H locs ls hP hD hS hl
      refine lv_iload_n hx hb dX2_findNext_10 rfl (lv_at hl 2 rfl) ?_
      refine lv_aload_n hx hb dX2_findNext_11 rfl (lv_at hl 1 rfl) ?_
      refine va_getN (D := D) (ci := 0) (v := .int (nI nb)) (C := RX0) (T := TX0) (N := 6) hx hb hg iX0 hown hK hP 12 rfl rfl 5 (by decide) (va_Nw.use rfl (nzF_9 hZ)) (fun _ h9 => h9) rfl dX2_findNext_12 ?_
      refine lv_icmp_ge (tgt := 86) hx hb dX2_findNext_15 (by decide) (fun c15 => absurd c15 (nI_ge (by omega) (by omega))) (fun _ => ?_)
      refine lv_aload_n hx hb dX2_findNext_18 rfl (lv_at hl 1 rfl) ?_
      refine va_getN (D := D) (ci := 0) (v := .ref b5) (C := RX0) (T := TX0) (N := 6) hx hb hg iX0 hown hK hP 12 rfl rfl 4 (by decide) (va_Nw.use rfl (nzF_7 hZ)) (fun _ h9 => h9) rfl dX2_findNext_19 ?_
      refine lv_iload_n hx hb dX2_findNext_22 rfl (lv_at hl 2 rfl) ?_
      refine va_zald hx hb hK hP 17 1 rfl rfl (vp_in_nI (by omega) (by decide)) dX2_findNext_23 ?_
      refine tp_i (y := of i) (congrArg of (nI_clamp (by omega))) ?_
      refine lv_if_ne (tgt := 80) hx hb dX2_findNext_24 (by decide) (fun c24 => ?_) (fun c24 => ?_)
      · refine lv_iinc (v := nI (i + 1)) (lv' := [(2, .int (nI (i + 1))), (0, .ref a0), (1, .ref b0)]) hx hb dX2_findNext_80 hl (k := 2) rfl (nI_1 _) (by decide) rfl (fun ls hl => ?_)
        refine lv_goto (tgt := 10) hx hb dX2_findNext_83 (by decide) ?_
        rw [show (fnN lo hi og di ar of lb lv lw (n + 1) i b a v w) = (fnN lo hi og di ar of lb lv lw n (i + 1) b a v w) from by simp [fnN, fn1, c24]]
        exact ih (i + 1) b a v w tb ta tv tw (by omega) H locs ls hP hD hS (lv_sub hl [1, 2, 0] rfl)
      · refine lv_aload_n hx hb dX2_findNext_27 rfl (lv_at hl 0 rfl) ?_
        refine lv_aload_n hx hb dX2_findNext_28 rfl (lv_at hl 1 rfl) ?_
        refine lv_iload_n hx hb dX2_findNext_29 rfl (lv_at hl 2 rfl) ?_
        have hPc := hP.sub (ws' := [(a0, .inr (2, [.ref a1, .ref a2, .ref a3, .ref a4, .ref a5, .ref a6, .ref a7, .ref a8, .ref a9, .ref a10, .ref a11, .int nh0, .int li])), (a1, .inl (cI, 3, .inl og)), (a2, .inl (cI, 3, .inl di)), (a11, .inr (1, [.int tb, .int ta, .int tv, .int tw])), (b0, .inr (0, [.ref b1, .ref b2, .ref b3, .ref b4, .ref b5, .int (nI nb)])), (b1, .inl (cI, 60, .inl lo)), (b2, .inl (cI, 60, .inl hi))]) [0, 1, 2, 11, 12, 13, 14] rfl
        have hDc := hD.sub (ws' := [(a0, .inr (2, [.ref a1, .ref a2, .ref a3, .ref a4, .ref a5, .ref a6, .ref a7, .ref a8, .ref a9, .ref a10, .ref a11, .int nh0, .int li])), (a1, .inl (cI, 3, .inl og)), (a2, .inl (cI, 3, .inl di)), (a11, .inr (1, [.int tb, .int ta, .int tv, .int tw])), (b0, .inr (0, [.ref b1, .ref b2, .ref b3, .ref b4, .ref b5, .int (nI nb)])), (b1, .inl (cI, 60, .inl lo)), (b2, .inl (cI, 60, .inl hi))]) [0, 1, 2, 11, 12, 13, 14] (by decide) rfl
        have hFc := va_free (wc := [(a0, .inr (2, [.ref a1, .ref a2, .ref a3, .ref a4, .ref a5, .ref a6, .ref a7, .ref a8, .ref a9, .ref a10, .ref a11, .int nh0, .int li])), (a1, .inl (cI, 3, .inl og)), (a2, .inl (cI, 3, .inl di)), (a11, .inr (1, [.int tb, .int ta, .int tv, .int tw])), (b0, .inr (0, [.ref b1, .ref b2, .ref b3, .ref b4, .ref b5, .int (nI nb)])), (b1, .inl (cI, 60, .inl lo)), (b2, .inl (cI, 60, .inl hi))]) hD hS hA [0, 1, 2, 11, 12, 13, 14] rfl
        refine va_calli (va_runV (As := [.ref b0, .int (nI i)]) (rest := []) ⟨hx, hb, hml, hown, hg⟩ (qX2_crosses l D cI cZ cJ a0 a1 a2 a3 a4 a5 a6 a7 a8 a9 a10 a11 b0 b1 b2 b3 b4 b5 og di lo hi tb ta tv tw nh0 li (nI nb) i (by omega) H.size) (cwV 2 hg (gw_V kw372 kw374 kw11 kw39 kw375) rfl rfl rfl (by decide +kernel) ⟨Nat.le_of_ble_eq_true rfl, Nat.le_of_ble_eq_true rfl⟩) (wq_preV hPc hK hDc hZ (va_recv hK hPc (ci := 2) (q0 := 0) rfl rfl)) rfl rfl hl.1 rfl (lv_room (Nat.le_of_ble_eq_true rfl)) dX2_findNext_30 ⟨Nat.le_of_ble_eq_true rfl, Nat.le_of_ble_eq_true rfl⟩) hS (fun q _ h => hFc q h) hFc (fun r_11 u t H locs ht hvm hwc_10 hB hz1 hk1 hS => ?_)
        obtain ⟨t_7, t_8, t_9⟩ := u
        obtain ⟨hP1, hK1, hD1⟩ := hB
        rw [ht] at hP1
        try dsimp only at hwc_10 hP1 hD1
        obtain ⟨hP, hD⟩ := va_join (wr := [(a3, .inl (cI, 3, .inl ar)), (a4, .inl (cI, 30, .inl ho)), (a5, .inl (cI, 30, .inl hx9)), (a6, .inl (cI, 30, .inl ha)), (a7, .inl (cI, 30, .inl hl9)), (a8, .inl (cI, 90, .inl hs)), (a9, .inr (1, [.int lb, .int la, .int lv, .int lw])), (a10, .inr (1, [.int b, .int a, .int v, .int w])), (b3, .inl (cI, 20, .inl ki)), (b4, .inl (cI, 20, .inl sh)), (b5, .inl (cZ, 20, .inl of))]) (w1 := [(a0, .inr (2, [.ref a1, .ref a2, .ref a3, .ref a4, .ref a5, .ref a6, .ref a7, .ref a8, .ref a9, .ref a10, .ref a11, .int nh0, .int li])), (a1, .inl (cI, 3, .inl og)), (a2, .inl (cI, 3, .inl di)), (a11, .inr (1, [.int (nI i), .int t_7, .int t_8, .int t_9])), (b0, .inr (0, [.ref b1, .ref b2, .ref b3, .ref b4, .ref b5, .int (nI nb)])), (b1, .inl (cI, 60, .inl lo)), (b2, .inl (cI, 60, .inl hi))]) hP hD [0, 1, 2, 11, 12, 13, 14] [3, 4, 5, 6, 7, 8, 9, 10, 15, 16, 17] rfl rfl (by decide) (by decide) hk1 hFc hP1 hD1
        replace hP := hP.sub (ws' := [(a0, .inr (2, [.ref a1, .ref a2, .ref a3, .ref a4, .ref a5, .ref a6, .ref a7, .ref a8, .ref a9, .ref a10, .ref a11, .int nh0, .int li])), (a1, .inl (cI, 3, .inl og)), (a2, .inl (cI, 3, .inl di)), (a3, .inl (cI, 3, .inl ar)), (a4, .inl (cI, 30, .inl ho)), (a5, .inl (cI, 30, .inl hx9)), (a6, .inl (cI, 30, .inl ha)), (a7, .inl (cI, 30, .inl hl9)), (a8, .inl (cI, 90, .inl hs)), (a9, .inr (1, [.int lb, .int la, .int lv, .int lw])), (a10, .inr (1, [.int b, .int a, .int v, .int w])), (a11, .inr (1, [.int (nI i), .int t_7, .int t_8, .int t_9])), (b0, .inr (0, [.ref b1, .ref b2, .ref b3, .ref b4, .ref b5, .int (nI nb)])), (b1, .inl (cI, 60, .inl lo)), (b2, .inl (cI, 60, .inl hi)), (b3, .inl (cI, 20, .inl ki)), (b4, .inl (cI, 20, .inl sh)), (b5, .inl (cZ, 20, .inl of))]) [11, 12, 13, 0, 1, 2, 3, 4, 5, 6, 7, 14, 15, 16, 17, 8, 9, 10] rfl
        replace hD := hD.sub (ws' := [(a0, .inr (2, [.ref a1, .ref a2, .ref a3, .ref a4, .ref a5, .ref a6, .ref a7, .ref a8, .ref a9, .ref a10, .ref a11, .int nh0, .int li])), (a1, .inl (cI, 3, .inl og)), (a2, .inl (cI, 3, .inl di)), (a3, .inl (cI, 3, .inl ar)), (a4, .inl (cI, 30, .inl ho)), (a5, .inl (cI, 30, .inl hx9)), (a6, .inl (cI, 30, .inl ha)), (a7, .inl (cI, 30, .inl hl9)), (a8, .inl (cI, 90, .inl hs)), (a9, .inr (1, [.int lb, .int la, .int lv, .int lw])), (a10, .inr (1, [.int b, .int a, .int v, .int w])), (a11, .inr (1, [.int (nI i), .int t_7, .int t_8, .int t_9])), (b0, .inr (0, [.ref b1, .ref b2, .ref b3, .ref b4, .ref b5, .int (nI nb)])), (b1, .inl (cI, 60, .inl lo)), (b2, .inl (cI, 60, .inl hi)), (b3, .inl (cI, 20, .inl ki)), (b4, .inl (cI, 20, .inl sh)), (b5, .inl (cZ, 20, .inl of))]) [11, 12, 13, 0, 1, 2, 3, 4, 5, 6, 7, 14, 15, 16, 17, 8, 9, 10] (by decide) rfl
        refine tp_i (y := bI (crO lo hi og di i).isSome) (hwc_10.1) ?_
        refine lv_if_eq (tgt := 80) hx hb dX2_findNext_33 (by decide) (fun c33 => ?_) (fun c33 => ?_)
        · replace c33 := bI_f c33
          refine lv_iinc (v := nI (i + 1)) (lv' := [(2, .int (nI (i + 1))), (0, .ref a0), (1, .ref b0)]) hx hb dX2_findNext_80 hl (k := 2) rfl (nI_1 _) (by decide) rfl (fun ls hl => ?_)
          refine lv_goto (tgt := 10) hx hb dX2_findNext_83 (by decide) ?_
          have hzn : crO lo hi og di i = none := by simpa using c33
          rw [show (fnN lo hi og di ar of lb lv lw (n + 1) i b a v w) = (fnN lo hi og di ar of lb lv lw n (i + 1) b a v w) from by simp [fnN, fn1, hzn, c24, c33]]
          exact ih (i + 1) b a v w (nI i) t_7 t_8 t_9 (by omega) H locs ls hP hD hS (lv_sub hl [1, 2, 0] rfl)
        · replace c33 := bI_t c33
          have hz : crO lo hi og di i = some (t_7, t_8, t_9) := by obtain ⟨z, hz⟩ := Option.isSome_iff_exists.mp c33; rw [hwc_10.2 z hz]; exact hz
          refine lv_aload_n hx hb dX2_findNext_36 rfl (lv_at hl 0 rfl) ?_
          refine lv_aload_n hx hb dX2_findNext_37 rfl (lv_at hl 1 rfl) ?_
          have hPc := hP.sub (ws' := [(a0, .inr (2, [.ref a1, .ref a2, .ref a3, .ref a4, .ref a5, .ref a6, .ref a7, .ref a8, .ref a9, .ref a10, .ref a11, .int nh0, .int li])), (a1, .inl (cI, 3, .inl og)), (a2, .inl (cI, 3, .inl di)), (a3, .inl (cI, 3, .inl ar)), (a4, .inl (cI, 30, .inl ho)), (a5, .inl (cI, 30, .inl hx9)), (a6, .inl (cI, 30, .inl ha)), (a7, .inl (cI, 30, .inl hl9)), (a8, .inl (cI, 90, .inl hs)), (a9, .inr (1, [.int lb, .int la, .int lv, .int lw])), (a10, .inr (1, [.int b, .int a, .int v, .int w])), (a11, .inr (1, [.int (nI i), .int t_7, .int t_8, .int t_9])), (b0, .inr (0, [.ref b1, .ref b2, .ref b3, .ref b4, .ref b5, .int (nI nb)])), (b1, .inl (cI, 60, .inl lo)), (b2, .inl (cI, 60, .inl hi)), (b3, .inl (cI, 20, .inl ki)), (b4, .inl (cI, 20, .inl sh)), (b5, .inl (cZ, 20, .inl of))]) [0, 1, 2, 3, 4, 5, 6, 7, 8, 9, 10, 11, 12, 13, 14, 15, 16, 17] rfl
          refine rq_call (va_runV (As := [.ref b0]) (rest := []) ⟨hx, hb, hml, hown, hg⟩ (qX2_countsNow l D cI cZ cJ a0 a1 a2 a3 a4 a5 a6 a7 a8 a9 a10 a11 b0 b1 b2 b3 b4 b5 og di ar ho hx9 ha hl9 hs lb la lv lw b a v w t_7 t_8 t_9 nh0 li lo hi ki sh of (nI nb) i (by omega)) (cwV 1 hg (gw_V kw379 kw381 kw12 kw39 kw382) rfl rfl rfl (by decide +kernel) ⟨Nat.le_of_ble_eq_true rfl, Nat.le_of_ble_eq_true rfl⟩) (pq_preV hPc hK hZ (va_recv hK hPc (ci := 2) (q0 := 0) rfl rfl)) rfl rfl hl.1 rfl (lv_room (Nat.le_of_ble_eq_true rfl)) dX2_findNext_38 ⟨Nat.le_of_ble_eq_true rfl, Nat.le_of_ble_eq_true rfl⟩) ?_
          refine lv_if_eq (tgt := 80) hx hb dX2_findNext_41 (by decide) (fun c41 => ?_) (fun c41 => ?_)
          · replace c41 := bI_f c41
            refine lv_iinc (v := nI (i + 1)) (lv' := [(2, .int (nI (i + 1))), (0, .ref a0), (1, .ref b0)]) hx hb dX2_findNext_80 hl (k := 2) rfl (nI_1 _) (by decide) rfl (fun ls hl => ?_)
            refine lv_goto (tgt := 10) hx hb dX2_findNext_83 (by decide) ?_
            rw [show (fnN lo hi og di ar of lb lv lw (n + 1) i b a v w) = (fnN lo hi og di ar of lb lv lw n (i + 1) b a v w) from by simp [fnN, fn1, c24, c33, hz, c41]]
            exact ih (i + 1) b a v w (nI i) t_7 t_8 t_9 (by omega) H locs ls hP hD hS (lv_sub hl [1, 2, 0] rfl)
          · replace c41 := bI_t c41
            refine lv_aload_n hx hb dX2_findNext_44 rfl (lv_at hl 0 rfl) ?_
            refine va_get (D := D) (ci := 2) (v := .ref a10) (C := RX2) (T := TX2) (N := 13) hx hb hg iX2 hown hK hP 0 rfl rfl 9 (by decide) (hg _ kw144) (fun _ h9 => h9) rfl dX2_findNext_45 ?_
            refine va_getN (D := D) (ci := 1) (v := .int b) (C := RX1) (T := TX1) (N := 4) hx hb hg iX1 hown hK hP 10 rfl rfl 0 (by decide) (va_Nw.use rfl (nzF_10 hZ)) (fun _ h9 => h9) rfl dX2_findNext_48 ?_
            refine lv_iconst (v := (-1)) hx hb dX2_findNext_51 (by decide) ?_
            refine lv_icmp_eq (tgt := 69) hx hb dX2_findNext_52 (by decide) (fun c52 => ?_) (fun c52 => ?_)
            · refine lv_aload_n hx hb dX2_findNext_69 rfl (lv_at hl 0 rfl) ?_
              refine va_get (D := D) (ci := 2) (v := .ref a10) (C := RX2) (T := TX2) (N := 13) hx hb hg iX2 hown hK hP 0 rfl rfl 9 (by decide) (hg _ kw144) (fun _ h9 => h9) rfl dX2_findNext_70 ?_
              refine lv_aload_n hx hb dX2_findNext_73 rfl (lv_at hl 0 rfl) ?_
              refine va_get (D := D) (ci := 2) (v := .ref a11) (C := RX2) (T := TX2) (N := 13) hx hb hg iX2 hown hK hP 0 rfl rfl 10 (by decide) (hg _ kw145) (fun _ h9 => h9) rfl dX2_findNext_74 ?_
              have hPc := hP.sub (ws' := [(a10, .inr (1, [.int b, .int a, .int v, .int w])), (a11, .inr (1, [.int (nI i), .int t_7, .int t_8, .int t_9]))]) [10, 11] rfl
              have hDc := hD.sub (ws' := [(a10, .inr (1, [.int b, .int a, .int v, .int w])), (a11, .inr (1, [.int (nI i), .int t_7, .int t_8, .int t_9]))]) [10, 11] (by decide) rfl
              have hFc := va_free (wc := [(a10, .inr (1, [.int b, .int a, .int v, .int w])), (a11, .inr (1, [.int (nI i), .int t_7, .int t_8, .int t_9]))]) hD hS hA [10, 11] rfl
              refine va_callv (va_runVN (As := [.ref a11]) (rest := []) ⟨hx, hb, hml, hown, hg⟩ (qX1_copy l D cI cZ cJ a10 a11 b a v w (nI i) t_7 t_8 t_9 H.size) ⟨va_cnB 1 hg (gw_in kw401) rfl rfl rfl (nzM_10 hZ) (hg _ kw40) (by decide +kernel) ⟨Nat.le_of_ble_eq_true rfl, Nat.le_of_ble_eq_true rfl⟩, hg _ kw400, hg _ kw16⟩ (wq_preV hPc hK hDc hZ (va_recv hK hPc (ci := 1) (q0 := 0) rfl rfl)) rfl rfl hl.1 rfl (lv_room (Nat.le_of_ble_eq_true rfl)) dX2_findNext_77 ⟨Nat.le_of_ble_eq_true rfl, Nat.le_of_ble_eq_true rfl⟩) hS (fun q _ h => hFc q h) hFc (fun u t H locs ht hvm hw hB hz1 hk1 hS => ?_)
              obtain ⟨hP1, hK1, hD1⟩ := hB
              rw [ht] at hP1
              try dsimp only at hw hP1 hD1
              obtain ⟨hP, hD⟩ := va_join (wr := [(a0, .inr (2, [.ref a1, .ref a2, .ref a3, .ref a4, .ref a5, .ref a6, .ref a7, .ref a8, .ref a9, .ref a10, .ref a11, .int nh0, .int li])), (a1, .inl (cI, 3, .inl og)), (a2, .inl (cI, 3, .inl di)), (a3, .inl (cI, 3, .inl ar)), (a4, .inl (cI, 30, .inl ho)), (a5, .inl (cI, 30, .inl hx9)), (a6, .inl (cI, 30, .inl ha)), (a7, .inl (cI, 30, .inl hl9)), (a8, .inl (cI, 90, .inl hs)), (a9, .inr (1, [.int lb, .int la, .int lv, .int lw])), (b0, .inr (0, [.ref b1, .ref b2, .ref b3, .ref b4, .ref b5, .int (nI nb)])), (b1, .inl (cI, 60, .inl lo)), (b2, .inl (cI, 60, .inl hi)), (b3, .inl (cI, 20, .inl ki)), (b4, .inl (cI, 20, .inl sh)), (b5, .inl (cZ, 20, .inl of))]) (w1 := [(a10, .inr (1, [.int (nI i), .int t_7, .int t_8, .int t_9])), (a11, .inr (1, [.int (nI i), .int t_7, .int t_8, .int t_9]))]) hP hD [10, 11] [0, 1, 2, 3, 4, 5, 6, 7, 8, 9, 12, 13, 14, 15, 16, 17] rfl rfl (by decide) (by decide) hk1 hFc hP1 hD1
              replace hP := hP.sub (ws' := [(a0, .inr (2, [.ref a1, .ref a2, .ref a3, .ref a4, .ref a5, .ref a6, .ref a7, .ref a8, .ref a9, .ref a10, .ref a11, .int nh0, .int li])), (a1, .inl (cI, 3, .inl og)), (a2, .inl (cI, 3, .inl di)), (a3, .inl (cI, 3, .inl ar)), (a4, .inl (cI, 30, .inl ho)), (a5, .inl (cI, 30, .inl hx9)), (a6, .inl (cI, 30, .inl ha)), (a7, .inl (cI, 30, .inl hl9)), (a8, .inl (cI, 90, .inl hs)), (a9, .inr (1, [.int lb, .int la, .int lv, .int lw])), (a10, .inr (1, [.int (nI i), .int t_7, .int t_8, .int t_9])), (a11, .inr (1, [.int (nI i), .int t_7, .int t_8, .int t_9])), (b0, .inr (0, [.ref b1, .ref b2, .ref b3, .ref b4, .ref b5, .int (nI nb)])), (b1, .inl (cI, 60, .inl lo)), (b2, .inl (cI, 60, .inl hi)), (b3, .inl (cI, 20, .inl ki)), (b4, .inl (cI, 20, .inl sh)), (b5, .inl (cZ, 20, .inl of))]) [0, 1, 2, 3, 4, 5, 6, 7, 8, 9, 16, 17, 10, 11, 12, 13, 14, 15] rfl
              replace hD := hD.sub (ws' := [(a0, .inr (2, [.ref a1, .ref a2, .ref a3, .ref a4, .ref a5, .ref a6, .ref a7, .ref a8, .ref a9, .ref a10, .ref a11, .int nh0, .int li])), (a1, .inl (cI, 3, .inl og)), (a2, .inl (cI, 3, .inl di)), (a3, .inl (cI, 3, .inl ar)), (a4, .inl (cI, 30, .inl ho)), (a5, .inl (cI, 30, .inl hx9)), (a6, .inl (cI, 30, .inl ha)), (a7, .inl (cI, 30, .inl hl9)), (a8, .inl (cI, 90, .inl hs)), (a9, .inr (1, [.int lb, .int la, .int lv, .int lw])), (a10, .inr (1, [.int (nI i), .int t_7, .int t_8, .int t_9])), (a11, .inr (1, [.int (nI i), .int t_7, .int t_8, .int t_9])), (b0, .inr (0, [.ref b1, .ref b2, .ref b3, .ref b4, .ref b5, .int (nI nb)])), (b1, .inl (cI, 60, .inl lo)), (b2, .inl (cI, 60, .inl hi)), (b3, .inl (cI, 20, .inl ki)), (b4, .inl (cI, 20, .inl sh)), (b5, .inl (cZ, 20, .inl of))]) [0, 1, 2, 3, 4, 5, 6, 7, 8, 9, 16, 17, 10, 11, 12, 13, 14, 15] (by decide) rfl
              refine lv_iinc (v := nI (i + 1)) (lv' := [(2, .int (nI (i + 1))), (0, .ref a0), (1, .ref b0)]) hx hb dX2_findNext_80 hl (k := 2) rfl (nI_1 _) (by decide) rfl (fun ls hl => ?_)
              refine lv_goto (tgt := 10) hx hb dX2_findNext_83 (by decide) ?_
              rw [show (fnN lo hi og di ar of lb lv lw (n + 1) i b a v w) = (fnN lo hi og di ar of lb lv lw n (i + 1) (nI i) t_7 t_8 t_9) from by simp [fnN, fn1, c24, c33, hz, c41, c52]]
              exact ih (i + 1) (nI i) t_7 t_8 t_9 (nI i) t_7 t_8 t_9 (by omega) H locs ls hP hD hS (lv_sub hl [1, 2, 0] rfl)
            · refine lv_aload_n hx hb dX2_findNext_55 rfl (lv_at hl 0 rfl) ?_
              refine va_get (D := D) (ci := 2) (v := .ref a11) (C := RX2) (T := TX2) (N := 13) hx hb hg iX2 hown hK hP 0 rfl rfl 10 (by decide) (hg _ kw145) (fun _ h9 => h9) rfl dX2_findNext_56 ?_
              refine lv_aload_n hx hb dX2_findNext_59 rfl (lv_at hl 0 rfl) ?_
              refine va_get (D := D) (ci := 2) (v := .ref a10) (C := RX2) (T := TX2) (N := 13) hx hb hg iX2 hown hK hP 0 rfl rfl 9 (by decide) (hg _ kw144) (fun _ h9 => h9) rfl dX2_findNext_60 ?_
              have hPc := hP.sub (ws' := [(a11, .inr (1, [.int (nI i), .int t_7, .int t_8, .int t_9])), (a10, .inr (1, [.int b, .int a, .int v, .int w]))]) [11, 10] rfl
              refine rq_call (va_runVN (As := [.ref a10]) (rest := []) ⟨hx, hb, hml, hown, hg⟩ (qX1_compareTime l D cI cZ cJ a11 a10 (nI i) t_7 t_8 t_9 b a v w) ⟨va_cnB 1 hg (gw_in kw386) rfl rfl rfl (nzM_9 hZ) (hg _ kw40) (by decide +kernel) ⟨Nat.le_of_ble_eq_true rfl, Nat.le_of_ble_eq_true rfl⟩, hg _ kw385, hg _ kw13⟩ (pq_preV hPc hK hZ (va_recv hK hPc (ci := 1) (q0 := 0) rfl rfl)) rfl rfl hl.1 rfl (lv_room (Nat.le_of_ble_eq_true rfl)) dX2_findNext_63 ⟨Nat.le_of_ble_eq_true rfl, Nat.le_of_ble_eq_true rfl⟩) ?_
              refine lv_if_ge (tgt := 80) hx hb dX2_findNext_66 (by decide) (fun c66 => ?_) (fun c66 => ?_)
              · have c66n := Int32.not_lt.mpr c66
                refine lv_iinc (v := nI (i + 1)) (lv' := [(2, .int (nI (i + 1))), (0, .ref a0), (1, .ref b0)]) hx hb dX2_findNext_80 hl (k := 2) rfl (nI_1 _) (by decide) rfl (fun ls hl => ?_)
                refine lv_goto (tgt := 10) hx hb dX2_findNext_83 (by decide) ?_
                rw [show (fnN lo hi og di ar of lb lv lw (n + 1) i b a v w) = (fnN lo hi og di ar of lb lv lw n (i + 1) b a v w) from by simp [fnN, fn1, c24, c33, hz, c41, c52, c66, c66n]]
                exact ih (i + 1) b a v w (nI i) t_7 t_8 t_9 (by omega) H locs ls hP hD hS (lv_sub hl [1, 2, 0] rfl)
              · have c66n := Int32.not_le.mp c66
                refine lv_aload_n hx hb dX2_findNext_69 rfl (lv_at hl 0 rfl) ?_
                refine va_get (D := D) (ci := 2) (v := .ref a10) (C := RX2) (T := TX2) (N := 13) hx hb hg iX2 hown hK hP 0 rfl rfl 9 (by decide) (hg _ kw144) (fun _ h9 => h9) rfl dX2_findNext_70 ?_
                refine lv_aload_n hx hb dX2_findNext_73 rfl (lv_at hl 0 rfl) ?_
                refine va_get (D := D) (ci := 2) (v := .ref a11) (C := RX2) (T := TX2) (N := 13) hx hb hg iX2 hown hK hP 0 rfl rfl 10 (by decide) (hg _ kw145) (fun _ h9 => h9) rfl dX2_findNext_74 ?_
                have hPc := hP.sub (ws' := [(a10, .inr (1, [.int b, .int a, .int v, .int w])), (a11, .inr (1, [.int (nI i), .int t_7, .int t_8, .int t_9]))]) [10, 11] rfl
                have hDc := hD.sub (ws' := [(a10, .inr (1, [.int b, .int a, .int v, .int w])), (a11, .inr (1, [.int (nI i), .int t_7, .int t_8, .int t_9]))]) [10, 11] (by decide) rfl
                have hFc := va_free (wc := [(a10, .inr (1, [.int b, .int a, .int v, .int w])), (a11, .inr (1, [.int (nI i), .int t_7, .int t_8, .int t_9]))]) hD hS hA [10, 11] rfl
                refine va_callv (va_runVN (As := [.ref a11]) (rest := []) ⟨hx, hb, hml, hown, hg⟩ (qX1_copy l D cI cZ cJ a10 a11 b a v w (nI i) t_7 t_8 t_9 H.size) ⟨va_cnB 1 hg (gw_in kw401) rfl rfl rfl (nzM_10 hZ) (hg _ kw40) (by decide +kernel) ⟨Nat.le_of_ble_eq_true rfl, Nat.le_of_ble_eq_true rfl⟩, hg _ kw400, hg _ kw16⟩ (wq_preV hPc hK hDc hZ (va_recv hK hPc (ci := 1) (q0 := 0) rfl rfl)) rfl rfl hl.1 rfl (lv_room (Nat.le_of_ble_eq_true rfl)) dX2_findNext_77 ⟨Nat.le_of_ble_eq_true rfl, Nat.le_of_ble_eq_true rfl⟩) hS (fun q _ h => hFc q h) hFc (fun u t H locs ht hvm hw hB hz1 hk1 hS => ?_)
                obtain ⟨hP1, hK1, hD1⟩ := hB
                rw [ht] at hP1
                try dsimp only at hw hP1 hD1
                obtain ⟨hP, hD⟩ := va_join (wr := [(a0, .inr (2, [.ref a1, .ref a2, .ref a3, .ref a4, .ref a5, .ref a6, .ref a7, .ref a8, .ref a9, .ref a10, .ref a11, .int nh0, .int li])), (a1, .inl (cI, 3, .inl og)), (a2, .inl (cI, 3, .inl di)), (a3, .inl (cI, 3, .inl ar)), (a4, .inl (cI, 30, .inl ho)), (a5, .inl (cI, 30, .inl hx9)), (a6, .inl (cI, 30, .inl ha)), (a7, .inl (cI, 30, .inl hl9)), (a8, .inl (cI, 90, .inl hs)), (a9, .inr (1, [.int lb, .int la, .int lv, .int lw])), (b0, .inr (0, [.ref b1, .ref b2, .ref b3, .ref b4, .ref b5, .int (nI nb)])), (b1, .inl (cI, 60, .inl lo)), (b2, .inl (cI, 60, .inl hi)), (b3, .inl (cI, 20, .inl ki)), (b4, .inl (cI, 20, .inl sh)), (b5, .inl (cZ, 20, .inl of))]) (w1 := [(a10, .inr (1, [.int (nI i), .int t_7, .int t_8, .int t_9])), (a11, .inr (1, [.int (nI i), .int t_7, .int t_8, .int t_9]))]) hP hD [10, 11] [0, 1, 2, 3, 4, 5, 6, 7, 8, 9, 12, 13, 14, 15, 16, 17] rfl rfl (by decide) (by decide) hk1 hFc hP1 hD1
                replace hP := hP.sub (ws' := [(a0, .inr (2, [.ref a1, .ref a2, .ref a3, .ref a4, .ref a5, .ref a6, .ref a7, .ref a8, .ref a9, .ref a10, .ref a11, .int nh0, .int li])), (a1, .inl (cI, 3, .inl og)), (a2, .inl (cI, 3, .inl di)), (a3, .inl (cI, 3, .inl ar)), (a4, .inl (cI, 30, .inl ho)), (a5, .inl (cI, 30, .inl hx9)), (a6, .inl (cI, 30, .inl ha)), (a7, .inl (cI, 30, .inl hl9)), (a8, .inl (cI, 90, .inl hs)), (a9, .inr (1, [.int lb, .int la, .int lv, .int lw])), (a10, .inr (1, [.int (nI i), .int t_7, .int t_8, .int t_9])), (a11, .inr (1, [.int (nI i), .int t_7, .int t_8, .int t_9])), (b0, .inr (0, [.ref b1, .ref b2, .ref b3, .ref b4, .ref b5, .int (nI nb)])), (b1, .inl (cI, 60, .inl lo)), (b2, .inl (cI, 60, .inl hi)), (b3, .inl (cI, 20, .inl ki)), (b4, .inl (cI, 20, .inl sh)), (b5, .inl (cZ, 20, .inl of))]) [0, 1, 2, 3, 4, 5, 6, 7, 8, 9, 16, 17, 10, 11, 12, 13, 14, 15] rfl
                replace hD := hD.sub (ws' := [(a0, .inr (2, [.ref a1, .ref a2, .ref a3, .ref a4, .ref a5, .ref a6, .ref a7, .ref a8, .ref a9, .ref a10, .ref a11, .int nh0, .int li])), (a1, .inl (cI, 3, .inl og)), (a2, .inl (cI, 3, .inl di)), (a3, .inl (cI, 3, .inl ar)), (a4, .inl (cI, 30, .inl ho)), (a5, .inl (cI, 30, .inl hx9)), (a6, .inl (cI, 30, .inl ha)), (a7, .inl (cI, 30, .inl hl9)), (a8, .inl (cI, 90, .inl hs)), (a9, .inr (1, [.int lb, .int la, .int lv, .int lw])), (a10, .inr (1, [.int (nI i), .int t_7, .int t_8, .int t_9])), (a11, .inr (1, [.int (nI i), .int t_7, .int t_8, .int t_9])), (b0, .inr (0, [.ref b1, .ref b2, .ref b3, .ref b4, .ref b5, .int (nI nb)])), (b1, .inl (cI, 60, .inl lo)), (b2, .inl (cI, 60, .inl hi)), (b3, .inl (cI, 20, .inl ki)), (b4, .inl (cI, 20, .inl sh)), (b5, .inl (cZ, 20, .inl of))]) [0, 1, 2, 3, 4, 5, 6, 7, 8, 9, 16, 17, 10, 11, 12, 13, 14, 15] (by decide) rfl
                refine lv_iinc (v := nI (i + 1)) (lv' := [(2, .int (nI (i + 1))), (0, .ref a0), (1, .ref b0)]) hx hb dX2_findNext_80 hl (k := 2) rfl (nI_1 _) (by decide) rfl (fun ls hl => ?_)
                refine lv_goto (tgt := 10) hx hb dX2_findNext_83 (by decide) ?_
                rw [show (fnN lo hi og di ar of lb lv lw (n + 1) i b a v w) = (fnN lo hi og di ar of lb lv lw n (i + 1) (nI i) t_7 t_8 t_9) from by simp [fnN, fn1, c24, c33, hz, c41, c52, c66, c66n]]
                exact ih (i + 1) (nI i) t_7 t_8 t_9 (nI i) t_7 t_8 t_9 (by omega) H locs ls hP hD hS (lv_sub hl [1, 2, 0] rfl)
  exact loop_6 nb 0 (-1) na nv nw tb ta tv tw (by omega) H locs ls hP hD hS (lv_sub hl [1, 2, 0] rfl)

/-- the direction that it came with -/
def kpA (di ar : Nat → Int32) (o : Int32) : Nat → Int32 := if 0 < o then va_cpy di ar 0 0 3 else ar
def gD (v w : Int32) : Int32 := maxI 1 (gcdL 64 (absI v) (absI w))
theorem gD_ne (v w : Int32) : ¬ gD v w = 0 := by
  unfold gD maxI
  split
  · rename_i h
    intro e
    rw [e] at h
    exact absurd h (by decide)
  · decide

set_option maxHeartbeats 4000000 in
set_option maxRecDepth 100000 in
/-- Path.keepHit -/
theorem qX2_keepHit (l : Launch) (D : va_G) (cI cZ cJ : ClassId) (a0 a1 a2 a3 a4 a5 a6 a7 a8 a9 a10 a11 : Nat) (b0 b1 b2 b3 b4 b5 : Nat) (og di ar ho hx9 ha hl9 hs : Nat → Int32) (lb la lv lw nb9 na nv nw tb ta tv tw : Int32) (li : Int32) (lo hi ki sh of : Nat → Int32) (cn : Int32) (nh : Nat) (hnh : nh < 30) (sz : Nat) : Met l yX2_keepHit (Cond.code yX2_keepHit cX2_keepHit 3 none :: gw) ({ frames := 2, cells := 0, slots := 0, locals := 60 }) (wq D [.ref a0] sz [(a0, .inr (2, [.ref a1, .ref a2, .ref a3, .ref a4, .ref a5, .ref a6, .ref a7, .ref a8, .ref a9, .ref a10, .ref a11, .int (nI nh), .int li])), (a1, .inl (cI, 3, .inl og)), (a2, .inl (cI, 3, .inl di)), (a3, .inl (cI, 3, .inl ar)), (a4, .inl (cI, 30, .inl ho)), (a5, .inl (cI, 30, .inl hx9)), (a6, .inl (cI, 30, .inl ha)), (a7, .inl (cI, 30, .inl hl9)), (a8, .inl (cI, 90, .inl hs)), (a9, .inr (1, [.int lb, .int la, .int lv, .int lw])), (a10, .inr (1, [.int nb9, .int na, .int nv, .int nw])), (a11, .inr (1, [.int tb, .int ta, .int tv, .int tw])), (b0, .inr (0, [.ref b1, .ref b2, .ref b3, .ref b4, .ref b5, .int cn])), (b1, .inl (cI, 60, .inl lo)), (b2, .inl (cI, 60, .inl hi)), (b3, .inl (cI, 20, .inl ki)), (b4, .inl (cI, 20, .inl sh)), (b5, .inl (cZ, 20, .inl of))] [(cI, .int), (cZ, .boolean), (cJ, .long)]) (va_Qv (S := Unit) (fun _ => True) (fun u => bq D [(cI, .int), (cZ, .boolean), (cJ, .long)] (va_A [(a0, .inr (2, [.ref a1, .ref a2, .ref a3, .ref a4, .ref a5, .ref a6, .ref a7, .ref a8, .ref a9, .ref a10, .ref a11, .int (nI nh), .int li])), (a1, .inl (cI, 3, .inl og)), (a2, .inl (cI, 3, .inl di)), (a3, .inl (cI, 3, .inl ar)), (a4, .inl (cI, 30, .inl ho)), (a5, .inl (cI, 30, .inl hx9)), (a6, .inl (cI, 30, .inl ha)), (a7, .inl (cI, 30, .inl hl9)), (a8, .inl (cI, 90, .inl hs)), (a9, .inr (1, [.int lb, .int la, .int lv, .int lw])), (a10, .inr (1, [.int nb9, .int na, .int nv, .int nw])), (a11, .inr (1, [.int tb, .int ta, .int tv, .int tw])), (b0, .inr (0, [.ref b1, .ref b2, .ref b3, .ref b4, .ref b5, .int cn])), (b1, .inl (cI, 60, .inl lo)), (b2, .inl (cI, 60, .inl hi)), (b3, .inl (cI, 20, .inl ki)), (b4, .inl (cI, 20, .inl sh)), (b5, .inl (cZ, 20, .inl of))] sz) ([(a0, .inr (2, [.ref a1, .ref a2, .ref a3, .ref a4, .ref a5, .ref a6, .ref a7, .ref a8, .ref a9, .ref a10, .ref a11, .int (nI (nh + 1)), .int li])), (a1, .inl (cI, 3, .inl og)), (a2, .inl (cI, 3, .inl di)), (a3, .inl (cI, 3, .inl (kpA di ar (cmpI (nv * lw) (lv * nw))))), (a4, .inl (cI, 30, .inl (upd ho nh nb9))), (a5, .inl (cI, 30, .inl (upd hx9 nh na))), (a6, .inl (cI, 30, .inl (upd ha nh (nv / gD nv nw)))), (a7, .inl (cI, 30, .inl (upd hl9 nh (nw / gD nv nw)))), (a8, .inl (cI, 90, .inl (upd (upd (upd hs (nh * 3) (og 0 * (nw / gD nv nw) + di 0 * (nv / gD nv nw))) (nh * 3 + 1) (og 1 * (nw / gD nv nw) + di 1 * (nv / gD nv nw))) (nh * 3 + 2) (og 2 * (nw / gD nv nw) + di 2 * (nv / gD nv nw))))), (a9, .inr (1, [.int nb9, .int na, .int (nv / gD nv nw), .int (nw / gD nv nw)])), (a10, .inr (1, [.int nb9, .int na, .int nv, .int nw])), (a11, .inr (1, [.int tb, .int ta, .int tv, .int tw])), (b0, .inr (0, [.ref b1, .ref b2, .ref b3, .ref b4, .ref b5, .int cn])), (b1, .inl (cI, 60, .inl lo)), (b2, .inl (cI, 60, .inl hi)), (b3, .inl (cI, 20, .inl ki)), (b4, .inl (cI, 20, .inl sh)), (b5, .inl (cZ, 20, .inl of))])) (va_A [(a0, .inr (2, [.ref a1, .ref a2, .ref a3, .ref a4, .ref a5, .ref a6, .ref a7, .ref a8, .ref a9, .ref a10, .ref a11, .int (nI nh), .int li])), (a1, .inl (cI, 3, .inl og)), (a2, .inl (cI, 3, .inl di)), (a3, .inl (cI, 3, .inl ar)), (a4, .inl (cI, 30, .inl ho)), (a5, .inl (cI, 30, .inl hx9)), (a6, .inl (cI, 30, .inl ha)), (a7, .inl (cI, 30, .inl hl9)), (a8, .inl (cI, 90, .inl hs)), (a9, .inr (1, [.int lb, .int la, .int lv, .int lw])), (a10, .inr (1, [.int nb9, .int na, .int nv, .int nw])), (a11, .inr (1, [.int tb, .int ta, .int tv, .int tw])), (b0, .inr (0, [.ref b1, .ref b2, .ref b3, .ref b4, .ref b5, .int cn])), (b1, .inl (cI, 60, .inl lo)), (b2, .inl (cI, 60, .inl hi)), (b3, .inl (cI, 20, .inl ki)), (b4, .inl (cI, 20, .inl sh)), (b5, .inl (cZ, 20, .inl of))] sz)) 0 0 (va_A [(a0, .inr (2, [.ref a1, .ref a2, .ref a3, .ref a4, .ref a5, .ref a6, .ref a7, .ref a8, .ref a9, .ref a10, .ref a11, .int (nI nh), .int li])), (a1, .inl (cI, 3, .inl og)), (a2, .inl (cI, 3, .inl di)), (a3, .inl (cI, 3, .inl ar)), (a4, .inl (cI, 30, .inl ho)), (a5, .inl (cI, 30, .inl hx9)), (a6, .inl (cI, 30, .inl ha)), (a7, .inl (cI, 30, .inl hl9)), (a8, .inl (cI, 90, .inl hs)), (a9, .inr (1, [.int lb, .int la, .int lv, .int lw])), (a10, .inr (1, [.int nb9, .int na, .int nv, .int nw])), (a11, .inr (1, [.int tb, .int ta, .int tv, .int tw])), (b0, .inr (0, [.ref b1, .ref b2, .ref b3, .ref b4, .ref b5, .int cn])), (b1, .inl (cI, 60, .inl lo)), (b2, .inl (cI, 60, .inl hi)), (b3, .inl (cI, 20, .inl ki)), (b4, .inl (cI, 20, .inl sh)), (b5, .inl (cZ, 20, .inl of))] sz) := by
  refine Met.ofW (cc := cX2_keepHit) (maxL := 3) (ret := none) (by decide) rfl ?_
  intro p e s m args below meth c s₁ B hml hv
  obtain ⟨rfl, hsz, hP, hK, hD0, hZ⟩ := hv
  have hx := B.exec
  have hb := B.bytes
  have hr := B.returns
  have hg : ∀ w ∈ gw, w.before _ s = true := fun w h => atoms_spec (ws := Cond.code yX2_keepHit cX2_keepHit 3 none :: gw) B.pre w (List.mem_cons_of_mem _ h)
  have hown : s.vm.findClass RX2 = some m.cls := findClass_of_methodNamed B.named
  have hlocks := B.notSynchronized
  subst hsz
  have hD := hD0.self (sz := s.heap.size)
  generalize hAe : va_A [(a0, .inr (2, [.ref a1, .ref a2, .ref a3, .ref a4, .ref a5, .ref a6, .ref a7, .ref a8, .ref a9, .ref a10, .ref a11, .int (nI nh), .int li])), (a1, .inl (cI, 3, .inl og)), (a2, .inl (cI, 3, .inl di)), (a3, .inl (cI, 3, .inl ar)), (a4, .inl (cI, 30, .inl ho)), (a5, .inl (cI, 30, .inl hx9)), (a6, .inl (cI, 30, .inl ha)), (a7, .inl (cI, 30, .inl hl9)), (a8, .inl (cI, 90, .inl hs)), (a9, .inr (1, [.int lb, .int la, .int lv, .int lw])), (a10, .inr (1, [.int nb9, .int na, .int nv, .int nw])), (a11, .inr (1, [.int tb, .int ta, .int tv, .int tw])), (b0, .inr (0, [.ref b1, .ref b2, .ref b3, .ref b4, .ref b5, .int cn])), (b1, .inl (cI, 60, .inl lo)), (b2, .inl (cI, 60, .inl hi)), (b3, .inl (cI, 20, .inl ki)), (b4, .inl (cI, 20, .inl sh)), (b5, .inl (cZ, 20, .inl of))] s.heap.size = A at hD ⊢
  have hA : ∀ q : Nat, s.heap.size ≤ q → A q := fun q h => by rw [← hAe]; exact Or.inr h
  have hS : va_S A s.heap s.heap [] := va_S.rf
  have hP : va_P D vwCl [(a0, .inr (2, [.ref a1, .ref a2, .ref a3, .ref a4, .ref a5, .ref a6, .ref a7, .ref a8, .ref a9, .ref a10, .ref a11, .int (nI nh), .int li])), (a1, .inl (cI, 3, .inl og)), (a2, .inl (cI, 3, .inl di)), (a3, .inl (cI, 3, .inl ar)), (a4, .inl (cI, 30, .inl ho)), (a5, .inl (cI, 30, .inl hx9)), (a6, .inl (cI, 30, .inl ha)), (a7, .inl (cI, 30, .inl hl9)), (a8, .inl (cI, 90, .inl hs)), (a9, .inr (1, [.int lb, .int la, .int lv, .int lw])), (a10, .inr (1, [.int nb9, .int na, .int nv, .int nw])), (a11, .inr (1, [.int tb, .int ta, .int tv, .int tw])), (b0, .inr (0, [.ref b1, .ref b2, .ref b3, .ref b4, .ref b5, .int cn])), (b1, .inl (cI, 60, .inl lo)), (b2, .inl (cI, 60, .inl hi)), (b3, .inl (cI, 20, .inl ki)), (b4, .inl (cI, 20, .inl sh)), (b5, .inl (cZ, 20, .inl of))] s.heap := hP
  have hl := lv_entry ([.ref a0]) (n := 3) (Nat.le_of_ble_eq_true rfl)
  rw [lg_entry_eq]
  generalize (lg_sl ([.ref a0]) ++ List.replicate (3 - (lg_sl ([.ref a0])).length) Slot.unset).toArray = ls at hl ⊢
  have hl : lv_has ls 3 [(0, .ref a0)] := hl
  have K_12 : ∀ (ar1 : Nat → Int32), (ar1 = kpA di ar (cmpI (nv * lw) (lv * nw))) → ∀ (H : Heap) (locs : List Loc) (ls : Array Slot), va_P D vwCl [(a0, .inr (2, [.ref a1, .ref a2, .ref a3, .ref a4, .ref a5, .ref a6, .ref a7, .ref a8, .ref a9, .ref a10, .ref a11, .int (nI nh), .int li])), (a1, .inl (cI, 3, .inl og)), (a2, .inl (cI, 3, .inl di)), (a3, .inl (cI, 3, .inl ar1)), (a4, .inl (cI, 30, .inl ho)), (a5, .inl (cI, 30, .inl hx9)), (a6, .inl (cI, 30, .inl ha)), (a7, .inl (cI, 30, .inl hl9)), (a8, .inl (cI, 90, .inl hs)), (a9, .inr (1, [.int lb, .int la, .int lv, .int lw])), (a10, .inr (1, [.int nb9, .int na, .int nv, .int nw])), (a11, .inr (1, [.int tb, .int ta, .int tv, .int tw])), (b0, .inr (0, [.ref b1, .ref b2, .ref b3, .ref b4, .ref b5, .int cn])), (b1, .inl (cI, 60, .inl lo)), (b2, .inl (cI, 60, .inl hi)), (b3, .inl (cI, 20, .inl ki)), (b4, .inl (cI, 20, .inl sh)), (b5, .inl (cZ, 20, .inl of))] H → va_D A [(a0, .inr (2, [.ref a1, .ref a2, .ref a3, .ref a4, .ref a5, .ref a6, .ref a7, .ref a8, .ref a9, .ref a10, .ref a11, .int (nI nh), .int li])), (a1, .inl (cI, 3, .inl og)), (a2, .inl (cI, 3, .inl di)), (a3, .inl (cI, 3, .inl ar1)), (a4, .inl (cI, 30, .inl ho)), (a5, .inl (cI, 30, .inl hx9)), (a6, .inl (cI, 30, .inl ha)), (a7, .inl (cI, 30, .inl hl9)), (a8, .inl (cI, 90, .inl hs)), (a9, .inr (1, [.int lb, .int la, .int lv, .int lw])), (a10, .inr (1, [.int nb9, .int na, .int nv, .int nw])), (a11, .inr (1, [.int tb, .int ta, .int tv, .int tw])), (b0, .inr (0, [.ref b1, .ref b2, .ref b3, .ref b4, .ref b5, .int cn])), (b1, .inl (cI, 60, .inl lo)), (b2, .inl (cI, 60, .inl hi)), (b3, .inl (cI, 20, .inl ki)), (b4, .inl (cI, 20, .inl sh)), (b5, .inl (cZ, 20, .inl of))] → va_S A s.heap H locs → lv_has ls 3 [(0, .ref a0)] → W p l e (headSpec (Cond.code yX2_keepHit cX2_keepHit 3 none :: gw) ({ frames := 2, cells := 0, slots := 0, locals := 60 })).room s m ([.ref a0] : List Value).toArray below meth c H locs 0 0 (MQ below (va_Qv (S := Unit) (fun _ => True) (fun u => bq D [(cI, .int), (cZ, .boolean), (cJ, .long)] A ([(a0, .inr (2, [.ref a1, .ref a2, .ref a3, .ref a4, .ref a5, .ref a6, .ref a7, .ref a8, .ref a9, .ref a10, .ref a11, .int (nI (nh + 1)), .int li])), (a1, .inl (cI, 3, .inl og)), (a2, .inl (cI, 3, .inl di)), (a3, .inl (cI, 3, .inl (kpA di ar (cmpI (nv * lw) (lv * nw))))), (a4, .inl (cI, 30, .inl (upd ho nh nb9))), (a5, .inl (cI, 30, .inl (upd hx9 nh na))), (a6, .inl (cI, 30, .inl (upd ha nh (nv / gD nv nw)))), (a7, .inl (cI, 30, .inl (upd hl9 nh (nw / gD nv nw)))), (a8, .inl (cI, 90, .inl (upd (upd (upd hs (nh * 3) (og 0 * (nw / gD nv nw) + di 0 * (nv / gD nv nw))) (nh * 3 + 1) (og 1 * (nw / gD nv nw) + di 1 * (nv / gD nv nw))) (nh * 3 + 2) (og 2 * (nw / gD nv nw) + di 2 * (nv / gD nv nw))))), (a9, .inr (1, [.int nb9, .int na, .int (nv / gD nv nw), .int (nw / gD nv nw)])), (a10, .inr (1, [.int nb9, .int na, .int nv, .int nw])), (a11, .inr (1, [.int tb, .int ta, .int tv, .int tw])), (b0, .inr (0, [.ref b1, .ref b2, .ref b3, .ref b4, .ref b5, .int cn])), (b1, .inl (cI, 60, .inl lo)), (b2, .inl (cI, 60, .inl hi)), (b3, .inl (cI, 20, .inl ki)), (b4, .inl (cI, 20, .inl sh)), (b5, .inl (cZ, 20, .inl of))])) A) ([.ref a0] : List Value).toArray s 0 0 A) (F0 m 28 ls []) := by
    intro ar1 har H locs ls hP hD hS hl
    refine lv_aload_n hx hb dX2_keepHit_28 rfl (lv_at hl 0 rfl) ?_
    refine va_get (D := D) (ci := 2) (v := .ref a10) (C := RX2) (T := TX2) (N := 13) hx hb hg iX2 hown hK hP 0 rfl rfl 9 (by decide) (hg _ kw144) (fun _ h9 => h9) rfl dX2_keepHit_29 ?_
    refine va_getN (D := D) (ci := 1) (v := .int nv) (C := RX1) (T := TX1) (N := 4) hx hb hg iX1 hown hK hP 10 rfl rfl 2 (by decide) (va_Nw.use rfl (nzF_12 hZ)) (fun _ h9 => h9) rfl dX2_keepHit_32 ?_
    refine lv_aload_n hx hb dX2_keepHit_35 rfl (lv_at hl 0 rfl) ?_
    refine va_get (D := D) (ci := 2) (v := .ref a10) (C := RX2) (T := TX2) (N := 13) hx hb hg iX2 hown hK hP 0 rfl rfl 9 (by decide) (hg _ kw144) (fun _ h9 => h9) rfl dX2_keepHit_36 ?_
    refine va_getN (D := D) (ci := 1) (v := .int nw) (C := RX1) (T := TX1) (N := 4) hx hb hg iX1 hown hK hP 10 rfl rfl 3 (by decide) (va_Nw.use rfl (nzF_13 hZ)) (fun _ h9 => h9) rfl dX2_keepHit_39 ?_
    have hPc := hP.sub (ws' := []) [] rfl
    refine rq_call (va_runSN (As := [.int nv, .int nw]) (rest := []) ⟨hx, hb, hml, hown, hg⟩ (qX3_commonDivisor l D cI cZ cJ nv nw) ⟨va_cnB 2 hg (gw_in kw412) rfl rfl rfl (nzM_11 hZ) (hg _ kw36) (by decide +kernel) ⟨Nat.le_of_ble_eq_true rfl, Nat.le_of_ble_eq_true rfl⟩, hg _ kw411, trivial⟩ (pq_pre hPc hK hZ) rfl rfl hl.1 rfl (lv_room (Nat.le_of_ble_eq_true rfl)) dX2_keepHit_42 ⟨Nat.le_of_ble_eq_true rfl, Nat.le_of_ble_eq_true rfl⟩) ?_
    refine tp_i (y := gD nv nw) (rfl) ?_
    refine lv_istore_n (lv' := [(1, .int (gD nv nw)), (0, .ref a0)]) hx hb dX2_keepHit_45 rfl hl (by decide) rfl (fun ls hl => ?_)
    refine lv_aload_n hx hb dX2_keepHit_46 rfl (lv_at hl 1 rfl) ?_
    refine va_get (D := D) (ci := 2) (v := .ref a9) (C := RX2) (T := TX2) (N := 13) hx hb hg iX2 hown hK hP 0 rfl rfl 8 (by decide) (hg _ kw143) (fun _ h9 => h9) rfl dX2_keepHit_47 ?_
    refine lv_aload_n hx hb dX2_keepHit_50 rfl (lv_at hl 1 rfl) ?_
    refine va_get (D := D) (ci := 2) (v := .ref a10) (C := RX2) (T := TX2) (N := 13) hx hb hg iX2 hown hK hP 0 rfl rfl 9 (by decide) (hg _ kw144) (fun _ h9 => h9) rfl dX2_keepHit_51 ?_
    refine va_getN (D := D) (ci := 1) (v := .int nb9) (C := RX1) (T := TX1) (N := 4) hx hb hg iX1 hown hK hP 10 rfl rfl 0 (by decide) (va_Nw.use rfl (nzF_10 hZ)) (fun _ h9 => h9) rfl dX2_keepHit_54 ?_
    refine lv_aload_n hx hb dX2_keepHit_57 rfl (lv_at hl 1 rfl) ?_
    refine va_get (D := D) (ci := 2) (v := .ref a10) (C := RX2) (T := TX2) (N := 13) hx hb hg iX2 hown hK hP 0 rfl rfl 9 (by decide) (hg _ kw144) (fun _ h9 => h9) rfl dX2_keepHit_58 ?_
    refine va_getN (D := D) (ci := 1) (v := .int na) (C := RX1) (T := TX1) (N := 4) hx hb hg iX1 hown hK hP 10 rfl rfl 1 (by decide) (va_Nw.use rfl (nzF_11 hZ)) (fun _ h9 => h9) rfl dX2_keepHit_61 ?_
    refine lv_aload_n hx hb dX2_keepHit_64 rfl (lv_at hl 1 rfl) ?_
    refine va_get (D := D) (ci := 2) (v := .ref a10) (C := RX2) (T := TX2) (N := 13) hx hb hg iX2 hown hK hP 0 rfl rfl 9 (by decide) (hg _ kw144) (fun _ h9 => h9) rfl dX2_keepHit_65 ?_
    refine va_getN (D := D) (ci := 1) (v := .int nv) (C := RX1) (T := TX1) (N := 4) hx hb hg iX1 hown hK hP 10 rfl rfl 2 (by decide) (va_Nw.use rfl (nzF_12 hZ)) (fun _ h9 => h9) rfl dX2_keepHit_68 ?_
    refine lv_iload_n hx hb dX2_keepHit_71 rfl (lv_at hl 0 rfl) ?_
    refine lv_idiv hx hb dX2_keepHit_72 (gD_ne _ _) ?_
    refine lv_aload_n hx hb dX2_keepHit_73 rfl (lv_at hl 1 rfl) ?_
    refine va_get (D := D) (ci := 2) (v := .ref a10) (C := RX2) (T := TX2) (N := 13) hx hb hg iX2 hown hK hP 0 rfl rfl 9 (by decide) (hg _ kw144) (fun _ h9 => h9) rfl dX2_keepHit_74 ?_
    refine va_getN (D := D) (ci := 1) (v := .int nw) (C := RX1) (T := TX1) (N := 4) hx hb hg iX1 hown hK hP 10 rfl rfl 3 (by decide) (va_Nw.use rfl (nzF_13 hZ)) (fun _ h9 => h9) rfl dX2_keepHit_77 ?_
    refine lv_iload_n hx hb dX2_keepHit_80 rfl (lv_at hl 0 rfl) ?_
    refine lv_idiv hx hb dX2_keepHit_81 (gD_ne _ _) ?_
    have hPc := hP.sub (ws' := [(a9, .inr (1, [.int lb, .int la, .int lv, .int lw]))]) [9] rfl
    have hDc := hD.sub (ws' := [(a9, .inr (1, [.int lb, .int la, .int lv, .int lw]))]) [9] (by decide) rfl
    have hFc := va_free (wc := [(a9, .inr (1, [.int lb, .int la, .int lv, .int lw]))]) hD hS hA [9] rfl
    refine va_callv (va_runVN (As := [.int nb9, .int na, .int (nv / (gD nv nw)), .int (nw / (gD nv nw))]) (rest := []) ⟨hx, hb, hml, hown, hg⟩ (qX1_set l D cI cZ cJ a9 lb la lv lw nb9 na (nv / (gD nv nw)) (nw / (gD nv nw)) H.size) ⟨va_cnB 4 hg (gw_in kw351) rfl rfl rfl (nzM_5 hZ) (hg _ kw40) (by decide +kernel) ⟨Nat.le_of_ble_eq_true rfl, Nat.le_of_ble_eq_true rfl⟩, hg _ kw350, hg _ kw5⟩ (wq_preV hPc hK hDc hZ (va_recv hK hPc (ci := 1) (q0 := 0) rfl rfl)) rfl rfl hl.1 rfl (lv_room (Nat.le_of_ble_eq_true rfl)) dX2_keepHit_82 ⟨Nat.le_of_ble_eq_true rfl, Nat.le_of_ble_eq_true rfl⟩) hS (fun q _ h => hFc q h) hFc (fun u t H locs ht hvm hw hB hz1 hk1 hS => ?_)
    obtain ⟨hP1, hK1, hD1⟩ := hB
    rw [ht] at hP1
    try dsimp only at hw hP1 hD1
    obtain ⟨hP, hD⟩ := va_join (wr := [(a0, .inr (2, [.ref a1, .ref a2, .ref a3, .ref a4, .ref a5, .ref a6, .ref a7, .ref a8, .ref a9, .ref a10, .ref a11, .int (nI nh), .int li])), (a1, .inl (cI, 3, .inl og)), (a2, .inl (cI, 3, .inl di)), (a3, .inl (cI, 3, .inl ar1)), (a4, .inl (cI, 30, .inl ho)), (a5, .inl (cI, 30, .inl hx9)), (a6, .inl (cI, 30, .inl ha)), (a7, .inl (cI, 30, .inl hl9)), (a8, .inl (cI, 90, .inl hs)), (a10, .inr (1, [.int nb9, .int na, .int nv, .int nw])), (a11, .inr (1, [.int tb, .int ta, .int tv, .int tw])), (b0, .inr (0, [.ref b1, .ref b2, .ref b3, .ref b4, .ref b5, .int cn])), (b1, .inl (cI, 60, .inl lo)), (b2, .inl (cI, 60, .inl hi)), (b3, .inl (cI, 20, .inl ki)), (b4, .inl (cI, 20, .inl sh)), (b5, .inl (cZ, 20, .inl of))]) (w1 := [(a9, .inr (1, [.int nb9, .int na, .int (nv / (gD nv nw)), .int (nw / (gD nv nw))]))]) hP hD [9] [0, 1, 2, 3, 4, 5, 6, 7, 8, 10, 11, 12, 13, 14, 15, 16, 17] rfl rfl (by decide) (by decide) hk1 hFc hP1 hD1
    replace hP := hP.sub (ws' := [(a0, .inr (2, [.ref a1, .ref a2, .ref a3, .ref a4, .ref a5, .ref a6, .ref a7, .ref a8, .ref a9, .ref a10, .ref a11, .int (nI nh), .int li])), (a1, .inl (cI, 3, .inl og)), (a2, .inl (cI, 3, .inl di)), (a3, .inl (cI, 3, .inl ar1)), (a4, .inl (cI, 30, .inl ho)), (a5, .inl (cI, 30, .inl hx9)), (a6, .inl (cI, 30, .inl ha)), (a7, .inl (cI, 30, .inl hl9)), (a8, .inl (cI, 90, .inl hs)), (a9, .inr (1, [.int nb9, .int na, .int (nv / (gD nv nw)), .int (nw / (gD nv nw))])), (a10, .inr (1, [.int nb9, .int na, .int nv, .int nw])), (a11, .inr (1, [.int tb, .int ta, .int tv, .int tw])), (b0, .inr (0, [.ref b1, .ref b2, .ref b3, .ref b4, .ref b5, .int cn])), (b1, .inl (cI, 60, .inl lo)), (b2, .inl (cI, 60, .inl hi)), (b3, .inl (cI, 20, .inl ki)), (b4, .inl (cI, 20, .inl sh)), (b5, .inl (cZ, 20, .inl of))]) [0, 1, 2, 3, 4, 5, 6, 7, 8, 17, 9, 10, 11, 12, 13, 14, 15, 16] rfl
    replace hD := hD.sub (ws' := [(a0, .inr (2, [.ref a1, .ref a2, .ref a3, .ref a4, .ref a5, .ref a6, .ref a7, .ref a8, .ref a9, .ref a10, .ref a11, .int (nI nh), .int li])), (a1, .inl (cI, 3, .inl og)), (a2, .inl (cI, 3, .inl di)), (a3, .inl (cI, 3, .inl ar1)), (a4, .inl (cI, 30, .inl ho)), (a5, .inl (cI, 30, .inl hx9)), (a6, .inl (cI, 30, .inl ha)), (a7, .inl (cI, 30, .inl hl9)), (a8, .inl (cI, 90, .inl hs)), (a9, .inr (1, [.int nb9, .int na, .int (nv / (gD nv nw)), .int (nw / (gD nv nw))])), (a10, .inr (1, [.int nb9, .int na, .int nv, .int nw])), (a11, .inr (1, [.int tb, .int ta, .int tv, .int tw])), (b0, .inr (0, [.ref b1, .ref b2, .ref b3, .ref b4, .ref b5, .int cn])), (b1, .inl (cI, 60, .inl lo)), (b2, .inl (cI, 60, .inl hi)), (b3, .inl (cI, 20, .inl ki)), (b4, .inl (cI, 20, .inl sh)), (b5, .inl (cZ, 20, .inl of))]) [0, 1, 2, 3, 4, 5, 6, 7, 8, 17, 9, 10, 11, 12, 13, 14, 15, 16] (by decide) rfl
    refine lv_aload_n hx hb dX2_keepHit_85 rfl (lv_at hl 1 rfl) ?_
    refine va_get (D := D) (ci := 2) (v := .ref a4) (C := RX2) (T := TX2) (N := 13) hx hb hg iX2 hown hK hP 0 rfl rfl 3 (by decide) (hg _ kw133) (fun _ h9 => h9) rfl dX2_keepHit_86 ?_
    refine lv_aload_n hx hb dX2_keepHit_89 rfl (lv_at hl 1 rfl) ?_
    refine va_get (D := D) (ci := 2) (v := .int (nI nh)) (C := RX2) (T := TX2) (N := 13) hx hb hg iX2 hown hK hP 0 rfl rfl 11 (by decide) (hg _ kw146) (fun _ h9 => h9) rfl dX2_keepHit_90 ?_
    refine lv_aload_n hx hb dX2_keepHit_93 rfl (lv_at hl 1 rfl) ?_
    refine va_get (D := D) (ci := 2) (v := .ref a9) (C := RX2) (T := TX2) (N := 13) hx hb hg iX2 hown hK hP 0 rfl rfl 8 (by decide) (hg _ kw143) (fun _ h9 => h9) rfl dX2_keepHit_94 ?_
    refine va_getN (D := D) (ci := 1) (v := .int nb9) (C := RX1) (T := TX1) (N := 4) hx hb hg iX1 hown hK hP 9 rfl rfl 0 (by decide) (va_Nw.use rfl (nzF_10 hZ)) (fun _ h9 => h9) rfl dX2_keepHit_97 ?_
    refine va_iast hx hb hK hP hD hS 4 0 rfl rfl (vp_in_nI (by omega) (by decide)) dX2_keepHit_100 (fun H locs hP hD hS => ?_)
    rw [show (nI nh).toNatClampNeg = nh from nI_clamp (by omega)] at hP hD
    have hP : va_P D vwCl [(a0, .inr (2, [.ref a1, .ref a2, .ref a3, .ref a4, .ref a5, .ref a6, .ref a7, .ref a8, .ref a9, .ref a10, .ref a11, .int (nI nh), .int li])), (a1, .inl (cI, 3, .inl og)), (a2, .inl (cI, 3, .inl di)), (a3, .inl (cI, 3, .inl ar1)), (a4, .inl (cI, 30, .inl (upd ho nh nb9))), (a5, .inl (cI, 30, .inl hx9)), (a6, .inl (cI, 30, .inl ha)), (a7, .inl (cI, 30, .inl hl9)), (a8, .inl (cI, 90, .inl hs)), (a9, .inr (1, [.int nb9, .int na, .int (nv / (gD nv nw)), .int (nw / (gD nv nw))])), (a10, .inr (1, [.int nb9, .int na, .int nv, .int nw])), (a11, .inr (1, [.int tb, .int ta, .int tv, .int tw])), (b0, .inr (0, [.ref b1, .ref b2, .ref b3, .ref b4, .ref b5, .int cn])), (b1, .inl (cI, 60, .inl lo)), (b2, .inl (cI, 60, .inl hi)), (b3, .inl (cI, 20, .inl ki)), (b4, .inl (cI, 20, .inl sh)), (b5, .inl (cZ, 20, .inl of))] H := hP
    have hD : va_D A [(a0, .inr (2, [.ref a1, .ref a2, .ref a3, .ref a4, .ref a5, .ref a6, .ref a7, .ref a8, .ref a9, .ref a10, .ref a11, .int (nI nh), .int li])), (a1, .inl (cI, 3, .inl og)), (a2, .inl (cI, 3, .inl di)), (a3, .inl (cI, 3, .inl ar1)), (a4, .inl (cI, 30, .inl (upd ho nh nb9))), (a5, .inl (cI, 30, .inl hx9)), (a6, .inl (cI, 30, .inl ha)), (a7, .inl (cI, 30, .inl hl9)), (a8, .inl (cI, 90, .inl hs)), (a9, .inr (1, [.int nb9, .int na, .int (nv / (gD nv nw)), .int (nw / (gD nv nw))])), (a10, .inr (1, [.int nb9, .int na, .int nv, .int nw])), (a11, .inr (1, [.int tb, .int ta, .int tv, .int tw])), (b0, .inr (0, [.ref b1, .ref b2, .ref b3, .ref b4, .ref b5, .int cn])), (b1, .inl (cI, 60, .inl lo)), (b2, .inl (cI, 60, .inl hi)), (b3, .inl (cI, 20, .inl ki)), (b4, .inl (cI, 20, .inl sh)), (b5, .inl (cZ, 20, .inl of))] := hD
    refine lv_aload_n hx hb dX2_keepHit_101 rfl (lv_at hl 1 rfl) ?_
    refine va_get (D := D) (ci := 2) (v := .ref a5) (C := RX2) (T := TX2) (N := 13) hx hb hg iX2 hown hK hP 0 rfl rfl 4 (by decide) (hg _ kw135) (fun _ h9 => h9) rfl dX2_keepHit_102 ?_
    refine lv_aload_n hx hb dX2_keepHit_105 rfl (lv_at hl 1 rfl) ?_
    refine va_get (D := D) (ci := 2) (v := .int (nI nh)) (C := RX2) (T := TX2) (N := 13) hx hb hg iX2 hown hK hP 0 rfl rfl 11 (by decide) (hg _ kw146) (fun _ h9 => h9) rfl dX2_keepHit_106 ?_
    refine lv_aload_n hx hb dX2_keepHit_109 rfl (lv_at hl 1 rfl) ?_
    refine va_get (D := D) (ci := 2) (v := .ref a9) (C := RX2) (T := TX2) (N := 13) hx hb hg iX2 hown hK hP 0 rfl rfl 8 (by decide) (hg _ kw143) (fun _ h9 => h9) rfl dX2_keepHit_110 ?_
    refine va_getN (D := D) (ci := 1) (v := .int na) (C := RX1) (T := TX1) (N := 4) hx hb hg iX1 hown hK hP 9 rfl rfl 1 (by decide) (va_Nw.use rfl (nzF_11 hZ)) (fun _ h9 => h9) rfl dX2_keepHit_113 ?_
    refine va_iast hx hb hK hP hD hS 5 0 rfl rfl (vp_in_nI (by omega) (by decide)) dX2_keepHit_116 (fun H locs hP hD hS => ?_)
    rw [show (nI nh).toNatClampNeg = nh from nI_clamp (by omega)] at hP hD
    have hP : va_P D vwCl [(a0, .inr (2, [.ref a1, .ref a2, .ref a3, .ref a4, .ref a5, .ref a6, .ref a7, .ref a8, .ref a9, .ref a10, .ref a11, .int (nI nh), .int li])), (a1, .inl (cI, 3, .inl og)), (a2, .inl (cI, 3, .inl di)), (a3, .inl (cI, 3, .inl ar1)), (a4, .inl (cI, 30, .inl (upd ho nh nb9))), (a5, .inl (cI, 30, .inl (upd hx9 nh na))), (a6, .inl (cI, 30, .inl ha)), (a7, .inl (cI, 30, .inl hl9)), (a8, .inl (cI, 90, .inl hs)), (a9, .inr (1, [.int nb9, .int na, .int (nv / (gD nv nw)), .int (nw / (gD nv nw))])), (a10, .inr (1, [.int nb9, .int na, .int nv, .int nw])), (a11, .inr (1, [.int tb, .int ta, .int tv, .int tw])), (b0, .inr (0, [.ref b1, .ref b2, .ref b3, .ref b4, .ref b5, .int cn])), (b1, .inl (cI, 60, .inl lo)), (b2, .inl (cI, 60, .inl hi)), (b3, .inl (cI, 20, .inl ki)), (b4, .inl (cI, 20, .inl sh)), (b5, .inl (cZ, 20, .inl of))] H := hP
    have hD : va_D A [(a0, .inr (2, [.ref a1, .ref a2, .ref a3, .ref a4, .ref a5, .ref a6, .ref a7, .ref a8, .ref a9, .ref a10, .ref a11, .int (nI nh), .int li])), (a1, .inl (cI, 3, .inl og)), (a2, .inl (cI, 3, .inl di)), (a3, .inl (cI, 3, .inl ar1)), (a4, .inl (cI, 30, .inl (upd ho nh nb9))), (a5, .inl (cI, 30, .inl (upd hx9 nh na))), (a6, .inl (cI, 30, .inl ha)), (a7, .inl (cI, 30, .inl hl9)), (a8, .inl (cI, 90, .inl hs)), (a9, .inr (1, [.int nb9, .int na, .int (nv / (gD nv nw)), .int (nw / (gD nv nw))])), (a10, .inr (1, [.int nb9, .int na, .int nv, .int nw])), (a11, .inr (1, [.int tb, .int ta, .int tv, .int tw])), (b0, .inr (0, [.ref b1, .ref b2, .ref b3, .ref b4, .ref b5, .int cn])), (b1, .inl (cI, 60, .inl lo)), (b2, .inl (cI, 60, .inl hi)), (b3, .inl (cI, 20, .inl ki)), (b4, .inl (cI, 20, .inl sh)), (b5, .inl (cZ, 20, .inl of))] := hD
    refine lv_aload_n hx hb dX2_keepHit_117 rfl (lv_at hl 1 rfl) ?_
    refine va_get (D := D) (ci := 2) (v := .ref a6) (C := RX2) (T := TX2) (N := 13) hx hb hg iX2 hown hK hP 0 rfl rfl 5 (by decide) (hg _ kw137) (fun _ h9 => h9) rfl dX2_keepHit_118 ?_
    refine lv_aload_n hx hb dX2_keepHit_121 rfl (lv_at hl 1 rfl) ?_
    refine va_get (D := D) (ci := 2) (v := .int (nI nh)) (C := RX2) (T := TX2) (N := 13) hx hb hg iX2 hown hK hP 0 rfl rfl 11 (by decide) (hg _ kw146) (fun _ h9 => h9) rfl dX2_keepHit_122 ?_
    refine lv_aload_n hx hb dX2_keepHit_125 rfl (lv_at hl 1 rfl) ?_
    refine va_get (D := D) (ci := 2) (v := .ref a9) (C := RX2) (T := TX2) (N := 13) hx hb hg iX2 hown hK hP 0 rfl rfl 8 (by decide) (hg _ kw143) (fun _ h9 => h9) rfl dX2_keepHit_126 ?_
    refine va_getN (D := D) (ci := 1) (v := .int (nv / (gD nv nw))) (C := RX1) (T := TX1) (N := 4) hx hb hg iX1 hown hK hP 9 rfl rfl 2 (by decide) (va_Nw.use rfl (nzF_12 hZ)) (fun _ h9 => h9) rfl dX2_keepHit_129 ?_
    refine va_iast hx hb hK hP hD hS 6 0 rfl rfl (vp_in_nI (by omega) (by decide)) dX2_keepHit_132 (fun H locs hP hD hS => ?_)
    rw [show (nI nh).toNatClampNeg = nh from nI_clamp (by omega)] at hP hD
    have hP : va_P D vwCl [(a0, .inr (2, [.ref a1, .ref a2, .ref a3, .ref a4, .ref a5, .ref a6, .ref a7, .ref a8, .ref a9, .ref a10, .ref a11, .int (nI nh), .int li])), (a1, .inl (cI, 3, .inl og)), (a2, .inl (cI, 3, .inl di)), (a3, .inl (cI, 3, .inl ar1)), (a4, .inl (cI, 30, .inl (upd ho nh nb9))), (a5, .inl (cI, 30, .inl (upd hx9 nh na))), (a6, .inl (cI, 30, .inl (upd ha nh (nv / (gD nv nw))))), (a7, .inl (cI, 30, .inl hl9)), (a8, .inl (cI, 90, .inl hs)), (a9, .inr (1, [.int nb9, .int na, .int (nv / (gD nv nw)), .int (nw / (gD nv nw))])), (a10, .inr (1, [.int nb9, .int na, .int nv, .int nw])), (a11, .inr (1, [.int tb, .int ta, .int tv, .int tw])), (b0, .inr (0, [.ref b1, .ref b2, .ref b3, .ref b4, .ref b5, .int cn])), (b1, .inl (cI, 60, .inl lo)), (b2, .inl (cI, 60, .inl hi)), (b3, .inl (cI, 20, .inl ki)), (b4, .inl (cI, 20, .inl sh)), (b5, .inl (cZ, 20, .inl of))] H := hP
    have hD : va_D A [(a0, .inr (2, [.ref a1, .ref a2, .ref a3, .ref a4, .ref a5, .ref a6, .ref a7, .ref a8, .ref a9, .ref a10, .ref a11, .int (nI nh), .int li])), (a1, .inl (cI, 3, .inl og)), (a2, .inl (cI, 3, .inl di)), (a3, .inl (cI, 3, .inl ar1)), (a4, .inl (cI, 30, .inl (upd ho nh nb9))), (a5, .inl (cI, 30, .inl (upd hx9 nh na))), (a6, .inl (cI, 30, .inl (upd ha nh (nv / (gD nv nw))))), (a7, .inl (cI, 30, .inl hl9)), (a8, .inl (cI, 90, .inl hs)), (a9, .inr (1, [.int nb9, .int na, .int (nv / (gD nv nw)), .int (nw / (gD nv nw))])), (a10, .inr (1, [.int nb9, .int na, .int nv, .int nw])), (a11, .inr (1, [.int tb, .int ta, .int tv, .int tw])), (b0, .inr (0, [.ref b1, .ref b2, .ref b3, .ref b4, .ref b5, .int cn])), (b1, .inl (cI, 60, .inl lo)), (b2, .inl (cI, 60, .inl hi)), (b3, .inl (cI, 20, .inl ki)), (b4, .inl (cI, 20, .inl sh)), (b5, .inl (cZ, 20, .inl of))] := hD
    refine lv_aload_n hx hb dX2_keepHit_133 rfl (lv_at hl 1 rfl) ?_
    refine va_get (D := D) (ci := 2) (v := .ref a7) (C := RX2) (T := TX2) (N := 13) hx hb hg iX2 hown hK hP 0 rfl rfl 6 (by decide) (hg _ kw139) (fun _ h9 => h9) rfl dX2_keepHit_134 ?_
    refine lv_aload_n hx hb dX2_keepHit_137 rfl (lv_at hl 1 rfl) ?_
    refine va_get (D := D) (ci := 2) (v := .int (nI nh)) (C := RX2) (T := TX2) (N := 13) hx hb hg iX2 hown hK hP 0 rfl rfl 11 (by decide) (hg _ kw146) (fun _ h9 => h9) rfl dX2_keepHit_138 ?_
    refine lv_aload_n hx hb dX2_keepHit_141 rfl (lv_at hl 1 rfl) ?_
    refine va_get (D := D) (ci := 2) (v := .ref a9) (C := RX2) (T := TX2) (N := 13) hx hb hg iX2 hown hK hP 0 rfl rfl 8 (by decide) (hg _ kw143) (fun _ h9 => h9) rfl dX2_keepHit_142 ?_
    refine va_getN (D := D) (ci := 1) (v := .int (nw / (gD nv nw))) (C := RX1) (T := TX1) (N := 4) hx hb hg iX1 hown hK hP 9 rfl rfl 3 (by decide) (va_Nw.use rfl (nzF_13 hZ)) (fun _ h9 => h9) rfl dX2_keepHit_145 ?_
    refine va_iast hx hb hK hP hD hS 7 0 rfl rfl (vp_in_nI (by omega) (by decide)) dX2_keepHit_148 (fun H locs hP hD hS => ?_)
    rw [show (nI nh).toNatClampNeg = nh from nI_clamp (by omega)] at hP hD
    have hP : va_P D vwCl [(a0, .inr (2, [.ref a1, .ref a2, .ref a3, .ref a4, .ref a5, .ref a6, .ref a7, .ref a8, .ref a9, .ref a10, .ref a11, .int (nI nh), .int li])), (a1, .inl (cI, 3, .inl og)), (a2, .inl (cI, 3, .inl di)), (a3, .inl (cI, 3, .inl ar1)), (a4, .inl (cI, 30, .inl (upd ho nh nb9))), (a5, .inl (cI, 30, .inl (upd hx9 nh na))), (a6, .inl (cI, 30, .inl (upd ha nh (nv / (gD nv nw))))), (a7, .inl (cI, 30, .inl (upd hl9 nh (nw / (gD nv nw))))), (a8, .inl (cI, 90, .inl hs)), (a9, .inr (1, [.int nb9, .int na, .int (nv / (gD nv nw)), .int (nw / (gD nv nw))])), (a10, .inr (1, [.int nb9, .int na, .int nv, .int nw])), (a11, .inr (1, [.int tb, .int ta, .int tv, .int tw])), (b0, .inr (0, [.ref b1, .ref b2, .ref b3, .ref b4, .ref b5, .int cn])), (b1, .inl (cI, 60, .inl lo)), (b2, .inl (cI, 60, .inl hi)), (b3, .inl (cI, 20, .inl ki)), (b4, .inl (cI, 20, .inl sh)), (b5, .inl (cZ, 20, .inl of))] H := hP
    have hD : va_D A [(a0, .inr (2, [.ref a1, .ref a2, .ref a3, .ref a4, .ref a5, .ref a6, .ref a7, .ref a8, .ref a9, .ref a10, .ref a11, .int (nI nh), .int li])), (a1, .inl (cI, 3, .inl og)), (a2, .inl (cI, 3, .inl di)), (a3, .inl (cI, 3, .inl ar1)), (a4, .inl (cI, 30, .inl (upd ho nh nb9))), (a5, .inl (cI, 30, .inl (upd hx9 nh na))), (a6, .inl (cI, 30, .inl (upd ha nh (nv / (gD nv nw))))), (a7, .inl (cI, 30, .inl (upd hl9 nh (nw / (gD nv nw))))), (a8, .inl (cI, 90, .inl hs)), (a9, .inr (1, [.int nb9, .int na, .int (nv / (gD nv nw)), .int (nw / (gD nv nw))])), (a10, .inr (1, [.int nb9, .int na, .int nv, .int nw])), (a11, .inr (1, [.int tb, .int ta, .int tv, .int tw])), (b0, .inr (0, [.ref b1, .ref b2, .ref b3, .ref b4, .ref b5, .int cn])), (b1, .inl (cI, 60, .inl lo)), (b2, .inl (cI, 60, .inl hi)), (b3, .inl (cI, 20, .inl ki)), (b4, .inl (cI, 20, .inl sh)), (b5, .inl (cZ, 20, .inl of))] := hD
    refine lv_iconst (v := 0) hx hb dX2_keepHit_149 (by decide) ?_
    refine lv_istore_n (lv' := [(2, .int 0), (1, .int (gD nv nw)), (0, .ref a0)]) hx hb dX2_keepHit_150 rfl hl (by decide) rfl (fun ls hl => ?_)
    refine lv_iload_n hx hb dX2_keepHit_151 rfl (lv_at hl 0 rfl) ?_
    refine lv_iconst (v := 3) hx hb dX2_keepHit_152 (by decide) ?_
    refine lv_icmp_ge (tgt := 180) hx hb dX2_keepHit_153 (by decide) (fun c153 => absurd c153 (by decide)) (fun _ => ?_)
    refine lv_aload_n hx hb dX2_keepHit_156 rfl (lv_at hl 2 rfl) ?_
    refine va_get (D := D) (ci := 2) (v := .ref a8) (C := RX2) (T := TX2) (N := 13) hx hb hg iX2 hown hK hP 0 rfl rfl 7 (by decide) (hg _ kw141) (fun _ h9 => h9) rfl dX2_keepHit_157 ?_
    refine lv_aload_n hx hb dX2_keepHit_160 rfl (lv_at hl 2 rfl) ?_
    refine va_get (D := D) (ci := 2) (v := .int (nI nh)) (C := RX2) (T := TX2) (N := 13) hx hb hg iX2 hown hK hP 0 rfl rfl 11 (by decide) (hg _ kw146) (fun _ h9 => h9) rfl dX2_keepHit_161 ?_
    refine lv_iconst (v := 3) hx hb dX2_keepHit_164 (by decide) ?_
    refine lv_imul hx hb dX2_keepHit_165 ?_
    refine lv_iload_n hx hb dX2_keepHit_166 rfl (lv_at hl 0 rfl) ?_
    refine lv_iadd hx hb dX2_keepHit_167 ?_
    refine lv_aload_n hx hb dX2_keepHit_168 rfl (lv_at hl 2 rfl) ?_
    refine lv_iload_n hx hb dX2_keepHit_169 rfl (lv_at hl 0 rfl) ?_
    have hPc := hP.sub (ws' := [(a0, .inr (2, [.ref a1, .ref a2, .ref a3, .ref a4, .ref a5, .ref a6, .ref a7, .ref a8, .ref a9, .ref a10, .ref a11, .int (nI nh), .int li])), (a1, .inl (cI, 3, .inl og)), (a2, .inl (cI, 3, .inl di)), (a3, .inl (cI, 3, .inl ar1)), (a4, .inl (cI, 30, .inl (upd ho nh nb9))), (a5, .inl (cI, 30, .inl (upd hx9 nh na))), (a6, .inl (cI, 30, .inl (upd ha nh (nv / (gD nv nw))))), (a7, .inl (cI, 30, .inl (upd hl9 nh (nw / (gD nv nw))))), (a8, .inl (cI, 90, .inl hs)), (a9, .inr (1, [.int nb9, .int na, .int (nv / (gD nv nw)), .int (nw / (gD nv nw))])), (a10, .inr (1, [.int nb9, .int na, .int nv, .int nw])), (a11, .inr (1, [.int tb, .int ta, .int tv, .int tw])), (b0, .inr (0, [.ref b1, .ref b2, .ref b3, .ref b4, .ref b5, .int cn])), (b1, .inl (cI, 60, .inl lo)), (b2, .inl (cI, 60, .inl hi)), (b3, .inl (cI, 20, .inl ki)), (b4, .inl (cI, 20, .inl sh)), (b5, .inl (cZ, 20, .inl of))]) [0, 1, 2, 3, 4, 5, 6, 7, 8, 9, 10, 11, 12, 13, 14, 15, 16, 17] rfl
    refine rq_call (va_runV (As := [.int 0]) (rest := [.int (((nI nh) * 3) + 0), .ref a8]) ⟨hx, hb, hml, hown, hg⟩ (qX2_spotAtLatest l D cI cZ cJ a0 a1 a2 a3 a4 a5 a6 a7 a8 a9 a10 a11 b0 b1 b2 b3 b4 b5 og di ar1 (upd ho nh nb9) (upd hx9 nh na) (upd ha nh (nv / (gD nv nw))) (upd hl9 nh (nw / (gD nv nw))) hs nb9 na (nv / (gD nv nw)) (nw / (gD nv nw)) nb9 na nv nw tb ta tv tw (nI nh) li lo hi ki sh of cn 0 (by decide)) (cwV 1 hg (gw_V kw394 kw396 kw15 kw39 kw397) rfl rfl rfl (by decide +kernel) ⟨Nat.le_of_ble_eq_true rfl, Nat.le_of_ble_eq_true rfl⟩) (pq_preV hPc hK hZ (va_recv hK hPc (ci := 2) (q0 := 0) rfl rfl)) rfl rfl hl.1 rfl (lv_room (Nat.le_of_ble_eq_true rfl)) dX2_keepHit_170 ⟨Nat.le_of_ble_eq_true rfl, Nat.le_of_ble_eq_true rfl⟩) ?_
    refine va_iast hx hb hK hP hD hS 8 0 rfl rfl (vin3 (k := 0) (by omega) (by decide)) dX2_keepHit_173 (fun H locs hP hD hS => ?_)
    rw [show (((nI nh) * 3) + 0).toNatClampNeg = nh * 3 from vcl3 (k := 0) (by omega)] at hP hD
    have hP : va_P D vwCl [(a0, .inr (2, [.ref a1, .ref a2, .ref a3, .ref a4, .ref a5, .ref a6, .ref a7, .ref a8, .ref a9, .ref a10, .ref a11, .int (nI nh), .int li])), (a1, .inl (cI, 3, .inl og)), (a2, .inl (cI, 3, .inl di)), (a3, .inl (cI, 3, .inl ar1)), (a4, .inl (cI, 30, .inl (upd ho nh nb9))), (a5, .inl (cI, 30, .inl (upd hx9 nh na))), (a6, .inl (cI, 30, .inl (upd ha nh (nv / (gD nv nw))))), (a7, .inl (cI, 30, .inl (upd hl9 nh (nw / (gD nv nw))))), (a8, .inl (cI, 90, .inl (upd hs (nh * 3) (og 0 * (nw / (gD nv nw)) + di 0 * (nv / (gD nv nw)))))), (a9, .inr (1, [.int nb9, .int na, .int (nv / (gD nv nw)), .int (nw / (gD nv nw))])), (a10, .inr (1, [.int nb9, .int na, .int nv, .int nw])), (a11, .inr (1, [.int tb, .int ta, .int tv, .int tw])), (b0, .inr (0, [.ref b1, .ref b2, .ref b3, .ref b4, .ref b5, .int cn])), (b1, .inl (cI, 60, .inl lo)), (b2, .inl (cI, 60, .inl hi)), (b3, .inl (cI, 20, .inl ki)), (b4, .inl (cI, 20, .inl sh)), (b5, .inl (cZ, 20, .inl of))] H := hP
    have hD : va_D A [(a0, .inr (2, [.ref a1, .ref a2, .ref a3, .ref a4, .ref a5, .ref a6, .ref a7, .ref a8, .ref a9, .ref a10, .ref a11, .int (nI nh), .int li])), (a1, .inl (cI, 3, .inl og)), (a2, .inl (cI, 3, .inl di)), (a3, .inl (cI, 3, .inl ar1)), (a4, .inl (cI, 30, .inl (upd ho nh nb9))), (a5, .inl (cI, 30, .inl (upd hx9 nh na))), (a6, .inl (cI, 30, .inl (upd ha nh (nv / (gD nv nw))))), (a7, .inl (cI, 30, .inl (upd hl9 nh (nw / (gD nv nw))))), (a8, .inl (cI, 90, .inl (upd hs (nh * 3) (og 0 * (nw / (gD nv nw)) + di 0 * (nv / (gD nv nw)))))), (a9, .inr (1, [.int nb9, .int na, .int (nv / (gD nv nw)), .int (nw / (gD nv nw))])), (a10, .inr (1, [.int nb9, .int na, .int nv, .int nw])), (a11, .inr (1, [.int tb, .int ta, .int tv, .int tw])), (b0, .inr (0, [.ref b1, .ref b2, .ref b3, .ref b4, .ref b5, .int cn])), (b1, .inl (cI, 60, .inl lo)), (b2, .inl (cI, 60, .inl hi)), (b3, .inl (cI, 20, .inl ki)), (b4, .inl (cI, 20, .inl sh)), (b5, .inl (cZ, 20, .inl of))] := hD
    refine lv_iinc (v := 1) (lv' := [(2, .int 1), (1, .int (gD nv nw)), (0, .ref a0)]) hx hb dX2_keepHit_174 hl (k := 0) rfl (by decide) (by decide) rfl (fun ls hl => ?_)
    refine lv_goto (tgt := 151) hx hb dX2_keepHit_177 (by decide) ?_
    refine lv_iload_n hx hb dX2_keepHit_151 rfl (lv_at hl 0 rfl) ?_
    refine lv_iconst (v := 3) hx hb dX2_keepHit_152 (by decide) ?_
    refine lv_icmp_ge (tgt := 180) hx hb dX2_keepHit_153 (by decide) (fun c153 => absurd c153 (by decide)) (fun _ => ?_)
    refine lv_aload_n hx hb dX2_keepHit_156 rfl (lv_at hl 2 rfl) ?_
    refine va_get (D := D) (ci := 2) (v := .ref a8) (C := RX2) (T := TX2) (N := 13) hx hb hg iX2 hown hK hP 0 rfl rfl 7 (by decide) (hg _ kw141) (fun _ h9 => h9) rfl dX2_keepHit_157 ?_
    refine lv_aload_n hx hb dX2_keepHit_160 rfl (lv_at hl 2 rfl) ?_
    refine va_get (D := D) (ci := 2) (v := .int (nI nh)) (C := RX2) (T := TX2) (N := 13) hx hb hg iX2 hown hK hP 0 rfl rfl 11 (by decide) (hg _ kw146) (fun _ h9 => h9) rfl dX2_keepHit_161 ?_
    refine lv_iconst (v := 3) hx hb dX2_keepHit_164 (by decide) ?_
    refine lv_imul hx hb dX2_keepHit_165 ?_
    refine lv_iload_n hx hb dX2_keepHit_166 rfl (lv_at hl 0 rfl) ?_
    refine lv_iadd hx hb dX2_keepHit_167 ?_
    refine lv_aload_n hx hb dX2_keepHit_168 rfl (lv_at hl 2 rfl) ?_
    refine lv_iload_n hx hb dX2_keepHit_169 rfl (lv_at hl 0 rfl) ?_
    have hPc := hP.sub (ws' := [(a0, .inr (2, [.ref a1, .ref a2, .ref a3, .ref a4, .ref a5, .ref a6, .ref a7, .ref a8, .ref a9, .ref a10, .ref a11, .int (nI nh), .int li])), (a1, .inl (cI, 3, .inl og)), (a2, .inl (cI, 3, .inl di)), (a3, .inl (cI, 3, .inl ar1)), (a4, .inl (cI, 30, .inl (upd ho nh nb9))), (a5, .inl (cI, 30, .inl (upd hx9 nh na))), (a6, .inl (cI, 30, .inl (upd ha nh (nv / (gD nv nw))))), (a7, .inl (cI, 30, .inl (upd hl9 nh (nw / (gD nv nw))))), (a8, .inl (cI, 90, .inl (upd hs (nh * 3) (og 0 * (nw / (gD nv nw)) + di 0 * (nv / (gD nv nw)))))), (a9, .inr (1, [.int nb9, .int na, .int (nv / (gD nv nw)), .int (nw / (gD nv nw))])), (a10, .inr (1, [.int nb9, .int na, .int nv, .int nw])), (a11, .inr (1, [.int tb, .int ta, .int tv, .int tw])), (b0, .inr (0, [.ref b1, .ref b2, .ref b3, .ref b4, .ref b5, .int cn])), (b1, .inl (cI, 60, .inl lo)), (b2, .inl (cI, 60, .inl hi)), (b3, .inl (cI, 20, .inl ki)), (b4, .inl (cI, 20, .inl sh)), (b5, .inl (cZ, 20, .inl of))]) [0, 1, 2, 3, 4, 5, 6, 7, 8, 9, 10, 11, 12, 13, 14, 15, 16, 17] rfl
    refine rq_call (va_runV (As := [.int 1]) (rest := [.int (((nI nh) * 3) + 1), .ref a8]) ⟨hx, hb, hml, hown, hg⟩ (qX2_spotAtLatest l D cI cZ cJ a0 a1 a2 a3 a4 a5 a6 a7 a8 a9 a10 a11 b0 b1 b2 b3 b4 b5 og di ar1 (upd ho nh nb9) (upd hx9 nh na) (upd ha nh (nv / (gD nv nw))) (upd hl9 nh (nw / (gD nv nw))) (upd hs (nh * 3) (og 0 * (nw / (gD nv nw)) + di 0 * (nv / (gD nv nw)))) nb9 na (nv / (gD nv nw)) (nw / (gD nv nw)) nb9 na nv nw tb ta tv tw (nI nh) li lo hi ki sh of cn 1 (by decide)) (cwV 1 hg (gw_V kw394 kw396 kw15 kw39 kw397) rfl rfl rfl (by decide +kernel) ⟨Nat.le_of_ble_eq_true rfl, Nat.le_of_ble_eq_true rfl⟩) (pq_preV hPc hK hZ (va_recv hK hPc (ci := 2) (q0 := 0) rfl rfl)) rfl rfl hl.1 rfl (lv_room (Nat.le_of_ble_eq_true rfl)) dX2_keepHit_170 ⟨Nat.le_of_ble_eq_true rfl, Nat.le_of_ble_eq_true rfl⟩) ?_
    refine va_iast hx hb hK hP hD hS 8 0 rfl rfl (vin3 (k := 1) (by omega) (by decide)) dX2_keepHit_173 (fun H locs hP hD hS => ?_)
    rw [show (((nI nh) * 3) + 1).toNatClampNeg = nh * 3 + 1 from vcl3 (k := 1) (by omega)] at hP hD
    have hP : va_P D vwCl [(a0, .inr (2, [.ref a1, .ref a2, .ref a3, .ref a4, .ref a5, .ref a6, .ref a7, .ref a8, .ref a9, .ref a10, .ref a11, .int (nI nh), .int li])), (a1, .inl (cI, 3, .inl og)), (a2, .inl (cI, 3, .inl di)), (a3, .inl (cI, 3, .inl ar1)), (a4, .inl (cI, 30, .inl (upd ho nh nb9))), (a5, .inl (cI, 30, .inl (upd hx9 nh na))), (a6, .inl (cI, 30, .inl (upd ha nh (nv / (gD nv nw))))), (a7, .inl (cI, 30, .inl (upd hl9 nh (nw / (gD nv nw))))), (a8, .inl (cI, 90, .inl (upd (upd hs (nh * 3) (og 0 * (nw / (gD nv nw)) + di 0 * (nv / (gD nv nw)))) (nh * 3 + 1) (og 1 * (nw / (gD nv nw)) + di 1 * (nv / (gD nv nw)))))), (a9, .inr (1, [.int nb9, .int na, .int (nv / (gD nv nw)), .int (nw / (gD nv nw))])), (a10, .inr (1, [.int nb9, .int na, .int nv, .int nw])), (a11, .inr (1, [.int tb, .int ta, .int tv, .int tw])), (b0, .inr (0, [.ref b1, .ref b2, .ref b3, .ref b4, .ref b5, .int cn])), (b1, .inl (cI, 60, .inl lo)), (b2, .inl (cI, 60, .inl hi)), (b3, .inl (cI, 20, .inl ki)), (b4, .inl (cI, 20, .inl sh)), (b5, .inl (cZ, 20, .inl of))] H := hP
    have hD : va_D A [(a0, .inr (2, [.ref a1, .ref a2, .ref a3, .ref a4, .ref a5, .ref a6, .ref a7, .ref a8, .ref a9, .ref a10, .ref a11, .int (nI nh), .int li])), (a1, .inl (cI, 3, .inl og)), (a2, .inl (cI, 3, .inl di)), (a3, .inl (cI, 3, .inl ar1)), (a4, .inl (cI, 30, .inl (upd ho nh nb9))), (a5, .inl (cI, 30, .inl (upd hx9 nh na))), (a6, .inl (cI, 30, .inl (upd ha nh (nv / (gD nv nw))))), (a7, .inl (cI, 30, .inl (upd hl9 nh (nw / (gD nv nw))))), (a8, .inl (cI, 90, .inl (upd (upd hs (nh * 3) (og 0 * (nw / (gD nv nw)) + di 0 * (nv / (gD nv nw)))) (nh * 3 + 1) (og 1 * (nw / (gD nv nw)) + di 1 * (nv / (gD nv nw)))))), (a9, .inr (1, [.int nb9, .int na, .int (nv / (gD nv nw)), .int (nw / (gD nv nw))])), (a10, .inr (1, [.int nb9, .int na, .int nv, .int nw])), (a11, .inr (1, [.int tb, .int ta, .int tv, .int tw])), (b0, .inr (0, [.ref b1, .ref b2, .ref b3, .ref b4, .ref b5, .int cn])), (b1, .inl (cI, 60, .inl lo)), (b2, .inl (cI, 60, .inl hi)), (b3, .inl (cI, 20, .inl ki)), (b4, .inl (cI, 20, .inl sh)), (b5, .inl (cZ, 20, .inl of))] := hD
    refine lv_iinc (v := 2) (lv' := [(2, .int 2), (1, .int (gD nv nw)), (0, .ref a0)]) hx hb dX2_keepHit_174 hl (k := 0) rfl (by decide) (by decide) rfl (fun ls hl => ?_)
    refine lv_goto (tgt := 151) hx hb dX2_keepHit_177 (by decide) ?_
    refine lv_iload_n hx hb dX2_keepHit_151 rfl (lv_at hl 0 rfl) ?_
    refine lv_iconst (v := 3) hx hb dX2_keepHit_152 (by decide) ?_
    refine lv_icmp_ge (tgt := 180) hx hb dX2_keepHit_153 (by decide) (fun c153 => absurd c153 (by decide)) (fun _ => ?_)
    refine lv_aload_n hx hb dX2_keepHit_156 rfl (lv_at hl 2 rfl) ?_
    refine va_get (D := D) (ci := 2) (v := .ref a8) (C := RX2) (T := TX2) (N := 13) hx hb hg iX2 hown hK hP 0 rfl rfl 7 (by decide) (hg _ kw141) (fun _ h9 => h9) rfl dX2_keepHit_157 ?_
    refine lv_aload_n hx hb dX2_keepHit_160 rfl (lv_at hl 2 rfl) ?_
    refine va_get (D := D) (ci := 2) (v := .int (nI nh)) (C := RX2) (T := TX2) (N := 13) hx hb hg iX2 hown hK hP 0 rfl rfl 11 (by decide) (hg _ kw146) (fun _ h9 => h9) rfl dX2_keepHit_161 ?_
    refine lv_iconst (v := 3) hx hb dX2_keepHit_164 (by decide) ?_
    refine lv_imul hx hb dX2_keepHit_165 ?_
    refine lv_iload_n hx hb dX2_keepHit_166 rfl (lv_at hl 0 rfl) ?_
    refine lv_iadd hx hb dX2_keepHit_167 ?_
    refine lv_aload_n hx hb dX2_keepHit_168 rfl (lv_at hl 2 rfl) ?_
    refine lv_iload_n hx hb dX2_keepHit_169 rfl (lv_at hl 0 rfl) ?_
    have hPc := hP.sub (ws' := [(a0, .inr (2, [.ref a1, .ref a2, .ref a3, .ref a4, .ref a5, .ref a6, .ref a7, .ref a8, .ref a9, .ref a10, .ref a11, .int (nI nh), .int li])), (a1, .inl (cI, 3, .inl og)), (a2, .inl (cI, 3, .inl di)), (a3, .inl (cI, 3, .inl ar1)), (a4, .inl (cI, 30, .inl (upd ho nh nb9))), (a5, .inl (cI, 30, .inl (upd hx9 nh na))), (a6, .inl (cI, 30, .inl (upd ha nh (nv / (gD nv nw))))), (a7, .inl (cI, 30, .inl (upd hl9 nh (nw / (gD nv nw))))), (a8, .inl (cI, 90, .inl (upd (upd hs (nh * 3) (og 0 * (nw / (gD nv nw)) + di 0 * (nv / (gD nv nw)))) (nh * 3 + 1) (og 1 * (nw / (gD nv nw)) + di 1 * (nv / (gD nv nw)))))), (a9, .inr (1, [.int nb9, .int na, .int (nv / (gD nv nw)), .int (nw / (gD nv nw))])), (a10, .inr (1, [.int nb9, .int na, .int nv, .int nw])), (a11, .inr (1, [.int tb, .int ta, .int tv, .int tw])), (b0, .inr (0, [.ref b1, .ref b2, .ref b3, .ref b4, .ref b5, .int cn])), (b1, .inl (cI, 60, .inl lo)), (b2, .inl (cI, 60, .inl hi)), (b3, .inl (cI, 20, .inl ki)), (b4, .inl (cI, 20, .inl sh)), (b5, .inl (cZ, 20, .inl of))]) [0, 1, 2, 3, 4, 5, 6, 7, 8, 9, 10, 11, 12, 13, 14, 15, 16, 17] rfl
    refine rq_call (va_runV (As := [.int 2]) (rest := [.int (((nI nh) * 3) + 2), .ref a8]) ⟨hx, hb, hml, hown, hg⟩ (qX2_spotAtLatest l D cI cZ cJ a0 a1 a2 a3 a4 a5 a6 a7 a8 a9 a10 a11 b0 b1 b2 b3 b4 b5 og di ar1 (upd ho nh nb9) (upd hx9 nh na) (upd ha nh (nv / (gD nv nw))) (upd hl9 nh (nw / (gD nv nw))) (upd (upd hs (nh * 3) (og 0 * (nw / (gD nv nw)) + di 0 * (nv / (gD nv nw)))) (nh * 3 + 1) (og 1 * (nw / (gD nv nw)) + di 1 * (nv / (gD nv nw)))) nb9 na (nv / (gD nv nw)) (nw / (gD nv nw)) nb9 na nv nw tb ta tv tw (nI nh) li lo hi ki sh of cn 2 (by decide)) (cwV 1 hg (gw_V kw394 kw396 kw15 kw39 kw397) rfl rfl rfl (by decide +kernel) ⟨Nat.le_of_ble_eq_true rfl, Nat.le_of_ble_eq_true rfl⟩) (pq_preV hPc hK hZ (va_recv hK hPc (ci := 2) (q0 := 0) rfl rfl)) rfl rfl hl.1 rfl (lv_room (Nat.le_of_ble_eq_true rfl)) dX2_keepHit_170 ⟨Nat.le_of_ble_eq_true rfl, Nat.le_of_ble_eq_true rfl⟩) ?_
    refine va_iast hx hb hK hP hD hS 8 0 rfl rfl (vin3 (k := 2) (by omega) (by decide)) dX2_keepHit_173 (fun H locs hP hD hS => ?_)
    rw [show (((nI nh) * 3) + 2).toNatClampNeg = nh * 3 + 2 from vcl3 (k := 2) (by omega)] at hP hD
    have hP : va_P D vwCl [(a0, .inr (2, [.ref a1, .ref a2, .ref a3, .ref a4, .ref a5, .ref a6, .ref a7, .ref a8, .ref a9, .ref a10, .ref a11, .int (nI nh), .int li])), (a1, .inl (cI, 3, .inl og)), (a2, .inl (cI, 3, .inl di)), (a3, .inl (cI, 3, .inl ar1)), (a4, .inl (cI, 30, .inl (upd ho nh nb9))), (a5, .inl (cI, 30, .inl (upd hx9 nh na))), (a6, .inl (cI, 30, .inl (upd ha nh (nv / (gD nv nw))))), (a7, .inl (cI, 30, .inl (upd hl9 nh (nw / (gD nv nw))))), (a8, .inl (cI, 90, .inl (upd (upd (upd hs (nh * 3) (og 0 * (nw / (gD nv nw)) + di 0 * (nv / (gD nv nw)))) (nh * 3 + 1) (og 1 * (nw / (gD nv nw)) + di 1 * (nv / (gD nv nw)))) (nh * 3 + 2) (og 2 * (nw / (gD nv nw)) + di 2 * (nv / (gD nv nw)))))), (a9, .inr (1, [.int nb9, .int na, .int (nv / (gD nv nw)), .int (nw / (gD nv nw))])), (a10, .inr (1, [.int nb9, .int na, .int nv, .int nw])), (a11, .inr (1, [.int tb, .int ta, .int tv, .int tw])), (b0, .inr (0, [.ref b1, .ref b2, .ref b3, .ref b4, .ref b5, .int cn])), (b1, .inl (cI, 60, .inl lo)), (b2, .inl (cI, 60, .inl hi)), (b3, .inl (cI, 20, .inl ki)), (b4, .inl (cI, 20, .inl sh)), (b5, .inl (cZ, 20, .inl of))] H := hP
    have hD : va_D A [(a0, .inr (2, [.ref a1, .ref a2, .ref a3, .ref a4, .ref a5, .ref a6, .ref a7, .ref a8, .ref a9, .ref a10, .ref a11, .int (nI nh), .int li])), (a1, .inl (cI, 3, .inl og)), (a2, .inl (cI, 3, .inl di)), (a3, .inl (cI, 3, .inl ar1)), (a4, .inl (cI, 30, .inl (upd ho nh nb9))), (a5, .inl (cI, 30, .inl (upd hx9 nh na))), (a6, .inl (cI, 30, .inl (upd ha nh (nv / (gD nv nw))))), (a7, .inl (cI, 30, .inl (upd hl9 nh (nw / (gD nv nw))))), (a8, .inl (cI, 90, .inl (upd (upd (upd hs (nh * 3) (og 0 * (nw / (gD nv nw)) + di 0 * (nv / (gD nv nw)))) (nh * 3 + 1) (og 1 * (nw / (gD nv nw)) + di 1 * (nv / (gD nv nw)))) (nh * 3 + 2) (og 2 * (nw / (gD nv nw)) + di 2 * (nv / (gD nv nw)))))), (a9, .inr (1, [.int nb9, .int na, .int (nv / (gD nv nw)), .int (nw / (gD nv nw))])), (a10, .inr (1, [.int nb9, .int na, .int nv, .int nw])), (a11, .inr (1, [.int tb, .int ta, .int tv, .int tw])), (b0, .inr (0, [.ref b1, .ref b2, .ref b3, .ref b4, .ref b5, .int cn])), (b1, .inl (cI, 60, .inl lo)), (b2, .inl (cI, 60, .inl hi)), (b3, .inl (cI, 20, .inl ki)), (b4, .inl (cI, 20, .inl sh)), (b5, .inl (cZ, 20, .inl of))] := hD
    refine lv_iinc (v := 3) (lv' := [(2, .int 3), (1, .int (gD nv nw)), (0, .ref a0)]) hx hb dX2_keepHit_174 hl (k := 0) rfl (by decide) (by decide) rfl (fun ls hl => ?_)
    refine lv_goto (tgt := 151) hx hb dX2_keepHit_177 (by decide) ?_
    refine lv_iload_n hx hb dX2_keepHit_151 rfl (lv_at hl 0 rfl) ?_
    refine lv_iconst (v := 3) hx hb dX2_keepHit_152 (by decide) ?_
    refine lv_icmp_ge (tgt := 180) hx hb dX2_keepHit_153 (by decide) (fun _ => ?_) (fun c153 => absurd (by decide) c153)
    refine lv_aload_n hx hb dX2_keepHit_180 rfl (lv_at hl 2 rfl) ?_
    refine lv_dup hx hb dX2_keepHit_181 rfl ?_
    refine va_get (D := D) (ci := 2) (v := .int (nI nh)) (C := RX2) (T := TX2) (N := 13) hx hb hg iX2 hown hK hP 0 rfl rfl 11 (by decide) (hg _ kw146) (fun _ h9 => h9) rfl dX2_keepHit_182 ?_
    refine lv_iconst (v := 1) hx hb dX2_keepHit_185 (by decide) ?_
    refine lv_iadd hx hb dX2_keepHit_186 ?_
    refine tp_i (y := nI (nh + 1)) (nI_1 nh) ?_
    refine va_put (D := D) (ci := 2) (v := .int (nI (nh + 1))) (ty := .int) (C := RX2) (T := TX2) (N := 13) hx hb hg iX2 tyX2 tyX2_ok nmX2 hown hK hP hD hS 0 rfl rfl 11 (by decide) (hg _ kw146) (fun _ h9 => h9) rfl (by decide +kernel) rfl rfl (Nat.le_of_ble_eq_true rfl) dX2_keepHit_187 (fun H locs hP hD hS => ?_)
    have hP : va_P D vwCl [(a0, .inr (2, [.ref a1, .ref a2, .ref a3, .ref a4, .ref a5, .ref a6, .ref a7, .ref a8, .ref a9, .ref a10, .ref a11, .int (nI (nh + 1)), .int li])), (a1, .inl (cI, 3, .inl og)), (a2, .inl (cI, 3, .inl di)), (a3, .inl (cI, 3, .inl ar1)), (a4, .inl (cI, 30, .inl (upd ho nh nb9))), (a5, .inl (cI, 30, .inl (upd hx9 nh na))), (a6, .inl (cI, 30, .inl (upd ha nh (nv / (gD nv nw))))), (a7, .inl (cI, 30, .inl (upd hl9 nh (nw / (gD nv nw))))), (a8, .inl (cI, 90, .inl (upd (upd (upd hs (nh * 3) (og 0 * (nw / (gD nv nw)) + di 0 * (nv / (gD nv nw)))) (nh * 3 + 1) (og 1 * (nw / (gD nv nw)) + di 1 * (nv / (gD nv nw)))) (nh * 3 + 2) (og 2 * (nw / (gD nv nw)) + di 2 * (nv / (gD nv nw)))))), (a9, .inr (1, [.int nb9, .int na, .int (nv / (gD nv nw)), .int (nw / (gD nv nw))])), (a10, .inr (1, [.int nb9, .int na, .int nv, .int nw])), (a11, .inr (1, [.int tb, .int ta, .int tv, .int tw])), (b0, .inr (0, [.ref b1, .ref b2, .ref b3, .ref b4, .ref b5, .int cn])), (b1, .inl (cI, 60, .inl lo)), (b2, .inl (cI, 60, .inl hi)), (b3, .inl (cI, 20, .inl ki)), (b4, .inl (cI, 20, .inl sh)), (b5, .inl (cZ, 20, .inl of))] H := hP
    have hD : va_D A [(a0, .inr (2, [.ref a1, .ref a2, .ref a3, .ref a4, .ref a5, .ref a6, .ref a7, .ref a8, .ref a9, .ref a10, .ref a11, .int (nI (nh + 1)), .int li])), (a1, .inl (cI, 3, .inl og)), (a2, .inl (cI, 3, .inl di)), (a3, .inl (cI, 3, .inl ar1)), (a4, .inl (cI, 30, .inl (upd ho nh nb9))), (a5, .inl (cI, 30, .inl (upd hx9 nh na))), (a6, .inl (cI, 30, .inl (upd ha nh (nv / (gD nv nw))))), (a7, .inl (cI, 30, .inl (upd hl9 nh (nw / (gD nv nw))))), (a8, .inl (cI, 90, .inl (upd (upd (upd hs (nh * 3) (og 0 * (nw / (gD nv nw)) + di 0 * (nv / (gD nv nw)))) (nh * 3 + 1) (og 1 * (nw / (gD nv nw)) + di 1 * (nv / (gD nv nw)))) (nh * 3 + 2) (og 2 * (nw / (gD nv nw)) + di 2 * (nv / (gD nv nw)))))), (a9, .inr (1, [.int nb9, .int na, .int (nv / (gD nv nw)), .int (nw / (gD nv nw))])), (a10, .inr (1, [.int nb9, .int na, .int nv, .int nw])), (a11, .inr (1, [.int tb, .int ta, .int tv, .int tw])), (b0, .inr (0, [.ref b1, .ref b2, .ref b3, .ref b4, .ref b5, .int cn])), (b1, .inl (cI, 60, .inl lo)), (b2, .inl (cI, 60, .inl hi)), (b3, .inl (cI, 20, .inl ki)), (b4, .inl (cI, 20, .inl sh)), (b5, .inl (cZ, 20, .inl of))] := hD
    subst har
    exact W.vret hx hb hr (fun t ht hW => ⟨⟨(), rfl, trivial, bq_end hP hK hD ht hW⟩, hS.F ht⟩) hS.2.2 dX2_keepHit_190
  refine lv_aload_n hx hb dX2_keepHit_0 rfl (lv_at hl 0 rfl) ?_
  refine va_get (D := D) (ci := 2) (v := .ref a10) (C := RX2) (T := TX2) (N := 13) hx hb hg iX2 hown hK hP 0 rfl rfl 9 (by decide) (hg _ kw144) (fun _ h9 => h9) rfl dX2_keepHit_1 ?_
  refine lv_aload_n hx hb dX2_keepHit_4 rfl (lv_at hl 0 rfl) ?_
  refine va_get (D := D) (ci := 2) (v := .ref a9) (C := RX2) (T := TX2) (N := 13) hx hb hg iX2 hown hK hP 0 rfl rfl 8 (by decide) (hg _ kw143) (fun _ h9 => h9) rfl dX2_keepHit_5 ?_
  have hPc := hP.sub (ws' := [(a10, .inr (1, [.int nb9, .int na, .int nv, .int nw])), (a9, .inr (1, [.int lb, .int la, .int lv, .int lw]))]) [10, 9] rfl
  refine rq_call (va_runVN (As := [.ref a9]) (rest := []) ⟨hx, hb, hml, hown, hg⟩ (qX1_compareTime l D cI cZ cJ a10 a9 nb9 na nv nw lb la lv lw) ⟨va_cnB 1 hg (gw_in kw386) rfl rfl rfl (nzM_9 hZ) (hg _ kw40) (by decide +kernel) ⟨Nat.le_of_ble_eq_true rfl, Nat.le_of_ble_eq_true rfl⟩, hg _ kw385, hg _ kw13⟩ (pq_preV hPc hK hZ (va_recv hK hPc (ci := 1) (q0 := 0) rfl rfl)) rfl rfl hl.1 rfl (lv_room (Nat.le_of_ble_eq_true rfl)) dX2_keepHit_8 ⟨Nat.le_of_ble_eq_true rfl, Nat.le_of_ble_eq_true rfl⟩) ?_
  refine lv_if_le (tgt := 28) hx hb dX2_keepHit_11 (by decide) (fun c11 => ?_) (fun c11 => ?_)
  · have c11n := Int32.not_lt.mpr c11
    exact K_12 ar (by simp [kpA, c11, c11n]) s.heap [] ls hP hD hS (lv_sub hl [0] rfl)
  · have c11n := Int32.not_le.mp c11
    refine lv_aload_n hx hb dX2_keepHit_14 rfl (lv_at hl 0 rfl) ?_
    refine va_get (D := D) (ci := 2) (v := .ref a2) (C := RX2) (T := TX2) (N := 13) hx hb hg iX2 hown hK hP 0 rfl rfl 1 (by decide) (hg _ kw130) (fun _ h9 => h9) rfl dX2_keepHit_15 ?_
    refine lv_iconst (v := 0) hx hb dX2_keepHit_18 (by decide) ?_
    refine lv_aload_n hx hb dX2_keepHit_19 rfl (lv_at hl 0 rfl) ?_
    refine va_get (D := D) (ci := 2) (v := .ref a3) (C := RX2) (T := TX2) (N := 13) hx hb hg iX2 hown hK hP 0 rfl rfl 2 (by decide) (hg _ kw132) (fun _ h9 => h9) rfl dX2_keepHit_20 ?_
    refine lv_iconst (v := 0) hx hb dX2_keepHit_23 (by decide) ?_
    refine lv_iconst (v := 3) hx hb dX2_keepHit_24 (by decide) ?_
    refine va_copyi hx hb (hml.trans hl.1.symm) hown (hg _ kw407) (hg _ kw409) (hg _ kw408) (hg _ kw48) hK hP hD hS 2 3 0 0 (ty := .int) rfl rfl rfl rfl rfl (by decide) (by decide) (by decide) (by decide) (by decide) (fun _ _ => rfl) (Nat.le_of_ble_eq_true rfl) (Nat.le_of_ble_eq_true rfl) dX2_keepHit_25 (fun H locs hP hD hS => ?_)
    have hP : va_P D vwCl [(a0, .inr (2, [.ref a1, .ref a2, .ref a3, .ref a4, .ref a5, .ref a6, .ref a7, .ref a8, .ref a9, .ref a10, .ref a11, .int (nI nh), .int li])), (a1, .inl (cI, 3, .inl og)), (a2, .inl (cI, 3, .inl di)), (a3, .inl (cI, 3, .inl (va_cpy di ar 0 0 3))), (a4, .inl (cI, 30, .inl ho)), (a5, .inl (cI, 30, .inl hx9)), (a6, .inl (cI, 30, .inl ha)), (a7, .inl (cI, 30, .inl hl9)), (a8, .inl (cI, 90, .inl hs)), (a9, .inr (1, [.int lb, .int la, .int lv, .int lw])), (a10, .inr (1, [.int nb9, .int na, .int nv, .int nw])), (a11, .inr (1, [.int tb, .int ta, .int tv, .int tw])), (b0, .inr (0, [.ref b1, .ref b2, .ref b3, .ref b4, .ref b5, .int cn])), (b1, .inl (cI, 60, .inl lo)), (b2, .inl (cI, 60, .inl hi)), (b3, .inl (cI, 20, .inl ki)), (b4, .inl (cI, 20, .inl sh)), (b5, .inl (cZ, 20, .inl of))] H := hP
    have hD : va_D A [(a0, .inr (2, [.ref a1, .ref a2, .ref a3, .ref a4, .ref a5, .ref a6, .ref a7, .ref a8, .ref a9, .ref a10, .ref a11, .int (nI nh), .int li])), (a1, .inl (cI, 3, .inl og)), (a2, .inl (cI, 3, .inl di)), (a3, .inl (cI, 3, .inl (va_cpy di ar 0 0 3))), (a4, .inl (cI, 30, .inl ho)), (a5, .inl (cI, 30, .inl hx9)), (a6, .inl (cI, 30, .inl ha)), (a7, .inl (cI, 30, .inl hl9)), (a8, .inl (cI, 90, .inl hs)), (a9, .inr (1, [.int lb, .int la, .int lv, .int lw])), (a10, .inr (1, [.int nb9, .int na, .int nv, .int nw])), (a11, .inr (1, [.int tb, .int ta, .int tv, .int tw])), (b0, .inr (0, [.ref b1, .ref b2, .ref b3, .ref b4, .ref b5, .int cn])), (b1, .inl (cI, 60, .inl lo)), (b2, .inl (cI, 60, .inl hi)), (b3, .inl (cI, 20, .inl ki)), (b4, .inl (cI, 20, .inl sh)), (b5, .inl (cZ, 20, .inl of))] := hD
    exact K_12 (va_cpy di ar 0 0 3) (by simp [kpA, c11, c11n]) H locs ls hP hD hS (lv_sub hl [0] rfl)
end
section
/-! a ray's way, hit by hit -/
abbrev FSt : Type := (Nat → Int32) × (Nat → Int32) × (Nat → Int32) × (Nat → Int32) × (Nat → Int32) × (Nat → Int32) × (Nat → Int32) × (Nat → Int32) × (Int32 × Int32 × Int32 × Int32) × (Int32 × Int32 × Int32 × Int32) × Int32
theorem crN_ax (lo hi og di : Nat → Int32) (i : Nat) : ∀ (n a : Nat) (ax ab be la lb : Int32), a + n = 3 → (ax = -1 ∨ ∃ k, k < 3 ∧ ax = nI k) → ∀ z, crN lo hi og di i n a ax ab be la lb = some z → (z.1 = -1 ∨ ∃ k, k < 3 ∧ z.1 = nI k) := by
  intro n
  induction n with
  | zero =>
    intro a ax ab be la lb _ h z hz
    simp only [crN, Option.some.injEq] at hz
    rw [← hz]
    exact h
  | succ n ih =>
    intro a ax ab be la lb hn h z hz
    rw [crN] at hz
    split at hz
    · split at hz
      · cases hz
      · exact ih (a + 1) _ _ _ _ _ (by omega) h z hz
    · refine ih (a + 1) _ _ _ _ _ (by omega) ?_ z hz
      unfold cr1
      split
      · exact Or.inr ⟨a, by omega, rfl⟩
      · exact h
theorem crO_ax {lo hi og di : Nat → Int32} {i : Nat} {z : Int32 × Int32 × Int32} (h : crO lo hi og di i = some z) : ∃ k, k < 3 ∧ z.1 = nI k := by
  unfold crO at h
  cases hc : crN lo hi og di i 3 0 (-1) 0 1 0 0 with
  | none => rw [hc] at h; cases h
  | some q =>
    obtain ⟨ax, ab, be, la, lb⟩ := q
    have h1 := crN_ax lo hi og di i 3 0 (-1) 0 1 0 0 (by omega) (Or.inl rfl) _ hc
    rw [hc] at h
    simp only [crFin] at h
    split at h
    · cases h
    · rename_i hn
      cases h
      exact h1.resolve_left (fun e => hn (Or.inl e))
def NP (m : Nat) (b a : Int32) : Prop := b = -1 ∨ ∃ j k, j < m ∧ k < 3 ∧ b = nI j ∧ a = nI k
theorem fnN_ok (lo hi og di ar of : Nat → Int32) (lb lv lw : Int32) (m : Nat) : ∀ (n i : Nat) (b a v w : Int32), i + n = m → NP m b a → NP m (fnN lo hi og di ar of lb lv lw n i b a v w).1 (fnN lo hi og di ar of lb lv lw n i b a v w).2.1 := by
  intro n
  induction n with
  | zero => intro i b a v w _ h; exact h
  | succ n ih =>
    intro i b a v w hn h
    rw [fnN]
    refine ih (i + 1) _ _ _ _ (by omega) ?_
    unfold fn1
    split
    · split
      · exact h
      · rename_i z hz
        split
        · obtain ⟨k, hk, e⟩ := crO_ax hz
          exact Or.inr ⟨i, k, by omega, hk, rfl, e⟩
        · exact h
    · exact h
def foS (lo hi ki sh of : Nat → Int32) (nb i : Nat) (st : FSt) : Option Int32 × Nat × FSt := match st with
  | (og, di, ar, ho, hx9, ha, hl9, hs, (lb, la, lv, lw), (nb9, na, nv, nw), li) => match fnN lo hi og di ar of lb lv lw nb 0 (-1) na nv nw with
    | (b, a, v, w) =>
      if b = -1 then (some 0, i, (og, di, ar, ho, hx9, ha, hl9, hs, (lb, la, lv, lw), (b, a, v, w), li))
      else if ki b.toNatClampNeg = 0 then (some 1, i + 1, (og, di, kpA di ar (cmpI (v * lw) (lv * w)), upd ho i b, upd hx9 i a, upd ha i (v / gD v w), upd hl9 i (w / gD v w), upd (upd (upd hs (i * 3) (og 0 * (w / gD v w) + di 0 * (v / gD v w))) (i * 3 + 1) (og 1 * (w / gD v w) + di 1 * (v / gD v w))) (i * 3 + 2) (og 2 * (w / gD v w) + di 2 * (v / gD v w)), (b, a, v / gD v w, w / gD v w), (b, a, v, w), li))
      else (if li * sh b.toNatClampNeg / 1000 = 0 then some 2 else none, i + 1, (if ki b.toNatClampNeg = 1 then upd og a.toNatClampNeg (2 * mirF lo hi di b.toNatClampNeg a.toNatClampNeg - og a.toNatClampNeg) else og, if ki b.toNatClampNeg = 1 then upd di a.toNatClampNeg (-(di a.toNatClampNeg)) else di, kpA di ar (cmpI (v * lw) (lv * w)), upd ho i b, upd hx9 i a, upd ha i (v / gD v w), upd hl9 i (w / gD v w), upd (upd (upd hs (i * 3) (og 0 * (w / gD v w) + di 0 * (v / gD v w))) (i * 3 + 1) (og 1 * (w / gD v w) + di 1 * (v / gD v w))) (i * 3 + 2) (og 2 * (w / gD v w) + di 2 * (v / gD v w)), (b, a, v / gD v w, w / gD v w), (b, a, v, w), li * sh b.toNatClampNeg / 1000))
def foN (lo hi ki sh of : Nat → Int32) (nb : Nat) : Nat → Nat → FSt → Int32 × Nat × FSt
  | 0, i, st => (2, i, st)
  | n + 1, i, st => match foS lo hi ki sh of nb i st with
    | (some r, i', st') => (r, i', st')
    | (none, i', st') => foN lo hi ki sh of nb n i' st'
/-- the whole way from a point -/
def foW (lo hi ki sh of : Nat → Int32) (nb : Nat) (st : FSt) : Int32 × Nat × FSt := if anyB lo hi ki of st.1 nb 0 = true then (1, 0, st) else foN lo hi ki sh of nb 30 0 st

set_option maxHeartbeats 4000000 in
set_option maxRecDepth 100000 in
/-- Path.follow -/
theorem qX2_follow (l : Launch) (D : va_G) (cI cZ cJ : ClassId) (a0 a1 a2 a3 a4 a5 a6 a7 a8 a9 a10 a11 : Nat) (b0 b1 b2 b3 b4 b5 : Nat) (og di ar ho hx9 ha hl9 hs : Nat → Int32) (lb la lv lw nb9 na nv nw tb ta tv tw : Int32) (li : Int32) (lo hi ki sh of : Nat → Int32) (nb : Nat) (hnb : nb ≤ 20) (sz : Nat) : Met l yX2_follow (Cond.code yX2_follow cX2_follow 3 (some .int) :: gw) ({ frames := 4, cells := 0, slots := 0, locals := 93 }) (wq D [.ref a0, .ref b0] sz [(a0, .inr (2, [.ref a1, .ref a2, .ref a3, .ref a4, .ref a5, .ref a6, .ref a7, .ref a8, .ref a9, .ref a10, .ref a11, .int 0, .int li])), (a1, .inl (cI, 3, .inl og)), (a2, .inl (cI, 3, .inl di)), (a3, .inl (cI, 3, .inl ar)), (a4, .inl (cI, 30, .inl ho)), (a5, .inl (cI, 30, .inl hx9)), (a6, .inl (cI, 30, .inl ha)), (a7, .inl (cI, 30, .inl hl9)), (a8, .inl (cI, 90, .inl hs)), (a9, .inr (1, [.int lb, .int la, .int lv, .int lw])), (a10, .inr (1, [.int nb9, .int na, .int nv, .int nw])), (a11, .inr (1, [.int tb, .int ta, .int tv, .int tw])), (b0, .inr (0, [.ref b1, .ref b2, .ref b3, .ref b4, .ref b5, .int (nI nb)])), (b1, .inl (cI, 60, .inl lo)), (b2, .inl (cI, 60, .inl hi)), (b3, .inl (cI, 20, .inl ki)), (b4, .inl (cI, 20, .inl sh)), (b5, .inl (cZ, 20, .inl of))] [(cI, .int), (cZ, .boolean), (cJ, .long)]) (va_Qi (S := FSt × Nat × (Int32 × Int32 × Int32 × Int32)) (fun r u => r = (foW lo hi ki sh of nb (og, di, ar, ho, hx9, ha, hl9, hs, (lb, la, lv, lw), (nb9, na, nv, nw), li)).1 ∧ u.2.1 = (foW lo hi ki sh of nb (og, di, ar, ho, hx9, ha, hl9, hs, (lb, la, lv, lw), (nb9, na, nv, nw), li)).2.1 ∧ u.1 = (foW lo hi ki sh of nb (og, di, ar, ho, hx9, ha, hl9, hs, (lb, la, lv, lw), (nb9, na, nv, nw), li)).2.2) (fun u => bq D [(cI, .int), (cZ, .boolean), (cJ, .long)] (va_A [(a0, .inr (2, [.ref a1, .ref a2, .ref a3, .ref a4, .ref a5, .ref a6, .ref a7, .ref a8, .ref a9, .ref a10, .ref a11, .int 0, .int li])), (a1, .inl (cI, 3, .inl og)), (a2, .inl (cI, 3, .inl di)), (a3, .inl (cI, 3, .inl ar)), (a4, .inl (cI, 30, .inl ho)), (a5, .inl (cI, 30, .inl hx9)), (a6, .inl (cI, 30, .inl ha)), (a7, .inl (cI, 30, .inl hl9)), (a8, .inl (cI, 90, .inl hs)), (a9, .inr (1, [.int lb, .int la, .int lv, .int lw])), (a10, .inr (1, [.int nb9, .int na, .int nv, .int nw])), (a11, .inr (1, [.int tb, .int ta, .int tv, .int tw])), (b0, .inr (0, [.ref b1, .ref b2, .ref b3, .ref b4, .ref b5, .int (nI nb)])), (b1, .inl (cI, 60, .inl lo)), (b2, .inl (cI, 60, .inl hi)), (b3, .inl (cI, 20, .inl ki)), (b4, .inl (cI, 20, .inl sh)), (b5, .inl (cZ, 20, .inl of))] sz) ([(a0, .inr (2, [.ref a1, .ref a2, .ref a3, .ref a4, .ref a5, .ref a6, .ref a7, .ref a8, .ref a9, .ref a10, .ref a11, .int (nI u.2.1), .int u.1.2.2.2.2.2.2.2.2.2.2])), (a1, .inl (cI, 3, .inl u.1.1)), (a2, .inl (cI, 3, .inl u.1.2.1)), (a3, .inl (cI, 3, .inl u.1.2.2.1)), (a4, .inl (cI, 30, .inl u.1.2.2.2.1)), (a5, .inl (cI, 30, .inl u.1.2.2.2.2.1)), (a6, .inl (cI, 30, .inl u.1.2.2.2.2.2.1)), (a7, .inl (cI, 30, .inl u.1.2.2.2.2.2.2.1)), (a8, .inl (cI, 90, .inl u.1.2.2.2.2.2.2.2.1)), (a9, .inr (1, [.int u.1.2.2.2.2.2.2.2.2.1.1, .int u.1.2.2.2.2.2.2.2.2.1.2.1, .int u.1.2.2.2.2.2.2.2.2.1.2.2.1, .int u.1.2.2.2.2.2.2.2.2.1.2.2.2])), (a10, .inr (1, [.int u.1.2.2.2.2.2.2.2.2.2.1.1, .int u.1.2.2.2.2.2.2.2.2.2.1.2.1, .int u.1.2.2.2.2.2.2.2.2.2.1.2.2.1, .int u.1.2.2.2.2.2.2.2.2.2.1.2.2.2])), (a11, .inr (1, [.int u.2.2.1, .int u.2.2.2.1, .int u.2.2.2.2.1, .int u.2.2.2.2.2])), (b0, .inr (0, [.ref b1, .ref b2, .ref b3, .ref b4, .ref b5, .int (nI nb)])), (b1, .inl (cI, 60, .inl lo)), (b2, .inl (cI, 60, .inl hi)), (b3, .inl (cI, 20, .inl ki)), (b4, .inl (cI, 20, .inl sh)), (b5, .inl (cZ, 20, .inl of))])) (va_A [(a0, .inr (2, [.ref a1, .ref a2, .ref a3, .ref a4, .ref a5, .ref a6, .ref a7, .ref a8, .ref a9, .ref a10, .ref a11, .int 0, .int li])), (a1, .inl (cI, 3, .inl og)), (a2, .inl (cI, 3, .inl di)), (a3, .inl (cI, 3, .inl ar)), (a4, .inl (cI, 30, .inl ho)), (a5, .inl (cI, 30, .inl hx9)), (a6, .inl (cI, 30, .inl ha)), (a7, .inl (cI, 30, .inl hl9)), (a8, .inl (cI, 90, .inl hs)), (a9, .inr (1, [.int lb, .int la, .int lv, .int lw])), (a10, .inr (1, [.int nb9, .int na, .int nv, .int nw])), (a11, .inr (1, [.int tb, .int ta, .int tv, .int tw])), (b0, .inr (0, [.ref b1, .ref b2, .ref b3, .ref b4, .ref b5, .int (nI nb)])), (b1, .inl (cI, 60, .inl lo)), (b2, .inl (cI, 60, .inl hi)), (b3, .inl (cI, 20, .inl ki)), (b4, .inl (cI, 20, .inl sh)), (b5, .inl (cZ, 20, .inl of))] sz)) 0 0 (va_A [(a0, .inr (2, [.ref a1, .ref a2, .ref a3, .ref a4, .ref a5, .ref a6, .ref a7, .ref a8, .ref a9, .ref a10, .ref a11, .int 0, .int li])), (a1, .inl (cI, 3, .inl og)), (a2, .inl (cI, 3, .inl di)), (a3, .inl (cI, 3, .inl ar)), (a4, .inl (cI, 30, .inl ho)), (a5, .inl (cI, 30, .inl hx9)), (a6, .inl (cI, 30, .inl ha)), (a7, .inl (cI, 30, .inl hl9)), (a8, .inl (cI, 90, .inl hs)), (a9, .inr (1, [.int lb, .int la, .int lv, .int lw])), (a10, .inr (1, [.int nb9, .int na, .int nv, .int nw])), (a11, .inr (1, [.int tb, .int ta, .int tv, .int tw])), (b0, .inr (0, [.ref b1, .ref b2, .ref b3, .ref b4, .ref b5, .int (nI nb)])), (b1, .inl (cI, 60, .inl lo)), (b2, .inl (cI, 60, .inl hi)), (b3, .inl (cI, 20, .inl ki)), (b4, .inl (cI, 20, .inl sh)), (b5, .inl (cZ, 20, .inl of))] sz) := by
  refine Met.ofW (cc := cX2_follow) (maxL := 3) (ret := (some .int)) (by decide) rfl ?_
  intro p e s m args below meth c s₁ B hml hv
  obtain ⟨rfl, hsz, hP, hK, hD0, hZ⟩ := hv
  have hx := B.exec
  have hb := B.bytes
  have hr := B.returns
  have hg : ∀ w ∈ gw, w.before _ s = true := fun w h => atoms_spec (ws := Cond.code yX2_follow cX2_follow 3 (some .int) :: gw) B.pre w (List.mem_cons_of_mem _ h)
  have hown : s.vm.findClass RX2 = some m.cls := findClass_of_methodNamed B.named
  have hlocks := B.notSynchronized
  subst hsz
  have hD := hD0.self (sz := s.heap.size)
  generalize hAe : va_A [(a0, .inr (2, [.ref a1, .ref a2, .ref a3, .ref a4, .ref a5, .ref a6, .ref a7, .ref a8, .ref a9, .ref a10, .ref a11, .int 0, .int li])), (a1, .inl (cI, 3, .inl og)), (a2, .inl (cI, 3, .inl di)), (a3, .inl (cI, 3, .inl ar)), (a4, .inl (cI, 30, .inl ho)), (a5, .inl (cI, 30, .inl hx9)), (a6, .inl (cI, 30, .inl ha)), (a7, .inl (cI, 30, .inl hl9)), (a8, .inl (cI, 90, .inl hs)), (a9, .inr (1, [.int lb, .int la, .int lv, .int lw])), (a10, .inr (1, [.int nb9, .int na, .int nv, .int nw])), (a11, .inr (1, [.int tb, .int ta, .int tv, .int tw])), (b0, .inr (0, [.ref b1, .ref b2, .ref b3, .ref b4, .ref b5, .int (nI nb)])), (b1, .inl (cI, 60, .inl lo)), (b2, .inl (cI, 60, .inl hi)), (b3, .inl (cI, 20, .inl ki)), (b4, .inl (cI, 20, .inl sh)), (b5, .inl (cZ, 20, .inl of))] s.heap.size = A at hD ⊢
  have hA : ∀ q : Nat, s.heap.size ≤ q → A q := fun q h => by rw [← hAe]; exact Or.inr h
  have hS : va_S A s.heap s.heap [] := va_S.rf
  have hP : va_P D vwCl [(a0, .inr (2, [.ref a1, .ref a2, .ref a3, .ref a4, .ref a5, .ref a6, .ref a7, .ref a8, .ref a9, .ref a10, .ref a11, .int 0, .int li])), (a1, .inl (cI, 3, .inl og)), (a2, .inl (cI, 3, .inl di)), (a3, .inl (cI, 3, .inl ar)), (a4, .inl (cI, 30, .inl ho)), (a5, .inl (cI, 30, .inl hx9)), (a6, .inl (cI, 30, .inl ha)), (a7, .inl (cI, 30, .inl hl9)), (a8, .inl (cI, 90, .inl hs)), (a9, .inr (1, [.int lb, .int la, .int lv, .int lw])), (a10, .inr (1, [.int nb9, .int na, .int nv, .int nw])), (a11, .inr (1, [.int tb, .int ta, .int tv, .int tw])), (b0, .inr (0, [.ref b1, .ref b2, .ref b3, .ref b4, .ref b5, .int (nI nb)])), (b1, .inl (cI, 60, .inl lo)), (b2, .inl (cI, 60, .inl hi)), (b3, .inl (cI, 20, .inl ki)), (b4, .inl (cI, 20, .inl sh)), (b5, .inl (cZ, 20, .inl of))] s.heap := hP
  have hl := lv_entry ([.ref a0, .ref b0]) (n := 3) (Nat.le_of_ble_eq_true rfl)
  rw [lg_entry_eq]
  generalize (lg_sl ([.ref a0, .ref b0]) ++ List.replicate (3 - (lg_sl ([.ref a0, .ref b0])).length) Slot.unset).toArray = ls at hl ⊢
  have hl : lv_has ls 3 [(0, .ref a0), (1, .ref b0)] := hl
  refine lv_aload_n hx hb dX2_follow_0 rfl (lv_at hl 1 rfl) ?_
  refine lv_aload_n hx hb dX2_follow_1 rfl (lv_at hl 0 rfl) ?_
  refine va_get (D := D) (ci := 2) (v := .ref a1) (C := RX2) (T := TX2) (N := 13) hx hb hg iX2 hown hK hP 0 rfl rfl 0 (by decide) (hg _ kw129) (fun _ h9 => h9) rfl dX2_follow_2 ?_
  have hPc := hP.sub (ws' := [(b0, .inr (0, [.ref b1, .ref b2, .ref b3, .ref b4, .ref b5, .int (nI nb)])), (b1, .inl (cI, 60, .inl lo)), (b2, .inl (cI, 60, .inl hi)), (b3, .inl (cI, 20, .inl ki)), (b4, .inl (cI, 20, .inl sh)), (b5, .inl (cZ, 20, .inl of)), (a1, .inl (cI, 3, .inl og))]) [12, 13, 14, 15, 16, 17, 1] rfl
  refine rq_call (va_runVN (As := [.ref a1]) (rest := []) ⟨hx, hb, hml, hown, hg⟩ (qX0_anySolidRound l D cI cZ cJ b0 b1 b2 b3 b4 b5 a1 lo hi ki sh of nb og hnb) ⟨va_cnB 1 hg (gw_in kw363) rfl rfl rfl (nzM_8 hZ) (hg _ kw38) (by decide +kernel) ⟨Nat.le_of_ble_eq_true rfl, Nat.le_of_ble_eq_true rfl⟩, hg _ kw362, hg _ kw8⟩ (pq_preV hPc hK hZ (va_recv hK hPc (ci := 0) (q0 := 0) rfl rfl)) rfl rfl hl.1 rfl (lv_room (Nat.le_of_ble_eq_true rfl)) dX2_follow_5 ⟨Nat.le_of_ble_eq_true rfl, Nat.le_of_ble_eq_true rfl⟩) ?_
  refine lv_if_eq (tgt := 13) hx hb dX2_follow_8 (by decide) (fun c8 => ?_) (fun c8 => ?_)
  · replace c8 := bI_f c8
    rw [show (foW lo hi ki sh of nb (og, di, ar, ho, hx9, ha, hl9, hs, (lb, la, lv, lw), (nb9, na, nv, nw), li)) = (foN lo hi ki sh of nb 30 0 (og, di, ar, ho, hx9, ha, hl9, hs, (lb, la, lv, lw), (nb9, na, nv, nw), li)) from by simp [foW, c8]]
    refine lv_iconst (v := 0) hx hb dX2_follow_13 (by decide) ?_
    refine lv_istore_n (lv' := [(2, .int 0), (0, .ref a0), (1, .ref b0)]) hx hb dX2_follow_14 rfl hl (by decide) rfl (fun ls hl => ?_)
    have loop_13 : ∀ (n : Nat) (i : Nat) (og di ar ho hx9 ha hl9 hs : Nat → Int32) (lb la lv lw nb9 na nv nw tb ta tv tw : Int32) (li : Int32), i + n = 30 → ∀ (H : Heap) (locs : List Loc) (ls : Array Slot), va_P D vwCl [(a0, .inr (2, [.ref a1, .ref a2, .ref a3, .ref a4, .ref a5, .ref a6, .ref a7, .ref a8, .ref a9, .ref a10, .ref a11, .int (nI i), .int li])), (a1, .inl (cI, 3, .inl og)), (a2, .inl (cI, 3, .inl di)), (a3, .inl (cI, 3, .inl ar)), (a4, .inl (cI, 30, .inl ho)), (a5, .inl (cI, 30, .inl hx9)), (a6, .inl (cI, 30, .inl ha)), (a7, .inl (cI, 30, .inl hl9)), (a8, .inl (cI, 90, .inl hs)), (a9, .inr (1, [.int lb, .int la, .int lv, .int lw])), (a10, .inr (1, [.int nb9, .int na, .int nv, .int nw])), (a11, .inr (1, [.int tb, .int ta, .int tv, .int tw])), (b0, .inr (0, [.ref b1, .ref b2, .ref b3, .ref b4, .ref b5, .int (nI nb)])), (b1, .inl (cI, 60, .inl lo)), (b2, .inl (cI, 60, .inl hi)), (b3, .inl (cI, 20, .inl ki)), (b4, .inl (cI, 20, .inl sh)), (b5, .inl (cZ, 20, .inl of))] H → va_D A [(a0, .inr (2, [.ref a1, .ref a2, .ref a3, .ref a4, .ref a5, .ref a6, .ref a7, .ref a8, .ref a9, .ref a10, .ref a11, .int (nI i), .int li])), (a1, .inl (cI, 3, .inl og)), (a2, .inl (cI, 3, .inl di)), (a3, .inl (cI, 3, .inl ar)), (a4, .inl (cI, 30, .inl ho)), (a5, .inl (cI, 30, .inl hx9)), (a6, .inl (cI, 30, .inl ha)), (a7, .inl (cI, 30, .inl hl9)), (a8, .inl (cI, 90, .inl hs)), (a9, .inr (1, [.int lb, .int la, .int lv, .int lw])), (a10, .inr (1, [.int nb9, .int na, .int nv, .int nw])), (a11, .inr (1, [.int tb, .int ta, .int tv, .int tw])), (b0, .inr (0, [.ref b1, .ref b2, .ref b3, .ref b4, .ref b5, .int (nI nb)])), (b1, .inl (cI, 60, .inl lo)), (b2, .inl (cI, 60, .inl hi)), (b3, .inl (cI, 20, .inl ki)), (b4, .inl (cI, 20, .inl sh)), (b5, .inl (cZ, 20, .inl of))] → va_S A s.heap H locs → lv_has ls 3 [(0, .ref a0), (1, .ref b0), (2, .int (nI i))] → W p l e (headSpec (Cond.code yX2_follow cX2_follow 3 (some .int) :: gw) ({ frames := 4, cells := 0, slots := 0, locals := 93 })).room s m ([.ref a0, .ref b0] : List Value).toArray below meth c H locs 0 0 (MQ below (va_Qi (S := FSt × Nat × (Int32 × Int32 × Int32 × Int32)) (fun r u => r = (foN lo hi ki sh of nb n i (og, di, ar, ho, hx9, ha, hl9, hs, (lb, la, lv, lw), (nb9, na, nv, nw), li)).1 ∧ u.2.1 = (foN lo hi ki sh of nb n i (og, di, ar, ho, hx9, ha, hl9, hs, (lb, la, lv, lw), (nb9, na, nv, nw), li)).2.1 ∧ u.1 = (foN lo hi ki sh of nb n i (og, di, ar, ho, hx9, ha, hl9, hs, (lb, la, lv, lw), (nb9, na, nv, nw), li)).2.2) (fun u => bq D [(cI, .int), (cZ, .boolean), (cJ, .long)] A ([(a0, .inr (2, [.ref a1, .ref a2, .ref a3, .ref a4, .ref a5, .ref a6, .ref a7, .ref a8, .ref a9, .ref a10, .ref a11, .int (nI u.2.1), .int u.1.2.2.2.2.2.2.2.2.2.2])), (a1, .inl (cI, 3, .inl u.1.1)), (a2, .inl (cI, 3, .inl u.1.2.1)), (a3, .inl (cI, 3, .inl u.1.2.2.1)), (a4, .inl (cI, 30, .inl u.1.2.2.2.1)), (a5, .inl (cI, 30, .inl u.1.2.2.2.2.1)), (a6, .inl (cI, 30, .inl u.1.2.2.2.2.2.1)), (a7, .inl (cI, 30, .inl u.1.2.2.2.2.2.2.1)), (a8, .inl (cI, 90, .inl u.1.2.2.2.2.2.2.2.1)), (a9, .inr (1, [.int u.1.2.2.2.2.2.2.2.2.1.1, .int u.1.2.2.2.2.2.2.2.2.1.2.1, .int u.1.2.2.2.2.2.2.2.2.1.2.2.1, .int u.1.2.2.2.2.2.2.2.2.1.2.2.2])), (a10, .inr (1, [.int u.1.2.2.2.2.2.2.2.2.2.1.1, .int u.1.2.2.2.2.2.2.2.2.2.1.2.1, .int u.1.2.2.2.2.2.2.2.2.2.1.2.2.1, .int u.1.2.2.2.2.2.2.2.2.2.1.2.2.2])), (a11, .inr (1, [.int u.2.2.1, .int u.2.2.2.1, .int u.2.2.2.2.1, .int u.2.2.2.2.2])), (b0, .inr (0, [.ref b1, .ref b2, .ref b3, .ref b4, .ref b5, .int (nI nb)])), (b1, .inl (cI, 60, .inl lo)), (b2, .inl (cI, 60, .inl hi)), (b3, .inl (cI, 20, .inl ki)), (b4, .inl (cI, 20, .inl sh)), (b5, .inl (cZ, 20, .inl of))])) A) ([.ref a0, .ref b0] : List Value).toArray s 0 0 A) (F0 m 15 ls []) := by
      intro n
      induction n with
      | zero =>
        intro i og di ar ho hx9 ha hl9 hs lb la lv lw nb9 na nv nw tb ta tv tw li hlp H locs ls hP hD hS hl
        refine lv_iload_n hx hb dX2_follow_15 rfl (lv_at hl 2 rfl) ?_
        refine lv_bipush (v := 30) hx hb dX2_follow_16 (by decide) ?_
        refine lv_icmp_ge (tgt := 113) hx hb dX2_follow_18 (by decide) (fun _ => ?_) (fun c18 => absurd (nI_le (a := 30) (by omega) (by omega)) c18)
        refine lv_iconst (v := 2) hx hb dX2_follow_113 (by decide) ?_
        exact W.iret (v := 2) hx hb hr (fun t ht hW => ⟨⟨2, ((og, di, ar, ho, hx9, ha, hl9, hs, (lb, la, lv, lw), (nb9, na, nv, nw), li), i, (tb, ta, tv, tw)), rfl, ⟨rfl, rfl, rfl⟩, bq_end hP hK hD ht hW⟩, hS.F ht⟩) hS.2.2 dX2_follow_114
      | succ n ih =>
        intro i og di ar ho hx9 ha hl9 hs lb la lv lw nb9 na nv nw tb ta tv tw li hlp H locs ls hP hD hS hl
        refine lv_iload_n hx hb dX2_follow_15 rfl (lv_at hl 2 rfl) ?_
        refine lv_bipush (v := 30) hx hb dX2_follow_16 (by decide) ?_
        refine lv_icmp_ge (tgt := 113) hx hb dX2_follow_18 (by decide) (fun c18 => absurd c18 (nI_ge (b := 30) (by omega) (by omega))) (fun _ => ?_)
        refine lv_aload_n hx hb dX2_follow_21 rfl (lv_at hl 0 rfl) ?_
        refine lv_aload_n hx hb dX2_follow_22 rfl (lv_at hl 1 rfl) ?_
        have hPc := hP.sub (ws' := [(a0, .inr (2, [.ref a1, .ref a2, .ref a3, .ref a4, .ref a5, .ref a6, .ref a7, .ref a8, .ref a9, .ref a10, .ref a11, .int (nI i), .int li])), (a1, .inl (cI, 3, .inl og)), (a2, .inl (cI, 3, .inl di)), (a3, .inl (cI, 3, .inl ar)), (a4, .inl (cI, 30, .inl ho)), (a5, .inl (cI, 30, .inl hx9)), (a6, .inl (cI, 30, .inl ha)), (a7, .inl (cI, 30, .inl hl9)), (a8, .inl (cI, 90, .inl hs)), (a9, .inr (1, [.int lb, .int la, .int lv, .int lw])), (a10, .inr (1, [.int nb9, .int na, .int nv, .int nw])), (a11, .inr (1, [.int tb, .int ta, .int tv, .int tw])), (b0, .inr (0, [.ref b1, .ref b2, .ref b3, .ref b4, .ref b5, .int (nI nb)])), (b1, .inl (cI, 60, .inl lo)), (b2, .inl (cI, 60, .inl hi)), (b3, .inl (cI, 20, .inl ki)), (b4, .inl (cI, 20, .inl sh)), (b5, .inl (cZ, 20, .inl of))]) [0, 1, 2, 3, 4, 5, 6, 7, 8, 9, 10, 11, 12, 13, 14, 15, 16, 17] rfl
        have hDc := hD.sub (ws' := [(a0, .inr (2, [.ref a1, .ref a2, .ref a3, .ref a4, .ref a5, .ref a6, .ref a7, .ref a8, .ref a9, .ref a10, .ref a11, .int (nI i), .int li])), (a1, .inl (cI, 3, .inl og)), (a2, .inl (cI, 3, .inl di)), (a3, .inl (cI, 3, .inl ar)), (a4, .inl (cI, 30, .inl ho)), (a5, .inl (cI, 30, .inl hx9)), (a6, .inl (cI, 30, .inl ha)), (a7, .inl (cI, 30, .inl hl9)), (a8, .inl (cI, 90, .inl hs)), (a9, .inr (1, [.int lb, .int la, .int lv, .int lw])), (a10, .inr (1, [.int nb9, .int na, .int nv, .int nw])), (a11, .inr (1, [.int tb, .int ta, .int tv, .int tw])), (b0, .inr (0, [.ref b1, .ref b2, .ref b3, .ref b4, .ref b5, .int (nI nb)])), (b1, .inl (cI, 60, .inl lo)), (b2, .inl (cI, 60, .inl hi)), (b3, .inl (cI, 20, .inl ki)), (b4, .inl (cI, 20, .inl sh)), (b5, .inl (cZ, 20, .inl of))]) [0, 1, 2, 3, 4, 5, 6, 7, 8, 9, 10, 11, 12, 13, 14, 15, 16, 17] (by decide) rfl
        have hFc := va_free (wc := [(a0, .inr (2, [.ref a1, .ref a2, .ref a3, .ref a4, .ref a5, .ref a6, .ref a7, .ref a8, .ref a9, .ref a10, .ref a11, .int (nI i), .int li])), (a1, .inl (cI, 3, .inl og)), (a2, .inl (cI, 3, .inl di)), (a3, .inl (cI, 3, .inl ar)), (a4, .inl (cI, 30, .inl ho)), (a5, .inl (cI, 30, .inl hx9)), (a6, .inl (cI, 30, .inl ha)), (a7, .inl (cI, 30, .inl hl9)), (a8, .inl (cI, 90, .inl hs)), (a9, .inr (1, [.int lb, .int la, .int lv, .int lw])), (a10, .inr (1, [.int nb9, .int na, .int nv, .int nw])), (a11, .inr (1, [.int tb, .int ta, .int tv, .int tw])), (b0, .inr (0, [.ref b1, .ref b2, .ref b3, .ref b4, .ref b5, .int (nI nb)])), (b1, .inl (cI, 60, .inl lo)), (b2, .inl (cI, 60, .inl hi)), (b3, .inl (cI, 20, .inl ki)), (b4, .inl (cI, 20, .inl sh)), (b5, .inl (cZ, 20, .inl of))]) hD hS hA [0, 1, 2, 3, 4, 5, 6, 7, 8, 9, 10, 11, 12, 13, 14, 15, 16, 17] rfl
        refine va_calli (va_runV (As := [.ref b0]) (rest := []) ⟨hx, hb, hml, hown, hg⟩ (qX2_findNext l D cI cZ cJ a0 a1 a2 a3 a4 a5 a6 a7 a8 a9 a10 a11 b0 b1 b2 b3 b4 b5 og di ar ho hx9 ha hl9 hs lb la lv lw nb9 na nv nw tb ta tv tw (nI i) li lo hi ki sh of nb hnb H.size) (cwV 1 hg (gw_V kw368 kw370 kw10 kw39 kw371) rfl rfl rfl (by decide +kernel) ⟨Nat.le_of_ble_eq_true rfl, Nat.le_of_ble_eq_true rfl⟩) (wq_preV hPc hK hDc hZ (va_recv hK hPc (ci := 2) (q0 := 0) rfl rfl)) rfl rfl hl.1 rfl (lv_room (Nat.le_of_ble_eq_true rfl)) dX2_follow_23 ⟨Nat.le_of_ble_eq_true rfl, Nat.le_of_ble_eq_true rfl⟩) hS (fun q _ h => hFc q h) hFc (fun r_23 u t H locs ht hvm hwf_22 hB hz1 hk1 hS => ?_)
        obtain ⟨⟨f_14, f_15, f_16, f_17⟩, ⟨t_18, t_19, t_20, t_21⟩⟩ := u
        obtain ⟨hP1, hK1, hD1⟩ := hB
        rw [ht] at hP1
        try dsimp only at hwf_22 hP1 hD1
        obtain ⟨hP, hD⟩ := va_join (wr := []) (w1 := [(a0, .inr (2, [.ref a1, .ref a2, .ref a3, .ref a4, .ref a5, .ref a6, .ref a7, .ref a8, .ref a9, .ref a10, .ref a11, .int (nI i), .int li])), (a1, .inl (cI, 3, .inl og)), (a2, .inl (cI, 3, .inl di)), (a3, .inl (cI, 3, .inl ar)), (a4, .inl (cI, 30, .inl ho)), (a5, .inl (cI, 30, .inl hx9)), (a6, .inl (cI, 30, .inl ha)), (a7, .inl (cI, 30, .inl hl9)), (a8, .inl (cI, 90, .inl hs)), (a9, .inr (1, [.int lb, .int la, .int lv, .int lw])), (a10, .inr (1, [.int f_14, .int f_15, .int f_16, .int f_17])), (a11, .inr (1, [.int t_18, .int t_19, .int t_20, .int t_21])), (b0, .inr (0, [.ref b1, .ref b2, .ref b3, .ref b4, .ref b5, .int (nI nb)])), (b1, .inl (cI, 60, .inl lo)), (b2, .inl (cI, 60, .inl hi)), (b3, .inl (cI, 20, .inl ki)), (b4, .inl (cI, 20, .inl sh)), (b5, .inl (cZ, 20, .inl of))]) hP hD [0, 1, 2, 3, 4, 5, 6, 7, 8, 9, 10, 11, 12, 13, 14, 15, 16, 17] [] rfl rfl (by decide) (by decide) hk1 hFc hP1 hD1
        replace hP := hP.sub (ws' := [(a0, .inr (2, [.ref a1, .ref a2, .ref a3, .ref a4, .ref a5, .ref a6, .ref a7, .ref a8, .ref a9, .ref a10, .ref a11, .int (nI i), .int li])), (a1, .inl (cI, 3, .inl og)), (a2, .inl (cI, 3, .inl di)), (a3, .inl (cI, 3, .inl ar)), (a4, .inl (cI, 30, .inl ho)), (a5, .inl (cI, 30, .inl hx9)), (a6, .inl (cI, 30, .inl ha)), (a7, .inl (cI, 30, .inl hl9)), (a8, .inl (cI, 90, .inl hs)), (a9, .inr (1, [.int lb, .int la, .int lv, .int lw])), (a10, .inr (1, [.int f_14, .int f_15, .int f_16, .int f_17])), (a11, .inr (1, [.int t_18, .int t_19, .int t_20, .int t_21])), (b0, .inr (0, [.ref b1, .ref b2, .ref b3, .ref b4, .ref b5, .int (nI nb)])), (b1, .inl (cI, 60, .inl lo)), (b2, .inl (cI, 60, .inl hi)), (b3, .inl (cI, 20, .inl ki)), (b4, .inl (cI, 20, .inl sh)), (b5, .inl (cZ, 20, .inl of))]) [0, 1, 2, 3, 4, 5, 6, 7, 8, 9, 10, 11, 12, 13, 14, 15, 16, 17] rfl
        replace hD := hD.sub (ws' := [(a0, .inr (2, [.ref a1, .ref a2, .ref a3, .ref a4, .ref a5, .ref a6, .ref a7, .ref a8, .ref a9, .ref a10, .ref a11, .int (nI i), .int li])), (a1, .inl (cI, 3, .inl og)), (a2, .inl (cI, 3, .inl di)), (a3, .inl (cI, 3, .inl ar)), (a4, .inl (cI, 30, .inl ho)), (a5, .inl (cI, 30, .inl hx9)), (a6, .inl (cI, 30, .inl ha)), (a7, .inl (cI, 30, .inl hl9)), (a8, .inl (cI, 90, .inl hs)), (a9, .inr (1, [.int lb, .int la, .int lv, .int lw])), (a10, .inr (1, [.int f_14, .int f_15, .int f_16, .int f_17])), (a11, .inr (1, [.int t_18, .int t_19, .int t_20, .int t_21])), (b0, .inr (0, [.ref b1, .ref b2, .ref b3, .ref b4, .ref b5, .int (nI nb)])), (b1, .inl (cI, 60, .inl lo)), (b2, .inl (cI, 60, .inl hi)), (b3, .inl (cI, 20, .inl ki)), (b4, .inl (cI, 20, .inl sh)), (b5, .inl (cZ, 20, .inl of))]) [0, 1, 2, 3, 4, 5, 6, 7, 8, 9, 10, 11, 12, 13, 14, 15, 16, 17] (by decide) rfl
        refine tp_i (y := bI (!decide (f_14 = -1))) (hwf_22.1.trans (by rw [← hwf_22.2])) ?_
        refine lv_if_ne (tgt := 31) hx hb dX2_follow_26 (by decide) (fun c26 => ?_) (fun c26 => ?_)
        · replace c26 := bI_t c26
          have hne : ¬ f_14 = -1 := by simpa using c26
          have hok := fnN_ok lo hi og di ar of lb lv lw nb nb 0 (-1) na nv nw (by omega) (Or.inl rfl)
          rw [← hwf_22.2] at hok
          obtain ⟨j, k, hj, hk, ej, ek⟩ := hok.resolve_left hne
          dsimp only at ej ek
          subst ej
          subst ek
          have cj : (nI j).toNatClampNeg = j := nI_clamp (by omega)
          have ck : (nI k).toNatClampNeg = k := nI_clamp (by omega)
          refine lv_aload_n hx hb dX2_follow_31 rfl (lv_at hl 0 rfl) ?_
          have hPc := hP.sub (ws' := [(a0, .inr (2, [.ref a1, .ref a2, .ref a3, .ref a4, .ref a5, .ref a6, .ref a7, .ref a8, .ref a9, .ref a10, .ref a11, .int (nI i), .int li])), (a1, .inl (cI, 3, .inl og)), (a2, .inl (cI, 3, .inl di)), (a3, .inl (cI, 3, .inl ar)), (a4, .inl (cI, 30, .inl ho)), (a5, .inl (cI, 30, .inl hx9)), (a6, .inl (cI, 30, .inl ha)), (a7, .inl (cI, 30, .inl hl9)), (a8, .inl (cI, 90, .inl hs)), (a9, .inr (1, [.int lb, .int la, .int lv, .int lw])), (a10, .inr (1, [.int (nI j), .int (nI k), .int f_16, .int f_17])), (a11, .inr (1, [.int t_18, .int t_19, .int t_20, .int t_21])), (b0, .inr (0, [.ref b1, .ref b2, .ref b3, .ref b4, .ref b5, .int (nI nb)])), (b1, .inl (cI, 60, .inl lo)), (b2, .inl (cI, 60, .inl hi)), (b3, .inl (cI, 20, .inl ki)), (b4, .inl (cI, 20, .inl sh)), (b5, .inl (cZ, 20, .inl of))]) [0, 1, 2, 3, 4, 5, 6, 7, 8, 9, 10, 11, 12, 13, 14, 15, 16, 17] rfl
          have hDc := hD.sub (ws' := [(a0, .inr (2, [.ref a1, .ref a2, .ref a3, .ref a4, .ref a5, .ref a6, .ref a7, .ref a8, .ref a9, .ref a10, .ref a11, .int (nI i), .int li])), (a1, .inl (cI, 3, .inl og)), (a2, .inl (cI, 3, .inl di)), (a3, .inl (cI, 3, .inl ar)), (a4, .inl (cI, 30, .inl ho)), (a5, .inl (cI, 30, .inl hx9)), (a6, .inl (cI, 30, .inl ha)), (a7, .inl (cI, 30, .inl hl9)), (a8, .inl (cI, 90, .inl hs)), (a9, .inr (1, [.int lb, .int la, .int lv, .int lw])), (a10, .inr (1, [.int (nI j), .int (nI k), .int f_16, .int f_17])), (a11, .inr (1, [.int t_18, .int t_19, .int t_20, .int t_21])), (b0, .inr (0, [.ref b1, .ref b2, .ref b3, .ref b4, .ref b5, .int (nI nb)])), (b1, .inl (cI, 60, .inl lo)), (b2, .inl (cI, 60, .inl hi)), (b3, .inl (cI, 20, .inl ki)), (b4, .inl (cI, 20, .inl sh)), (b5, .inl (cZ, 20, .inl of))]) [0, 1, 2, 3, 4, 5, 6, 7, 8, 9, 10, 11, 12, 13, 14, 15, 16, 17] (by decide) rfl
          have hFc := va_free (wc := [(a0, .inr (2, [.ref a1, .ref a2, .ref a3, .ref a4, .ref a5, .ref a6, .ref a7, .ref a8, .ref a9, .ref a10, .ref a11, .int (nI i), .int li])), (a1, .inl (cI, 3, .inl og)), (a2, .inl (cI, 3, .inl di)), (a3, .inl (cI, 3, .inl ar)), (a4, .inl (cI, 30, .inl ho)), (a5, .inl (cI, 30, .inl hx9)), (a6, .inl (cI, 30, .inl ha)), (a7, .inl (cI, 30, .inl hl9)), (a8, .inl (cI, 90, .inl hs)), (a9, .inr (1, [.int lb, .int la, .int lv, .int lw])), (a10, .inr (1, [.int (nI j), .int (nI k), .int f_16, .int f_17])), (a11, .inr (1, [.int t_18, .int t_19, .int t_20, .int t_21])), (b0, .inr (0, [.ref b1, .ref b2, .ref b3, .ref b4, .ref b5, .int (nI nb)])), (b1, .inl (cI, 60, .inl lo)), (b2, .inl (cI, 60, .inl hi)), (b3, .inl (cI, 20, .inl ki)), (b4, .inl (cI, 20, .inl sh)), (b5, .inl (cZ, 20, .inl of))]) hD hS hA [0, 1, 2, 3, 4, 5, 6, 7, 8, 9, 10, 11, 12, 13, 14, 15, 16, 17] rfl
          refine va_callv (va_runV (As := []) (rest := []) ⟨hx, hb, hml, hown, hg⟩ (qX2_keepHit l D cI cZ cJ a0 a1 a2 a3 a4 a5 a6 a7 a8 a9 a10 a11 b0 b1 b2 b3 b4 b5 og di ar ho hx9 ha hl9 hs lb la lv lw (nI j) (nI k) f_16 f_17 t_18 t_19 t_20 t_21 li lo hi ki sh of (nI nb) i (by omega) H.size) (cwV 0 hg (gw_V kw403 kw405 kw17 kw39 kw406) rfl rfl rfl (by decide +kernel) ⟨Nat.le_of_ble_eq_true rfl, Nat.le_of_ble_eq_true rfl⟩) (wq_preV hPc hK hDc hZ (va_recv hK hPc (ci := 2) (q0 := 0) rfl rfl)) rfl rfl hl.1 rfl (lv_room (Nat.le_of_ble_eq_true rfl)) dX2_follow_32 ⟨Nat.le_of_ble_eq_true rfl, Nat.le_of_ble_eq_true rfl⟩) hS (fun q _ h => hFc q h) hFc (fun u t H locs ht hvm hw hB hz1 hk1 hS => ?_)
          obtain ⟨hP1, hK1, hD1⟩ := hB
          rw [ht] at hP1
          try dsimp only at hw hP1 hD1
          obtain ⟨hP, hD⟩ := va_join (wr := []) (w1 := [(a0, .inr (2, [.ref a1, .ref a2, .ref a3, .ref a4, .ref a5, .ref a6, .ref a7, .ref a8, .ref a9, .ref a10, .ref a11, .int (nI (i + 1)), .int li])), (a1, .inl (cI, 3, .inl og)), (a2, .inl (cI, 3, .inl di)), (a3, .inl (cI, 3, .inl (kpA di ar (cmpI (f_16 * lw) (lv * f_17))))), (a4, .inl (cI, 30, .inl (upd ho i (nI j)))), (a5, .inl (cI, 30, .inl (upd hx9 i (nI k)))), (a6, .inl (cI, 30, .inl (upd ha i (f_16 / gD f_16 f_17)))), (a7, .inl (cI, 30, .inl (upd hl9 i (f_17 / gD f_16 f_17)))), (a8, .inl (cI, 90, .inl (upd (upd (upd hs (i * 3) (og 0 * (f_17 / gD f_16 f_17) + di 0 * (f_16 / gD f_16 f_17))) (i * 3 + 1) (og 1 * (f_17 / gD f_16 f_17) + di 1 * (f_16 / gD f_16 f_17))) (i * 3 + 2) (og 2 * (f_17 / gD f_16 f_17) + di 2 * (f_16 / gD f_16 f_17))))), (a9, .inr (1, [.int (nI j), .int (nI k), .int (f_16 / gD f_16 f_17), .int (f_17 / gD f_16 f_17)])), (a10, .inr (1, [.int (nI j), .int (nI k), .int f_16, .int f_17])), (a11, .inr (1, [.int t_18, .int t_19, .int t_20, .int t_21])), (b0, .inr (0, [.ref b1, .ref b2, .ref b3, .ref b4, .ref b5, .int (nI nb)])), (b1, .inl (cI, 60, .inl lo)), (b2, .inl (cI, 60, .inl hi)), (b3, .inl (cI, 20, .inl ki)), (b4, .inl (cI, 20, .inl sh)), (b5, .inl (cZ, 20, .inl of))]) hP hD [0, 1, 2, 3, 4, 5, 6, 7, 8, 9, 10, 11, 12, 13, 14, 15, 16, 17] [] rfl rfl (by decide) (by decide) hk1 hFc hP1 hD1
          replace hP := hP.sub (ws' := [(a0, .inr (2, [.ref a1, .ref a2, .ref a3, .ref a4, .ref a5, .ref a6, .ref a7, .ref a8, .ref a9, .ref a10, .ref a11, .int (nI (i + 1)), .int li])), (a1, .inl (cI, 3, .inl og)), (a2, .inl (cI, 3, .inl di)), (a3, .inl (cI, 3, .inl (kpA di ar (cmpI (f_16 * lw) (lv * f_17))))), (a4, .inl (cI, 30, .inl (upd ho i (nI j)))), (a5, .inl (cI, 30, .inl (upd hx9 i (nI k)))), (a6, .inl (cI, 30, .inl (upd ha i (f_16 / gD f_16 f_17)))), (a7, .inl (cI, 30, .inl (upd hl9 i (f_17 / gD f_16 f_17)))), (a8, .inl (cI, 90, .inl (upd (upd (upd hs (i * 3) (og 0 * (f_17 / gD f_16 f_17) + di 0 * (f_16 / gD f_16 f_17))) (i * 3 + 1) (og 1 * (f_17 / gD f_16 f_17) + di 1 * (f_16 / gD f_16 f_17))) (i * 3 + 2) (og 2 * (f_17 / gD f_16 f_17) + di 2 * (f_16 / gD f_16 f_17))))), (a9, .inr (1, [.int (nI j), .int (nI k), .int (f_16 / gD f_16 f_17), .int (f_17 / gD f_16 f_17)])), (a10, .inr (1, [.int (nI j), .int (nI k), .int f_16, .int f_17])), (a11, .inr (1, [.int t_18, .int t_19, .int t_20, .int t_21])), (b0, .inr (0, [.ref b1, .ref b2, .ref b3, .ref b4, .ref b5, .int (nI nb)])), (b1, .inl (cI, 60, .inl lo)), (b2, .inl (cI, 60, .inl hi)), (b3, .inl (cI, 20, .inl ki)), (b4, .inl (cI, 20, .inl sh)), (b5, .inl (cZ, 20, .inl of))]) [0, 1, 2, 3, 4, 5, 6, 7, 8, 9, 10, 11, 12, 13, 14, 15, 16, 17] rfl
          replace hD := hD.sub (ws' := [(a0, .inr (2, [.ref a1, .ref a2, .ref a3, .ref a4, .ref a5, .ref a6, .ref a7, .ref a8, .ref a9, .ref a10, .ref a11, .int (nI (i + 1)), .int li])), (a1, .inl (cI, 3, .inl og)), (a2, .inl (cI, 3, .inl di)), (a3, .inl (cI, 3, .inl (kpA di ar (cmpI (f_16 * lw) (lv * f_17))))), (a4, .inl (cI, 30, .inl (upd ho i (nI j)))), (a5, .inl (cI, 30, .inl (upd hx9 i (nI k)))), (a6, .inl (cI, 30, .inl (upd ha i (f_16 / gD f_16 f_17)))), (a7, .inl (cI, 30, .inl (upd hl9 i (f_17 / gD f_16 f_17)))), (a8, .inl (cI, 90, .inl (upd (upd (upd hs (i * 3) (og 0 * (f_17 / gD f_16 f_17) + di 0 * (f_16 / gD f_16 f_17))) (i * 3 + 1) (og 1 * (f_17 / gD f_16 f_17) + di 1 * (f_16 / gD f_16 f_17))) (i * 3 + 2) (og 2 * (f_17 / gD f_16 f_17) + di 2 * (f_16 / gD f_16 f_17))))), (a9, .inr (1, [.int (nI j), .int (nI k), .int (f_16 / gD f_16 f_17), .int (f_17 / gD f_16 f_17)])), (a10, .inr (1, [.int (nI j), .int (nI k), .int f_16, .int f_17])), (a11, .inr (1, [.int t_18, .int t_19, .int t_20, .int t_21])), (b0, .inr (0, [.ref b1, .ref b2, .ref b3, .ref b4, .ref b5, .int (nI nb)])), (b1, .inl (cI, 60, .inl lo)), (b2, .inl (cI, 60, .inl hi)), (b3, .inl (cI, 20, .inl ki)), (b4, .inl (cI, 20, .inl sh)), (b5, .inl (cZ, 20, .inl of))]) [0, 1, 2, 3, 4, 5, 6, 7, 8, 9, 10, 11, 12, 13, 14, 15, 16, 17] (by decide) rfl
          refine lv_aload_n hx hb dX2_follow_35 rfl (lv_at hl 1 rfl) ?_
          refine va_getN (D := D) (ci := 0) (v := .ref b3) (C := RX0) (T := TX0) (N := 6) hx hb hg iX0 hown hK hP 12 rfl rfl 2 (by decide) (va_Nw.use rfl (nzF_3 hZ)) (fun _ h9 => h9) rfl dX2_follow_36 ?_
          refine lv_aload_n hx hb dX2_follow_39 rfl (lv_at hl 0 rfl) ?_
          refine va_get (D := D) (ci := 2) (v := .ref a9) (C := RX2) (T := TX2) (N := 13) hx hb hg iX2 hown hK hP 0 rfl rfl 8 (by decide) (hg _ kw143) (fun _ h9 => h9) rfl dX2_follow_40 ?_
          refine va_getN (D := D) (ci := 1) (v := .int (nI j)) (C := RX1) (T := TX1) (N := 4) hx hb hg iX1 hown hK hP 9 rfl rfl 0 (by decide) (va_Nw.use rfl (nzF_10 hZ)) (fun _ h9 => h9) rfl dX2_follow_43 ?_
          refine va_iald hx hb hK hP 15 0 rfl rfl (vp_in_nI (by omega) (by decide)) dX2_follow_46 ?_
          refine tp_i (y := ki j) (congrArg ki (nI_clamp (by omega))) ?_
          refine lv_if_ne (tgt := 52) hx hb dX2_follow_47 (by decide) (fun c47 => ?_) (fun c47 => ?_)
          · refine lv_aload_n hx hb dX2_follow_52 rfl (lv_at hl 0 rfl) ?_
            refine lv_aload_n hx hb dX2_follow_53 rfl (lv_at hl 0 rfl) ?_
            refine va_get (D := D) (ci := 2) (v := .int li) (C := RX2) (T := TX2) (N := 13) hx hb hg iX2 hown hK hP 0 rfl rfl 12 (by decide) (hg _ kw148) (fun _ h9 => h9) rfl dX2_follow_54 ?_
            refine lv_aload_n hx hb dX2_follow_57 rfl (lv_at hl 1 rfl) ?_
            refine va_getN (D := D) (ci := 0) (v := .ref b4) (C := RX0) (T := TX0) (N := 6) hx hb hg iX0 hown hK hP 12 rfl rfl 3 (by decide) (va_Nw.use rfl (nzF_5 hZ)) (fun _ h9 => h9) rfl dX2_follow_58 ?_
            refine lv_aload_n hx hb dX2_follow_61 rfl (lv_at hl 0 rfl) ?_
            refine va_get (D := D) (ci := 2) (v := .ref a9) (C := RX2) (T := TX2) (N := 13) hx hb hg iX2 hown hK hP 0 rfl rfl 8 (by decide) (hg _ kw143) (fun _ h9 => h9) rfl dX2_follow_62 ?_
            refine va_getN (D := D) (ci := 1) (v := .int (nI j)) (C := RX1) (T := TX1) (N := 4) hx hb hg iX1 hown hK hP 9 rfl rfl 0 (by decide) (va_Nw.use rfl (nzF_10 hZ)) (fun _ h9 => h9) rfl dX2_follow_65 ?_
            refine va_iald hx hb hK hP 16 0 rfl rfl (vp_in_nI (by omega) (by decide)) dX2_follow_68 ?_
            refine tp_i (y := sh j) (congrArg sh (nI_clamp (by omega))) ?_
            refine lv_imul hx hb dX2_follow_69 ?_
            refine lv_sipush (v := 1000) hx hb dX2_follow_70 (by decide) ?_
            refine lv_idiv hx hb dX2_follow_73 (by decide) ?_
            refine va_put (D := D) (ci := 2) (v := .int ((li * (sh j)) / 1000)) (ty := .int) (C := RX2) (T := TX2) (N := 13) hx hb hg iX2 tyX2 tyX2_ok nmX2 hown hK hP hD hS 0 rfl rfl 12 (by decide) (hg _ kw148) (fun _ h9 => h9) rfl (by decide +kernel) rfl rfl (Nat.le_of_ble_eq_true rfl) dX2_follow_74 (fun H locs hP hD hS => ?_)
            have hP : va_P D vwCl [(a0, .inr (2, [.ref a1, .ref a2, .ref a3, .ref a4, .ref a5, .ref a6, .ref a7, .ref a8, .ref a9, .ref a10, .ref a11, .int (nI (i + 1)), .int ((li * (sh j)) / 1000)])), (a1, .inl (cI, 3, .inl og)), (a2, .inl (cI, 3, .inl di)), (a3, .inl (cI, 3, .inl (kpA di ar (cmpI (f_16 * lw) (lv * f_17))))), (a4, .inl (cI, 30, .inl (upd ho i (nI j)))), (a5, .inl (cI, 30, .inl (upd hx9 i (nI k)))), (a6, .inl (cI, 30, .inl (upd ha i (f_16 / gD f_16 f_17)))), (a7, .inl (cI, 30, .inl (upd hl9 i (f_17 / gD f_16 f_17)))), (a8, .inl (cI, 90, .inl (upd (upd (upd hs (i * 3) (og 0 * (f_17 / gD f_16 f_17) + di 0 * (f_16 / gD f_16 f_17))) (i * 3 + 1) (og 1 * (f_17 / gD f_16 f_17) + di 1 * (f_16 / gD f_16 f_17))) (i * 3 + 2) (og 2 * (f_17 / gD f_16 f_17) + di 2 * (f_16 / gD f_16 f_17))))), (a9, .inr (1, [.int (nI j), .int (nI k), .int (f_16 / gD f_16 f_17), .int (f_17 / gD f_16 f_17)])), (a10, .inr (1, [.int (nI j), .int (nI k), .int f_16, .int f_17])), (a11, .inr (1, [.int t_18, .int t_19, .int t_20, .int t_21])), (b0, .inr (0, [.ref b1, .ref b2, .ref b3, .ref b4, .ref b5, .int (nI nb)])), (b1, .inl (cI, 60, .inl lo)), (b2, .inl (cI, 60, .inl hi)), (b3, .inl (cI, 20, .inl ki)), (b4, .inl (cI, 20, .inl sh)), (b5, .inl (cZ, 20, .inl of))] H := hP
            have hD : va_D A [(a0, .inr (2, [.ref a1, .ref a2, .ref a3, .ref a4, .ref a5, .ref a6, .ref a7, .ref a8, .ref a9, .ref a10, .ref a11, .int (nI (i + 1)), .int ((li * (sh j)) / 1000)])), (a1, .inl (cI, 3, .inl og)), (a2, .inl (cI, 3, .inl di)), (a3, .inl (cI, 3, .inl (kpA di ar (cmpI (f_16 * lw) (lv * f_17))))), (a4, .inl (cI, 30, .inl (upd ho i (nI j)))), (a5, .inl (cI, 30, .inl (upd hx9 i (nI k)))), (a6, .inl (cI, 30, .inl (upd ha i (f_16 / gD f_16 f_17)))), (a7, .inl (cI, 30, .inl (upd hl9 i (f_17 / gD f_16 f_17)))), (a8, .inl (cI, 90, .inl (upd (upd (upd hs (i * 3) (og 0 * (f_17 / gD f_16 f_17) + di 0 * (f_16 / gD f_16 f_17))) (i * 3 + 1) (og 1 * (f_17 / gD f_16 f_17) + di 1 * (f_16 / gD f_16 f_17))) (i * 3 + 2) (og 2 * (f_17 / gD f_16 f_17) + di 2 * (f_16 / gD f_16 f_17))))), (a9, .inr (1, [.int (nI j), .int (nI k), .int (f_16 / gD f_16 f_17), .int (f_17 / gD f_16 f_17)])), (a10, .inr (1, [.int (nI j), .int (nI k), .int f_16, .int f_17])), (a11, .inr (1, [.int t_18, .int t_19, .int t_20, .int t_21])), (b0, .inr (0, [.ref b1, .ref b2, .ref b3, .ref b4, .ref b5, .int (nI nb)])), (b1, .inl (cI, 60, .inl lo)), (b2, .inl (cI, 60, .inl hi)), (b3, .inl (cI, 20, .inl ki)), (b4, .inl (cI, 20, .inl sh)), (b5, .inl (cZ, 20, .inl of))] := hD
            have K_24 : ∀ (og1 di1 : Nat → Int32), (og1 = if ki j = 1 then upd og k (2 * mirF lo hi di j k - og k) else og) → (di1 = if ki j = 1 then upd di k (-(di k)) else di) → ∀ (H : Heap) (locs : List Loc) (ls : Array Slot), va_P D vwCl [(a0, .inr (2, [.ref a1, .ref a2, .ref a3, .ref a4, .ref a5, .ref a6, .ref a7, .ref a8, .ref a9, .ref a10, .ref a11, .int (nI (i + 1)), .int ((li * (sh j)) / 1000)])), (a1, .inl (cI, 3, .inl og1)), (a2, .inl (cI, 3, .inl di1)), (a3, .inl (cI, 3, .inl (kpA di ar (cmpI (f_16 * lw) (lv * f_17))))), (a4, .inl (cI, 30, .inl (upd ho i (nI j)))), (a5, .inl (cI, 30, .inl (upd hx9 i (nI k)))), (a6, .inl (cI, 30, .inl (upd ha i (f_16 / gD f_16 f_17)))), (a7, .inl (cI, 30, .inl (upd hl9 i (f_17 / gD f_16 f_17)))), (a8, .inl (cI, 90, .inl (upd (upd (upd hs (i * 3) (og 0 * (f_17 / gD f_16 f_17) + di 0 * (f_16 / gD f_16 f_17))) (i * 3 + 1) (og 1 * (f_17 / gD f_16 f_17) + di 1 * (f_16 / gD f_16 f_17))) (i * 3 + 2) (og 2 * (f_17 / gD f_16 f_17) + di 2 * (f_16 / gD f_16 f_17))))), (a9, .inr (1, [.int (nI j), .int (nI k), .int (f_16 / gD f_16 f_17), .int (f_17 / gD f_16 f_17)])), (a10, .inr (1, [.int (nI j), .int (nI k), .int f_16, .int f_17])), (a11, .inr (1, [.int t_18, .int t_19, .int t_20, .int t_21])), (b0, .inr (0, [.ref b1, .ref b2, .ref b3, .ref b4, .ref b5, .int (nI nb)])), (b1, .inl (cI, 60, .inl lo)), (b2, .inl (cI, 60, .inl hi)), (b3, .inl (cI, 20, .inl ki)), (b4, .inl (cI, 20, .inl sh)), (b5, .inl (cZ, 20, .inl of))] H → va_D A [(a0, .inr (2, [.ref a1, .ref a2, .ref a3, .ref a4, .ref a5, .ref a6, .ref a7, .ref a8, .ref a9, .ref a10, .ref a11, .int (nI (i + 1)), .int ((li * (sh j)) / 1000)])), (a1, .inl (cI, 3, .inl og1)), (a2, .inl (cI, 3, .inl di1)), (a3, .inl (cI, 3, .inl (kpA di ar (cmpI (f_16 * lw) (lv * f_17))))), (a4, .inl (cI, 30, .inl (upd ho i (nI j)))), (a5, .inl (cI, 30, .inl (upd hx9 i (nI k)))), (a6, .inl (cI, 30, .inl (upd ha i (f_16 / gD f_16 f_17)))), (a7, .inl (cI, 30, .inl (upd hl9 i (f_17 / gD f_16 f_17)))), (a8, .inl (cI, 90, .inl (upd (upd (upd hs (i * 3) (og 0 * (f_17 / gD f_16 f_17) + di 0 * (f_16 / gD f_16 f_17))) (i * 3 + 1) (og 1 * (f_17 / gD f_16 f_17) + di 1 * (f_16 / gD f_16 f_17))) (i * 3 + 2) (og 2 * (f_17 / gD f_16 f_17) + di 2 * (f_16 / gD f_16 f_17))))), (a9, .inr (1, [.int (nI j), .int (nI k), .int (f_16 / gD f_16 f_17), .int (f_17 / gD f_16 f_17)])), (a10, .inr (1, [.int (nI j), .int (nI k), .int f_16, .int f_17])), (a11, .inr (1, [.int t_18, .int t_19, .int t_20, .int t_21])), (b0, .inr (0, [.ref b1, .ref b2, .ref b3, .ref b4, .ref b5, .int (nI nb)])), (b1, .inl (cI, 60, .inl lo)), (b2, .inl (cI, 60, .inl hi)), (b3, .inl (cI, 20, .inl ki)), (b4, .inl (cI, 20, .inl sh)), (b5, .inl (cZ, 20, .inl of))] → va_S A s.heap H locs → lv_has ls 3 [(0, .ref a0), (1, .ref b0), (2, .int (nI i))] → W p l e (headSpec (Cond.code yX2_follow cX2_follow 3 (some .int) :: gw) ({ frames := 4, cells := 0, slots := 0, locals := 93 })).room s m ([.ref a0, .ref b0] : List Value).toArray below meth c H locs 0 0 (MQ below (va_Qi (S := FSt × Nat × (Int32 × Int32 × Int32 × Int32)) (fun r u => r = (foN lo hi ki sh of nb (n + 1) i (og, di, ar, ho, hx9, ha, hl9, hs, (lb, la, lv, lw), (nb9, na, nv, nw), li)).1 ∧ u.2.1 = (foN lo hi ki sh of nb (n + 1) i (og, di, ar, ho, hx9, ha, hl9, hs, (lb, la, lv, lw), (nb9, na, nv, nw), li)).2.1 ∧ u.1 = (foN lo hi ki sh of nb (n + 1) i (og, di, ar, ho, hx9, ha, hl9, hs, (lb, la, lv, lw), (nb9, na, nv, nw), li)).2.2) (fun u => bq D [(cI, .int), (cZ, .boolean), (cJ, .long)] A ([(a0, .inr (2, [.ref a1, .ref a2, .ref a3, .ref a4, .ref a5, .ref a6, .ref a7, .ref a8, .ref a9, .ref a10, .ref a11, .int (nI u.2.1), .int u.1.2.2.2.2.2.2.2.2.2.2])), (a1, .inl (cI, 3, .inl u.1.1)), (a2, .inl (cI, 3, .inl u.1.2.1)), (a3, .inl (cI, 3, .inl u.1.2.2.1)), (a4, .inl (cI, 30, .inl u.1.2.2.2.1)), (a5, .inl (cI, 30, .inl u.1.2.2.2.2.1)), (a6, .inl (cI, 30, .inl u.1.2.2.2.2.2.1)), (a7, .inl (cI, 30, .inl u.1.2.2.2.2.2.2.1)), (a8, .inl (cI, 90, .inl u.1.2.2.2.2.2.2.2.1)), (a9, .inr (1, [.int u.1.2.2.2.2.2.2.2.2.1.1, .int u.1.2.2.2.2.2.2.2.2.1.2.1, .int u.1.2.2.2.2.2.2.2.2.1.2.2.1, .int u.1.2.2.2.2.2.2.2.2.1.2.2.2])), (a10, .inr (1, [.int u.1.2.2.2.2.2.2.2.2.2.1.1, .int u.1.2.2.2.2.2.2.2.2.2.1.2.1, .int u.1.2.2.2.2.2.2.2.2.2.1.2.2.1, .int u.1.2.2.2.2.2.2.2.2.2.1.2.2.2])), (a11, .inr (1, [.int u.2.2.1, .int u.2.2.2.1, .int u.2.2.2.2.1, .int u.2.2.2.2.2])), (b0, .inr (0, [.ref b1, .ref b2, .ref b3, .ref b4, .ref b5, .int (nI nb)])), (b1, .inl (cI, 60, .inl lo)), (b2, .inl (cI, 60, .inl hi)), (b3, .inl (cI, 20, .inl ki)), (b4, .inl (cI, 20, .inl sh)), (b5, .inl (cZ, 20, .inl of))])) A) ([.ref a0, .ref b0] : List Value).toArray s 0 0 A) (F0 m 98 ls []) := by
              intro og1 di1 og1e di1e H locs ls hP hD hS hl
              refine lv_aload_n hx hb dX2_follow_98 rfl (lv_at hl 0 rfl) ?_
              refine va_get (D := D) (ci := 2) (v := .int ((li * (sh j)) / 1000)) (C := RX2) (T := TX2) (N := 13) hx hb hg iX2 hown hK hP 0 rfl rfl 12 (by decide) (hg _ kw148) (fun _ h9 => h9) rfl dX2_follow_99 ?_
              refine lv_if_ne (tgt := 107) hx hb dX2_follow_102 (by decide) (fun c102 => ?_) (fun c102 => ?_)
              · refine lv_iinc (v := nI (i + 1)) (lv' := [(2, .int (nI (i + 1))), (0, .ref a0), (1, .ref b0)]) hx hb dX2_follow_107 hl (k := 2) rfl (nI_1 _) (by decide) rfl (fun ls hl => ?_)
                refine lv_goto (tgt := 15) hx hb dX2_follow_110 (by decide) ?_
                rw [show (foN lo hi ki sh of nb (n + 1) i (og, di, ar, ho, hx9, ha, hl9, hs, (lb, la, lv, lw), (nb9, na, nv, nw), li)) = (foN lo hi ki sh of nb n (i + 1) (og1, di1, (kpA di ar (cmpI (f_16 * lw) (lv * f_17))), (upd ho i (nI j)), (upd hx9 i (nI k)), (upd ha i (f_16 / gD f_16 f_17)), (upd hl9 i (f_17 / gD f_16 f_17)), (upd (upd (upd hs (i * 3) (og 0 * (f_17 / gD f_16 f_17) + di 0 * (f_16 / gD f_16 f_17))) (i * 3 + 1) (og 1 * (f_17 / gD f_16 f_17) + di 1 * (f_16 / gD f_16 f_17))) (i * 3 + 2) (og 2 * (f_17 / gD f_16 f_17) + di 2 * (f_16 / gD f_16 f_17))), ((nI j), (nI k), (f_16 / gD f_16 f_17), (f_17 / gD f_16 f_17)), ((nI j), (nI k), f_16, f_17), ((li * (sh j)) / 1000))) from by simp [foN, foS, ← hwf_22.2, og1e, di1e, c26, hne, cj, ck, c47, c102]]
                exact ih (i + 1) og1 di1 (kpA di ar (cmpI (f_16 * lw) (lv * f_17))) (upd ho i (nI j)) (upd hx9 i (nI k)) (upd ha i (f_16 / gD f_16 f_17)) (upd hl9 i (f_17 / gD f_16 f_17)) (upd (upd (upd hs (i * 3) (og 0 * (f_17 / gD f_16 f_17) + di 0 * (f_16 / gD f_16 f_17))) (i * 3 + 1) (og 1 * (f_17 / gD f_16 f_17) + di 1 * (f_16 / gD f_16 f_17))) (i * 3 + 2) (og 2 * (f_17 / gD f_16 f_17) + di 2 * (f_16 / gD f_16 f_17))) (nI j) (nI k) (f_16 / gD f_16 f_17) (f_17 / gD f_16 f_17) (nI j) (nI k) f_16 f_17 t_18 t_19 t_20 t_21 ((li * (sh j)) / 1000) (by omega) H locs ls hP hD hS (lv_sub hl [1, 2, 0] rfl)
              · refine lv_iconst (v := 2) hx hb dX2_follow_105 (by decide) ?_
                exact W.iret (v := 2) hx hb hr (fun t ht hW => ⟨⟨2, ((og1, di1, (kpA di ar (cmpI (f_16 * lw) (lv * f_17))), (upd ho i (nI j)), (upd hx9 i (nI k)), (upd ha i (f_16 / gD f_16 f_17)), (upd hl9 i (f_17 / gD f_16 f_17)), (upd (upd (upd hs (i * 3) (og 0 * (f_17 / gD f_16 f_17) + di 0 * (f_16 / gD f_16 f_17))) (i * 3 + 1) (og 1 * (f_17 / gD f_16 f_17) + di 1 * (f_16 / gD f_16 f_17))) (i * 3 + 2) (og 2 * (f_17 / gD f_16 f_17) + di 2 * (f_16 / gD f_16 f_17))), ((nI j), (nI k), (f_16 / gD f_16 f_17), (f_17 / gD f_16 f_17)), ((nI j), (nI k), f_16, f_17), ((li * (sh j)) / 1000)), (i + 1), (t_18, t_19, t_20, t_21)), rfl, ⟨by simp [foN, foS, ← hwf_22.2, og1e, di1e, c26, hne, cj, ck, c47, c102], by simp [foN, foS, ← hwf_22.2, og1e, di1e, c26, hne, cj, ck, c47, c102], by simp [foN, foS, ← hwf_22.2, og1e, di1e, c26, hne, cj, ck, c47, c102]⟩, bq_end hP hK hD ht hW⟩, hS.F ht⟩) hS.2.2 dX2_follow_106
            refine lv_aload_n hx hb dX2_follow_77 rfl (lv_at hl 1 rfl) ?_
            refine va_getN (D := D) (ci := 0) (v := .ref b3) (C := RX0) (T := TX0) (N := 6) hx hb hg iX0 hown hK hP 12 rfl rfl 2 (by decide) (va_Nw.use rfl (nzF_3 hZ)) (fun _ h9 => h9) rfl dX2_follow_78 ?_
            refine lv_aload_n hx hb dX2_follow_81 rfl (lv_at hl 0 rfl) ?_
            refine va_get (D := D) (ci := 2) (v := .ref a9) (C := RX2) (T := TX2) (N := 13) hx hb hg iX2 hown hK hP 0 rfl rfl 8 (by decide) (hg _ kw143) (fun _ h9 => h9) rfl dX2_follow_82 ?_
            refine va_getN (D := D) (ci := 1) (v := .int (nI j)) (C := RX1) (T := TX1) (N := 4) hx hb hg iX1 hown hK hP 9 rfl rfl 0 (by decide) (va_Nw.use rfl (nzF_10 hZ)) (fun _ h9 => h9) rfl dX2_follow_85 ?_
            refine va_iald hx hb hK hP 15 0 rfl rfl (vp_in_nI (by omega) (by decide)) dX2_follow_88 ?_
            refine tp_i (y := ki j) (congrArg ki (nI_clamp (by omega))) ?_
            refine lv_iconst (v := 1) hx hb dX2_follow_89 (by decide) ?_
            refine lv_icmp_ne (tgt := 98) hx hb dX2_follow_90 (by decide) (fun c90 => ?_) (fun c90 => ?_)
            · exact K_24 og di (by simp [c26, hne, cj, ck, c47, c90]) (by simp [c26, hne, cj, ck, c47, c90]) H locs ls hP hD hS (lv_sub hl [0, 1, 2] rfl)
            · refine lv_aload_n hx hb dX2_follow_93 rfl (lv_at hl 0 rfl) ?_
              refine lv_aload_n hx hb dX2_follow_94 rfl (lv_at hl 1 rfl) ?_
              have hPc := hP.sub (ws' := [(a0, .inr (2, [.ref a1, .ref a2, .ref a3, .ref a4, .ref a5, .ref a6, .ref a7, .ref a8, .ref a9, .ref a10, .ref a11, .int (nI (i + 1)), .int ((li * (sh j)) / 1000)])), (a1, .inl (cI, 3, .inl og)), (a2, .inl (cI, 3, .inl di)), (a9, .inr (1, [.int (nI j), .int (nI k), .int (f_16 / gD f_16 f_17), .int (f_17 / gD f_16 f_17)])), (b0, .inr (0, [.ref b1, .ref b2, .ref b3, .ref b4, .ref b5, .int (nI nb)])), (b1, .inl (cI, 60, .inl lo)), (b2, .inl (cI, 60, .inl hi))]) [0, 1, 2, 9, 12, 13, 14] rfl
              have hDc := hD.sub (ws' := [(a0, .inr (2, [.ref a1, .ref a2, .ref a3, .ref a4, .ref a5, .ref a6, .ref a7, .ref a8, .ref a9, .ref a10, .ref a11, .int (nI (i + 1)), .int ((li * (sh j)) / 1000)])), (a1, .inl (cI, 3, .inl og)), (a2, .inl (cI, 3, .inl di)), (a9, .inr (1, [.int (nI j), .int (nI k), .int (f_16 / gD f_16 f_17), .int (f_17 / gD f_16 f_17)])), (b0, .inr (0, [.ref b1, .ref b2, .ref b3, .ref b4, .ref b5, .int (nI nb)])), (b1, .inl (cI, 60, .inl lo)), (b2, .inl (cI, 60, .inl hi))]) [0, 1, 2, 9, 12, 13, 14] (by decide) rfl
              have hFc := va_free (wc := [(a0, .inr (2, [.ref a1, .ref a2, .ref a3, .ref a4, .ref a5, .ref a6, .ref a7, .ref a8, .ref a9, .ref a10, .ref a11, .int (nI (i + 1)), .int ((li * (sh j)) / 1000)])), (a1, .inl (cI, 3, .inl og)), (a2, .inl (cI, 3, .inl di)), (a9, .inr (1, [.int (nI j), .int (nI k), .int (f_16 / gD f_16 f_17), .int (f_17 / gD f_16 f_17)])), (b0, .inr (0, [.ref b1, .ref b2, .ref b3, .ref b4, .ref b5, .int (nI nb)])), (b1, .inl (cI, 60, .inl lo)), (b2, .inl (cI, 60, .inl hi))]) hD hS hA [0, 1, 2, 9, 12, 13, 14] rfl
              refine va_callv (va_runV (As := [.ref b0]) (rest := []) ⟨hx, hb, hml, hown, hg⟩ (qX2_turn l D cI cZ cJ a0 a1 a2 a3 a4 a5 a6 a7 a8 a9 a10 a11 b0 b1 b2 b3 b4 b5 og di lo hi (f_16 / gD f_16 f_17) (f_17 / gD f_16 f_17) (nI (i + 1)) ((li * (sh j)) / 1000) (nI nb) j k (by omega) hk H.size) (cwV 1 hg (gw_V kw414 kw416 kw18 kw39 kw417) rfl rfl rfl (by decide +kernel) ⟨Nat.le_of_ble_eq_true rfl, Nat.le_of_ble_eq_true rfl⟩) (wq_preV hPc hK hDc hZ (va_recv hK hPc (ci := 2) (q0 := 0) rfl rfl)) rfl rfl hl.1 rfl (lv_room (Nat.le_of_ble_eq_true rfl)) dX2_follow_95 ⟨Nat.le_of_ble_eq_true rfl, Nat.le_of_ble_eq_true rfl⟩) hS (fun q _ h => hFc q h) hFc (fun u t H locs ht hvm hw hB hz1 hk1 hS => ?_)
              obtain ⟨hP1, hK1, hD1⟩ := hB
              rw [ht] at hP1
              try dsimp only at hw hP1 hD1
              obtain ⟨hP, hD⟩ := va_join (wr := [(a3, .inl (cI, 3, .inl (kpA di ar (cmpI (f_16 * lw) (lv * f_17))))), (a4, .inl (cI, 30, .inl (upd ho i (nI j)))), (a5, .inl (cI, 30, .inl (upd hx9 i (nI k)))), (a6, .inl (cI, 30, .inl (upd ha i (f_16 / gD f_16 f_17)))), (a7, .inl (cI, 30, .inl (upd hl9 i (f_17 / gD f_16 f_17)))), (a8, .inl (cI, 90, .inl (upd (upd (upd hs (i * 3) (og 0 * (f_17 / gD f_16 f_17) + di 0 * (f_16 / gD f_16 f_17))) (i * 3 + 1) (og 1 * (f_17 / gD f_16 f_17) + di 1 * (f_16 / gD f_16 f_17))) (i * 3 + 2) (og 2 * (f_17 / gD f_16 f_17) + di 2 * (f_16 / gD f_16 f_17))))), (a10, .inr (1, [.int (nI j), .int (nI k), .int f_16, .int f_17])), (a11, .inr (1, [.int t_18, .int t_19, .int t_20, .int t_21])), (b3, .inl (cI, 20, .inl ki)), (b4, .inl (cI, 20, .inl sh)), (b5, .inl (cZ, 20, .inl of))]) (w1 := [(a0, .inr (2, [.ref a1, .ref a2, .ref a3, .ref a4, .ref a5, .ref a6, .ref a7, .ref a8, .ref a9, .ref a10, .ref a11, .int (nI (i + 1)), .int ((li * (sh j)) / 1000)])), (a1, .inl (cI, 3, .inl (upd og k (2 * mirF lo hi di j k - og k)))), (a2, .inl (cI, 3, .inl (upd di k (-(di k))))), (a9, .inr (1, [.int (nI j), .int (nI k), .int (f_16 / gD f_16 f_17), .int (f_17 / gD f_16 f_17)])), (b0, .inr (0, [.ref b1, .ref b2, .ref b3, .ref b4, .ref b5, .int (nI nb)])), (b1, .inl (cI, 60, .inl lo)), (b2, .inl (cI, 60, .inl hi))]) hP hD [0, 1, 2, 9, 12, 13, 14] [3, 4, 5, 6, 7, 8, 10, 11, 15, 16, 17] rfl rfl (by decide) (by decide) hk1 hFc hP1 hD1
              replace hP := hP.sub (ws' := [(a0, .inr (2, [.ref a1, .ref a2, .ref a3, .ref a4, .ref a5, .ref a6, .ref a7, .ref a8, .ref a9, .ref a10, .ref a11, .int (nI (i + 1)), .int ((li * (sh j)) / 1000)])), (a1, .inl (cI, 3, .inl (upd og k (2 * mirF lo hi di j k - og k)))), (a2, .inl (cI, 3, .inl (upd di k (-(di k))))), (a3, .inl (cI, 3, .inl (kpA di ar (cmpI (f_16 * lw) (lv * f_17))))), (a4, .inl (cI, 30, .inl (upd ho i (nI j)))), (a5, .inl (cI, 30, .inl (upd hx9 i (nI k)))), (a6, .inl (cI, 30, .inl (upd ha i (f_16 / gD f_16 f_17)))), (a7, .inl (cI, 30, .inl (upd hl9 i (f_17 / gD f_16 f_17)))), (a8, .inl (cI, 90, .inl (upd (upd (upd hs (i * 3) (og 0 * (f_17 / gD f_16 f_17) + di 0 * (f_16 / gD f_16 f_17))) (i * 3 + 1) (og 1 * (f_17 / gD f_16 f_17) + di 1 * (f_16 / gD f_16 f_17))) (i * 3 + 2) (og 2 * (f_17 / gD f_16 f_17) + di 2 * (f_16 / gD f_16 f_17))))), (a9, .inr (1, [.int (nI j), .int (nI k), .int (f_16 / gD f_16 f_17), .int (f_17 / gD f_16 f_17)])), (a10, .inr (1, [.int (nI j), .int (nI k), .int f_16, .int f_17])), (a11, .inr (1, [.int t_18, .int t_19, .int t_20, .int t_21])), (b0, .inr (0, [.ref b1, .ref b2, .ref b3, .ref b4, .ref b5, .int (nI nb)])), (b1, .inl (cI, 60, .inl lo)), (b2, .inl (cI, 60, .inl hi)), (b3, .inl (cI, 20, .inl ki)), (b4, .inl (cI, 20, .inl sh)), (b5, .inl (cZ, 20, .inl of))]) [11, 12, 13, 0, 1, 2, 3, 4, 5, 14, 6, 7, 15, 16, 17, 8, 9, 10] rfl
              replace hD := hD.sub (ws' := [(a0, .inr (2, [.ref a1, .ref a2, .ref a3, .ref a4, .ref a5, .ref a6, .ref a7, .ref a8, .ref a9, .ref a10, .ref a11, .int (nI (i + 1)), .int ((li * (sh j)) / 1000)])), (a1, .inl (cI, 3, .inl (upd og k (2 * mirF lo hi di j k - og k)))), (a2, .inl (cI, 3, .inl (upd di k (-(di k))))), (a3, .inl (cI, 3, .inl (kpA di ar (cmpI (f_16 * lw) (lv * f_17))))), (a4, .inl (cI, 30, .inl (upd ho i (nI j)))), (a5, .inl (cI, 30, .inl (upd hx9 i (nI k)))), (a6, .inl (cI, 30, .inl (upd ha i (f_16 / gD f_16 f_17)))), (a7, .inl (cI, 30, .inl (upd hl9 i (f_17 / gD f_16 f_17)))), (a8, .inl (cI, 90, .inl (upd (upd (upd hs (i * 3) (og 0 * (f_17 / gD f_16 f_17) + di 0 * (f_16 / gD f_16 f_17))) (i * 3 + 1) (og 1 * (f_17 / gD f_16 f_17) + di 1 * (f_16 / gD f_16 f_17))) (i * 3 + 2) (og 2 * (f_17 / gD f_16 f_17) + di 2 * (f_16 / gD f_16 f_17))))), (a9, .inr (1, [.int (nI j), .int (nI k), .int (f_16 / gD f_16 f_17), .int (f_17 / gD f_16 f_17)])), (a10, .inr (1, [.int (nI j), .int (nI k), .int f_16, .int f_17])), (a11, .inr (1, [.int t_18, .int t_19, .int t_20, .int t_21])), (b0, .inr (0, [.ref b1, .ref b2, .ref b3, .ref b4, .ref b5, .int (nI nb)])), (b1, .inl (cI, 60, .inl lo)), (b2, .inl (cI, 60, .inl hi)), (b3, .inl (cI, 20, .inl ki)), (b4, .inl (cI, 20, .inl sh)), (b5, .inl (cZ, 20, .inl of))]) [11, 12, 13, 0, 1, 2, 3, 4, 5, 14, 6, 7, 15, 16, 17, 8, 9, 10] (by decide) rfl
              exact K_24 (upd og k (2 * mirF lo hi di j k - og k)) (upd di k (-(di k))) (by simp [c26, hne, cj, ck, c47, c90]) (by simp [c26, hne, cj, ck, c47, c90]) H locs ls hP hD hS (lv_sub hl [0, 1, 2] rfl)
          · refine lv_iconst (v := 1) hx hb dX2_follow_50 (by decide) ?_
            exact W.iret (v := 1) hx hb hr (fun t ht hW => ⟨⟨1, ((og, di, (kpA di ar (cmpI (f_16 * lw) (lv * f_17))), (upd ho i (nI j)), (upd hx9 i (nI k)), (upd ha i (f_16 / gD f_16 f_17)), (upd hl9 i (f_17 / gD f_16 f_17)), (upd (upd (upd hs (i * 3) (og 0 * (f_17 / gD f_16 f_17) + di 0 * (f_16 / gD f_16 f_17))) (i * 3 + 1) (og 1 * (f_17 / gD f_16 f_17) + di 1 * (f_16 / gD f_16 f_17))) (i * 3 + 2) (og 2 * (f_17 / gD f_16 f_17) + di 2 * (f_16 / gD f_16 f_17))), ((nI j), (nI k), (f_16 / gD f_16 f_17), (f_17 / gD f_16 f_17)), ((nI j), (nI k), f_16, f_17), li), (i + 1), (t_18, t_19, t_20, t_21)), rfl, ⟨by simp [foN, foS, ← hwf_22.2, c26, hne, cj, ck, c47], by simp [foN, foS, ← hwf_22.2, c26, hne, cj, ck, c47], by simp [foN, foS, ← hwf_22.2, c26, hne, cj, ck, c47]⟩, bq_end hP hK hD ht hW⟩, hS.F ht⟩) hS.2.2 dX2_follow_51
        · replace c26 := bI_f c26
          have heq : f_14 = -1 := by simpa using c26
          subst heq
          refine lv_iconst (v := 0) hx hb dX2_follow_29 (by decide) ?_
          exact W.iret (v := 0) hx hb hr (fun t ht hW => ⟨⟨0, ((og, di, ar, ho, hx9, ha, hl9, hs, (lb, la, lv, lw), ((-1), f_15, f_16, f_17), li), i, (t_18, t_19, t_20, t_21)), rfl, ⟨by simp [foN, foS, ← hwf_22.2, c26], by simp [foN, foS, ← hwf_22.2, c26], by simp [foN, foS, ← hwf_22.2, c26]⟩, bq_end hP hK hD ht hW⟩, hS.F ht⟩) hS.2.2 dX2_follow_30
    exact loop_13 30 0 og di ar ho hx9 ha hl9 hs lb la lv lw nb9 na nv nw tb ta tv tw li (by omega) s.heap [] ls hP hD hS (lv_sub hl [1, 2, 0] rfl)
  · replace c8 := bI_t c8
    refine lv_iconst (v := 1) hx hb dX2_follow_11 (by decide) ?_
    exact W.iret (v := 1) hx hb hr (fun t ht hW => ⟨⟨1, ((og, di, ar, ho, hx9, ha, hl9, hs, (lb, la, lv, lw), (nb9, na, nv, nw), li), 0, (tb, ta, tv, tw)), rfl, ⟨by simp [foW, c8], by simp [foW, c8], by simp [foW, c8]⟩, bq_end hP hK hD ht hW⟩, hS.F ht⟩) hS.2.2 dX2_follow_12
end
section
/-! checks: methods that come back with all as it was, or throw -/
def zq (U : State) : Prop := vx_Zq Bundle.tN "UNASSIGNED_STACK" Bundle.steD (fun q => U.heap.size ≤ q) U U.heap ∧ vx_Zq Bundle.tN "SUPPRESSED_SENTINEL" Bundle.listD (fun q => U.heap.size ≤ q) U U.heap
theorem zq_at {s U : State} (hvm : s.vm.Alike U.vm) (hz : s.heap.size ≤ U.heap.size) (hk : ∀ q : Nat, q < s.heap.size → U.heap[q]? = s.heap[q]?) (h : zq s) : zq U := by
  obtain ⟨h1, h2⟩ := h
  refine ⟨?_, ?_⟩
  · exact vx_Zq.moved hvm (vx_Zq.narrow (vx_Zq.kept h1 (fun a ha _ => hk a ha)) (fun q hq => Nat.le_trans hz hq))
  · exact vx_Zq.moved hvm (vx_Zq.narrow (vx_Zq.kept h2 (fun a ha _ => hk a ha)) (fun q hq => Nat.le_trans hz hq))
def tq (D : va_G) (av : List Value) (ws : va_W) (tys : List (ClassId × FieldType)) : Array Value → State → Prop := va_Pc av (fun U => va_P D vwCl ws U.heap ∧ va_K D vwCl tys U ∧ gz U ∧ zq U)
def uq (D : va_G) (av : List Value) (sz : Nat) (ws : va_W) (tys : List (ClassId × FieldType)) : Array Value → State → Prop := va_Pc av (fun U => U.heap.size = sz ∧ va_P D vwCl ws U.heap ∧ va_K D vwCl tys U ∧ va_D (fun _ => True) ws ∧ gz U ∧ zq U)
section TQ
variable {D : va_G} {av : List Value} {sz : Nat} {ws : va_W} {tys : List (ClassId × FieldType)} {s : State} {H : Heap}
theorem tq_blind : FrameBlind (tq D av ws tys) := fun a U g mk q => by
  obtain ⟨q0, qP, qK, qZ, qY⟩ := q
  exact ⟨q0, qP, va_K.moved (u := U) (U := U.calling g mk a) (Vm.Alike.refl U.vm) qK, gz_calling g mk a qZ, zq_at (U := U.calling g mk a) (Vm.Alike.refl U.vm) (Nat.le_refl _) (fun _ _ => rfl) qY⟩
theorem uq_blind : FrameBlind (uq D av sz ws tys) := fun a U g mk q => by
  obtain ⟨q0, q1, qP, qK, qD, qZ, qY⟩ := q
  exact ⟨q0, q1, qP, va_K.moved (u := U) (U := U.calling g mk a) (Vm.Alike.refl U.vm) qK, qD, gz_calling g mk a qZ, zq_at (U := U.calling g mk a) (Vm.Alike.refl U.vm) (Nat.le_refl _) (fun _ _ => rfl) qY⟩
theorem tq_pre (hP : va_P D vwCl ws s.heap) (hK : va_K D vwCl tys s) (hZ : gz s) (hY : zq s) : PreS s s.heap (tq D av ws tys) av :=
  ⟨tq_blind, fun U hU hW => ⟨rfl, by rw [hU]; exact hP, va_K.moved hW.alike hK, gz_warm hW hZ, zq_at hW.alike (by rw [hU]; exact Nat.le_refl _) (fun q _ => by rw [hU]) hY⟩⟩
theorem tq_preV {C : String} {b : Addr} {As : List Value} (hP : va_P D vwCl ws s.heap) (hK : va_K D vwCl tys s) (hZ : gz s) (hY : zq s) (hr : ∃ cell : Cell, s.heap[b]? = some cell ∧ cell.vm.isStatics = false ∧ s.vm.findClass C = some cell.cls) : PreV s s.heap C b (tq D (.ref b :: As) ws tys) As :=
  ⟨tq_blind, hr, (tq_pre hP hK hZ hY).2⟩
theorem uq_preV {A : Nat → Prop} {C : String} {b : Addr} {As : List Value} (hP : va_P D vwCl ws H) (hK : va_K D vwCl tys s) (hD : va_D A ws) (hZ : gz s) (hY : zq s) (hz : s.heap.size ≤ H.size) (hk : ∀ q : Nat, q < s.heap.size → H[q]? = s.heap[q]?) (hr : ∃ cell : Cell, H[b]? = some cell ∧ cell.vm.isStatics = false ∧ s.vm.findClass C = some cell.cls) : PreV s H C b (uq D (.ref b :: As) H.size ws tys) As :=
  ⟨uq_blind, hr, fun U hU hW => ⟨rfl, by rw [hU], by rw [hU]; exact hP, va_K.moved hW.alike hK, hD.weaken (fun _ _ _ _ => trivial), gz_warm hW hZ, zq_at hW.alike (by rw [hU]; exact hz) (fun q hq => by rw [hU]; exact hk q hq) hY⟩⟩
end TQ
/-- a throw of an E that EX allows, all as it was -/
def cy_X (EX : String → Prop) : String → State → State → Prop := fun E st t => EX E ∧ st.heap.size ≤ t.heap.size ∧ ∀ q : Nat, q < st.heap.size → t.heap[q]? = st.heap[q]?
section CY
variable {p : Program} {l : Launch} {e : Env} {R : Room} {s : State} {m : MethodId} {args : Array Value} {below : List Frame} {meth : Method} {c : Code} {H : Heap} {locs : List Loc} {cells slots : Nat} {Q : State → Prop} {pc : Nat} {ls : Array Slot} {st0 rest : List Value} {a : Array Value}
/-- nothing was made: the books stand as before -/
theorem stand_back {T T' : State} {k n : Nat} (X : Stand p l e R s m args below meth c T locs cells slots) (X' : Stand p l e R s m args below meth c T' locs k n) (h : T'.heap = T.heap) : Stand p l e R s m args below meth c T' locs cells slots := by
  obtain ⟨e1, e2, e3, e4, e5, e6⟩ := X'.same
  obtain ⟨d1, d2, d3, d4, d5, d6⟩ := X.same
  have hh : (T'.setVm s.vm).heap = (T.setVm s.vm).heap := h
  exact { X' with same := ⟨e1, e2, by rw [hh]; exact d3, e4, by rw [hh]; exact d5, e6⟩ }
theorem cx_pass {C : Prop} {EX EX' : String → Prop} {mc ms mc' ms' : Nat} {Qc : Array Value → State → Outcome → State → Prop} {free : Addr → Prop} (hr : vx_Run p l e R s m args below meth c s.heap [] cells slots mc ms (F0 m pc ls st0) rest (cx_Q C a) (cy_X EX) (fun _ => False))
    (htab : ∀ x ∈ c.exceptionTable.toList, False) (hlocks : meth.locks = false) (hc : cells + mc ≤ mc') (hs : slots + ms ≤ ms') (hX : ∀ E, EX E → EX' E)
    (kk : C → W p l e R s m args below meth c s.heap [] cells slots (vx_MQ below Qc (cy_X EX') args s mc' ms' free) (F0 m (pc + 3) ls rest)) : W p l e R s m args below meth c s.heap [] cells slots (vx_MQ below Qc (cy_X EX') args s mc' ms' free) (F0 m pc ls st0) := by
  intro T hT X
  rcases hr T hT X with ⟨v, st₀, t, T', L, h0, X', hL, e1, e2, ⟨hC, hv, hh⟩, st⟩ | ⟨q, st₀, t, T', L, E, ce, h0, X', hL, e1, e2, ⟨hE, hz, hk⟩, hce, hcv, hcl, st⟩
  · cases hv
    have hT' : T'.heap = T.heap := by rw [e1, hh, h0, hT]
    obtain ⟨t2, a1, b1⟩ := kk hC T' (by rw [hT', hT]) (stand_back X (Stand.forget X' (fun q h => (hL q h).elim)) hT')
    exact ⟨t2, st t2 a1, b1⟩
  · rw [h0] at hz hk
    have X2 := Stand.forget (locs := []) X' (fun q h => (hL q h).elim)
    have w : vx_W p l e R s m args below meth c T'.heap [] (cells + mc) (slots + ms) (vx_MQ below Qc (cy_X EX') args s mc' ms' free) (F0 m pc ls rest) q :=
      vx_out (E := E) (ce := ce) (fun x hx => (htab x hx).elim) hlocks (by rw [e1]; exact hce) hcv hcl (fun t9 ht _ => ⟨hX E hE, by rw [ht, e1]; exact hz, fun q hq => by rw [ht, e1]; exact hk q hq⟩) (fun z hz => nomatch hz) hc hs
    obtain ⟨t2, a1, b1⟩ := w T' rfl X2
    exact ⟨t2, st.trans a1, b1⟩
end CY
/-- the words of a throw, once and for all -/
def nm_x : List String := ["java/lang/RuntimeException", "java/lang/Exception"]
def wx_B (E : String) : List Cond := [.castable E E, .declares ⟨"java/lang/RuntimeException", "<init>", "(Ljava/lang/String;)V"⟩, .declares ⟨"java/lang/Exception", "<init>", "(Ljava/lang/String;)V"⟩, .declares ⟨"java/lang/Throwable", "<init>", "(Ljava/lang/String;)V"⟩]
theorem wx_iae1 : ((vx_atS RX3 155 sx_iae nm_x).filter goodWord).all (fun w => decide (w ∈ lw_tbl)) = true := by decide +kernel
theorem wx_iae2 : ((vx_atS RX3 155 sx_iae nm_x).filter (fun w => !goodWord w)).all (fun w => decide (w ∈ wx_B sx_iae)) = true := by decide +kernel
theorem wx_ise1 : ((vx_atS RX3 68 sx_ise nm_x).filter goodWord).all (fun w => decide (w ∈ lw_tbl)) = true := by decide +kernel
theorem wx_ise2 : ((vx_atS RX3 68 sx_ise nm_x).filter (fun w => !goodWord w)).all (fun w => decide (w ∈ wx_B sx_ise)) = true := by decide +kernel
theorem wx_iae3 : (Cond.classLink RX3 151 sx_iae :: Cond.initialized sx_iae :: vx_atS RX3 155 sx_iae nm_x).all vx_ot = true := by decide +kernel
theorem wx_ise3 : (Cond.classLink RX3 64 sx_ise :: Cond.initialized sx_ise :: vx_atS RX3 68 sx_ise nm_x).all vx_ot = true := by decide +kernel
theorem wx_hat {args : Array Value} {s : State} {i : Nat} {E : String} (h1 : ((vx_atS RX3 i E nm_x).filter goodWord).all (fun w => decide (w ∈ lw_tbl)) = true) (h2 : ((vx_atS RX3 i E nm_x).filter (fun w => !goodWord w)).all (fun w => decide (w ∈ wx_B E)) = true) (hg : ∀ w ∈ gw, w.before args s = true) (hZ : gz s) (hc : va_Nw (.castable E E) s) : ∀ w ∈ vx_atS RX3 i E nm_x, w.before args s = true := by
  refine vx_hat (B := wx_B E) (fun w hw => hg w ?_) (fun w hw => by simpa using List.all_eq_true.mp h2 w hw) ?_
  · have h3 : w ∈ lw_tbl := by simpa using List.all_eq_true.mp h1 w hw
    exact List.mem_filter.mpr ⟨h3, (List.mem_filter.mp hw).2⟩
  · exact vx_c (va_Nw.use rfl hc) (vx_c (va_Nw.use rfl (hZ.2.2.2.1 _ (List.mem_of_getElem? (i := 1) rfl))) (vx_c (va_Nw.use rfl (hZ.2.2.2.1 _ (List.mem_of_getElem? (i := 3) rfl))) (vx_c (va_Nw.use rfl (hZ.2.2.2.1 _ (List.mem_of_getElem? (i := 5) rfl))) vx_n)))
section THROW
variable {p : Program} {l : Launch} {e : Env} {R : Room} {s : State} {m : MethodId} {args : Array Value} {below : List Frame} {meth : Method} {c : Code} {cells slots : Nat} {cc : ByteArray} {pc : Nat} {ls : Array Slot} {rest : List Value} {EX : String → Prop} {Qc : Array Value → State → Outcome → State → Prop} {free : Addr → Prop} {mc ms : Nat}
theorem th_iae (hx : p.tables.exec = Jvm.exec) (hb : c.code = cc) (hl0 : l.stackTraces = false) (hg : ∀ w ∈ gw, w.before args s = true) (hZ : gz s) (hY : zq s) (hown : s.vm.findClass RX3 = some m.cls) (hsize : ls.size = c.maxLocals) (htab : ∀ x ∈ c.exceptionTable.toList, False) (hlocks : meth.locks = false)
    (d0 : decode cc pc = .ok (.new 151, 3)) (d3 : decode cc (pc + 3) = .ok (.dup, 1)) (d4 : decode cc (pc + 4) = .ok (.ldc 153, 2)) (d6 : decode cc (pc + 6) = .ok (.invokespecial 155, 3)) (d9 : decode cc (pc + 9) = .ok (.athrow, 1))
    (hRf : 5 < R.frames) (hRl : (rest.map fun v => v.category).sum + 82 ≤ R.locals) (hRc : cells + 1 ≤ R.cells) (hRs : slots + 6 ≤ R.slots) (hc : cells + 1 ≤ mc) (hs : slots + 6 ≤ ms) (hX : EX sx_iae) :
    W p l e R s m args below meth c s.heap [] cells slots (vx_MQ below Qc (cy_X EX) args s mc ms free) (F0 m pc ls rest) := by
  obtain ⟨sa, hsa⟩ := hZ.2.2.2.2.1
  exact vx_throwS (names := nm_x) (cls := sx_iae) (A := fun q => s.heap.size ≤ q) hx hb hl0 hown (by decide +kernel) (by decide +kernel) (hg _ kw228) (hg _ kw45) hsa (wx_hat wx_iae1 wx_iae2 hg hZ (hZ.2.2.1 (sx_iae, sx_iae) (List.mem_of_getElem? (i := 0) rfl))) (fun w hw => List.all_eq_true.mp wx_iae3 w hw) hY.1 hY.2 va_S.rf hsize d0 d3 d4 d6 d9 (fun x hx => (htab x hx).elim) hRf hRl hRc hRs hlocks (fun t _ h1 h2 => ⟨hX, h1, h2⟩) (fun z hz => nomatch hz) hc hs
theorem th_ise {is : Nat} {tx : String} (hx : p.tables.exec = Jvm.exec) (hb : c.code = cc) (hl0 : l.stackTraces = false) (hg : ∀ w ∈ gw, w.before args s = true) (hZ : gz s) (hY : zq s) (hstr : ∃ q, vk_R RX3 is tx q s) (hown : s.vm.findClass RX3 = some m.cls) (hsize : ls.size = c.maxLocals) (htab : ∀ x ∈ c.exceptionTable.toList, False) (hlocks : meth.locks = false)
    (d0 : decode cc pc = .ok (.new 64, 3)) (d3 : decode cc (pc + 3) = .ok (.dup, 1)) (d4 : decode cc (pc + 4) = .ok (.ldc is, 2)) (d6 : decode cc (pc + 6) = .ok (.invokespecial 68, 3)) (d9 : decode cc (pc + 9) = .ok (.athrow, 1))
    (hRf : 5 < R.frames) (hRl : (rest.map fun v => v.category).sum + 82 ≤ R.locals) (hRc : cells + 1 ≤ R.cells) (hRs : slots + 6 ≤ R.slots) (hc : cells + 1 ≤ mc) (hs : slots + 6 ≤ ms) (hX : EX sx_ise) :
    W p l e R s m args below meth c s.heap [] cells slots (vx_MQ below Qc (cy_X EX) args s mc ms free) (F0 m pc ls rest) := by
  obtain ⟨sa, hsa⟩ := hstr
  exact vx_throwS (names := nm_x) (cls := sx_ise) (A := fun q => s.heap.size ≤ q) hx hb hl0 hown (by decide +kernel) (by decide +kernel) (hg _ kw295) (hg _ kw46) hsa (wx_hat wx_ise1 wx_ise2 hg hZ (hZ.2.2.1 (sx_ise, sx_ise) (List.mem_of_getElem? (i := 1) rfl))) (fun w hw => List.all_eq_true.mp wx_ise3 w hw) hY.1 hY.2 va_S.rf hsize d0 d3 d4 d6 d9 (fun x hx => (htab x hx).elim) hRf hRl hRc hRs hlocks (fun t _ h1 h2 => ⟨hX, h1, h2⟩) (fun z hz => nomatch hz) hc hs
end THROW
end
section
def inR (lo x hi : Int32) : Prop := lo ≤ x ∧ x ≤ hi

set_option maxHeartbeats 4000000 in
set_option maxRecDepth 100000 in
/-- demand -/
theorem qX3_demand (l : Launch) (hl0 : l.stackTraces = false) (D : va_G) (cI cZ cJ : ClassId) (h : Int32) : vx_Met l yX3_demand (Cond.code yX3_demand cX3_demand 1 none :: gw) ({ frames := 6, cells := 1, slots := 6, locals := 82 }) (tq D [.int h] [] [(cI, .int), (cZ, .boolean), (cJ, .long)]) (cx_Q (¬ h = 0)) (cy_X (fun E => h = 0 ∧ E = sx_iae)) 1 6 (fun _ => False) := by
  refine vx_ofW (cc := cX3_demand) (maxL := 1) (ret := none) (by decide) rfl ?_
  intro p e s m args below meth c s₁ B hml htab hv
  obtain ⟨rfl, hP, hK, hZ, hY⟩ := hv
  have hx := B.exec
  have hb := B.bytes
  have hr := B.returns
  have hg : ∀ w ∈ gw, w.before _ s = true := fun w h => atoms_spec (ws := Cond.code yX3_demand cX3_demand 1 none :: gw) B.pre w (List.mem_cons_of_mem _ h)
  have hown : s.vm.findClass RX3 = some m.cls := findClass_of_methodNamed B.named
  have hlocks := B.notSynchronized
  have hP : va_P D vwCl [] s.heap := hP
  have hl := lv_entry ([.int h]) (n := 1) (Nat.le_of_ble_eq_true rfl)
  rw [lg_entry_eq]
  generalize (lg_sl ([.int h]) ++ List.replicate (1 - (lg_sl ([.int h])).length) Slot.unset).toArray = ls at hl ⊢
  have hl : lv_has ls 1 [(0, .int h)] := hl
  refine lv_iload_n hx hb dX3_demand_0 rfl (lv_at hl 0 rfl) ?_
  refine lv_if_ne (tgt := 14) hx hb dX3_demand_1 (by decide) (fun c1 => ?_) (fun c1 => ?_)
  · refine vx_ret ?_
    refine W.widen (k := 1) (n := 6) (Nat.le_of_ble_eq_true rfl) (Nat.le_of_ble_eq_true rfl) ?_
    exact W.vret hx hb hr (fun t ht hW => ⟨c1, rfl, ht⟩) (fun q hq => nomatch hq) dX3_demand_14
  · exact th_iae hx hb hl0 hg hZ hY hown (hl.1.trans hml.symm) htab hlocks dX3_demand_4 dX3_demand_7 dX3_demand_8 dX3_demand_10 dX3_demand_13 (Nat.le_of_ble_eq_true rfl) (Nat.le_of_ble_eq_true rfl) (Nat.le_of_ble_eq_true rfl) (Nat.le_of_ble_eq_true rfl) (Nat.le_of_ble_eq_true rfl) (Nat.le_of_ble_eq_true rfl) (⟨c1, rfl⟩)

set_option maxHeartbeats 4000000 in
set_option maxRecDepth 100000 in
/-- demandWithin -/
theorem qX3_demandWithin (l : Launch) (hl0 : l.stackTraces = false) (D : va_G) (cI cZ cJ : ClassId) (x lo hi : Int32) : vx_Met l yX3_demandWithin (Cond.code yX3_demandWithin cX3_demandWithin 3 none :: gw) ({ frames := 7, cells := 1, slots := 6, locals := 102 }) (tq D [.int x, .int lo, .int hi] [] [(cI, .int), (cZ, .boolean), (cJ, .long)]) (cx_Q (inR lo x hi)) (cy_X (fun E => ¬ inR lo x hi ∧ E = sx_iae)) 1 6 (fun _ => False) := by
  refine vx_ofW (cc := cX3_demandWithin) (maxL := 3) (ret := none) (by decide) rfl ?_
  intro p e s m args below meth c s₁ B hml htab hv
  obtain ⟨rfl, hP, hK, hZ, hY⟩ := hv
  have hx := B.exec
  have hb := B.bytes
  have hr := B.returns
  have hg : ∀ w ∈ gw, w.before _ s = true := fun w h => atoms_spec (ws := Cond.code yX3_demandWithin cX3_demandWithin 3 none :: gw) B.pre w (List.mem_cons_of_mem _ h)
  have hown : s.vm.findClass RX3 = some m.cls := findClass_of_methodNamed B.named
  have hlocks := B.notSynchronized
  have hP : va_P D vwCl [] s.heap := hP
  have hl := lv_entry ([.int x, .int lo, .int hi]) (n := 3) (Nat.le_of_ble_eq_true rfl)
  rw [lg_entry_eq]
  generalize (lg_sl ([.int x, .int lo, .int hi]) ++ List.replicate (3 - (lg_sl ([.int x, .int lo, .int hi])).length) Slot.unset).toArray = ls at hl ⊢
  have hl : lv_has ls 3 [(0, .int x), (1, .int lo), (2, .int hi)] := hl
  have J_1 : W p l e (headSpec (Cond.code yX3_demandWithin cX3_demandWithin 3 none :: gw) ({ frames := 7, cells := 1, slots := 6, locals := 102 })).room s m ([.int x, .int lo, .int hi] : List Value).toArray below meth c s.heap [] 0 0 (vx_MQ below (cx_Q (inR lo x hi)) (cy_X (fun E => ¬ inR lo x hi ∧ E = sx_iae)) ([.int x, .int lo, .int hi] : List Value).toArray s 1 6 (fun _ => False)) (F0 m 15 ls [.int (bI (decide (lo ≤ x) && decide (x ≤ hi)))]) := by
    have hPc := hP.sub (ws' := []) [] rfl
    refine cx_pass (vx_runS (As := [.int (bI (decide (lo ≤ x) && decide (x ≤ hi)))]) (rest := []) ⟨hx, hb, hml, hown, hg⟩ (qX3_demand l hl0 D cI cZ cJ (bI (decide (lo ≤ x) && decide (x ≤ hi)))) (va_cwS 1 hg (gw_S kw225 kw226 kw36 kw227) rfl rfl rfl (by decide +kernel) ⟨Nat.le_of_ble_eq_true rfl, Nat.le_of_ble_eq_true rfl⟩) (tq_pre hPc hK hZ hY) rfl rfl hl.1 rfl (lv_room (Nat.le_of_ble_eq_true rfl)) dX3_demandWithin_15 ⟨Nat.le_of_ble_eq_true rfl, Nat.le_of_ble_eq_true rfl⟩) htab hlocks (Nat.le_of_ble_eq_true rfl) (Nat.le_of_ble_eq_true rfl) (fun E h9 => ⟨fun q => absurd (show (decide (lo ≤ x) && decide (x ≤ hi)) = true by simp [q.1, q.2]) (by rw [bI_f h9.1]; decide), h9.2⟩) (fun k_2 => ?_)
    replace k_2 := bI_t k_2
    refine vx_ret ?_
    refine W.widen (k := 1) (n := 6) (Nat.le_of_ble_eq_true rfl) (Nat.le_of_ble_eq_true rfl) ?_
    exact W.vret hx hb hr (fun t ht hW => ⟨by have q := k_2; simpa [inR] using q, rfl, ht⟩) (fun q hq => nomatch hq) dX3_demandWithin_18
  refine lv_iload_n hx hb dX3_demandWithin_0 rfl (lv_at hl 1 rfl) ?_
  refine lv_iload_n hx hb dX3_demandWithin_1 rfl (lv_at hl 0 rfl) ?_
  refine lv_icmp_gt (tgt := 14) hx hb dX3_demandWithin_2 (by decide) (fun c2 => ?_) (fun c2 => ?_)
  · have c2n := Int32.not_le.mpr c2
    refine lv_iconst (v := 0) hx hb dX3_demandWithin_14 (by decide) ?_
    refine tp_i (y := bI (decide (lo ≤ x) && decide (x ≤ hi))) (by simp [bI, c2, c2n]) ?_
    exact J_1
  · have c2n := Int32.not_lt.mp c2
    refine lv_iload_n hx hb dX3_demandWithin_5 rfl (lv_at hl 0 rfl) ?_
    refine lv_iload_n hx hb dX3_demandWithin_6 rfl (lv_at hl 2 rfl) ?_
    refine lv_icmp_gt (tgt := 14) hx hb dX3_demandWithin_7 (by decide) (fun c7 => ?_) (fun c7 => ?_)
    · have c7n := Int32.not_le.mpr c7
      refine lv_iconst (v := 0) hx hb dX3_demandWithin_14 (by decide) ?_
      refine tp_i (y := bI (decide (lo ≤ x) && decide (x ≤ hi))) (by simp [bI, c2, c2n, c7, c7n]) ?_
      exact J_1
    · have c7n := Int32.not_lt.mp c7
      refine lv_iconst (v := 1) hx hb dX3_demandWithin_10 (by decide) ?_
      refine lv_goto (tgt := 15) hx hb dX3_demandWithin_11 (by decide) ?_
      refine tp_i (y := bI (decide (lo ≤ x) && decide (x ≤ hi))) (by simp [bI, c2, c2n, c7, c7n]) ?_
      exact J_1

def ptR (sz0 x y z : Int32) : Prop := inR (-sz0) x sz0 ∧ inR (-sz0) y sz0 ∧ inR (-sz0) z sz0

set_option maxHeartbeats 4000000 in
set_option maxRecDepth 100000 in
/-- demandPoint -/
theorem qX3_demandPoint (l : Launch) (hl0 : l.stackTraces = false) (D : va_G) (cI cZ cJ : ClassId) (o0 b0 c2 c3 a0 e0 : Nat) (sz0 fc rw : Int32) (x y z : Int32) : vx_Met l yX3_demandPoint (Cond.code yX3_demandPoint cX3_demandPoint 4 none :: gw) ({ frames := 8, cells := 1, slots := 6, locals := 124 }) (tq D [.ref o0, .int x, .int y, .int z] [(o0, .inr (3, [.int sz0, .ref b0, .ref c2, .ref c3, .int fc, .ref a0, .int rw, .ref e0]))] [(cI, .int), (cZ, .boolean), (cJ, .long)]) (cx_Q (ptR sz0 x y z)) (cy_X (fun E => ¬ ptR sz0 x y z ∧ E = sx_iae)) 1 6 (fun _ => False) := by
  refine vx_ofW (cc := cX3_demandPoint) (maxL := 4) (ret := none) (by decide) rfl ?_
  intro p e s m args below meth c s₁ B hml htab hv
  obtain ⟨rfl, hP, hK, hZ, hY⟩ := hv
  have hx := B.exec
  have hb := B.bytes
  have hr := B.returns
  have hg : ∀ w ∈ gw, w.before _ s = true := fun w h => atoms_spec (ws := Cond.code yX3_demandPoint cX3_demandPoint 4 none :: gw) B.pre w (List.mem_cons_of_mem _ h)
  have hown : s.vm.findClass RX3 = some m.cls := findClass_of_methodNamed B.named
  have hlocks := B.notSynchronized
  have hP : va_P D vwCl [(o0, .inr (3, [.int sz0, .ref b0, .ref c2, .ref c3, .int fc, .ref a0, .int rw, .ref e0]))] s.heap := hP
  have hl := lv_entry ([.ref o0, .int x, .int y, .int z]) (n := 4) (Nat.le_of_ble_eq_true rfl)
  rw [lg_entry_eq]
  generalize (lg_sl ([.ref o0, .int x, .int y, .int z]) ++ List.replicate (4 - (lg_sl ([.ref o0, .int x, .int y, .int z])).length) Slot.unset).toArray = ls at hl ⊢
  have hl : lv_has ls 4 [(0, .ref o0), (1, .int x), (2, .int y), (3, .int z)] := hl
  refine lv_iload_n hx hb dX3_demandPoint_0 rfl (lv_at hl 1 rfl) ?_
  refine lv_aload_n hx hb dX3_demandPoint_1 rfl (lv_at hl 0 rfl) ?_
  refine va_get (D := D) (ci := 3) (v := .int sz0) (C := RX3) (T := TX3) (N := 8) hx hb hg iX3 hown hK hP 0 rfl rfl 0 (by decide) (hg _ kw177) (fun _ h9 => h9) rfl dX3_demandPoint_2 ?_
  refine lv_ineg hx hb dX3_demandPoint_5 ?_
  refine lv_aload_n hx hb dX3_demandPoint_6 rfl (lv_at hl 0 rfl) ?_
  refine va_get (D := D) (ci := 3) (v := .int sz0) (C := RX3) (T := TX3) (N := 8) hx hb hg iX3 hown hK hP 0 rfl rfl 0 (by decide) (hg _ kw177) (fun _ h9 => h9) rfl dX3_demandPoint_7 ?_
  have hPc := hP.sub (ws' := []) [] rfl
  refine cx_pass (vx_runS (As := [.int x, .int (-sz0), .int sz0]) (rest := []) ⟨hx, hb, hml, hown, hg⟩ (qX3_demandWithin l hl0 D cI cZ cJ x (-sz0) sz0) (va_cwS 3 hg (gw_S kw222 kw223 kw36 kw224) rfl rfl rfl (by decide +kernel) ⟨Nat.le_of_ble_eq_true rfl, Nat.le_of_ble_eq_true rfl⟩) (tq_pre hPc hK hZ hY) rfl rfl hl.1 rfl (lv_room (Nat.le_of_ble_eq_true rfl)) dX3_demandPoint_10 ⟨Nat.le_of_ble_eq_true rfl, Nat.le_of_ble_eq_true rfl⟩) htab hlocks (Nat.le_of_ble_eq_true rfl) (Nat.le_of_ble_eq_true rfl) (fun E h9 => ⟨fun q => h9.1 q.1, h9.2⟩) (fun k_3 => ?_)
  refine lv_iload_n hx hb dX3_demandPoint_13 rfl (lv_at hl 2 rfl) ?_
  refine lv_aload_n hx hb dX3_demandPoint_14 rfl (lv_at hl 0 rfl) ?_
  refine va_get (D := D) (ci := 3) (v := .int sz0) (C := RX3) (T := TX3) (N := 8) hx hb hg iX3 hown hK hP 0 rfl rfl 0 (by decide) (hg _ kw177) (fun _ h9 => h9) rfl dX3_demandPoint_15 ?_
  refine lv_ineg hx hb dX3_demandPoint_18 ?_
  refine lv_aload_n hx hb dX3_demandPoint_19 rfl (lv_at hl 0 rfl) ?_
  refine va_get (D := D) (ci := 3) (v := .int sz0) (C := RX3) (T := TX3) (N := 8) hx hb hg iX3 hown hK hP 0 rfl rfl 0 (by decide) (hg _ kw177) (fun _ h9 => h9) rfl dX3_demandPoint_20 ?_
  have hPc := hP.sub (ws' := []) [] rfl
  refine cx_pass (vx_runS (As := [.int y, .int (-sz0), .int sz0]) (rest := []) ⟨hx, hb, hml, hown, hg⟩ (qX3_demandWithin l hl0 D cI cZ cJ y (-sz0) sz0) (va_cwS 3 hg (gw_S kw222 kw223 kw36 kw224) rfl rfl rfl (by decide +kernel) ⟨Nat.le_of_ble_eq_true rfl, Nat.le_of_ble_eq_true rfl⟩) (tq_pre hPc hK hZ hY) rfl rfl hl.1 rfl (lv_room (Nat.le_of_ble_eq_true rfl)) dX3_demandPoint_23 ⟨Nat.le_of_ble_eq_true rfl, Nat.le_of_ble_eq_true rfl⟩) htab hlocks (Nat.le_of_ble_eq_true rfl) (Nat.le_of_ble_eq_true rfl) (fun E h9 => ⟨fun q => h9.1 q.2.1, h9.2⟩) (fun k_4 => ?_)
  refine lv_iload_n hx hb dX3_demandPoint_26 rfl (lv_at hl 3 rfl) ?_
  refine lv_aload_n hx hb dX3_demandPoint_27 rfl (lv_at hl 0 rfl) ?_
  refine va_get (D := D) (ci := 3) (v := .int sz0) (C := RX3) (T := TX3) (N := 8) hx hb hg iX3 hown hK hP 0 rfl rfl 0 (by decide) (hg _ kw177) (fun _ h9 => h9) rfl dX3_demandPoint_28 ?_
  refine lv_ineg hx hb dX3_demandPoint_31 ?_
  refine lv_aload_n hx hb dX3_demandPoint_32 rfl (lv_at hl 0 rfl) ?_
  refine va_get (D := D) (ci := 3) (v := .int sz0) (C := RX3) (T := TX3) (N := 8) hx hb hg iX3 hown hK hP 0 rfl rfl 0 (by decide) (hg _ kw177) (fun _ h9 => h9) rfl dX3_demandPoint_33 ?_
  have hPc := hP.sub (ws' := []) [] rfl
  refine cx_pass (vx_runS (As := [.int z, .int (-sz0), .int sz0]) (rest := []) ⟨hx, hb, hml, hown, hg⟩ (qX3_demandWithin l hl0 D cI cZ cJ z (-sz0) sz0) (va_cwS 3 hg (gw_S kw222 kw223 kw36 kw224) rfl rfl rfl (by decide +kernel) ⟨Nat.le_of_ble_eq_true rfl, Nat.le_of_ble_eq_true rfl⟩) (tq_pre hPc hK hZ hY) rfl rfl hl.1 rfl (lv_room (Nat.le_of_ble_eq_true rfl)) dX3_demandPoint_36 ⟨Nat.le_of_ble_eq_true rfl, Nat.le_of_ble_eq_true rfl⟩) htab hlocks (Nat.le_of_ble_eq_true rfl) (Nat.le_of_ble_eq_true rfl) (fun E h9 => ⟨fun q => h9.1 q.2.2, h9.2⟩) (fun k_5 => ?_)
  refine vx_ret ?_
  refine W.widen (k := 1) (n := 6) (Nat.le_of_ble_eq_true rfl) (Nat.le_of_ble_eq_true rfl) ?_
  exact W.vret hx hb hr (fun t ht hW => ⟨⟨k_3, k_4, k_5⟩, rfl, ht⟩) (fun q hq => nomatch hq) dX3_demandPoint_39

def dirR (x y z : Int32) : Prop := inR (-100) x 100 ∧ inR (-100) y 100 ∧ inR (-100) z 100 ∧ ¬ (x = 0 ∧ y = 0 ∧ z = 0)

set_option maxHeartbeats 4000000 in
set_option maxRecDepth 100000 in
/-- demandDirection -/
theorem qX3_demandDirection (l : Launch) (hl0 : l.stackTraces = false) (D : va_G) (cI cZ cJ : ClassId) (x y z : Int32) : vx_Met l yX3_demandDirection (Cond.code yX3_demandDirection cX3_demandDirection 3 none :: gw) ({ frames := 8, cells := 1, slots := 6, locals := 124 }) (tq D [.int x, .int y, .int z] [] [(cI, .int), (cZ, .boolean), (cJ, .long)]) (cx_Q (dirR x y z)) (cy_X (fun E => ¬ dirR x y z ∧ E = sx_iae)) 1 6 (fun _ => False) := by
  refine vx_ofW (cc := cX3_demandDirection) (maxL := 3) (ret := none) (by decide) rfl ?_
  intro p e s m args below meth c s₁ B hml htab hv
  obtain ⟨rfl, hP, hK, hZ, hY⟩ := hv
  have hx := B.exec
  have hb := B.bytes
  have hr := B.returns
  have hg : ∀ w ∈ gw, w.before _ s = true := fun w h => atoms_spec (ws := Cond.code yX3_demandDirection cX3_demandDirection 3 none :: gw) B.pre w (List.mem_cons_of_mem _ h)
  have hown : s.vm.findClass RX3 = some m.cls := findClass_of_methodNamed B.named
  have hlocks := B.notSynchronized
  have hP : va_P D vwCl [] s.heap := hP
  have hl := lv_entry ([.int x, .int y, .int z]) (n := 3) (Nat.le_of_ble_eq_true rfl)
  rw [lg_entry_eq]
  generalize (lg_sl ([.int x, .int y, .int z]) ++ List.replicate (3 - (lg_sl ([.int x, .int y, .int z])).length) Slot.unset).toArray = ls at hl ⊢
  have hl : lv_has ls 3 [(0, .int x), (1, .int y), (2, .int z)] := hl
  refine lv_iload_n hx hb dX3_demandDirection_0 rfl (lv_at hl 0 rfl) ?_
  refine lv_bipush (v := (-100)) hx hb dX3_demandDirection_1 (by decide) ?_
  refine lv_bipush (v := 100) hx hb dX3_demandDirection_3 (by decide) ?_
  have hPc := hP.sub (ws' := []) [] rfl
  refine cx_pass (vx_runS (As := [.int x, .int (-100), .int 100]) (rest := []) ⟨hx, hb, hml, hown, hg⟩ (qX3_demandWithin l hl0 D cI cZ cJ x (-100) 100) (va_cwS 3 hg (gw_S kw222 kw223 kw36 kw224) rfl rfl rfl (by decide +kernel) ⟨Nat.le_of_ble_eq_true rfl, Nat.le_of_ble_eq_true rfl⟩) (tq_pre hPc hK hZ hY) rfl rfl hl.1 rfl (lv_room (Nat.le_of_ble_eq_true rfl)) dX3_demandDirection_5 ⟨Nat.le_of_ble_eq_true rfl, Nat.le_of_ble_eq_true rfl⟩) htab hlocks (Nat.le_of_ble_eq_true rfl) (Nat.le_of_ble_eq_true rfl) (fun E h9 => ⟨fun q => h9.1 q.1, h9.2⟩) (fun k_6 => ?_)
  refine lv_iload_n hx hb dX3_demandDirection_8 rfl (lv_at hl 1 rfl) ?_
  refine lv_bipush (v := (-100)) hx hb dX3_demandDirection_9 (by decide) ?_
  refine lv_bipush (v := 100) hx hb dX3_demandDirection_11 (by decide) ?_
  have hPc := hP.sub (ws' := []) [] rfl
  refine cx_pass (vx_runS (As := [.int y, .int (-100), .int 100]) (rest := []) ⟨hx, hb, hml, hown, hg⟩ (qX3_demandWithin l hl0 D cI cZ cJ y (-100) 100) (va_cwS 3 hg (gw_S kw222 kw223 kw36 kw224) rfl rfl rfl (by decide +kernel) ⟨Nat.le_of_ble_eq_true rfl, Nat.le_of_ble_eq_true rfl⟩) (tq_pre hPc hK hZ hY) rfl rfl hl.1 rfl (lv_room (Nat.le_of_ble_eq_true rfl)) dX3_demandDirection_13 ⟨Nat.le_of_ble_eq_true rfl, Nat.le_of_ble_eq_true rfl⟩) htab hlocks (Nat.le_of_ble_eq_true rfl) (Nat.le_of_ble_eq_true rfl) (fun E h9 => ⟨fun q => h9.1 q.2.1, h9.2⟩) (fun k_7 => ?_)
  refine lv_iload_n hx hb dX3_demandDirection_16 rfl (lv_at hl 2 rfl) ?_
  refine lv_bipush (v := (-100)) hx hb dX3_demandDirection_17 (by decide) ?_
  refine lv_bipush (v := 100) hx hb dX3_demandDirection_19 (by decide) ?_
  have hPc := hP.sub (ws' := []) [] rfl
  refine cx_pass (vx_runS (As := [.int z, .int (-100), .int 100]) (rest := []) ⟨hx, hb, hml, hown, hg⟩ (qX3_demandWithin l hl0 D cI cZ cJ z (-100) 100) (va_cwS 3 hg (gw_S kw222 kw223 kw36 kw224) rfl rfl rfl (by decide +kernel) ⟨Nat.le_of_ble_eq_true rfl, Nat.le_of_ble_eq_true rfl⟩) (tq_pre hPc hK hZ hY) rfl rfl hl.1 rfl (lv_room (Nat.le_of_ble_eq_true rfl)) dX3_demandDirection_21 ⟨Nat.le_of_ble_eq_true rfl, Nat.le_of_ble_eq_true rfl⟩) htab hlocks (Nat.le_of_ble_eq_true rfl) (Nat.le_of_ble_eq_true rfl) (fun E h9 => ⟨fun q => h9.1 q.2.2.1, h9.2⟩) (fun k_8 => ?_)
  have J_9 : W p l e (headSpec (Cond.code yX3_demandDirection cX3_demandDirection 3 none :: gw) ({ frames := 8, cells := 1, slots := 6, locals := 124 })).room s m ([.int x, .int y, .int z] : List Value).toArray below meth c s.heap [] 0 0 (vx_MQ below (cx_Q (dirR x y z)) (cy_X (fun E => ¬ dirR x y z ∧ E = sx_iae)) ([.int x, .int y, .int z] : List Value).toArray s 1 6 (fun _ => False)) (F0 m 41 ls [.int (bI (!decide (x = 0) || (!decide (y = 0) || !decide (z = 0))))]) := by
    have hPc := hP.sub (ws' := []) [] rfl
    refine cx_pass (vx_runS (As := [.int (bI (!decide (x = 0) || (!decide (y = 0) || !decide (z = 0))))]) (rest := []) ⟨hx, hb, hml, hown, hg⟩ (qX3_demand l hl0 D cI cZ cJ (bI (!decide (x = 0) || (!decide (y = 0) || !decide (z = 0))))) (va_cwS 1 hg (gw_S kw225 kw226 kw36 kw227) rfl rfl rfl (by decide +kernel) ⟨Nat.le_of_ble_eq_true rfl, Nat.le_of_ble_eq_true rfl⟩) (tq_pre hPc hK hZ hY) rfl rfl hl.1 rfl (lv_room (Nat.le_of_ble_eq_true rfl)) dX3_demandDirection_41 ⟨Nat.le_of_ble_eq_true rfl, Nat.le_of_ble_eq_true rfl⟩) htab hlocks (Nat.le_of_ble_eq_true rfl) (Nat.le_of_ble_eq_true rfl) (fun E h9 => ⟨fun q => q.2.2.2 (by have h8 := bI_f h9.1; simpa using h8), h9.2⟩) (fun k_10 => ?_)
    replace k_10 := bI_t k_10
    refine vx_ret ?_
    refine W.widen (k := 1) (n := 6) (Nat.le_of_ble_eq_true rfl) (Nat.le_of_ble_eq_true rfl) ?_
    exact W.vret hx hb hr (fun t ht hW => ⟨⟨k_6, k_7, k_8, by have q := k_10; intro hq; simp [hq.1, hq.2.1, hq.2.2] at q⟩, rfl, ht⟩) (fun q hq => nomatch hq) dX3_demandDirection_44
  refine lv_iload_n hx hb dX3_demandDirection_24 rfl (lv_at hl 0 rfl) ?_
  refine lv_if_ne (tgt := 36) hx hb dX3_demandDirection_25 (by decide) (fun c25 => ?_) (fun c25 => ?_)
  · refine lv_iconst (v := 1) hx hb dX3_demandDirection_36 (by decide) ?_
    refine lv_goto (tgt := 41) hx hb dX3_demandDirection_37 (by decide) ?_
    refine tp_i (y := bI (!decide (x = 0) || (!decide (y = 0) || !decide (z = 0)))) (by simp [bI, c25]) ?_
    exact J_9
  · refine lv_iload_n hx hb dX3_demandDirection_28 rfl (lv_at hl 1 rfl) ?_
    refine lv_if_ne (tgt := 36) hx hb dX3_demandDirection_29 (by decide) (fun c29 => ?_) (fun c29 => ?_)
    · refine lv_iconst (v := 1) hx hb dX3_demandDirection_36 (by decide) ?_
      refine lv_goto (tgt := 41) hx hb dX3_demandDirection_37 (by decide) ?_
      refine tp_i (y := bI (!decide (x = 0) || (!decide (y = 0) || !decide (z = 0)))) (by simp [bI, c25, c29]) ?_
      exact J_9
    · refine lv_iload_n hx hb dX3_demandDirection_32 rfl (lv_at hl 2 rfl) ?_
      refine lv_if_eq (tgt := 40) hx hb dX3_demandDirection_33 (by decide) (fun c33 => ?_) (fun c33 => ?_)
      · refine lv_iconst (v := 0) hx hb dX3_demandDirection_40 (by decide) ?_
        refine tp_i (y := bI (!decide (x = 0) || (!decide (y = 0) || !decide (z = 0)))) (by simp [bI, c25, c29, c33]) ?_
        exact J_9
      · refine lv_iconst (v := 1) hx hb dX3_demandDirection_36 (by decide) ?_
        refine lv_goto (tgt := 41) hx hb dX3_demandDirection_37 (by decide) ?_
        refine tp_i (y := bI (!decide (x = 0) || (!decide (y = 0) || !decide (z = 0)))) (by simp [bI, c25, c29, c33]) ?_
        exact J_9

set_option maxHeartbeats 4000000 in
set_option maxRecDepth 100000 in
/-- demandBox -/
theorem qX3_demandBox (l : Launch) (hl0 : l.stackTraces = false) (D : va_G) (cI cZ cJ : ClassId) (o0 b0 c2 c3 a0 e0 : Nat) (sz0 fc rw : Int32) (b1 b2 b3 b4 b5 : Nat) (cn x : Int32) : vx_Met l yX3_demandBox (Cond.code yX3_demandBox cX3_demandBox 2 none :: gw) ({ frames := 7, cells := 1, slots := 6, locals := 102 }) (tq D [.ref o0, .int x] [(o0, .inr (3, [.int sz0, .ref b0, .ref c2, .ref c3, .int fc, .ref a0, .int rw, .ref e0])), (b0, .inr (0, [.ref b1, .ref b2, .ref b3, .ref b4, .ref b5, .int cn]))] [(cI, .int), (cZ, .boolean), (cJ, .long)]) (cx_Q (0 ≤ x ∧ x < cn)) (cy_X (fun E => ¬ (0 ≤ x ∧ x < cn) ∧ E = sx_iae)) 1 6 (fun _ => False) := by
  refine vx_ofW (cc := cX3_demandBox) (maxL := 2) (ret := none) (by decide) rfl ?_
  intro p e s m args below meth c s₁ B hml htab hv
  obtain ⟨rfl, hP, hK, hZ, hY⟩ := hv
  have hx := B.exec
  have hb := B.bytes
  have hr := B.returns
  have hg : ∀ w ∈ gw, w.before _ s = true := fun w h => atoms_spec (ws := Cond.code yX3_demandBox cX3_demandBox 2 none :: gw) B.pre w (List.mem_cons_of_mem _ h)
  have hown : s.vm.findClass RX3 = some m.cls := findClass_of_methodNamed B.named
  have hlocks := B.notSynchronized
  have hP : va_P D vwCl [(o0, .inr (3, [.int sz0, .ref b0, .ref c2, .ref c3, .int fc, .ref a0, .int rw, .ref e0])), (b0, .inr (0, [.ref b1, .ref b2, .ref b3, .ref b4, .ref b5, .int cn]))] s.heap := hP
  have hl := lv_entry ([.ref o0, .int x]) (n := 2) (Nat.le_of_ble_eq_true rfl)
  rw [lg_entry_eq]
  generalize (lg_sl ([.ref o0, .int x]) ++ List.replicate (2 - (lg_sl ([.ref o0, .int x])).length) Slot.unset).toArray = ls at hl ⊢
  have hl : lv_has ls 2 [(0, .ref o0), (1, .int x)] := hl
  have J_11 : W p l e (headSpec (Cond.code yX3_demandBox cX3_demandBox 2 none :: gw) ({ frames := 7, cells := 1, slots := 6, locals := 102 })).room s m ([.ref o0, .int x] : List Value).toArray below meth c s.heap [] 0 0 (vx_MQ below (cx_Q (0 ≤ x ∧ x < cn)) (cy_X (fun E => ¬ (0 ≤ x ∧ x < cn) ∧ E = sx_iae)) ([.ref o0, .int x] : List Value).toArray s 1 6 (fun _ => False)) (F0 m 21 ls [.int (bI (decide (0 ≤ x) && decide (x < cn)))]) := by
    have hPc := hP.sub (ws' := []) [] rfl
    refine cx_pass (vx_runS (As := [.int (bI (decide (0 ≤ x) && decide (x < cn)))]) (rest := []) ⟨hx, hb, hml, hown, hg⟩ (qX3_demand l hl0 D cI cZ cJ (bI (decide (0 ≤ x) && decide (x < cn)))) (va_cwS 1 hg (gw_S kw225 kw226 kw36 kw227) rfl rfl rfl (by decide +kernel) ⟨Nat.le_of_ble_eq_true rfl, Nat.le_of_ble_eq_true rfl⟩) (tq_pre hPc hK hZ hY) rfl rfl hl.1 rfl (lv_room (Nat.le_of_ble_eq_true rfl)) dX3_demandBox_21 ⟨Nat.le_of_ble_eq_true rfl, Nat.le_of_ble_eq_true rfl⟩) htab hlocks (Nat.le_of_ble_eq_true rfl) (Nat.le_of_ble_eq_true rfl) (fun E h9 => ⟨fun q => absurd (show (decide (0 ≤ x) && decide (x < cn)) = true by simp [q.1, q.2]) (by rw [bI_f h9.1]; decide), h9.2⟩) (fun k_12 => ?_)
    replace k_12 := bI_t k_12
    refine vx_ret ?_
    refine W.widen (k := 1) (n := 6) (Nat.le_of_ble_eq_true rfl) (Nat.le_of_ble_eq_true rfl) ?_
    exact W.vret hx hb hr (fun t ht hW => ⟨by have q := k_12; simpa using q, rfl, ht⟩) (fun q hq => nomatch hq) dX3_demandBox_24
  refine lv_iconst (v := 0) hx hb dX3_demandBox_0 (by decide) ?_
  refine lv_iload_n hx hb dX3_demandBox_1 rfl (lv_at hl 1 rfl) ?_
  refine lv_icmp_gt (tgt := 20) hx hb dX3_demandBox_2 (by decide) (fun c2 => ?_) (fun c2 => ?_)
  · have c2n := Int32.not_le.mpr c2
    refine lv_iconst (v := 0) hx hb dX3_demandBox_20 (by decide) ?_
    refine tp_i (y := bI (decide (0 ≤ x) && decide (x < cn))) (by simp [bI, c2, c2n]) ?_
    exact J_11
  · have c2n := Int32.not_lt.mp c2
    refine lv_iload_n hx hb dX3_demandBox_5 rfl (lv_at hl 1 rfl) ?_
    refine lv_aload_n hx hb dX3_demandBox_6 rfl (lv_at hl 0 rfl) ?_
    refine va_get (D := D) (ci := 3) (v := .ref b0) (C := RX3) (T := TX3) (N := 8) hx hb hg iX3 hown hK hP 0 rfl rfl 1 (by decide) (hg _ kw178) (fun _ h9 => h9) rfl dX3_demandBox_7 ?_
    refine va_getN (D := D) (ci := 0) (v := .int cn) (C := RX0) (T := TX0) (N := 6) hx hb hg iX0 hown hK hP 1 rfl rfl 5 (by decide) (va_Nw.use rfl (nzF_8 hZ)) (fun _ h9 => h9) rfl dX3_demandBox_10 ?_
    refine lv_icmp_ge (tgt := 20) hx hb dX3_demandBox_13 (by decide) (fun c13 => ?_) (fun c13 => ?_)
    · have c13n := Int32.not_lt.mpr c13
      refine lv_iconst (v := 0) hx hb dX3_demandBox_20 (by decide) ?_
      refine tp_i (y := bI (decide (0 ≤ x) && decide (x < cn))) (by simp [bI, c2, c2n, c13, c13n]) ?_
      exact J_11
    · have c13n := Int32.not_le.mp c13
      refine lv_iconst (v := 1) hx hb dX3_demandBox_16 (by decide) ?_
      refine lv_goto (tgt := 21) hx hb dX3_demandBox_17 (by decide) ?_
      refine tp_i (y := bI (decide (0 ≤ x) && decide (x < cn))) (by simp [bI, c2, c2n, c13, c13n]) ?_
      exact J_11

set_option maxHeartbeats 4000000 in
set_option maxRecDepth 100000 in
/-- demandRay -/
theorem qX3_demandRay (l : Launch) (hl0 : l.stackTraces = false) (D : va_G) (cI cZ cJ : ClassId) (o0 b0 c2 c3 a0 e0 : Nat) (sz0 fc rw : Int32) : vx_Met l yX3_demandRay (Cond.code yX3_demandRay cX3_demandRay 1 none :: gw) ({ frames := 6, cells := 1, slots := 6, locals := 82 }) (tq D [.ref o0] [(o0, .inr (3, [.int sz0, .ref b0, .ref c2, .ref c3, .int fc, .ref a0, .int rw, .ref e0]))] [(cI, .int), (cZ, .boolean), (cJ, .long)]) (cx_Q (¬ rw = 0)) (cy_X (fun E => rw = 0 ∧ E = sx_ise)) 1 6 (fun _ => False) := by
  refine vx_ofW (cc := cX3_demandRay) (maxL := 1) (ret := none) (by decide) rfl ?_
  intro p e s m args below meth c s₁ B hml htab hv
  obtain ⟨rfl, hP, hK, hZ, hY⟩ := hv
  have hx := B.exec
  have hb := B.bytes
  have hr := B.returns
  have hg : ∀ w ∈ gw, w.before _ s = true := fun w h => atoms_spec (ws := Cond.code yX3_demandRay cX3_demandRay 1 none :: gw) B.pre w (List.mem_cons_of_mem _ h)
  have hown : s.vm.findClass RX3 = some m.cls := findClass_of_methodNamed B.named
  have hlocks := B.notSynchronized
  have hP : va_P D vwCl [(o0, .inr (3, [.int sz0, .ref b0, .ref c2, .ref c3, .int fc, .ref a0, .int rw, .ref e0]))] s.heap := hP
  have hl := lv_entry ([.ref o0]) (n := 1) (Nat.le_of_ble_eq_true rfl)
  rw [lg_entry_eq]
  generalize (lg_sl ([.ref o0]) ++ List.replicate (1 - (lg_sl ([.ref o0])).length) Slot.unset).toArray = ls at hl ⊢
  have hl : lv_has ls 1 [(0, .ref o0)] := hl
  refine lv_aload_n hx hb dX3_demandRay_0 rfl (lv_at hl 0 rfl) ?_
  refine va_get (D := D) (ci := 3) (v := .int rw) (C := RX3) (T := TX3) (N := 8) hx hb hg iX3 hown hK hP 0 rfl rfl 6 (by decide) (hg _ kw183) (fun _ h9 => h9) rfl dX3_demandRay_1 ?_
  refine lv_if_ne (tgt := 17) hx hb dX3_demandRay_4 (by decide) (fun c4 => ?_) (fun c4 => ?_)
  · refine vx_ret ?_
    refine W.widen (k := 1) (n := 6) (Nat.le_of_ble_eq_true rfl) (Nat.le_of_ble_eq_true rfl) ?_
    exact W.vret hx hb hr (fun t ht hW => ⟨c4, rfl, ht⟩) (fun q hq => nomatch hq) dX3_demandRay_17
  · exact th_ise hx hb hl0 hg hZ hY hZ.2.2.2.2.2.2.1 hown (hl.1.trans hml.symm) htab hlocks dX3_demandRay_7 dX3_demandRay_10 dX3_demandRay_11 dX3_demandRay_13 dX3_demandRay_16 (Nat.le_of_ble_eq_true rfl) (Nat.le_of_ble_eq_true rfl) (Nat.le_of_ble_eq_true rfl) (Nat.le_of_ble_eq_true rfl) (Nat.le_of_ble_eq_true rfl) (Nat.le_of_ble_eq_true rfl) (⟨c4, rfl⟩)
end
