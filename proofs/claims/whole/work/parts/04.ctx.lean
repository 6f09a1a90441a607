theorem iX0 : ∀ w ∈ u_ws RX0 TX0 6, w ∈ gw := by
  have h : u_ws RX0 TX0 6 = [Cond.laysFinal RX0 RX0 "lows" "[I", Cond.laysFinal RX0 RX0 "highs" "[I", Cond.laysFinal RX0 RX0 "kinds" "[I", Cond.laysFinal RX0 RX0 "shares" "[I", Cond.laysFinal RX0 RX0 "offs" "[Z", Cond.lays RX0 RX0 "count" "I"] := rfl
  rw [h]
  exact List.forall_mem_cons.mpr ⟨kw85, List.forall_mem_cons.mpr ⟨kw87, List.forall_mem_cons.mpr ⟨kw89, List.forall_mem_cons.mpr ⟨kw91, List.forall_mem_cons.mpr ⟨kw93, List.forall_mem_cons.mpr ⟨kw95, fun _ h => nomatch h⟩⟩⟩⟩⟩⟩
theorem iX1 : ∀ w ∈ u_ws RX1 TX1 4, w ∈ gw := by
  have h : u_ws RX1 TX1 4 = [Cond.lays RX1 RX1 "box" "I", Cond.lays RX1 RX1 "axis" "I", Cond.lays RX1 RX1 "above" "I", Cond.lays RX1 RX1 "below" "I"] := rfl
  rw [h]
  exact List.forall_mem_cons.mpr ⟨kw120, List.forall_mem_cons.mpr ⟨kw122, List.forall_mem_cons.mpr ⟨kw124, List.forall_mem_cons.mpr ⟨kw126, fun _ h => nomatch h⟩⟩⟩⟩
theorem iX2 : ∀ w ∈ u_ws RX2 TX2 13, w ∈ gw := by
  have h : u_ws RX2 TX2 13 = [Cond.laysFinal RX2 RX2 "origin" "[I", Cond.laysFinal RX2 RX2 "direction" "[I", Cond.laysFinal RX2 RX2 "arrival" "[I", Cond.laysFinal RX2 RX2 "hitBoxes" "[I", Cond.laysFinal RX2 RX2 "hitAxes" "[I", Cond.laysFinal RX2 RX2 "hitAbove" "[I", Cond.laysFinal RX2 RX2 "hitBelow" "[I", Cond.laysFinal RX2 RX2 "hitSpots" "[I", Cond.laysFinal RX2 RX2 "latest" "LLightRays$Meeting;", Cond.laysFinal RX2 RX2 "next" "LLightRays$Meeting;", Cond.laysFinal RX2 RX2 "trial" "LLightRays$Meeting;", Cond.lays RX2 RX2 "hits" "I", Cond.lays RX2 RX2 "light" "I"] := rfl
  rw [h]
  exact List.forall_mem_cons.mpr ⟨kw150, List.forall_mem_cons.mpr ⟨kw152, List.forall_mem_cons.mpr ⟨kw154, List.forall_mem_cons.mpr ⟨kw156, List.forall_mem_cons.mpr ⟨kw158, List.forall_mem_cons.mpr ⟨kw160, List.forall_mem_cons.mpr ⟨kw162, List.forall_mem_cons.mpr ⟨kw164, List.forall_mem_cons.mpr ⟨kw166, List.forall_mem_cons.mpr ⟨kw168, List.forall_mem_cons.mpr ⟨kw170, List.forall_mem_cons.mpr ⟨kw172, List.forall_mem_cons.mpr ⟨kw174, fun _ h => nomatch h⟩⟩⟩⟩⟩⟩⟩⟩⟩⟩⟩⟩⟩
theorem iX3 : ∀ w ∈ u_ws RX3 TX3 8, w ∈ gw := by
  have h : u_ws RX3 TX3 8 = [Cond.laysFinal RX3 RX3 "size" "I", Cond.laysFinal RX3 RX3 "boxes" "LLightRays$Boxes;", Cond.laysFinal RX3 RX3 "brightness" "[I", Cond.laysFinal RX3 RX3 "fanDirections" "[I", Cond.lays RX3 RX3 "fanCount" "I", Cond.laysFinal RX3 RX3 "latestRay" "LLightRays$Path;", Cond.lays RX3 RX3 "rayWas" "Z", Cond.laysFinal RX3 RX3 "fanRay" "LLightRays$Path;"] := rfl
  rw [h]
  exact List.forall_mem_cons.mpr ⟨kw185, List.forall_mem_cons.mpr ⟨kw187, List.forall_mem_cons.mpr ⟨kw189, List.forall_mem_cons.mpr ⟨kw191, List.forall_mem_cons.mpr ⟨kw193, List.forall_mem_cons.mpr ⟨kw195, List.forall_mem_cons.mpr ⟨kw197, List.forall_mem_cons.mpr ⟨kw199, fun _ h => nomatch h⟩⟩⟩⟩⟩⟩⟩⟩
theorem iX4 : ∀ w ∈ u_ws RX4 TX4 38, w ∈ gw := by
  have h : u_ws RX4 TX4 38 = [Cond.lays RX4 RX4 "thrown" "I", Cond.laysFinal RX4 RX4 "size" "I", Cond.lays RX4 RX4 "boxes" "I", Cond.laysFinal RX4 RX4 "corners" "[I", Cond.laysFinal RX4 RX4 "kinds" "[I", Cond.laysFinal RX4 RX4 "shares" "[I", Cond.laysFinal RX4 RX4 "isOff" "[Z", Cond.laysFinal RX4 RX4 "at" "[I", Cond.laysFinal RX4 RX4 "by" "[I", Cond.laysFinal RX4 RX4 "atBefore" "[I", Cond.laysFinal RX4 RX4 "byBefore" "[I", Cond.lays RX4 RX4 "light" "I", Cond.lays RX4 RX4 "hits" "I", Cond.lays RX4 RX4 "lastAbove" "J", Cond.lays RX4 RX4 "lastBelow" "J", Cond.lays RX4 RX4 "lastBox" "I", Cond.lays RX4 RX4 "inAbove" "J", Cond.lays RX4 RX4 "inBelow" "J", Cond.lays RX4 RX4 "inAxis" "I", Cond.lays RX4 RX4 "outAbove" "J", Cond.lays RX4 RX4 "outBelow" "J", Cond.laysFinal RX4 RX4 "hitBox" "[I", Cond.laysFinal RX4 RX4 "hitAxis" "[I", Cond.laysFinal RX4 RX4 "hitAbove" "[J", Cond.laysFinal RX4 RX4 "hitBelow" "[J", Cond.laysFinal RX4 RX4 "hitPlace" "[J", Cond.lays RX4 RX4 "hasRay" "Z", Cond.lays RX4 RX4 "rayHits" "I", Cond.lays RX4 RX4 "rayLight" "I", Cond.laysFinal RX4 RX4 "rayBy" "[I", Cond.laysFinal RX4 RX4 "rayBox" "[I", Cond.laysFinal RX4 RX4 "rayAxis" "[I", Cond.laysFinal RX4 RX4 "rayAbove" "[J", Cond.laysFinal RX4 RX4 "rayBelow" "[J", Cond.laysFinal RX4 RX4 "rayPlace" "[J", Cond.laysFinal RX4 RX4 "sky" "[I", Cond.lays RX4 RX4 "fans" "I", Cond.laysFinal RX4 RX4 "fan" "[I"] := rfl
  rw [h]
  exact List.forall_mem_cons.mpr ⟨kw531, List.forall_mem_cons.mpr ⟨kw533, List.forall_mem_cons.mpr ⟨kw535, List.forall_mem_cons.mpr ⟨kw537, List.forall_mem_cons.mpr ⟨kw539, List.forall_mem_cons.mpr ⟨kw541, List.forall_mem_cons.mpr ⟨kw543, List.forall_mem_cons.mpr ⟨kw545, List.forall_mem_cons.mpr ⟨kw547, List.forall_mem_cons.mpr ⟨kw549, List.forall_mem_cons.mpr ⟨kw551, List.forall_mem_cons.mpr ⟨kw553, List.forall_mem_cons.mpr ⟨kw555, List.forall_mem_cons.mpr ⟨kw557, List.forall_mem_cons.mpr ⟨kw559, List.forall_mem_cons.mpr ⟨kw561, List.forall_mem_cons.mpr ⟨kw563, List.forall_mem_cons.mpr ⟨kw565, List.forall_mem_cons.mpr ⟨kw567, List.forall_mem_cons.mpr ⟨kw569, List.forall_mem_cons.mpr ⟨kw571, List.forall_mem_cons.mpr ⟨kw573, List.forall_mem_cons.mpr ⟨kw575, List.forall_mem_cons.mpr ⟨kw577, List.forall_mem_cons.mpr ⟨kw579, List.forall_mem_cons.mpr ⟨kw581, List.forall_mem_cons.mpr ⟨kw583, List.forall_mem_cons.mpr ⟨kw585, List.forall_mem_cons.mpr ⟨kw587, List.forall_mem_cons.mpr ⟨kw589, List.forall_mem_cons.mpr ⟨kw591, List.forall_mem_cons.mpr ⟨kw593, List.forall_mem_cons.mpr ⟨kw595, List.forall_mem_cons.mpr ⟨kw597, List.forall_mem_cons.mpr ⟨kw599, List.forall_mem_cons.mpr ⟨kw601, List.forall_mem_cons.mpr ⟨kw603, List.forall_mem_cons.mpr ⟨kw605, fun _ h => nomatch h⟩⟩⟩⟩⟩⟩⟩⟩⟩⟩⟩⟩⟩⟩⟩⟩⟩⟩⟩⟩⟩⟩⟩⟩⟩⟩⟩⟩⟩⟩⟩⟩⟩⟩⟩⟩⟩⟩
/-! the ground that every contract stands on: links inside the nest, casts, texts of exceptions -/
def sx_iae : String := "java/lang/IllegalArgumentException"
def sx_ise : String := "java/lang/IllegalStateException"
def gz (U : State) : Prop :=
  (∀ t ∈ nzF, va_Nw (.fieldLinkNest t.1 t.2.1 t.2.2.1 t.2.2.2.1 t.2.2.2.2.1 t.2.2.2.2.2) U) ∧
  (∀ t ∈ nzM, va_Nw (.methodLinkNest t.1 t.2.1 t.2.2.1 t.2.2.2) U) ∧
  (∀ t ∈ nzC, va_Nw (.castable t.1 t.2) U) ∧ (∀ t ∈ nzD, va_Nw (.declares t) U) ∧
  (∃ q, vk_R RX3 153 "out of bounds" q U) ∧ (∃ q, vk_R RX3 66 "there are 20 boxes" q U) ∧ (∃ q, vk_R RX3 156 "there was no ray" q U) ∧ (∃ q, vk_R RX3 139 "the fan has 40 directions" q U)
theorem gz_warm {s U : State} (hW : s.WarmedH U.vm) (h : gz s) : gz U := by
  obtain ⟨h1, h2, h3, h4, ⟨q5, h5⟩, ⟨q6, h6⟩, ⟨q7, h7⟩, ⟨q8, h8⟩⟩ := h
  exact ⟨fun t ht => va_Nw.warmF hW (h1 t ht), fun t ht => va_Nw.warmM hW (h2 t ht), fun t ht => va_Nw.warmC hW (h3 t ht),
    fun t ht => va_tabs rfl (rfl : (s.setVm U.vm).vm = U.vm) (by rw [Cond.declares_setVm hW.alike]; exact h4 t ht),
    ⟨q5, vk_R.warm hW h5⟩, ⟨q6, vk_R.warm hW h6⟩, ⟨q7, vk_R.warm hW h7⟩, ⟨q8, vk_R.warm hW h8⟩⟩
theorem gz_calling {U : State} (g : JFrame) (mk : MethodId) (a : Array Value) (h : gz U) : gz (U.calling g mk a) := gz_warm (U := U.calling g mk a) (State.WarmedH.refl U) h
theorem nzF_0 {U : State} (h : gz U) : va_Nw (.fieldLinkNest RX2 109 RX0 "lows" "[I" RX3) U := h.1 (RX2, 109, RX0, "lows", "[I", RX3) (List.mem_of_getElem? (i := 0) rfl)
theorem nzF_1 {U : State} (h : gz U) : va_Nw (.fieldLinkNest RX2 112 RX0 "highs" "[I" RX3) U := h.1 (RX2, 112, RX0, "highs", "[I", RX3) (List.mem_of_getElem? (i := 1) rfl)
theorem nzF_2 {U : State} (h : gz U) : va_Nw (.fieldLinkNest RX3 82 RX0 "kinds" "[I" RX3) U := h.1 (RX3, 82, RX0, "kinds", "[I", RX3) (List.mem_of_getElem? (i := 2) rfl)
theorem nzF_3 {U : State} (h : gz U) : va_Nw (.fieldLinkNest RX2 74 RX0 "kinds" "[I" RX3) U := h.1 (RX2, 74, RX0, "kinds", "[I", RX3) (List.mem_of_getElem? (i := 3) rfl)
theorem nzF_4 {U : State} (h : gz U) : va_Nw (.fieldLinkNest RX3 85 RX0 "shares" "[I" RX3) U := h.1 (RX3, 85, RX0, "shares", "[I", RX3) (List.mem_of_getElem? (i := 4) rfl)
theorem nzF_5 {U : State} (h : gz U) : va_Nw (.fieldLinkNest RX2 80 RX0 "shares" "[I" RX3) U := h.1 (RX2, 80, RX0, "shares", "[I", RX3) (List.mem_of_getElem? (i := 5) rfl)
theorem nzF_6 {U : State} (h : gz U) : va_Nw (.fieldLinkNest RX3 88 RX0 "offs" "[Z" RX3) U := h.1 (RX3, 88, RX0, "offs", "[Z", RX3) (List.mem_of_getElem? (i := 6) rfl)
theorem nzF_7 {U : State} (h : gz U) : va_Nw (.fieldLinkNest RX2 90 RX0 "offs" "[Z" RX3) U := h.1 (RX2, 90, RX0, "offs", "[Z", RX3) (List.mem_of_getElem? (i := 7) rfl)
theorem nzF_8 {U : State} (h : gz U) : va_Nw (.fieldLinkNest RX3 61 RX0 "count" "I" RX3) U := h.1 (RX3, 61, RX0, "count", "I", RX3) (List.mem_of_getElem? (i := 8) rfl)
theorem nzF_9 {U : State} (h : gz U) : va_Nw (.fieldLinkNest RX2 87 RX0 "count" "I" RX3) U := h.1 (RX2, 87, RX0, "count", "I", RX3) (List.mem_of_getElem? (i := 9) rfl)
theorem nzF_10 {U : State} (h : gz U) : va_Nw (.fieldLinkNest RX2 77 RX1 "box" "I" RX3) U := h.1 (RX2, 77, RX1, "box", "I", RX3) (List.mem_of_getElem? (i := 10) rfl)
theorem nzF_11 {U : State} (h : gz U) : va_Nw (.fieldLinkNest RX2 121 RX1 "axis" "I" RX3) U := h.1 (RX2, 121, RX1, "axis", "I", RX3) (List.mem_of_getElem? (i := 11) rfl)
theorem nzF_12 {U : State} (h : gz U) : va_Nw (.fieldLinkNest RX2 127 RX1 "above" "I" RX3) U := h.1 (RX2, 127, RX1, "above", "I", RX3) (List.mem_of_getElem? (i := 12) rfl)
theorem nzF_13 {U : State} (h : gz U) : va_Nw (.fieldLinkNest RX2 124 RX1 "below" "I" RX3) U := h.1 (RX2, 124, RX1, "below", "I", RX3) (List.mem_of_getElem? (i := 13) rfl)
theorem nzF_14 {U : State} (h : gz U) : va_Nw (.fieldLinkNest RX3 114 RX2 "direction" "[I" RX3) U := h.1 (RX3, 114, RX2, "direction", "[I", RX3) (List.mem_of_getElem? (i := 14) rfl)
theorem nzF_15 {U : State} (h : gz U) : va_Nw (.fieldLinkNest RX3 121 RX2 "hitBoxes" "[I" RX3) U := h.1 (RX3, 121, RX2, "hitBoxes", "[I", RX3) (List.mem_of_getElem? (i := 15) rfl)
theorem nzF_16 {U : State} (h : gz U) : va_Nw (.fieldLinkNest RX3 124 RX2 "hitAxes" "[I" RX3) U := h.1 (RX3, 124, RX2, "hitAxes", "[I", RX3) (List.mem_of_getElem? (i := 16) rfl)
theorem nzF_17 {U : State} (h : gz U) : va_Nw (.fieldLinkNest RX3 127 RX2 "hitAbove" "[I" RX3) U := h.1 (RX3, 127, RX2, "hitAbove", "[I", RX3) (List.mem_of_getElem? (i := 17) rfl)
theorem nzF_18 {U : State} (h : gz U) : va_Nw (.fieldLinkNest RX3 130 RX2 "hitBelow" "[I" RX3) U := h.1 (RX3, 130, RX2, "hitBelow", "[I", RX3) (List.mem_of_getElem? (i := 18) rfl)
theorem nzF_19 {U : State} (h : gz U) : va_Nw (.fieldLinkNest RX3 133 RX2 "hitSpots" "[I" RX3) U := h.1 (RX3, 133, RX2, "hitSpots", "[I", RX3) (List.mem_of_getElem? (i := 19) rfl)
theorem nzF_20 {U : State} (h : gz U) : va_Nw (.fieldLinkNest RX3 108 RX2 "hits" "I" RX3) U := h.1 (RX3, 108, RX2, "hits", "I", RX3) (List.mem_of_getElem? (i := 20) rfl)
theorem nzF_21 {U : State} (h : gz U) : va_Nw (.fieldLinkNest RX3 111 RX2 "light" "I" RX3) U := h.1 (RX3, 111, RX2, "light", "I", RX3) (List.mem_of_getElem? (i := 21) rfl)
theorem nzM_0 {U : State} (h : gz U) : va_Nw (.methodLinkNest RX3 24 yX0_init RX3) U := h.2.1 (RX3, 24, yX0_init, RX3) (List.mem_of_getElem? (i := 0) rfl)
theorem nzM_1 {U : State} (h : gz U) : va_Nw (.methodLinkNest RX3 41 yX2_init RX3) U := h.2.1 (RX3, 41, yX2_init, RX3) (List.mem_of_getElem? (i := 1) rfl)
theorem nzM_2 {U : State} (h : gz U) : va_Nw (.methodLinkNest RX2 38 yX1_init RX3) U := h.2.1 (RX2, 38, yX1_init, RX3) (List.mem_of_getElem? (i := 2) rfl)
theorem nzM_3 {U : State} (h : gz U) : va_Nw (.methodLinkNest RX3 71 yX0_add RX3) U := h.2.1 (RX3, 71, yX0_add, RX3) (List.mem_of_getElem? (i := 3) rfl)
theorem nzM_4 {U : State} (h : gz U) : va_Nw (.methodLinkNest RX3 95 yX2_begin RX3) U := h.2.1 (RX3, 95, yX2_begin, RX3) (List.mem_of_getElem? (i := 4) rfl)
theorem nzM_5 {U : State} (h : gz U) : va_Nw (.methodLinkNest RX2 57 yX1_set RX3) U := h.2.1 (RX2, 57, yX1_set, RX3) (List.mem_of_getElem? (i := 5) rfl)
theorem nzM_6 {U : State} (h : gz U) : va_Nw (.methodLinkNest RX3 98 yX2_aim RX3) U := h.2.1 (RX3, 98, yX2_aim, RX3) (List.mem_of_getElem? (i := 6) rfl)
theorem nzM_7 {U : State} (h : gz U) : va_Nw (.methodLinkNest RX3 101 yX2_follow RX3) U := h.2.1 (RX3, 101, yX2_follow, RX3) (List.mem_of_getElem? (i := 7) rfl)
theorem nzM_8 {U : State} (h : gz U) : va_Nw (.methodLinkNest RX2 61 yX0_anySolidRound RX3) U := h.2.1 (RX2, 61, yX0_anySolidRound, RX3) (List.mem_of_getElem? (i := 8) rfl)
theorem nzM_9 {U : State} (h : gz U) : va_Nw (.methodLinkNest RX2 101 yX1_compareTime RX3) U := h.2.1 (RX2, 101, yX1_compareTime, RX3) (List.mem_of_getElem? (i := 9) rfl)
theorem nzM_10 {U : State} (h : gz U) : va_Nw (.methodLinkNest RX2 105 yX1_copy RX3) U := h.2.1 (RX2, 105, yX1_copy, RX3) (List.mem_of_getElem? (i := 10) rfl)
theorem nzM_11 {U : State} (h : gz U) : va_Nw (.methodLinkNest RX2 142 yX3_commonDivisor RX3) U := h.2.1 (RX2, 142, yX3_commonDivisor, RX3) (List.mem_of_getElem? (i := 11) rfl)
theorem nzM_12 {U : State} (h : gz U) : va_Nw (.methodLinkNest RX3 117 yX2_hasHit RX3) U := h.2.1 (RX3, 117, yX2_hasHit, RX3) (List.mem_of_getElem? (i := 12) rfl)
theorem nzM_13 {U : State} (h : gz U) : va_Nw (.methodLinkNest RX3 147 yX2_octant RX3) U := h.2.1 (RX3, 147, yX2_octant, RX3) (List.mem_of_getElem? (i := 13) rfl)
/-- the start of a method that only reads -/
def pq (D : va_G) (av : List Value) (ws : va_W) (tys : List (ClassId × FieldType)) : Array Value → State → Prop := va_Pc av (fun U => va_P D vwCl ws U.heap ∧ va_K D vwCl tys U ∧ gz U)
/-- the start of a method that writes in its world -/
def wq (D : va_G) (av : List Value) (sz : Nat) (ws : va_W) (tys : List (ClassId × FieldType)) : Array Value → State → Prop := va_Pc av (fun U => U.heap.size = sz ∧ va_P D vwCl ws U.heap ∧ va_K D vwCl tys U ∧ va_D (fun _ => True) ws ∧ gz U)
/-- the world behind a method -/
def bq (D : va_G) (tys : List (ClassId × FieldType)) (A : Nat → Prop) (ws : va_W) (t : State) : Prop := va_P D vwCl ws t.heap ∧ va_K D vwCl tys t ∧ va_D A ws
section CTX
variable {D : va_G} {av : List Value} {sz : Nat} {ws : va_W} {tys : List (ClassId × FieldType)} {s : State} {H : Heap}
theorem pq_blind : FrameBlind (pq D av ws tys) := fun a U g mk q => by
  obtain ⟨q0, qP, qK, qZ⟩ := q
  exact ⟨q0, qP, va_K.moved (u := U) (U := U.calling g mk a) (Vm.Alike.refl U.vm) qK, gz_calling g mk a qZ⟩
theorem wq_blind : FrameBlind (wq D av sz ws tys) := fun a U g mk q => by
  obtain ⟨q0, q1, qP, qK, qD, qZ⟩ := q
  exact ⟨q0, q1, qP, va_K.moved (u := U) (U := U.calling g mk a) (Vm.Alike.refl U.vm) qK, qD, gz_calling g mk a qZ⟩
theorem pq_pre (hP : va_P D vwCl ws H) (hK : va_K D vwCl tys s) (hZ : gz s) : PreS s H (pq D av ws tys) av :=
  ⟨pq_blind, fun U hU hW => ⟨rfl, by rw [hU]; exact hP, va_K.moved hW.alike hK, gz_warm hW hZ⟩⟩
theorem wq_pre {A : Nat → Prop} (hP : va_P D vwCl ws H) (hK : va_K D vwCl tys s) (hD : va_D A ws) (hZ : gz s) : PreS s H (wq D av H.size ws tys) av :=
  ⟨wq_blind, fun U hU hW => ⟨rfl, by rw [hU], by rw [hU]; exact hP, va_K.moved hW.alike hK, hD.weaken (fun _ _ _ _ => trivial), gz_warm hW hZ⟩⟩
theorem pq_preV {C : String} {b : Addr} {As : List Value} (hP : va_P D vwCl ws H) (hK : va_K D vwCl tys s) (hZ : gz s) (hr : ∃ cell : Cell, H[b]? = some cell ∧ cell.vm.isStatics = false ∧ s.vm.findClass C = some cell.cls) : PreV s H C b (pq D (.ref b :: As) ws tys) As :=
  ⟨pq_blind, hr, (pq_pre hP hK hZ).2⟩
theorem wq_preV {A : Nat → Prop} {C : String} {b : Addr} {As : List Value} (hP : va_P D vwCl ws H) (hK : va_K D vwCl tys s) (hD : va_D A ws) (hZ : gz s) (hr : ∃ cell : Cell, H[b]? = some cell ∧ cell.vm.isStatics = false ∧ s.vm.findClass C = some cell.cls) : PreV s H C b (wq D (.ref b :: As) H.size ws tys) As :=
  ⟨wq_blind, hr, (wq_pre hP hK hD hZ).2⟩
theorem bq_end {A : Nat → Prop} {t : State} (hP : va_P D vwCl ws H) (hK : va_K D vwCl tys s) (hD : va_D A ws) (ht : t.heap = H) (hW : s.WarmedH t.vm) : bq D tys A ws t := ⟨by rw [ht]; exact hP, va_K.moved hW.alike hK, hD⟩
end CTX
section CALLS
variable {p : Program} {l : Launch} {e : Env} {R : Room} {s : State} {m : MethodId} {args : Array Value} {below : List Frame} {meth : Method} {c : Code} {H : Heap} {locs : List Loc} {cells slots : Nat} {Q : State → Prop} {pc : Nat} {ls : Array Slot} {st0 rest : List Value} {a : Array Value}
theorem tp_i {x y : Int32} (h : x = y) (k : W p l e R s m args below meth c H locs cells slots Q (F0 m pc ls (.int y :: rest))) : W p l e R s m args below meth c H locs cells slots Q (F0 m pc ls (.int x :: rest)) := by rw [h]; exact k
theorem tp_l {x y : Int64} (h : x = y) (k : W p l e R s m args below meth c H locs cells slots Q (F0 m pc ls (.long y :: rest))) : W p l e R s m args below meth c H locs cells slots Q (F0 m pc ls (.long x :: rest)) := by rw [h]; exact k
/-- a call of a method that only reads: an int back, the heap as it was -/
theorem rq_call {r : Int32} (hr : va_Run p l e R s m args below meth c H locs cells slots 0 0 (F0 m pc ls st0) rest (QcRead r a) (fun _ => False))
    (kk : W p l e R s m args below meth c H locs cells slots Q (F0 m (pc + 3) ls (.int r :: rest))) : W p l e R s m args below meth c H locs cells slots Q (F0 m pc ls st0) := by
  intro T hT X
  obtain ⟨v, st₀, t, T', L, h0, X', hL, e1, -, ⟨hv, hh⟩, st⟩ := hr T hT X
  cases hv
  obtain ⟨t2, a1, b1⟩ := kk T' (by rw [e1, hh, h0]) (Stand.forget X' (fun q h => (hL q h).elim))
  exact ⟨t2, st t2 a1, b1⟩
def QcReadL (r : Int64) : Array Value → State → Outcome → State → Prop := fun _ st o t => o = .returned (some (.long r)) ∧ t.heap = st.heap
theorem rq_callL {r : Int64} (hr : va_Run p l e R s m args below meth c H locs cells slots 0 0 (F0 m pc ls st0) rest (QcReadL r a) (fun _ => False))
    (kk : W p l e R s m args below meth c H locs cells slots Q (F0 m (pc + 3) ls (.long r :: rest))) : W p l e R s m args below meth c H locs cells slots Q (F0 m pc ls st0) := by
  intro T hT X
  obtain ⟨v, st₀, t, T', L, h0, X', hL, e1, -, ⟨hv, hh⟩, st⟩ := hr T hT X
  cases hv
  obtain ⟨t2, a1, b1⟩ := kk T' (by rw [e1, hh, h0]) (Stand.forget X' (fun q h => (hL q h).elim))
  exact ⟨t2, st t2 a1, b1⟩
/-- a check: comes back, the heap as it was, if C holds; throws E if not -/
def cx_Q (C : Prop) : Array Value → State → Outcome → State → Prop := fun _ st o t => C ∧ o = .returned none ∧ t.heap = st.heap
def cx_X (C : Prop) (E0 : String) : String → State → State → Prop := fun E st t => ¬ C ∧ E = E0 ∧ st.heap.size ≤ t.heap.size ∧ ∀ q : Nat, q < st.heap.size → t.heap[q]? = st.heap[q]?
theorem cx_call {C : Prop} {E0 : String} {mc ms : Nat} (hr : vx_Run p l e R s m args below meth c H locs cells slots mc ms (F0 m pc ls st0) rest (cx_Q C a) (cx_X C E0) (fun _ => False))
    (kx : ∀ (ce : Cell) (q9 : Addr) (H1 : Heap), ¬ C → H.size ≤ H1.size → (∀ q : Nat, q < H.size → H1[q]? = H[q]?) → H1[q9]? = some ce → ce.vm = .none → s.vm.findClass E0 = some ce.cls → vx_W p l e R s m args below meth c H1 locs (cells + mc) (slots + ms) Q (F0 m pc ls rest) q9)
    (kk : C → W p l e R s m args below meth c H locs (cells + mc) (slots + ms) Q (F0 m (pc + 3) ls rest)) : W p l e R s m args below meth c H locs cells slots Q (F0 m pc ls st0) := by
  intro T hT X
  rcases hr T hT X with ⟨v, st₀, t, T', L, h0, X', hL, e1, e2, ⟨hC, hv, hh⟩, st⟩ | ⟨q, st₀, t, T', L, E, ce, h0, X', hL, e1, e2, ⟨hC, rfl, hz, hk⟩, hce, hcv, hcl, st⟩
  · cases hv
    obtain ⟨t2, a1, b1⟩ := kk hC T' (by rw [e1, hh, h0]) (Stand.forget X' (fun q h => (hL q h).elim))
    exact ⟨t2, st t2 a1, b1⟩
  · rw [h0] at hz hk
    obtain ⟨t2, a1, b1⟩ := kx ce q T'.heap hC (by rw [e1]; exact hz) (fun q h => by rw [e1]; exact hk q h) (by rw [e1]; exact hce) hcv hcl T' rfl (Stand.forget X' (fun q h => (hL q h).elim))
    exact ⟨t2, st.trans a1, b1⟩
end CALLS
