/-! ===== the two worlds ===== -/
abbrev xT (cI cJ cZ : ClassId) : List (ClassId × FieldType) := [(cI, .int), (cJ, .long), (cZ, .boolean)]
def xW (a : Nat → Nat) (cI cJ cZ : ClassId) (v : Nat → Nat → Nat) (c : Nat → Nat → Int32) : va_W := [
  (a 0, .inr (6, [.ref (a 1), .ref (a 5), .ref (a 10), .ref (a 11), .ref (a 15), .ref (a 23), .ref (a 25), .int (c 0 7), .int (nI (v 0 8))])),
  (a 1, .inr (3, [.ref (a 2), .ref (a 3), .ref (a 4)])),
  (a 2, .inl (cI, 4, .inl (c 2))),
  (a 3, .inl (cI, 4, .inl (fun j => nI (v 3 j)))),
  (a 4, .inl (cI, 320, .inl (c 4))),
  (a 5, .inr (4, [.ref (a 6)])),
  (a 6, .inr (2, [.int (nI (v 6 0)), .int (nI (v 6 1)), .ref (a 7), .ref (a 8), .ref (a 9)])),
  (a 7, .inl (cI, 7, .inl (fun j => nI (v 7 j)))),
  (a 8, .inl (cI, 4, .inl (fun j => nI (v 8 j)))),
  (a 9, .inl (cI, 24, .inl (fun j => nI (v 9 j)))),
  (a 10, .inr (0, [.ref (a 11), .ref (a 15), .ref (a 18), .ref (a 19), .ref (a 20), .ref (a 21), .int (nI (v 10 6)), .ref (a 22)])),
  (a 11, .inr (2, [.int (nI (v 11 0)), .int (nI (v 11 1)), .ref (a 12), .ref (a 13), .ref (a 14)])),
  (a 12, .inl (cI, 7, .inl (fun j => nI (v 12 j)))),
  (a 13, .inl (cI, 4, .inl (fun j => nI (v 13 j)))),
  (a 14, .inl (cI, 24, .inl (fun j => nI (v 14 j)))),
  (a 15, .inr (5, [.int (nI (v 15 0)), .ref (a 16), .ref (a 17)])),
  (a 16, .inl (cI, 4, .inl (fun j => nI (v 16 j)))),
  (a 17, .inl (cI, 4, .inl (fun j => nI (v 17 j)))),
  (a 18, .inl (cI, 24, .inl (fun j => nI (v 18 j)))),
  (a 19, .inl (cI, 7, .inl (fun j => nI (v 19 j)))),
  (a 20, .inl (cI, 4, .inl (fun j => nI (v 20 j)))),
  (a 21, .inl (cZ, 4, .inl (fun j => nI (v 21 j)))),
  (a 22, .inl (cJ, 38, .inr (.inl (fun j => lN (v 22 j))))),
  (a 23, .inr (1, [.int (nI (v 23 0)), .ref (a 24)])),
  (a 24, .inl (cI, 6, .inl (fun j => nI (v 24 j)))),
  (a 25, .inl (cI, 80, .inl (c 25)))]
def mW (b : Nat → Nat) (cI cJ cZ : ClassId) (v : Nat → Nat → Nat) (c : Nat → Nat → Int32) : va_W := [
  (b 0, .inr (7, [.int (nI (v 0 0)), .int (c 1 0), .ref (b 2), .ref (b 3), .ref (b 4), .int (nI (v 5 0)), .int (nI (v 6 0)), .ref (b 7), .ref (b 8), .ref (b 9), .int (nI (v 10 0)), .int (c 11 0), .int (nI (v 12 0)), .ref (b 13), .ref (b 14), .ref (b 15), .int (nI (v 16 0)), .ref (b 17), .ref (b 18), .ref (b 19), .int (nI (v 20 0)), .ref (b 21), .int (nI (v 22 0)), .ref (b 23)])),
  (b 2, .inl (cI, 4, .inl (c 2))),
  (b 3, .inl (cI, 4, .inl (fun j => nI (v 3 j)))),
  (b 4, .inl (cI, 320, .inl (c 4))),
  (b 7, .inl (cI, 7, .inl (fun j => nI (v 7 j)))),
  (b 8, .inl (cI, 4, .inl (fun j => nI (v 8 j)))),
  (b 9, .inl (cI, 24, .inl (fun j => nI (v 9 j)))),
  (b 13, .inl (cI, 7, .inl (c 13))),
  (b 14, .inl (cI, 4, .inl (fun j => nI (v 14 j)))),
  (b 15, .inl (cI, 24, .inl (fun j => nI (v 15 j)))),
  (b 17, .inl (cI, 4, .inl (fun j => nI (v 17 j)))),
  (b 18, .inl (cI, 4, .inl (fun j => nI (v 18 j)))),
  (b 19, .inl (cI, 24, .inl (fun j => nI (v 19 j)))),
  (b 21, .inl (cZ, 2401, .inl (fun j => nI (v 21 j)))),
  (b 23, .inl (cI, 6, .inl (fun j => nI (v 23 j))))]
theorem hdJ6_bitCount_0f7a4 : yJ6_bitCount_0f7a4.cls ≠ "java/lang/invoke/MethodHandle" ∧ yJ6_bitCount_0f7a4.cls ≠ "java/lang/invoke/VarHandle" ∧ (parseMethodDescriptor yJ6_bitCount_0f7a4.desc).map (fun d => d.parameters.length) = some 1 := by decide +kernel
theorem hdJ7_fill_53178 : yJ7_fill_53178.cls ≠ "java/lang/invoke/MethodHandle" ∧ yJ7_fill_53178.cls ≠ "java/lang/invoke/VarHandle" ∧ (parseMethodDescriptor yJ7_fill_53178.desc).map (fun d => d.parameters.length) = some 2 := by decide +kernel
theorem hdJ7_fill_d0a16 : yJ7_fill_d0a16.cls ≠ "java/lang/invoke/MethodHandle" ∧ yJ7_fill_d0a16.cls ≠ "java/lang/invoke/VarHandle" ∧ (parseMethodDescriptor yJ7_fill_d0a16.desc).map (fun d => d.parameters.length) = some 2 := by decide +kernel
theorem hdJ7_fill_fda19 : yJ7_fill_fda19.cls ≠ "java/lang/invoke/MethodHandle" ∧ yJ7_fill_fda19.cls ≠ "java/lang/invoke/VarHandle" ∧ (parseMethodDescriptor yJ7_fill_fda19.desc).map (fun d => d.parameters.length) = some 4 := by decide +kernel
theorem hdJ7_rangeCheck_23922 : yJ7_rangeCheck_23922.cls ≠ "java/lang/invoke/MethodHandle" ∧ yJ7_rangeCheck_23922.cls ≠ "java/lang/invoke/VarHandle" ∧ (parseMethodDescriptor yJ7_rangeCheck_23922.desc).map (fun d => d.parameters.length) = some 3 := by decide +kernel
theorem hdJ9_max_7cf53 : yJ9_max_7cf53.cls ≠ "java/lang/invoke/MethodHandle" ∧ yJ9_max_7cf53.cls ≠ "java/lang/invoke/VarHandle" ∧ (parseMethodDescriptor yJ9_max_7cf53.desc).map (fun d => d.parameters.length) = some 2 := by decide +kernel
theorem hdJ9_min_7cf53 : yJ9_min_7cf53.cls ≠ "java/lang/invoke/MethodHandle" ∧ yJ9_min_7cf53.cls ≠ "java/lang/invoke/VarHandle" ∧ (parseMethodDescriptor yJ9_min_7cf53.desc).map (fun d => d.parameters.length) = some 2 := by decide +kernel
theorem hdX0_callUp : yX0_callUp.cls ≠ "java/lang/invoke/MethodHandle" ∧ yX0_callUp.cls ≠ "java/lang/invoke/VarHandle" ∧ (parseMethodDescriptor yX0_callUp.desc).map (fun d => d.parameters.length) = some 1 := by decide +kernel
theorem hdX0_countRows : yX0_countRows.cls ≠ "java/lang/invoke/MethodHandle" ∧ yX0_countRows.cls ≠ "java/lang/invoke/VarHandle" ∧ (parseMethodDescriptor yX0_countRows.desc).map (fun d => d.parameters.length) = some 2 := by decide +kernel
theorem hdX0_doorOpened : yX0_doorOpened.cls ≠ "java/lang/invoke/MethodHandle" ∧ yX0_doorOpened.cls ≠ "java/lang/invoke/VarHandle" ∧ (parseMethodDescriptor yX0_doorOpened.desc).map (fun d => d.parameters.length) = some 1 := by decide +kernel
theorem hdX0_feltIn : yX0_feltIn.cls ≠ "java/lang/invoke/MethodHandle" ∧ yX0_feltIn.cls ≠ "java/lang/invoke/VarHandle" ∧ (parseMethodDescriptor yX0_feltIn.desc).map (fun d => d.parameters.length) = some 1 := by decide +kernel
theorem hdX0_findPlan : yX0_findPlan.cls ≠ "java/lang/invoke/MethodHandle" ∧ yX0_findPlan.cls ≠ "java/lang/invoke/VarHandle" ∧ (parseMethodDescriptor yX0_findPlan.desc).map (fun d => d.parameters.length) = some 2 := by decide +kernel
theorem hdX0_firstWrong : yX0_firstWrong.cls ≠ "java/lang/invoke/MethodHandle" ∧ yX0_firstWrong.cls ≠ "java/lang/invoke/VarHandle" ∧ (parseMethodDescriptor yX0_firstWrong.desc).map (fun d => d.parameters.length) = some 1 := by decide +kernel
theorem hdX0_isBound : yX0_isBound.cls ≠ "java/lang/invoke/MethodHandle" ∧ yX0_isBound.cls ≠ "java/lang/invoke/VarHandle" ∧ (parseMethodDescriptor yX0_isBound.desc).map (fun d => d.parameters.length) = some 2 := by decide +kernel
theorem hdX0_isOpen : yX0_isOpen.cls ≠ "java/lang/invoke/MethodHandle" ∧ yX0_isOpen.cls ≠ "java/lang/invoke/VarHandle" ∧ (parseMethodDescriptor yX0_isOpen.desc).map (fun d => d.parameters.length) = some 3 := by decide +kernel
theorem hdX0_learn : yX0_learn.cls ≠ "java/lang/invoke/MethodHandle" ∧ yX0_learn.cls ≠ "java/lang/invoke/VarHandle" ∧ (parseMethodDescriptor yX0_learn.desc).map (fun d => d.parameters.length) = some 2 := by decide +kernel
theorem hdX0_limpersRow : yX0_limpersRow.cls ≠ "java/lang/invoke/MethodHandle" ∧ yX0_limpersRow.cls ≠ "java/lang/invoke/VarHandle" ∧ (parseMethodDescriptor yX0_limpersRow.desc).map (fun d => d.parameters.length) = some 1 := by decide +kernel
theorem hdX0_load : yX0_load.cls ≠ "java/lang/invoke/MethodHandle" ∧ yX0_load.cls ≠ "java/lang/invoke/VarHandle" ∧ (parseMethodDescriptor yX0_load.desc).map (fun d => d.parameters.length) = some 2 := by decide +kernel
theorem hdX0_missingOn : yX0_missingOn.cls ≠ "java/lang/invoke/MethodHandle" ∧ yX0_missingOn.cls ≠ "java/lang/invoke/VarHandle" ∧ (parseMethodDescriptor yX0_missingOn.desc).map (fun d => d.parameters.length) = some 1 := by decide +kernel
theorem hdX0_place : yX0_place.cls ≠ "java/lang/invoke/MethodHandle" ∧ yX0_place.cls ≠ "java/lang/invoke/VarHandle" ∧ (parseMethodDescriptor yX0_place.desc).map (fun d => d.parameters.length) = some 3 := by decide +kernel
theorem hdX0_placeBehind : yX0_placeBehind.cls ≠ "java/lang/invoke/MethodHandle" ∧ yX0_placeBehind.cls ≠ "java/lang/invoke/VarHandle" ∧ (parseMethodDescriptor yX0_placeBehind.desc).map (fun d => d.parameters.length) = some 2 := by decide +kernel
theorem hdX0_pullOf : yX0_pullOf.cls ≠ "java/lang/invoke/MethodHandle" ∧ yX0_pullOf.cls ≠ "java/lang/invoke/VarHandle" ∧ (parseMethodDescriptor yX0_pullOf.desc).map (fun d => d.parameters.length) = some 1 := by decide +kernel
theorem hdX0_rowsFor : yX0_rowsFor.cls ≠ "java/lang/invoke/MethodHandle" ∧ yX0_rowsFor.cls ≠ "java/lang/invoke/VarHandle" ∧ (parseMethodDescriptor yX0_rowsFor.desc).map (fun d => d.parameters.length) = some 1 := by decide +kernel
theorem hdX0_step : yX0_step.cls ≠ "java/lang/invoke/MethodHandle" ∧ yX0_step.cls ≠ "java/lang/invoke/VarHandle" ∧ (parseMethodDescriptor yX0_step.desc).map (fun d => d.parameters.length) = some 3 := by decide +kernel
theorem hdX0_stepOf : yX0_stepOf.cls ≠ "java/lang/invoke/MethodHandle" ∧ yX0_stepOf.cls ≠ "java/lang/invoke/VarHandle" ∧ (parseMethodDescriptor yX0_stepOf.desc).map (fun d => d.parameters.length) = some 2 := by decide +kernel
theorem hdX0_weightToCome : yX0_weightToCome.cls ≠ "java/lang/invoke/MethodHandle" ∧ yX0_weightToCome.cls ≠ "java/lang/invoke/VarHandle" ∧ (parseMethodDescriptor yX0_weightToCome.desc).map (fun d => d.parameters.length) = some 2 := by decide +kernel
theorem hdX1_add : yX1_add.cls ≠ "java/lang/invoke/MethodHandle" ∧ yX1_add.cls ≠ "java/lang/invoke/VarHandle" ∧ (parseMethodDescriptor yX1_add.desc).map (fun d => d.parameters.length) = some 1 := by decide +kernel
theorem hdX1_all : yX1_all.cls ≠ "java/lang/invoke/MethodHandle" ∧ yX1_all.cls ≠ "java/lang/invoke/VarHandle" ∧ (parseMethodDescriptor yX1_all.desc).map (fun d => d.parameters.length) = some 0 := by decide +kernel
theorem hdX1_barsOf : yX1_barsOf.cls ≠ "java/lang/invoke/MethodHandle" ∧ yX1_barsOf.cls ≠ "java/lang/invoke/VarHandle" ∧ (parseMethodDescriptor yX1_barsOf.desc).map (fun d => d.parameters.length) = some 1 := by decide +kernel
theorem hdX1_ignorantOf : yX1_ignorantOf.cls ≠ "java/lang/invoke/MethodHandle" ∧ yX1_ignorantOf.cls ≠ "java/lang/invoke/VarHandle" ∧ (parseMethodDescriptor yX1_ignorantOf.desc).map (fun d => d.parameters.length) = some 1 := by decide +kernel
theorem hdX1_includes : yX1_includes.cls ≠ "java/lang/invoke/MethodHandle" ∧ yX1_includes.cls ≠ "java/lang/invoke/VarHandle" ∧ (parseMethodDescriptor yX1_includes.desc).map (fun d => d.parameters.length) = some 1 := by decide +kernel
theorem hdX1_isFull : yX1_isFull.cls ≠ "java/lang/invoke/MethodHandle" ∧ yX1_isFull.cls ≠ "java/lang/invoke/VarHandle" ∧ (parseMethodDescriptor yX1_isFull.desc).map (fun d => d.parameters.length) = some 0 := by decide +kernel
theorem hdX1_knownTogether : yX1_knownTogether.cls ≠ "java/lang/invoke/MethodHandle" ∧ yX1_knownTogether.cls ≠ "java/lang/invoke/VarHandle" ∧ (parseMethodDescriptor yX1_knownTogether.desc).map (fun d => d.parameters.length) = some 1 := by decide +kernel
theorem hdX1_leastSetThatKnows : yX1_leastSetThatKnows.cls ≠ "java/lang/invoke/MethodHandle" ∧ yX1_leastSetThatKnows.cls ≠ "java/lang/invoke/VarHandle" ∧ (parseMethodDescriptor yX1_leastSetThatKnows.desc).map (fun d => d.parameters.length) = some 1 := by decide +kernel
theorem hdX1_mostToLearn : yX1_mostToLearn.cls ≠ "java/lang/invoke/MethodHandle" ∧ yX1_mostToLearn.cls ≠ "java/lang/invoke/VarHandle" ∧ (parseMethodDescriptor yX1_mostToLearn.desc).map (fun d => d.parameters.length) = some 1 := by decide +kernel
theorem hdX1_numberThatMustKnow : yX1_numberThatMustKnow.cls ≠ "java/lang/invoke/MethodHandle" ∧ yX1_numberThatMustKnow.cls ≠ "java/lang/invoke/VarHandle" ∧ (parseMethodDescriptor yX1_numberThatMustKnow.desc).map (fun d => d.parameters.length) = some 1 := by decide +kernel
theorem hdX2_addBeat : yX2_addBeat.cls ≠ "java/lang/invoke/MethodHandle" ∧ yX2_addBeat.cls ≠ "java/lang/invoke/VarHandle" ∧ (parseMethodDescriptor yX2_addBeat.desc).map (fun d => d.parameters.length) = some 0 := by decide +kernel
theorem hdX2_addBoard : yX2_addBoard.cls ≠ "java/lang/invoke/MethodHandle" ∧ yX2_addBoard.cls ≠ "java/lang/invoke/VarHandle" ∧ (parseMethodDescriptor yX2_addBoard.desc).map (fun d => d.parameters.length) = some 1 := by decide +kernel
theorem hdX2_addDoor : yX2_addDoor.cls ≠ "java/lang/invoke/MethodHandle" ∧ yX2_addDoor.cls ≠ "java/lang/invoke/VarHandle" ∧ (parseMethodDescriptor yX2_addDoor.desc).map (fun d => d.parameters.length) = some 0 := by decide +kernel
theorem hdX2_addRising : yX2_addRising.cls ≠ "java/lang/invoke/MethodHandle" ∧ yX2_addRising.cls ≠ "java/lang/invoke/VarHandle" ∧ (parseMethodDescriptor yX2_addRising.desc).map (fun d => d.parameters.length) = some 1 := by decide +kernel
theorem hdX2_agrees : yX2_agrees.cls ≠ "java/lang/invoke/MethodHandle" ∧ yX2_agrees.cls ≠ "java/lang/invoke/VarHandle" ∧ (parseMethodDescriptor yX2_agrees.desc).map (fun d => d.parameters.length) = some 5 := by decide +kernel
theorem hdX2_allBars : yX2_allBars.cls ≠ "java/lang/invoke/MethodHandle" ∧ yX2_allBars.cls ≠ "java/lang/invoke/VarHandle" ∧ (parseMethodDescriptor yX2_allBars.desc).map (fun d => d.parameters.length) = some 0 := by decide +kernel
theorem hdX2_allBoards : yX2_allBoards.cls ≠ "java/lang/invoke/MethodHandle" ∧ yX2_allBoards.cls ≠ "java/lang/invoke/VarHandle" ∧ (parseMethodDescriptor yX2_allBoards.desc).map (fun d => d.parameters.length) = some 0 := by decide +kernel
theorem hdX2_barsOfDoor : yX2_barsOfDoor.cls ≠ "java/lang/invoke/MethodHandle" ∧ yX2_barsOfDoor.cls ≠ "java/lang/invoke/VarHandle" ∧ (parseMethodDescriptor yX2_barsOfDoor.desc).map (fun d => d.parameters.length) = some 1 := by decide +kernel
theorem hdX2_beatsOf : yX2_beatsOf.cls ≠ "java/lang/invoke/MethodHandle" ∧ yX2_beatsOf.cls ≠ "java/lang/invoke/VarHandle" ∧ (parseMethodDescriptor yX2_beatsOf.desc).map (fun d => d.parameters.length) = some 1 := by decide +kernel
theorem hdX2_beatsOfBars : yX2_beatsOfBars.cls ≠ "java/lang/invoke/MethodHandle" ∧ yX2_beatsOfBars.cls ≠ "java/lang/invoke/VarHandle" ∧ (parseMethodDescriptor yX2_beatsOfBars.desc).map (fun d => d.parameters.length) = some 2 := by decide +kernel
theorem hdX2_beatsUnlike : yX2_beatsUnlike.cls ≠ "java/lang/invoke/MethodHandle" ∧ yX2_beatsUnlike.cls ≠ "java/lang/invoke/VarHandle" ∧ (parseMethodDescriptor yX2_beatsUnlike.desc).map (fun d => d.parameters.length) = some 2 := by decide +kernel
theorem hdX2_becomeLike : yX2_becomeLike.cls ≠ "java/lang/invoke/MethodHandle" ∧ yX2_becomeLike.cls ≠ "java/lang/invoke/VarHandle" ∧ (parseMethodDescriptor yX2_becomeLike.desc).map (fun d => d.parameters.length) = some 1 := by decide +kernel
theorem hdX2_begins : yX2_begins.cls ≠ "java/lang/invoke/MethodHandle" ∧ yX2_begins.cls ≠ "java/lang/invoke/VarHandle" ∧ (parseMethodDescriptor yX2_begins.desc).map (fun d => d.parameters.length) = some 2 := by decide +kernel
theorem hdX2_clear : yX2_clear.cls ≠ "java/lang/invoke/MethodHandle" ∧ yX2_clear.cls ≠ "java/lang/invoke/VarHandle" ∧ (parseMethodDescriptor yX2_clear.desc).map (fun d => d.parameters.length) = some 0 := by decide +kernel
theorem hdX2_doorsSeen : yX2_doorsSeen.cls ≠ "java/lang/invoke/MethodHandle" ∧ yX2_doorsSeen.cls ≠ "java/lang/invoke/VarHandle" ∧ (parseMethodDescriptor yX2_doorsSeen.desc).map (fun d => d.parameters.length) = some 3 := by decide +kernel
theorem hdX2_doorsWithPart : yX2_doorsWithPart.cls ≠ "java/lang/invoke/MethodHandle" ∧ yX2_doorsWithPart.cls ≠ "java/lang/invoke/VarHandle" ∧ (parseMethodDescriptor yX2_doorsWithPart.desc).map (fun d => d.parameters.length) = some 2 := by decide +kernel
theorem hdX2_exchange : yX2_exchange.cls ≠ "java/lang/invoke/MethodHandle" ∧ yX2_exchange.cls ≠ "java/lang/invoke/VarHandle" ∧ (parseMethodDescriptor yX2_exchange.desc).map (fun d => d.parameters.length) = some 3 := by decide +kernel
theorem hdX2_figureAt : yX2_figureAt.cls ≠ "java/lang/invoke/MethodHandle" ∧ yX2_figureAt.cls ≠ "java/lang/invoke/VarHandle" ∧ (parseMethodDescriptor yX2_figureAt.desc).map (fun d => d.parameters.length) = some 2 := by decide +kernel
theorem hdX2_hasBeat : yX2_hasBeat.cls ≠ "java/lang/invoke/MethodHandle" ∧ yX2_hasBeat.cls ≠ "java/lang/invoke/VarHandle" ∧ (parseMethodDescriptor yX2_hasBeat.desc).map (fun d => d.parameters.length) = some 2 := by decide +kernel
theorem hdX2_hasBoard : yX2_hasBoard.cls ≠ "java/lang/invoke/MethodHandle" ∧ yX2_hasBoard.cls ≠ "java/lang/invoke/VarHandle" ∧ (parseMethodDescriptor yX2_hasBoard.desc).map (fun d => d.parameters.length) = some 1 := by decide +kernel
theorem hdX2_hasDoor : yX2_hasDoor.cls ≠ "java/lang/invoke/MethodHandle" ∧ yX2_hasDoor.cls ≠ "java/lang/invoke/VarHandle" ∧ (parseMethodDescriptor yX2_hasDoor.desc).map (fun d => d.parameters.length) = some 1 := by decide +kernel
theorem hdX2_leastUnlike : yX2_leastUnlike.cls ≠ "java/lang/invoke/MethodHandle" ∧ yX2_leastUnlike.cls ≠ "java/lang/invoke/VarHandle" ∧ (parseMethodDescriptor yX2_leastUnlike.desc).map (fun d => d.parameters.length) = some 1 := by decide +kernel
theorem hdX2_someDoorBeginsAnother : yX2_someDoorBeginsAnother.cls ≠ "java/lang/invoke/MethodHandle" ∧ yX2_someDoorBeginsAnother.cls ≠ "java/lang/invoke/VarHandle" ∧ (parseMethodDescriptor yX2_someDoorBeginsAnother.desc).map (fun d => d.parameters.length) = some 0 := by decide +kernel
theorem hdX2_stands : yX2_stands.cls ≠ "java/lang/invoke/MethodHandle" ∧ yX2_stands.cls ≠ "java/lang/invoke/VarHandle" ∧ (parseMethodDescriptor yX2_stands.desc).map (fun d => d.parameters.length) = some 0 := by decide +kernel
theorem hdX3_cut : yX3_cut.cls ≠ "java/lang/invoke/MethodHandle" ∧ yX3_cut.cls ≠ "java/lang/invoke/VarHandle" ∧ (parseMethodDescriptor yX3_cut.desc).map (fun d => d.parameters.length) = some 2 := by decide +kernel
theorem hdX3_drop : yX3_drop.cls ≠ "java/lang/invoke/MethodHandle" ∧ yX3_drop.cls ≠ "java/lang/invoke/VarHandle" ∧ (parseMethodDescriptor yX3_drop.desc).map (fun d => d.parameters.length) = some 1 := by decide +kernel
theorem hdX3_faultOfCells : yX3_faultOfCells.cls ≠ "java/lang/invoke/MethodHandle" ∧ yX3_faultOfCells.cls ≠ "java/lang/invoke/VarHandle" ∧ (parseMethodDescriptor yX3_faultOfCells.desc).map (fun d => d.parameters.length) = some 4 := by decide +kernel
theorem hdX3_faultOfMove : yX3_faultOfMove.cls ≠ "java/lang/invoke/MethodHandle" ∧ yX3_faultOfMove.cls ≠ "java/lang/invoke/VarHandle" ∧ (parseMethodDescriptor yX3_faultOfMove.desc).map (fun d => d.parameters.length) = some 5 := by decide +kernel
theorem hdX3_hasCells : yX3_hasCells.cls ≠ "java/lang/invoke/MethodHandle" ∧ yX3_hasCells.cls ≠ "java/lang/invoke/VarHandle" ∧ (parseMethodDescriptor yX3_hasCells.desc).map (fun d => d.parameters.length) = some 3 := by decide +kernel
theorem hdX3_includes : yX3_includes.cls ≠ "java/lang/invoke/MethodHandle" ∧ yX3_includes.cls ≠ "java/lang/invoke/VarHandle" ∧ (parseMethodDescriptor yX3_includes.desc).map (fun d => d.parameters.length) = some 1 := by decide +kernel
theorem hdX3_isNothing : yX3_isNothing.cls ≠ "java/lang/invoke/MethodHandle" ∧ yX3_isNothing.cls ≠ "java/lang/invoke/VarHandle" ∧ (parseMethodDescriptor yX3_isNothing.desc).map (fun d => d.parameters.length) = some 1 := by decide +kernel
theorem hdX3_lengthOf : yX3_lengthOf.cls ≠ "java/lang/invoke/MethodHandle" ∧ yX3_lengthOf.cls ≠ "java/lang/invoke/VarHandle" ∧ (parseMethodDescriptor yX3_lengthOf.desc).map (fun d => d.parameters.length) = some 1 := by decide +kernel
theorem hdX3_move : yX3_move.cls ≠ "java/lang/invoke/MethodHandle" ∧ yX3_move.cls ≠ "java/lang/invoke/VarHandle" ∧ (parseMethodDescriptor yX3_move.desc).map (fun d => d.parameters.length) = some 5 := by decide +kernel
theorem hdX3_readInto : yX3_readInto.cls ≠ "java/lang/invoke/MethodHandle" ∧ yX3_readInto.cls ≠ "java/lang/invoke/VarHandle" ∧ (parseMethodDescriptor yX3_readInto.desc).map (fun d => d.parameters.length) = some 4 := by decide +kernel
theorem hdX3_renew : yX3_renew.cls ≠ "java/lang/invoke/MethodHandle" ∧ yX3_renew.cls ≠ "java/lang/invoke/VarHandle" ∧ (parseMethodDescriptor yX3_renew.desc).map (fun d => d.parameters.length) = some 3 := by decide +kernel
theorem hdX3_sortOf : yX3_sortOf.cls ≠ "java/lang/invoke/MethodHandle" ∧ yX3_sortOf.cls ≠ "java/lang/invoke/VarHandle" ∧ (parseMethodDescriptor yX3_sortOf.desc).map (fun d => d.parameters.length) = some 1 := by decide +kernel
theorem hdX3_write : yX3_write.cls ≠ "java/lang/invoke/MethodHandle" ∧ yX3_write.cls ≠ "java/lang/invoke/VarHandle" ∧ (parseMethodDescriptor yX3_write.desc).map (fun d => d.parameters.length) = some 3 := by decide +kernel
theorem hdX4_firstFault : yX4_firstFault.cls ≠ "java/lang/invoke/MethodHandle" ∧ yX4_firstFault.cls ≠ "java/lang/invoke/VarHandle" ∧ (parseMethodDescriptor yX4_firstFault.desc).map (fun d => d.parameters.length) = some 2 := by decide +kernel
theorem hdX4_firstFaultOfDoors : yX4_firstFaultOfDoors.cls ≠ "java/lang/invoke/MethodHandle" ∧ yX4_firstFaultOfDoors.cls ≠ "java/lang/invoke/VarHandle" ∧ (parseMethodDescriptor yX4_firstFaultOfDoors.desc).map (fun d => d.parameters.length) = some 3 := by decide +kernel
theorem hdX4_goesOn : yX4_goesOn.cls ≠ "java/lang/invoke/MethodHandle" ∧ yX4_goesOn.cls ≠ "java/lang/invoke/VarHandle" ∧ (parseMethodDescriptor yX4_goesOn.desc).map (fun d => d.parameters.length) = some 1 := by decide +kernel
theorem hdX5_includes : yX5_includes.cls ≠ "java/lang/invoke/MethodHandle" ∧ yX5_includes.cls ≠ "java/lang/invoke/VarHandle" ∧ (parseMethodDescriptor yX5_includes.desc).map (fun d => d.parameters.length) = some 1 := by decide +kernel
theorem hdX5_isFull : yX5_isFull.cls ≠ "java/lang/invoke/MethodHandle" ∧ yX5_isFull.cls ≠ "java/lang/invoke/VarHandle" ∧ (parseMethodDescriptor yX5_isFull.desc).map (fun d => d.parameters.length) = some 0 := by decide +kernel
theorem hdX5_isOfKind : yX5_isOfKind.cls ≠ "java/lang/invoke/MethodHandle" ∧ yX5_isOfKind.cls ≠ "java/lang/invoke/VarHandle" ∧ (parseMethodDescriptor yX5_isOfKind.desc).map (fun d => d.parameters.length) = some 2 := by decide +kernel
theorem hdX5_join : yX5_join.cls ≠ "java/lang/invoke/MethodHandle" ∧ yX5_join.cls ≠ "java/lang/invoke/VarHandle" ∧ (parseMethodDescriptor yX5_join.desc).map (fun d => d.parameters.length) = some 2 := by decide +kernel
theorem hdX5_kindOf : yX5_kindOf.cls ≠ "java/lang/invoke/MethodHandle" ∧ yX5_kindOf.cls ≠ "java/lang/invoke/VarHandle" ∧ (parseMethodDescriptor yX5_kindOf.desc).map (fun d => d.parameters.length) = some 1 := by decide +kernel
theorem hdX5_pull : yX5_pull.cls ≠ "java/lang/invoke/MethodHandle" ∧ yX5_pull.cls ≠ "java/lang/invoke/VarHandle" ∧ (parseMethodDescriptor yX5_pull.desc).map (fun d => d.parameters.length) = some 2 := by decide +kernel
theorem hdX5_weightOf : yX5_weightOf.cls ≠ "java/lang/invoke/MethodHandle" ∧ yX5_weightOf.cls ≠ "java/lang/invoke/VarHandle" ∧ (parseMethodDescriptor yX5_weightOf.desc).map (fun d => d.parameters.length) = some 1 := by decide +kernel
theorem hdX6_any : yX6_any.cls ≠ "java/lang/invoke/MethodHandle" ∧ yX6_any.cls ≠ "java/lang/invoke/VarHandle" ∧ (parseMethodDescriptor yX6_any.desc).map (fun d => d.parameters.length) = some 1 := by decide +kernel
theorem hdX6_apart : yX6_apart.cls ≠ "java/lang/invoke/MethodHandle" ∧ yX6_apart.cls ≠ "java/lang/invoke/VarHandle" ∧ (parseMethodDescriptor yX6_apart.desc).map (fun d => d.parameters.length) = some 2 := by decide +kernel
theorem hdX6_as : yX6_as.cls ≠ "java/lang/invoke/MethodHandle" ∧ yX6_as.cls ≠ "java/lang/invoke/VarHandle" ∧ (parseMethodDescriptor yX6_as.desc).map (fun d => d.parameters.length) = some 2 := by decide +kernel
theorem hdX6_beat : yX6_beat.cls ≠ "java/lang/invoke/MethodHandle" ∧ yX6_beat.cls ≠ "java/lang/invoke/VarHandle" ∧ (parseMethodDescriptor yX6_beat.desc).map (fun d => d.parameters.length) = some 2 := by decide +kernel
theorem hdX6_board : yX6_board.cls ≠ "java/lang/invoke/MethodHandle" ∧ yX6_board.cls ≠ "java/lang/invoke/VarHandle" ∧ (parseMethodDescriptor yX6_board.desc).map (fun d => d.parameters.length) = some 1 := by decide +kernel
theorem hdX6_can : yX6_can.cls ≠ "java/lang/invoke/MethodHandle" ∧ yX6_can.cls ≠ "java/lang/invoke/VarHandle" ∧ (parseMethodDescriptor yX6_can.desc).map (fun d => d.parameters.length) = some 1 := by decide +kernel
theorem hdX6_cell : yX6_cell.cls ≠ "java/lang/invoke/MethodHandle" ∧ yX6_cell.cls ≠ "java/lang/invoke/VarHandle" ∧ (parseMethodDescriptor yX6_cell.desc).map (fun d => d.parameters.length) = some 3 := by decide +kernel
theorem hdX6_change : yX6_change.cls ≠ "java/lang/invoke/MethodHandle" ∧ yX6_change.cls ≠ "java/lang/invoke/VarHandle" ∧ (parseMethodDescriptor yX6_change.desc).map (fun d => d.parameters.length) = some 3 := by decide +kernel
theorem hdX6_copy : yX6_copy.cls ≠ "java/lang/invoke/MethodHandle" ∧ yX6_copy.cls ≠ "java/lang/invoke/VarHandle" ∧ (parseMethodDescriptor yX6_copy.desc).map (fun d => d.parameters.length) = some 5 := by decide +kernel
theorem hdX6_dancer : yX6_dancer.cls ≠ "java/lang/invoke/MethodHandle" ∧ yX6_dancer.cls ≠ "java/lang/invoke/VarHandle" ∧ (parseMethodDescriptor yX6_dancer.desc).map (fun d => d.parameters.length) = some 2 := by decide +kernel
theorem hdX6_evenings : yX6_evenings.cls ≠ "java/lang/invoke/MethodHandle" ∧ yX6_evenings.cls ≠ "java/lang/invoke/VarHandle" ∧ (parseMethodDescriptor yX6_evenings.desc).map (fun d => d.parameters.length) = some 1 := by decide +kernel
theorem hdX6_family : yX6_family.cls ≠ "java/lang/invoke/MethodHandle" ∧ yX6_family.cls ≠ "java/lang/invoke/VarHandle" ∧ (parseMethodDescriptor yX6_family.desc).map (fun d => d.parameters.length) = some 1 := by decide +kernel
theorem hdX6_fault : yX6_fault.cls ≠ "java/lang/invoke/MethodHandle" ∧ yX6_fault.cls ≠ "java/lang/invoke/VarHandle" ∧ (parseMethodDescriptor yX6_fault.desc).map (fun d => d.parameters.length) = some 0 := by decide +kernel
theorem hdX6_faulted : yX6_faulted.cls ≠ "java/lang/invoke/MethodHandle" ∧ yX6_faulted.cls ≠ "java/lang/invoke/VarHandle" ∧ (parseMethodDescriptor yX6_faulted.desc).map (fun d => d.parameters.length) = some 1 := by decide +kernel
theorem hdX6_felt : yX6_felt.cls ≠ "java/lang/invoke/MethodHandle" ∧ yX6_felt.cls ≠ "java/lang/invoke/VarHandle" ∧ (parseMethodDescriptor yX6_felt.desc).map (fun d => d.parameters.length) = some 5 := by decide +kernel
theorem hdX6_fewest : yX6_fewest.cls ≠ "java/lang/invoke/MethodHandle" ∧ yX6_fewest.cls ≠ "java/lang/invoke/VarHandle" ∧ (parseMethodDescriptor yX6_fewest.desc).map (fun d => d.parameters.length) = some 1 := by decide +kernel
theorem hdX6_gone : yX6_gone.cls ≠ "java/lang/invoke/MethodHandle" ∧ yX6_gone.cls ≠ "java/lang/invoke/VarHandle" ∧ (parseMethodDescriptor yX6_gone.desc).map (fun d => d.parameters.length) = some 2 := by decide +kernel
theorem hdX6_knows : yX6_knows.cls ≠ "java/lang/invoke/MethodHandle" ∧ yX6_knows.cls ≠ "java/lang/invoke/VarHandle" ∧ (parseMethodDescriptor yX6_knows.desc).map (fun d => d.parameters.length) = some 1 := by decide +kernel
theorem hdX6_lead : yX6_lead.cls ≠ "java/lang/invoke/MethodHandle" ∧ yX6_lead.cls ≠ "java/lang/invoke/VarHandle" ∧ (parseMethodDescriptor yX6_lead.desc).map (fun d => d.parameters.length) = some 1 := by decide +kernel
theorem hdX6_leave : yX6_leave.cls ≠ "java/lang/invoke/MethodHandle" ∧ yX6_leave.cls ≠ "java/lang/invoke/VarHandle" ∧ (parseMethodDescriptor yX6_leave.desc).map (fun d => d.parameters.length) = some 1 := by decide +kernel
theorem hdX6_leaveTrace : yX6_leaveTrace.cls ≠ "java/lang/invoke/MethodHandle" ∧ yX6_leaveTrace.cls ≠ "java/lang/invoke/VarHandle" ∧ (parseMethodDescriptor yX6_leaveTrace.desc).map (fun d => d.parameters.length) = some 1 := by decide +kernel
theorem hdX6_limped : yX6_limped.cls ≠ "java/lang/invoke/MethodHandle" ∧ yX6_limped.cls ≠ "java/lang/invoke/VarHandle" ∧ (parseMethodDescriptor yX6_limped.desc).map (fun d => d.parameters.length) = some 1 := by decide +kernel
theorem hdX6_lock : yX6_lock.cls ≠ "java/lang/invoke/MethodHandle" ∧ yX6_lock.cls ≠ "java/lang/invoke/VarHandle" ∧ (parseMethodDescriptor yX6_lock.desc).map (fun d => d.parameters.length) = some 4 := by decide +kernel
theorem hdX6_lose : yX6_lose.cls ≠ "java/lang/invoke/MethodHandle" ∧ yX6_lose.cls ≠ "java/lang/invoke/VarHandle" ∧ (parseMethodDescriptor yX6_lose.desc).map (fun d => d.parameters.length) = some 1 := by decide +kernel
theorem hdX6_many : yX6_many.cls ≠ "java/lang/invoke/MethodHandle" ∧ yX6_many.cls ≠ "java/lang/invoke/VarHandle" ∧ (parseMethodDescriptor yX6_many.desc).map (fun d => d.parameters.length) = some 1 := by decide +kernel
theorem hdX6_nearest : yX6_nearest.cls ≠ "java/lang/invoke/MethodHandle" ∧ yX6_nearest.cls ≠ "java/lang/invoke/VarHandle" ∧ (parseMethodDescriptor yX6_nearest.desc).map (fun d => d.parameters.length) = some 1 := by decide +kernel
theorem hdX6_ofDancer : yX6_ofDancer.cls ≠ "java/lang/invoke/MethodHandle" ∧ yX6_ofDancer.cls ≠ "java/lang/invoke/VarHandle" ∧ (parseMethodDescriptor yX6_ofDancer.desc).map (fun d => d.parameters.length) = some 2 := by decide +kernel
theorem hdX6_opens : yX6_opens.cls ≠ "java/lang/invoke/MethodHandle" ∧ yX6_opens.cls ≠ "java/lang/invoke/VarHandle" ∧ (parseMethodDescriptor yX6_opens.desc).map (fun d => d.parameters.length) = some 4 := by decide +kernel
theorem hdX6_part : yX6_part.cls ≠ "java/lang/invoke/MethodHandle" ∧ yX6_part.cls ≠ "java/lang/invoke/VarHandle" ∧ (parseMethodDescriptor yX6_part.desc).map (fun d => d.parameters.length) = some 4 := by decide +kernel
theorem hdX6_plan : yX6_plan.cls ≠ "java/lang/invoke/MethodHandle" ∧ yX6_plan.cls ≠ "java/lang/invoke/VarHandle" ∧ (parseMethodDescriptor yX6_plan.desc).map (fun d => d.parameters.length) = some 3 := by decide +kernel
theorem hdX6_plans : yX6_plans.cls ≠ "java/lang/invoke/MethodHandle" ∧ yX6_plans.cls ≠ "java/lang/invoke/VarHandle" ∧ (parseMethodDescriptor yX6_plans.desc).map (fun d => d.parameters.length) = some 2 := by decide +kernel
theorem hdX6_put : yX6_put.cls ≠ "java/lang/invoke/MethodHandle" ∧ yX6_put.cls ≠ "java/lang/invoke/VarHandle" ∧ (parseMethodDescriptor yX6_put.desc).map (fun d => d.parameters.length) = some 3 := by decide +kernel
theorem hdX6_rowIsWithin : yX6_rowIsWithin.cls ≠ "java/lang/invoke/MethodHandle" ∧ yX6_rowIsWithin.cls ≠ "java/lang/invoke/VarHandle" ∧ (parseMethodDescriptor yX6_rowIsWithin.desc).map (fun d => d.parameters.length) = some 2 := by decide +kernel
theorem hdX6_safe : yX6_safe.cls ≠ "java/lang/invoke/MethodHandle" ∧ yX6_safe.cls ≠ "java/lang/invoke/VarHandle" ∧ (parseMethodDescriptor yX6_safe.desc).map (fun d => d.parameters.length) = some 0 := by decide +kernel
theorem hdX6_seen : yX6_seen.cls ≠ "java/lang/invoke/MethodHandle" ∧ yX6_seen.cls ≠ "java/lang/invoke/VarHandle" ∧ (parseMethodDescriptor yX6_seen.desc).map (fun d => d.parameters.length) = some 5 := by decide +kernel
theorem hdX6_sheet : yX6_sheet.cls ≠ "java/lang/invoke/MethodHandle" ∧ yX6_sheet.cls ≠ "java/lang/invoke/VarHandle" ∧ (parseMethodDescriptor yX6_sheet.desc).map (fun d => d.parameters.length) = some 3 := by decide +kernel
theorem hdX6_takePlan : yX6_takePlan.cls ≠ "java/lang/invoke/MethodHandle" ∧ yX6_takePlan.cls ≠ "java/lang/invoke/VarHandle" ∧ (parseMethodDescriptor yX6_takePlan.desc).map (fun d => d.parameters.length) = some 5 := by decide +kernel
theorem hdX6_takeRow : yX6_takeRow.cls ≠ "java/lang/invoke/MethodHandle" ∧ yX6_takeRow.cls ≠ "java/lang/invoke/VarHandle" ∧ (parseMethodDescriptor yX6_takeRow.desc).map (fun d => d.parameters.length) = some 5 := by decide +kernel
theorem hdX6_tell : yX6_tell.cls ≠ "java/lang/invoke/MethodHandle" ∧ yX6_tell.cls ≠ "java/lang/invoke/VarHandle" ∧ (parseMethodDescriptor yX6_tell.desc).map (fun d => d.parameters.length) = some 1 := by decide +kernel
theorem hdX6_tellAsChild : yX6_tellAsChild.cls ≠ "java/lang/invoke/MethodHandle" ∧ yX6_tellAsChild.cls ≠ "java/lang/invoke/VarHandle" ∧ (parseMethodDescriptor yX6_tellAsChild.desc).map (fun d => d.parameters.length) = some 1 := by decide +kernel
theorem hdX6_tellAsDancer : yX6_tellAsDancer.cls ≠ "java/lang/invoke/MethodHandle" ∧ yX6_tellAsDancer.cls ≠ "java/lang/invoke/VarHandle" ∧ (parseMethodDescriptor yX6_tellAsDancer.desc).map (fun d => d.parameters.length) = some 1 := by decide +kernel
theorem hdX6_tellAsLimper : yX6_tellAsLimper.cls ≠ "java/lang/invoke/MethodHandle" ∧ yX6_tellAsLimper.cls ≠ "java/lang/invoke/VarHandle" ∧ (parseMethodDescriptor yX6_tellAsLimper.desc).map (fun d => d.parameters.length) = some 1 := by decide +kernel
theorem hdX6_trace : yX6_trace.cls ≠ "java/lang/invoke/MethodHandle" ∧ yX6_trace.cls ≠ "java/lang/invoke/VarHandle" ∧ (parseMethodDescriptor yX6_trace.desc).map (fun d => d.parameters.length) = some 0 := by decide +kernel
theorem hdX6_wrong : yX6_wrong.cls ≠ "java/lang/invoke/MethodHandle" ∧ yX6_wrong.cls ≠ "java/lang/invoke/VarHandle" ∧ (parseMethodDescriptor yX6_wrong.desc).map (fun d => d.parameters.length) = some 4 := by decide +kernel
theorem hdX7_against : yX7_against.cls ≠ "java/lang/invoke/MethodHandle" ∧ yX7_against.cls ≠ "java/lang/invoke/VarHandle" ∧ (parseMethodDescriptor yX7_against.desc).map (fun d => d.parameters.length) = some 4 := by decide +kernel
theorem hdX7_allBars : yX7_allBars.cls ≠ "java/lang/invoke/MethodHandle" ∧ yX7_allBars.cls ≠ "java/lang/invoke/VarHandle" ∧ (parseMethodDescriptor yX7_allBars.desc).map (fun d => d.parameters.length) = some 0 := by decide +kernel
theorem hdX7_any : yX7_any.cls ≠ "java/lang/invoke/MethodHandle" ∧ yX7_any.cls ≠ "java/lang/invoke/VarHandle" ∧ (parseMethodDescriptor yX7_any.desc).map (fun d => d.parameters.length) = some 1 := by decide +kernel
theorem hdX7_apart : yX7_apart.cls ≠ "java/lang/invoke/MethodHandle" ∧ yX7_apart.cls ≠ "java/lang/invoke/VarHandle" ∧ (parseMethodDescriptor yX7_apart.desc).map (fun d => d.parameters.length) = some 2 := by decide +kernel
theorem hdX7_apartOf : yX7_apartOf.cls ≠ "java/lang/invoke/MethodHandle" ∧ yX7_apartOf.cls ≠ "java/lang/invoke/VarHandle" ∧ (parseMethodDescriptor yX7_apartOf.desc).map (fun d => d.parameters.length) = some 2 := by decide +kernel
theorem hdX7_areWithin : yX7_areWithin.cls ≠ "java/lang/invoke/MethodHandle" ∧ yX7_areWithin.cls ≠ "java/lang/invoke/VarHandle" ∧ (parseMethodDescriptor yX7_areWithin.desc).map (fun d => d.parameters.length) = some 3 := by decide +kernel
theorem hdX7_as : yX7_as.cls ≠ "java/lang/invoke/MethodHandle" ∧ yX7_as.cls ≠ "java/lang/invoke/VarHandle" ∧ (parseMethodDescriptor yX7_as.desc).map (fun d => d.parameters.length) = some 2 := by decide +kernel
theorem hdX7_barsOf : yX7_barsOf.cls ≠ "java/lang/invoke/MethodHandle" ∧ yX7_barsOf.cls ≠ "java/lang/invoke/VarHandle" ∧ (parseMethodDescriptor yX7_barsOf.desc).map (fun d => d.parameters.length) = some 1 := by decide +kernel
theorem hdX7_beat : yX7_beat.cls ≠ "java/lang/invoke/MethodHandle" ∧ yX7_beat.cls ≠ "java/lang/invoke/VarHandle" ∧ (parseMethodDescriptor yX7_beat.desc).map (fun d => d.parameters.length) = some 2 := by decide +kernel
theorem hdX7_begins : yX7_begins.cls ≠ "java/lang/invoke/MethodHandle" ∧ yX7_begins.cls ≠ "java/lang/invoke/VarHandle" ∧ (parseMethodDescriptor yX7_begins.desc).map (fun d => d.parameters.length) = some 2 := by decide +kernel
theorem hdX7_board : yX7_board.cls ≠ "java/lang/invoke/MethodHandle" ∧ yX7_board.cls ≠ "java/lang/invoke/VarHandle" ∧ (parseMethodDescriptor yX7_board.desc).map (fun d => d.parameters.length) = some 1 := by decide +kernel
theorem hdX7_can : yX7_can.cls ≠ "java/lang/invoke/MethodHandle" ∧ yX7_can.cls ≠ "java/lang/invoke/VarHandle" ∧ (parseMethodDescriptor yX7_can.desc).map (fun d => d.parameters.length) = some 1 := by decide +kernel
theorem hdX7_cell : yX7_cell.cls ≠ "java/lang/invoke/MethodHandle" ∧ yX7_cell.cls ≠ "java/lang/invoke/VarHandle" ∧ (parseMethodDescriptor yX7_cell.desc).map (fun d => d.parameters.length) = some 3 := by decide +kernel
theorem hdX7_change : yX7_change.cls ≠ "java/lang/invoke/MethodHandle" ∧ yX7_change.cls ≠ "java/lang/invoke/VarHandle" ∧ (parseMethodDescriptor yX7_change.desc).map (fun d => d.parameters.length) = some 3 := by decide +kernel
theorem hdX7_copy : yX7_copy.cls ≠ "java/lang/invoke/MethodHandle" ∧ yX7_copy.cls ≠ "java/lang/invoke/VarHandle" ∧ (parseMethodDescriptor yX7_copy.desc).map (fun d => d.parameters.length) = some 5 := by decide +kernel
theorem hdX7_dancer : yX7_dancer.cls ≠ "java/lang/invoke/MethodHandle" ∧ yX7_dancer.cls ≠ "java/lang/invoke/VarHandle" ∧ (parseMethodDescriptor yX7_dancer.desc).map (fun d => d.parameters.length) = some 2 := by decide +kernel
theorem hdX7_digit : yX7_digit.cls ≠ "java/lang/invoke/MethodHandle" ∧ yX7_digit.cls ≠ "java/lang/invoke/VarHandle" ∧ (parseMethodDescriptor yX7_digit.desc).map (fun d => d.parameters.length) = some 3 := by decide +kernel
theorem hdX7_evenings : yX7_evenings.cls ≠ "java/lang/invoke/MethodHandle" ∧ yX7_evenings.cls ≠ "java/lang/invoke/VarHandle" ∧ (parseMethodDescriptor yX7_evenings.desc).map (fun d => d.parameters.length) = some 1 := by decide +kernel
theorem hdX7_fails : yX7_fails.cls ≠ "java/lang/invoke/MethodHandle" ∧ yX7_fails.cls ≠ "java/lang/invoke/VarHandle" ∧ (parseMethodDescriptor yX7_fails.desc).map (fun d => d.parameters.length) = some 1 := by decide +kernel
theorem hdX7_family : yX7_family.cls ≠ "java/lang/invoke/MethodHandle" ∧ yX7_family.cls ≠ "java/lang/invoke/VarHandle" ∧ (parseMethodDescriptor yX7_family.desc).map (fun d => d.parameters.length) = some 1 := by decide +kernel
theorem hdX7_fault : yX7_fault.cls ≠ "java/lang/invoke/MethodHandle" ∧ yX7_fault.cls ≠ "java/lang/invoke/VarHandle" ∧ (parseMethodDescriptor yX7_fault.desc).map (fun d => d.parameters.length) = some 0 := by decide +kernel
theorem hdX7_felt : yX7_felt.cls ≠ "java/lang/invoke/MethodHandle" ∧ yX7_felt.cls ≠ "java/lang/invoke/VarHandle" ∧ (parseMethodDescriptor yX7_felt.desc).map (fun d => d.parameters.length) = some 5 := by decide +kernel
theorem hdX7_feltIn : yX7_feltIn.cls ≠ "java/lang/invoke/MethodHandle" ∧ yX7_feltIn.cls ≠ "java/lang/invoke/VarHandle" ∧ (parseMethodDescriptor yX7_feltIn.desc).map (fun d => d.parameters.length) = some 1 := by decide +kernel
theorem hdX7_fewest : yX7_fewest.cls ≠ "java/lang/invoke/MethodHandle" ∧ yX7_fewest.cls ≠ "java/lang/invoke/VarHandle" ∧ (parseMethodDescriptor yX7_fewest.desc).map (fun d => d.parameters.length) = some 1 := by decide +kernel
theorem hdX7_findPlan : yX7_findPlan.cls ≠ "java/lang/invoke/MethodHandle" ∧ yX7_findPlan.cls ≠ "java/lang/invoke/VarHandle" ∧ (parseMethodDescriptor yX7_findPlan.desc).map (fun d => d.parameters.length) = some 1 := by decide +kernel
theorem hdX7_findTwo : yX7_findTwo.cls ≠ "java/lang/invoke/MethodHandle" ∧ yX7_findTwo.cls ≠ "java/lang/invoke/VarHandle" ∧ (parseMethodDescriptor yX7_findTwo.desc).map (fun d => d.parameters.length) = some 2 := by decide +kernel
theorem hdX7_gone : yX7_gone.cls ≠ "java/lang/invoke/MethodHandle" ∧ yX7_gone.cls ≠ "java/lang/invoke/VarHandle" ∧ (parseMethodDescriptor yX7_gone.desc).map (fun d => d.parameters.length) = some 2 := by decide +kernel
theorem hdX7_isBeat : yX7_isBeat.cls ≠ "java/lang/invoke/MethodHandle" ∧ yX7_isBeat.cls ≠ "java/lang/invoke/VarHandle" ∧ (parseMethodDescriptor yX7_isBeat.desc).map (fun d => d.parameters.length) = some 2 := by decide +kernel
theorem hdX7_isBoard : yX7_isBoard.cls ≠ "java/lang/invoke/MethodHandle" ∧ yX7_isBoard.cls ≠ "java/lang/invoke/VarHandle" ∧ (parseMethodDescriptor yX7_isBoard.desc).map (fun d => d.parameters.length) = some 1 := by decide +kernel
theorem hdX7_isDancer : yX7_isDancer.cls ≠ "java/lang/invoke/MethodHandle" ∧ yX7_isDancer.cls ≠ "java/lang/invoke/VarHandle" ∧ (parseMethodDescriptor yX7_isDancer.desc).map (fun d => d.parameters.length) = some 1 := by decide +kernel
theorem hdX7_isDoor : yX7_isDoor.cls ≠ "java/lang/invoke/MethodHandle" ∧ yX7_isDoor.cls ≠ "java/lang/invoke/VarHandle" ∧ (parseMethodDescriptor yX7_isDoor.desc).map (fun d => d.parameters.length) = some 1 := by decide +kernel
theorem hdX7_isSeen : yX7_isSeen.cls ≠ "java/lang/invoke/MethodHandle" ∧ yX7_isSeen.cls ≠ "java/lang/invoke/VarHandle" ∧ (parseMethodDescriptor yX7_isSeen.desc).map (fun d => d.parameters.length) = some 4 := by decide +kernel
theorem hdX7_isSheet : yX7_isSheet.cls ≠ "java/lang/invoke/MethodHandle" ∧ yX7_isSheet.cls ≠ "java/lang/invoke/VarHandle" ∧ (parseMethodDescriptor yX7_isSheet.desc).map (fun d => d.parameters.length) = some 1 := by decide +kernel
theorem hdX7_isSort : yX7_isSort.cls ≠ "java/lang/invoke/MethodHandle" ∧ yX7_isSort.cls ≠ "java/lang/invoke/VarHandle" ∧ (parseMethodDescriptor yX7_isSort.desc).map (fun d => d.parameters.length) = some 1 := by decide +kernel
theorem hdX7_knowAll : yX7_knowAll.cls ≠ "java/lang/invoke/MethodHandle" ∧ yX7_knowAll.cls ≠ "java/lang/invoke/VarHandle" ∧ (parseMethodDescriptor yX7_knowAll.desc).map (fun d => d.parameters.length) = some 2 := by decide +kernel
theorem hdX7_known : yX7_known.cls ≠ "java/lang/invoke/MethodHandle" ∧ yX7_known.cls ≠ "java/lang/invoke/VarHandle" ∧ (parseMethodDescriptor yX7_known.desc).map (fun d => d.parameters.length) = some 1 := by decide +kernel
theorem hdX7_knows : yX7_knows.cls ≠ "java/lang/invoke/MethodHandle" ∧ yX7_knows.cls ≠ "java/lang/invoke/VarHandle" ∧ (parseMethodDescriptor yX7_knows.desc).map (fun d => d.parameters.length) = some 1 := by decide +kernel
theorem hdX7_layBeat : yX7_layBeat.cls ≠ "java/lang/invoke/MethodHandle" ∧ yX7_layBeat.cls ≠ "java/lang/invoke/VarHandle" ∧ (parseMethodDescriptor yX7_layBeat.desc).map (fun d => d.parameters.length) = some 2 := by decide +kernel
theorem hdX7_layPlan : yX7_layPlan.cls ≠ "java/lang/invoke/MethodHandle" ∧ yX7_layPlan.cls ≠ "java/lang/invoke/VarHandle" ∧ (parseMethodDescriptor yX7_layPlan.desc).map (fun d => d.parameters.length) = some 4 := by decide +kernel
theorem hdX7_lead : yX7_lead.cls ≠ "java/lang/invoke/MethodHandle" ∧ yX7_lead.cls ≠ "java/lang/invoke/VarHandle" ∧ (parseMethodDescriptor yX7_lead.desc).map (fun d => d.parameters.length) = some 1 := by decide +kernel
theorem hdX7_leave : yX7_leave.cls ≠ "java/lang/invoke/MethodHandle" ∧ yX7_leave.cls ≠ "java/lang/invoke/VarHandle" ∧ (parseMethodDescriptor yX7_leave.desc).map (fun d => d.parameters.length) = some 1 := by decide +kernel
theorem hdX7_limped : yX7_limped.cls ≠ "java/lang/invoke/MethodHandle" ∧ yX7_limped.cls ≠ "java/lang/invoke/VarHandle" ∧ (parseMethodDescriptor yX7_limped.desc).map (fun d => d.parameters.length) = some 1 := by decide +kernel
theorem hdX7_limpedFrom : yX7_limpedFrom.cls ≠ "java/lang/invoke/MethodHandle" ∧ yX7_limpedFrom.cls ≠ "java/lang/invoke/VarHandle" ∧ (parseMethodDescriptor yX7_limpedFrom.desc).map (fun d => d.parameters.length) = some 1 := by decide +kernel
theorem hdX7_limps : yX7_limps.cls ≠ "java/lang/invoke/MethodHandle" ∧ yX7_limps.cls ≠ "java/lang/invoke/VarHandle" ∧ (parseMethodDescriptor yX7_limps.desc).map (fun d => d.parameters.length) = some 2 := by decide +kernel
theorem hdX7_lock : yX7_lock.cls ≠ "java/lang/invoke/MethodHandle" ∧ yX7_lock.cls ≠ "java/lang/invoke/VarHandle" ∧ (parseMethodDescriptor yX7_lock.desc).map (fun d => d.parameters.length) = some 4 := by decide +kernel
theorem hdX7_lose : yX7_lose.cls ≠ "java/lang/invoke/MethodHandle" ∧ yX7_lose.cls ≠ "java/lang/invoke/VarHandle" ∧ (parseMethodDescriptor yX7_lose.desc).map (fun d => d.parameters.length) = some 1 := by decide +kernel
theorem hdX7_lost : yX7_lost.cls ≠ "java/lang/invoke/MethodHandle" ∧ yX7_lost.cls ≠ "java/lang/invoke/VarHandle" ∧ (parseMethodDescriptor yX7_lost.desc).map (fun d => d.parameters.length) = some 1 := by decide +kernel
theorem hdX7_many : yX7_many.cls ≠ "java/lang/invoke/MethodHandle" ∧ yX7_many.cls ≠ "java/lang/invoke/VarHandle" ∧ (parseMethodDescriptor yX7_many.desc).map (fun d => d.parameters.length) = some 1 := by decide +kernel
theorem hdX7_nearest : yX7_nearest.cls ≠ "java/lang/invoke/MethodHandle" ∧ yX7_nearest.cls ≠ "java/lang/invoke/VarHandle" ∧ (parseMethodDescriptor yX7_nearest.desc).map (fun d => d.parameters.length) = some 1 := by decide +kernel
theorem hdX7_nextRow : yX7_nextRow.cls ≠ "java/lang/invoke/MethodHandle" ∧ yX7_nextRow.cls ≠ "java/lang/invoke/VarHandle" ∧ (parseMethodDescriptor yX7_nextRow.desc).map (fun d => d.parameters.length) = some 3 := by decide +kernel
theorem hdX7_ofDancer : yX7_ofDancer.cls ≠ "java/lang/invoke/MethodHandle" ∧ yX7_ofDancer.cls ≠ "java/lang/invoke/VarHandle" ∧ (parseMethodDescriptor yX7_ofDancer.desc).map (fun d => d.parameters.length) = some 2 := by decide +kernel
theorem hdX7_openedBy : yX7_openedBy.cls ≠ "java/lang/invoke/MethodHandle" ∧ yX7_openedBy.cls ≠ "java/lang/invoke/VarHandle" ∧ (parseMethodDescriptor yX7_openedBy.desc).map (fun d => d.parameters.length) = some 1 := by decide +kernel
theorem hdX7_opens : yX7_opens.cls ≠ "java/lang/invoke/MethodHandle" ∧ yX7_opens.cls ≠ "java/lang/invoke/VarHandle" ∧ (parseMethodDescriptor yX7_opens.desc).map (fun d => d.parameters.length) = some 4 := by decide +kernel
theorem hdX7_part : yX7_part.cls ≠ "java/lang/invoke/MethodHandle" ∧ yX7_part.cls ≠ "java/lang/invoke/VarHandle" ∧ (parseMethodDescriptor yX7_part.desc).map (fun d => d.parameters.length) = some 4 := by decide +kernel
theorem hdX7_plan : yX7_plan.cls ≠ "java/lang/invoke/MethodHandle" ∧ yX7_plan.cls ≠ "java/lang/invoke/VarHandle" ∧ (parseMethodDescriptor yX7_plan.desc).map (fun d => d.parameters.length) = some 3 := by decide +kernel
theorem hdX7_plans : yX7_plans.cls ≠ "java/lang/invoke/MethodHandle" ∧ yX7_plans.cls ≠ "java/lang/invoke/VarHandle" ∧ (parseMethodDescriptor yX7_plans.desc).map (fun d => d.parameters.length) = some 2 := by decide +kernel
theorem hdX7_put : yX7_put.cls ≠ "java/lang/invoke/MethodHandle" ∧ yX7_put.cls ≠ "java/lang/invoke/VarHandle" ∧ (parseMethodDescriptor yX7_put.desc).map (fun d => d.parameters.length) = some 3 := by decide +kernel
theorem hdX7_readBeat : yX7_readBeat.cls ≠ "java/lang/invoke/MethodHandle" ∧ yX7_readBeat.cls ≠ "java/lang/invoke/VarHandle" ∧ (parseMethodDescriptor yX7_readBeat.desc).map (fun d => d.parameters.length) = some 1 := by decide +kernel
theorem hdX7_readDoor : yX7_readDoor.cls ≠ "java/lang/invoke/MethodHandle" ∧ yX7_readDoor.cls ≠ "java/lang/invoke/VarHandle" ∧ (parseMethodDescriptor yX7_readDoor.desc).map (fun d => d.parameters.length) = some 1 := by decide +kernel
theorem hdX7_readLock : yX7_readLock.cls ≠ "java/lang/invoke/MethodHandle" ∧ yX7_readLock.cls ≠ "java/lang/invoke/VarHandle" ∧ (parseMethodDescriptor yX7_readLock.desc).map (fun d => d.parameters.length) = some 1 := by decide +kernel
theorem hdX7_rows : yX7_rows.cls ≠ "java/lang/invoke/MethodHandle" ∧ yX7_rows.cls ≠ "java/lang/invoke/VarHandle" ∧ (parseMethodDescriptor yX7_rows.desc).map (fun d => d.parameters.length) = some 1 := by decide +kernel
theorem hdX7_safe : yX7_safe.cls ≠ "java/lang/invoke/MethodHandle" ∧ yX7_safe.cls ≠ "java/lang/invoke/VarHandle" ∧ (parseMethodDescriptor yX7_safe.desc).map (fun d => d.parameters.length) = some 0 := by decide +kernel
theorem hdX7_seen : yX7_seen.cls ≠ "java/lang/invoke/MethodHandle" ∧ yX7_seen.cls ≠ "java/lang/invoke/VarHandle" ∧ (parseMethodDescriptor yX7_seen.desc).map (fun d => d.parameters.length) = some 5 := by decide +kernel
theorem hdX7_sheet : yX7_sheet.cls ≠ "java/lang/invoke/MethodHandle" ∧ yX7_sheet.cls ≠ "java/lang/invoke/VarHandle" ∧ (parseMethodDescriptor yX7_sheet.desc).map (fun d => d.parameters.length) = some 3 := by decide +kernel
theorem hdX7_size : yX7_size.cls ≠ "java/lang/invoke/MethodHandle" ∧ yX7_size.cls ≠ "java/lang/invoke/VarHandle" ∧ (parseMethodDescriptor yX7_size.desc).map (fun d => d.parameters.length) = some 1 := by decide +kernel
theorem hdX7_spot : yX7_spot.cls ≠ "java/lang/invoke/MethodHandle" ∧ yX7_spot.cls ≠ "java/lang/invoke/VarHandle" ∧ (parseMethodDescriptor yX7_spot.desc).map (fun d => d.parameters.length) = some 2 := by decide +kernel
theorem hdX7_stands : yX7_stands.cls ≠ "java/lang/invoke/MethodHandle" ∧ yX7_stands.cls ≠ "java/lang/invoke/VarHandle" ∧ (parseMethodDescriptor yX7_stands.desc).map (fun d => d.parameters.length) = some 3 := by decide +kernel
theorem hdX7_tell : yX7_tell.cls ≠ "java/lang/invoke/MethodHandle" ∧ yX7_tell.cls ≠ "java/lang/invoke/VarHandle" ∧ (parseMethodDescriptor yX7_tell.desc).map (fun d => d.parameters.length) = some 1 := by decide +kernel
theorem hdX7_tellsBy : yX7_tellsBy.cls ≠ "java/lang/invoke/MethodHandle" ∧ yX7_tellsBy.cls ≠ "java/lang/invoke/VarHandle" ∧ (parseMethodDescriptor yX7_tellsBy.desc).map (fun d => d.parameters.length) = some 1 := by decide +kernel
theorem hdX7_trace : yX7_trace.cls ≠ "java/lang/invoke/MethodHandle" ∧ yX7_trace.cls ≠ "java/lang/invoke/VarHandle" ∧ (parseMethodDescriptor yX7_trace.desc).map (fun d => d.parameters.length) = some 0 := by decide +kernel
theorem hdX7_weighs : yX7_weighs.cls ≠ "java/lang/invoke/MethodHandle" ∧ yX7_weighs.cls ≠ "java/lang/invoke/VarHandle" ∧ (parseMethodDescriptor yX7_weighs.desc).map (fun d => d.parameters.length) = some 1 := by decide +kernel
theorem hdX7_within : yX7_within.cls ≠ "java/lang/invoke/MethodHandle" ∧ yX7_within.cls ≠ "java/lang/invoke/VarHandle" ∧ (parseMethodDescriptor yX7_within.desc).map (fun d => d.parameters.length) = some 3 := by decide +kernel
theorem hdX7_wrong : yX7_wrong.cls ≠ "java/lang/invoke/MethodHandle" ∧ yX7_wrong.cls ≠ "java/lang/invoke/VarHandle" ∧ (parseMethodDescriptor yX7_wrong.desc).map (fun d => d.parameters.length) = some 4 := by decide +kernel
theorem hdX7_wrongIn : yX7_wrongIn.cls ≠ "java/lang/invoke/MethodHandle" ∧ yX7_wrongIn.cls ≠ "java/lang/invoke/VarHandle" ∧ (parseMethodDescriptor yX7_wrongIn.desc).map (fun d => d.parameters.length) = some 1 := by decide +kernel
