/-! ===== the two worlds ===== -/
abbrev xT (cI cJ cZ : ClassId) : List (ClassId × FieldType) := [(cI, .int), (cJ, .long), (cZ, .boolean)]
def xW (a : Nat → Nat) (cI cJ cZ : ClassId) (v : Nat → Nat → Nat) (c : Nat → Nat → Int32) : va_W := [
  (a 0, .inr (6, [.ref (a 1), .ref (a 5), .ref (a 10), .ref (a 11), .ref (a 15), .ref (a 23), .ref (a 25), .int (c 0 7), .int (nI (v 0 8))])),
  (a 1, .inr (3, [.ref (a 2), .ref (a 3), .ref (a 4)])),
  (a 2, .inl (cI, 4, .inl (c 2))),
  (a 3, .inl (cI, 4, .inl (fun j => nI (v 3 j)))),
  (a 4, .inl (cI, 320, .inl (c 4))),
  (a 5, .inr (4, [.ref (a 6)])),
  (a 6, .inr (2, [.int (nI (v 6 0)), .int (nI (v 6 1)), .ref (a 7), .ref (a 8), .ref (a 9)])),
  (a 7, .inl (cI, 7, .inl (fun j => nI (v 7 j)))),
  (a 8, .inl (cI, 4, .inl (fun j => nI (v 8 j)))),
  (a 9, .inl (cI, 24, .inl (fun j => nI (v 9 j)))),
  (a 10, .inr (0, [.ref (a 11), .ref (a 15), .ref (a 18), .ref (a 19), .ref (a 20), .ref (a 21), .int (nI (v 10 6)), .ref (a 22)])),
  (a 11, .inr (2, [.int (nI (v 11 0)), .int (nI (v 11 1)), .ref (a 12), .ref (a 13), .ref (a 14)])),
  (a 12, .inl (cI, 7, .inl (fun j => nI (v 12 j)))),
  (a 13, .inl (cI, 4, .inl (fun j => nI (v 13 j)))),
  (a 14, .inl (cI, 24, .inl (fun j => nI (v 14 j)))),
  (a 15, .inr (5, [.int (nI (v 15 0)), .ref (a 16), .ref (a 17)])),
  (a 16, .inl (cI, 4, .inl (fun j => nI (v 16 j)))),
  (a 17, .inl (cI, 4, .inl (fun j => nI (v 17 j)))),
  (a 18, .inl (cI, 24, .inl (fun j => nI (v 18 j)))),
  (a 19, .inl (cI, 7, .inl (fun j => nI (v 19 j)))),
  (a 20, .inl (cI, 4, .inl (fun j => nI (v 20 j)))),
  (a 21, .inl (cZ, 4, .inl (fun j => nI (v 21 j)))),
  (a 22, .inl (cJ, 38, .inr (.inl (fun j => lN (v 22 j))))),
  (a 23, .inr (1, [.int (nI (v 23 0)), .ref (a 24)])),
  (a 24, .inl (cI, 6, .inl (fun j => nI (v 24 j)))),
  (a 25, .inl (cI, 80, .inl (c 25)))]
theorem hdJ6_bitCount_0f7a4 : yJ6_bitCount_0f7a4.cls ≠ "java/lang/invoke/MethodHandle" ∧ yJ6_bitCount_0f7a4.cls ≠ "java/lang/invoke/VarHandle" ∧ (parseMethodDescriptor yJ6_bitCount_0f7a4.desc).map (fun d => d.parameters.length) = some 1 := by decide +kernel
theorem hdJ7_fill_53178 : yJ7_fill_53178.cls ≠ "java/lang/invoke/MethodHandle" ∧ yJ7_fill_53178.cls ≠ "java/lang/invoke/VarHandle" ∧ (parseMethodDescriptor yJ7_fill_53178.desc).map (fun d => d.parameters.length) = some 2 := by decide +kernel
theorem hdJ7_fill_d0a16 : yJ7_fill_d0a16.cls ≠ "java/lang/invoke/MethodHandle" ∧ yJ7_fill_d0a16.cls ≠ "java/lang/invoke/VarHandle" ∧ (parseMethodDescriptor yJ7_fill_d0a16.desc).map (fun d => d.parameters.length) = some 2 := by decide +kernel
theorem hdJ7_fill_fda19 : yJ7_fill_fda19.cls ≠ "java/lang/invoke/MethodHandle" ∧ yJ7_fill_fda19.cls ≠ "java/lang/invoke/VarHandle" ∧ (parseMethodDescriptor yJ7_fill_fda19.desc).map (fun d => d.parameters.length) = some 4 := by decide +kernel
theorem hdJ7_rangeCheck_23922 : yJ7_rangeCheck_23922.cls ≠ "java/lang/invoke/MethodHandle" ∧ yJ7_rangeCheck_23922.cls ≠ "java/lang/invoke/VarHandle" ∧ (parseMethodDescriptor yJ7_rangeCheck_23922.desc).map (fun d => d.parameters.length) = some 3 := by decide +kernel
theorem hdJ9_min_7cf53 : yJ9_min_7cf53.cls ≠ "java/lang/invoke/MethodHandle" ∧ yJ9_min_7cf53.cls ≠ "java/lang/invoke/VarHandle" ∧ (parseMethodDescriptor yJ9_min_7cf53.desc).map (fun d => d.parameters.length) = some 2 := by decide +kernel
theorem hdX0_callUp : yX0_callUp.cls ≠ "java/lang/invoke/MethodHandle" ∧ yX0_callUp.cls ≠ "java/lang/invoke/VarHandle" ∧ (parseMethodDescriptor yX0_callUp.desc).map (fun d => d.parameters.length) = some 1 := by decide +kernel
theorem hdX0_countRows : yX0_countRows.cls ≠ "java/lang/invoke/MethodHandle" ∧ yX0_countRows.cls ≠ "java/lang/invoke/VarHandle" ∧ (parseMethodDescriptor yX0_countRows.desc).map (fun d => d.parameters.length) = some 2 := by decide +kernel
theorem hdX0_doorOpened : yX0_doorOpened.cls ≠ "java/lang/invoke/MethodHandle" ∧ yX0_doorOpened.cls ≠ "java/lang/invoke/VarHandle" ∧ (parseMethodDescriptor yX0_doorOpened.desc).map (fun d => d.parameters.length) = some 1 := by decide +kernel
theorem hdX0_feltIn : yX0_feltIn.cls ≠ "java/lang/invoke/MethodHandle" ∧ yX0_feltIn.cls ≠ "java/lang/invoke/VarHandle" ∧ (parseMethodDescriptor yX0_feltIn.desc).map (fun d => d.parameters.length) = some 1 := by decide +kernel
theorem hdX0_findPlan : yX0_findPlan.cls ≠ "java/lang/invoke/MethodHandle" ∧ yX0_findPlan.cls ≠ "java/lang/invoke/VarHandle" ∧ (parseMethodDescriptor yX0_findPlan.desc).map (fun d => d.parameters.length) = some 2 := by decide +kernel
theorem hdX0_firstWrong : yX0_firstWrong.cls ≠ "java/lang/invoke/MethodHandle" ∧ yX0_firstWrong.cls ≠ "java/lang/invoke/VarHandle" ∧ (parseMethodDescriptor yX0_firstWrong.desc).map (fun d => d.parameters.length) = some 1 := by decide +kernel
theorem hdX0_isBound : yX0_isBound.cls ≠ "java/lang/invoke/MethodHandle" ∧ yX0_isBound.cls ≠ "java/lang/invoke/VarHandle" ∧ (parseMethodDescriptor yX0_isBound.desc).map (fun d => d.parameters.length) = some 2 := by decide +kernel
theorem hdX0_isOpen : yX0_isOpen.cls ≠ "java/lang/invoke/MethodHandle" ∧ yX0_isOpen.cls ≠ "java/lang/invoke/VarHandle" ∧ (parseMethodDescriptor yX0_isOpen.desc).map (fun d => d.parameters.length) = some 3 := by decide +kernel
theorem hdX0_learn : yX0_learn.cls ≠ "java/lang/invoke/MethodHandle" ∧ yX0_learn.cls ≠ "java/lang/invoke/VarHandle" ∧ (parseMethodDescriptor yX0_learn.desc).map (fun d => d.parameters.length) = some 2 := by decide +kernel
theorem hdX0_limpersRow : yX0_limpersRow.cls ≠ "java/lang/invoke/MethodHandle" ∧ yX0_limpersRow.cls ≠ "java/lang/invoke/VarHandle" ∧ (parseMethodDescriptor yX0_limpersRow.desc).map (fun d => d.parameters.length) = some 1 := by decide +kernel
theorem hdX0_load : yX0_load.cls ≠ "java/lang/invoke/MethodHandle" ∧ yX0_load.cls ≠ "java/lang/invoke/VarHandle" ∧ (parseMethodDescriptor yX0_load.desc).map (fun d => d.parameters.length) = some 2 := by decide +kernel
theorem hdX0_missingOn : yX0_missingOn.cls ≠ "java/lang/invoke/MethodHandle" ∧ yX0_missingOn.cls ≠ "java/lang/invoke/VarHandle" ∧ (parseMethodDescriptor yX0_missingOn.desc).map (fun d => d.parameters.length) = some 1 := by decide +kernel
theorem hdX0_place : yX0_place.cls ≠ "java/lang/invoke/MethodHandle" ∧ yX0_place.cls ≠ "java/lang/invoke/VarHandle" ∧ (parseMethodDescriptor yX0_place.desc).map (fun d => d.parameters.length) = some 3 := by decide +kernel
theorem hdX0_placeBehind : yX0_placeBehind.cls ≠ "java/lang/invoke/MethodHandle" ∧ yX0_placeBehind.cls ≠ "java/lang/invoke/VarHandle" ∧ (parseMethodDescriptor yX0_placeBehind.desc).map (fun d => d.parameters.length) = some 2 := by decide +kernel
theorem hdX0_pullOf : yX0_pullOf.cls ≠ "java/lang/invoke/MethodHandle" ∧ yX0_pullOf.cls ≠ "java/lang/invoke/VarHandle" ∧ (parseMethodDescriptor yX0_pullOf.desc).map (fun d => d.parameters.length) = some 1 := by decide +kernel
theorem hdX0_rowsFor : yX0_rowsFor.cls ≠ "java/lang/invoke/MethodHandle" ∧ yX0_rowsFor.cls ≠ "java/lang/invoke/VarHandle" ∧ (parseMethodDescriptor yX0_rowsFor.desc).map (fun d => d.parameters.length) = some 1 := by decide +kernel
theorem hdX0_step : yX0_step.cls ≠ "java/lang/invoke/MethodHandle" ∧ yX0_step.cls ≠ "java/lang/invoke/VarHandle" ∧ (parseMethodDescriptor yX0_step.desc).map (fun d => d.parameters.length) = some 3 := by decide +kernel
theorem hdX0_stepOf : yX0_stepOf.cls ≠ "java/lang/invoke/MethodHandle" ∧ yX0_stepOf.cls ≠ "java/lang/invoke/VarHandle" ∧ (parseMethodDescriptor yX0_stepOf.desc).map (fun d => d.parameters.length) = some 2 := by decide +kernel
theorem hdX0_weightToCome : yX0_weightToCome.cls ≠ "java/lang/invoke/MethodHandle" ∧ yX0_weightToCome.cls ≠ "java/lang/invoke/VarHandle" ∧ (parseMethodDescriptor yX0_weightToCome.desc).map (fun d => d.parameters.length) = some 2 := by decide +kernel
theorem hdX2_addBeat : yX2_addBeat.cls ≠ "java/lang/invoke/MethodHandle" ∧ yX2_addBeat.cls ≠ "java/lang/invoke/VarHandle" ∧ (parseMethodDescriptor yX2_addBeat.desc).map (fun d => d.parameters.length) = some 0 := by decide +kernel
theorem hdX2_addBoard : yX2_addBoard.cls ≠ "java/lang/invoke/MethodHandle" ∧ yX2_addBoard.cls ≠ "java/lang/invoke/VarHandle" ∧ (parseMethodDescriptor yX2_addBoard.desc).map (fun d => d.parameters.length) = some 1 := by decide +kernel
theorem hdX2_addDoor : yX2_addDoor.cls ≠ "java/lang/invoke/MethodHandle" ∧ yX2_addDoor.cls ≠ "java/lang/invoke/VarHandle" ∧ (parseMethodDescriptor yX2_addDoor.desc).map (fun d => d.parameters.length) = some 0 := by decide +kernel
theorem hdX2_addRising : yX2_addRising.cls ≠ "java/lang/invoke/MethodHandle" ∧ yX2_addRising.cls ≠ "java/lang/invoke/VarHandle" ∧ (parseMethodDescriptor yX2_addRising.desc).map (fun d => d.parameters.length) = some 1 := by decide +kernel
theorem hdX2_beatsOf : yX2_beatsOf.cls ≠ "java/lang/invoke/MethodHandle" ∧ yX2_beatsOf.cls ≠ "java/lang/invoke/VarHandle" ∧ (parseMethodDescriptor yX2_beatsOf.desc).map (fun d => d.parameters.length) = some 1 := by decide +kernel
theorem hdX2_becomeLike : yX2_becomeLike.cls ≠ "java/lang/invoke/MethodHandle" ∧ yX2_becomeLike.cls ≠ "java/lang/invoke/VarHandle" ∧ (parseMethodDescriptor yX2_becomeLike.desc).map (fun d => d.parameters.length) = some 1 := by decide +kernel
theorem hdX2_clear : yX2_clear.cls ≠ "java/lang/invoke/MethodHandle" ∧ yX2_clear.cls ≠ "java/lang/invoke/VarHandle" ∧ (parseMethodDescriptor yX2_clear.desc).map (fun d => d.parameters.length) = some 0 := by decide +kernel
theorem hdX2_figureAt : yX2_figureAt.cls ≠ "java/lang/invoke/MethodHandle" ∧ yX2_figureAt.cls ≠ "java/lang/invoke/VarHandle" ∧ (parseMethodDescriptor yX2_figureAt.desc).map (fun d => d.parameters.length) = some 2 := by decide +kernel
theorem hdX2_hasBeat : yX2_hasBeat.cls ≠ "java/lang/invoke/MethodHandle" ∧ yX2_hasBeat.cls ≠ "java/lang/invoke/VarHandle" ∧ (parseMethodDescriptor yX2_hasBeat.desc).map (fun d => d.parameters.length) = some 2 := by decide +kernel
theorem hdX2_hasBoard : yX2_hasBoard.cls ≠ "java/lang/invoke/MethodHandle" ∧ yX2_hasBoard.cls ≠ "java/lang/invoke/VarHandle" ∧ (parseMethodDescriptor yX2_hasBoard.desc).map (fun d => d.parameters.length) = some 1 := by decide +kernel
theorem hdX2_hasDoor : yX2_hasDoor.cls ≠ "java/lang/invoke/MethodHandle" ∧ yX2_hasDoor.cls ≠ "java/lang/invoke/VarHandle" ∧ (parseMethodDescriptor yX2_hasDoor.desc).map (fun d => d.parameters.length) = some 1 := by decide +kernel
theorem hdX2_stands : yX2_stands.cls ≠ "java/lang/invoke/MethodHandle" ∧ yX2_stands.cls ≠ "java/lang/invoke/VarHandle" ∧ (parseMethodDescriptor yX2_stands.desc).map (fun d => d.parameters.length) = some 0 := by decide +kernel
theorem hdX3_cut : yX3_cut.cls ≠ "java/lang/invoke/MethodHandle" ∧ yX3_cut.cls ≠ "java/lang/invoke/VarHandle" ∧ (parseMethodDescriptor yX3_cut.desc).map (fun d => d.parameters.length) = some 2 := by decide +kernel
theorem hdX3_faultOfCells : yX3_faultOfCells.cls ≠ "java/lang/invoke/MethodHandle" ∧ yX3_faultOfCells.cls ≠ "java/lang/invoke/VarHandle" ∧ (parseMethodDescriptor yX3_faultOfCells.desc).map (fun d => d.parameters.length) = some 4 := by decide +kernel
theorem hdX3_hasCells : yX3_hasCells.cls ≠ "java/lang/invoke/MethodHandle" ∧ yX3_hasCells.cls ≠ "java/lang/invoke/VarHandle" ∧ (parseMethodDescriptor yX3_hasCells.desc).map (fun d => d.parameters.length) = some 3 := by decide +kernel
theorem hdX3_includes : yX3_includes.cls ≠ "java/lang/invoke/MethodHandle" ∧ yX3_includes.cls ≠ "java/lang/invoke/VarHandle" ∧ (parseMethodDescriptor yX3_includes.desc).map (fun d => d.parameters.length) = some 1 := by decide +kernel
theorem hdX3_isNothing : yX3_isNothing.cls ≠ "java/lang/invoke/MethodHandle" ∧ yX3_isNothing.cls ≠ "java/lang/invoke/VarHandle" ∧ (parseMethodDescriptor yX3_isNothing.desc).map (fun d => d.parameters.length) = some 1 := by decide +kernel
theorem hdX3_lengthOf : yX3_lengthOf.cls ≠ "java/lang/invoke/MethodHandle" ∧ yX3_lengthOf.cls ≠ "java/lang/invoke/VarHandle" ∧ (parseMethodDescriptor yX3_lengthOf.desc).map (fun d => d.parameters.length) = some 1 := by decide +kernel
theorem hdX3_readInto : yX3_readInto.cls ≠ "java/lang/invoke/MethodHandle" ∧ yX3_readInto.cls ≠ "java/lang/invoke/VarHandle" ∧ (parseMethodDescriptor yX3_readInto.desc).map (fun d => d.parameters.length) = some 4 := by decide +kernel
theorem hdX3_renew : yX3_renew.cls ≠ "java/lang/invoke/MethodHandle" ∧ yX3_renew.cls ≠ "java/lang/invoke/VarHandle" ∧ (parseMethodDescriptor yX3_renew.desc).map (fun d => d.parameters.length) = some 3 := by decide +kernel
theorem hdX3_sortOf : yX3_sortOf.cls ≠ "java/lang/invoke/MethodHandle" ∧ yX3_sortOf.cls ≠ "java/lang/invoke/VarHandle" ∧ (parseMethodDescriptor yX3_sortOf.desc).map (fun d => d.parameters.length) = some 1 := by decide +kernel
theorem hdX3_write : yX3_write.cls ≠ "java/lang/invoke/MethodHandle" ∧ yX3_write.cls ≠ "java/lang/invoke/VarHandle" ∧ (parseMethodDescriptor yX3_write.desc).map (fun d => d.parameters.length) = some 3 := by decide +kernel
theorem hdX4_firstFault : yX4_firstFault.cls ≠ "java/lang/invoke/MethodHandle" ∧ yX4_firstFault.cls ≠ "java/lang/invoke/VarHandle" ∧ (parseMethodDescriptor yX4_firstFault.desc).map (fun d => d.parameters.length) = some 2 := by decide +kernel
theorem hdX4_firstFaultOfDoors : yX4_firstFaultOfDoors.cls ≠ "java/lang/invoke/MethodHandle" ∧ yX4_firstFaultOfDoors.cls ≠ "java/lang/invoke/VarHandle" ∧ (parseMethodDescriptor yX4_firstFaultOfDoors.desc).map (fun d => d.parameters.length) = some 3 := by decide +kernel
theorem hdX4_goesOn : yX4_goesOn.cls ≠ "java/lang/invoke/MethodHandle" ∧ yX4_goesOn.cls ≠ "java/lang/invoke/VarHandle" ∧ (parseMethodDescriptor yX4_goesOn.desc).map (fun d => d.parameters.length) = some 1 := by decide +kernel
theorem hdX5_includes : yX5_includes.cls ≠ "java/lang/invoke/MethodHandle" ∧ yX5_includes.cls ≠ "java/lang/invoke/VarHandle" ∧ (parseMethodDescriptor yX5_includes.desc).map (fun d => d.parameters.length) = some 1 := by decide +kernel
theorem hdX5_isFull : yX5_isFull.cls ≠ "java/lang/invoke/MethodHandle" ∧ yX5_isFull.cls ≠ "java/lang/invoke/VarHandle" ∧ (parseMethodDescriptor yX5_isFull.desc).map (fun d => d.parameters.length) = some 0 := by decide +kernel
theorem hdX5_join : yX5_join.cls ≠ "java/lang/invoke/MethodHandle" ∧ yX5_join.cls ≠ "java/lang/invoke/VarHandle" ∧ (parseMethodDescriptor yX5_join.desc).map (fun d => d.parameters.length) = some 2 := by decide +kernel
theorem hdX5_kindOf : yX5_kindOf.cls ≠ "java/lang/invoke/MethodHandle" ∧ yX5_kindOf.cls ≠ "java/lang/invoke/VarHandle" ∧ (parseMethodDescriptor yX5_kindOf.desc).map (fun d => d.parameters.length) = some 1 := by decide +kernel
theorem hdX5_pull : yX5_pull.cls ≠ "java/lang/invoke/MethodHandle" ∧ yX5_pull.cls ≠ "java/lang/invoke/VarHandle" ∧ (parseMethodDescriptor yX5_pull.desc).map (fun d => d.parameters.length) = some 2 := by decide +kernel
theorem hdX5_weightOf : yX5_weightOf.cls ≠ "java/lang/invoke/MethodHandle" ∧ yX5_weightOf.cls ≠ "java/lang/invoke/VarHandle" ∧ (parseMethodDescriptor yX5_weightOf.desc).map (fun d => d.parameters.length) = some 1 := by decide +kernel
theorem hdX6_can : yX6_can.cls ≠ "java/lang/invoke/MethodHandle" ∧ yX6_can.cls ≠ "java/lang/invoke/VarHandle" ∧ (parseMethodDescriptor yX6_can.desc).map (fun d => d.parameters.length) = some 1 := by decide +kernel
theorem hdX6_dancer : yX6_dancer.cls ≠ "java/lang/invoke/MethodHandle" ∧ yX6_dancer.cls ≠ "java/lang/invoke/VarHandle" ∧ (parseMethodDescriptor yX6_dancer.desc).map (fun d => d.parameters.length) = some 2 := by decide +kernel
theorem hdX6_faulted : yX6_faulted.cls ≠ "java/lang/invoke/MethodHandle" ∧ yX6_faulted.cls ≠ "java/lang/invoke/VarHandle" ∧ (parseMethodDescriptor yX6_faulted.desc).map (fun d => d.parameters.length) = some 1 := by decide +kernel
theorem hdX6_felt : yX6_felt.cls ≠ "java/lang/invoke/MethodHandle" ∧ yX6_felt.cls ≠ "java/lang/invoke/VarHandle" ∧ (parseMethodDescriptor yX6_felt.desc).map (fun d => d.parameters.length) = some 5 := by decide +kernel
theorem hdX6_limped : yX6_limped.cls ≠ "java/lang/invoke/MethodHandle" ∧ yX6_limped.cls ≠ "java/lang/invoke/VarHandle" ∧ (parseMethodDescriptor yX6_limped.desc).map (fun d => d.parameters.length) = some 1 := by decide +kernel
theorem hdX6_lock : yX6_lock.cls ≠ "java/lang/invoke/MethodHandle" ∧ yX6_lock.cls ≠ "java/lang/invoke/VarHandle" ∧ (parseMethodDescriptor yX6_lock.desc).map (fun d => d.parameters.length) = some 4 := by decide +kernel
theorem hdX6_ofDancer : yX6_ofDancer.cls ≠ "java/lang/invoke/MethodHandle" ∧ yX6_ofDancer.cls ≠ "java/lang/invoke/VarHandle" ∧ (parseMethodDescriptor yX6_ofDancer.desc).map (fun d => d.parameters.length) = some 2 := by decide +kernel
theorem hdX6_opens : yX6_opens.cls ≠ "java/lang/invoke/MethodHandle" ∧ yX6_opens.cls ≠ "java/lang/invoke/VarHandle" ∧ (parseMethodDescriptor yX6_opens.desc).map (fun d => d.parameters.length) = some 4 := by decide +kernel
theorem hdX6_plan : yX6_plan.cls ≠ "java/lang/invoke/MethodHandle" ∧ yX6_plan.cls ≠ "java/lang/invoke/VarHandle" ∧ (parseMethodDescriptor yX6_plan.desc).map (fun d => d.parameters.length) = some 3 := by decide +kernel
theorem hdX6_plans : yX6_plans.cls ≠ "java/lang/invoke/MethodHandle" ∧ yX6_plans.cls ≠ "java/lang/invoke/VarHandle" ∧ (parseMethodDescriptor yX6_plans.desc).map (fun d => d.parameters.length) = some 2 := by decide +kernel
theorem hdX6_put : yX6_put.cls ≠ "java/lang/invoke/MethodHandle" ∧ yX6_put.cls ≠ "java/lang/invoke/VarHandle" ∧ (parseMethodDescriptor yX6_put.desc).map (fun d => d.parameters.length) = some 3 := by decide +kernel
theorem hdX6_sheet : yX6_sheet.cls ≠ "java/lang/invoke/MethodHandle" ∧ yX6_sheet.cls ≠ "java/lang/invoke/VarHandle" ∧ (parseMethodDescriptor yX6_sheet.desc).map (fun d => d.parameters.length) = some 3 := by decide +kernel
theorem hdX6_takePlan : yX6_takePlan.cls ≠ "java/lang/invoke/MethodHandle" ∧ yX6_takePlan.cls ≠ "java/lang/invoke/VarHandle" ∧ (parseMethodDescriptor yX6_takePlan.desc).map (fun d => d.parameters.length) = some 5 := by decide +kernel
theorem hdX6_takeRow : yX6_takeRow.cls ≠ "java/lang/invoke/MethodHandle" ∧ yX6_takeRow.cls ≠ "java/lang/invoke/VarHandle" ∧ (parseMethodDescriptor yX6_takeRow.desc).map (fun d => d.parameters.length) = some 5 := by decide +kernel
theorem hdX6_wrong : yX6_wrong.cls ≠ "java/lang/invoke/MethodHandle" ∧ yX6_wrong.cls ≠ "java/lang/invoke/VarHandle" ∧ (parseMethodDescriptor yX6_wrong.desc).map (fun d => d.parameters.length) = some 4 := by decide +kernel