/-! the links of the tables, by their places; blocks of the world -/
theorem zAll1 {a : Cond} (ha : a ∈ zU) : ∀ w ∈ [a], w ∈ zU := fun w h => by
  rcases List.mem_cons.mp h with rfl | h
  · exact ha
  · exact absurd h List.not_mem_nil
theorem zAllc {a : Cond} {b : List Cond} (ha : a ∈ zU) (hb : ∀ w ∈ b, w ∈ zU) : ∀ w ∈ a :: b, w ∈ zU := fun w h => by
  rcases List.mem_cons.mp h with rfl | h
  · exact ha
  · exact hb w h
theorem zLkV_of {own C : String} {idx : Nat} {y : MethodName} {bytes : ByteArray} {maxL : Nat} {ret : Option FieldType} {n : Nat} (h1 : Cond.methodLink own idx y ∈ zU) (h2 : Cond.instanceMethod y ∈ zU) (h3 : Cond.selects C y y ∈ zU) (h4 : Cond.initialized C ∈ zU) (h5 : Cond.code y bytes maxL ret ∈ zU) (h6 : y.cls = C ∧ y.cls ≠ "java/lang/invoke/MethodHandle" ∧ y.cls ≠ "java/lang/invoke/VarHandle" ∧ (parseMethodDescriptor y.desc).map (fun d => d.parameters.length) = some n) : zLkV own idx C y bytes maxL ret n :=
  ⟨zAllc h1 (zAllc h2 (zAllc h3 (zAllc h4 (zAll1 h5)))), h6⟩
theorem zLkS_of {own : String} {idx : Nat} {y : MethodName} {bytes : ByteArray} {maxL : Nat} {ret : Option FieldType} {n : Nat} (h1 : Cond.methodLink own idx y ∈ zU) (h2 : Cond.static y ∈ zU) (h4 : Cond.initialized own ∈ zU) (h5 : Cond.code y bytes maxL ret ∈ zU) (h6 : y.cls = own ∧ y.cls ≠ "java/lang/invoke/MethodHandle" ∧ y.cls ≠ "java/lang/invoke/VarHandle" ∧ (parseMethodDescriptor y.desc).map (fun d => d.parameters.length) = some n) : zLkS own idx y bytes maxL ret n :=
  ⟨zAllc h1 (zAllc h2 (zAllc h4 (zAll1 h5))), h6⟩
theorem fX3_12 : zFld RX3 12 3 0 RX3 TX3 4 := ⟨rfl, by decide, zin_u zin3 zin_g3, zU_mem 149 (by decide +kernel) (by decide +kernel)⟩
theorem fX3_16 : zFld RX3 16 3 1 RX3 TX3 4 := ⟨rfl, by decide, zin_u zin3 zin_g3, zU_mem 150 (by decide +kernel) (by decide +kernel)⟩
theorem fX3_22 : zFld RX3 22 3 2 RX3 TX3 4 := ⟨rfl, by decide, zin_u zin3 zin_g3, zU_mem 151 (by decide +kernel) (by decide +kernel)⟩
theorem fX3_29 : zFld RX3 29 3 3 RX3 TX3 4 := ⟨rfl, by decide, zin_u zin3 zin_g3, zU_mem 152 (by decide +kernel) (by decide +kernel)⟩
theorem fX0_9 : zFld RX0 9 0 0 RX0 TX0 2 := ⟨rfl, by decide, zin_u zin0 zin_g0, zU_mem 142 (by decide +kernel) (by decide +kernel)⟩
theorem fX0_15 : zFld RX0 15 0 1 RX0 TX0 2 := ⟨rfl, by decide, zin_u zin0 zin_g0, zU_mem 143 (by decide +kernel) (by decide +kernel)⟩
theorem fX1_11 : zFld RX1 11 1 0 RX1 TX1 2 := ⟨rfl, by decide, zin_u zin1 zin_g1, zU_mem 129 (by decide +kernel) (by decide +kernel)⟩
theorem fX1_17 : zFld RX1 17 1 1 RX1 TX1 2 := ⟨rfl, by decide, zin_u zin1 zin_g1, zU_mem 130 (by decide +kernel) (by decide +kernel)⟩
theorem fX2_9 : zFld RX2 9 2 0 RX2 TX2 11 := ⟨rfl, by decide, zin_u zin2 zin_g2, zU_mem 85 (by decide +kernel) (by decide +kernel)⟩
theorem fX2_15 : zFld RX2 15 2 1 RX2 TX2 11 := ⟨rfl, by decide, zin_u zin2 zin_g2, zU_mem 86 (by decide +kernel) (by decide +kernel)⟩
theorem fX2_18 : zFld RX2 18 2 2 RX2 TX2 11 := ⟨rfl, by decide, zin_u zin2 zin_g2, zU_mem 87 (by decide +kernel) (by decide +kernel)⟩
theorem fX2_21 : zFld RX2 21 2 3 RX2 TX2 11 := ⟨rfl, by decide, zin_u zin2 zin_g2, zU_mem 88 (by decide +kernel) (by decide +kernel)⟩
theorem fX2_24 : zFld RX2 24 2 4 RX2 TX2 11 := ⟨rfl, by decide, zin_u zin2 zin_g2, zU_mem 89 (by decide +kernel) (by decide +kernel)⟩
theorem fX2_28 : zFld RX2 28 2 5 RX2 TX2 11 := ⟨rfl, by decide, zin_u zin2 zin_g2, zU_mem 90 (by decide +kernel) (by decide +kernel)⟩
theorem fX2_31 : zFld RX2 31 2 6 RX2 TX2 11 := ⟨rfl, by decide, zin_u zin2 zin_g2, zU_mem 91 (by decide +kernel) (by decide +kernel)⟩
theorem fX2_34 : zFld RX2 34 2 7 RX2 TX2 11 := ⟨rfl, by decide, zin_u zin2 zin_g2, zU_mem 92 (by decide +kernel) (by decide +kernel)⟩
theorem fX2_37 : zFld RX2 37 2 8 RX2 TX2 11 := ⟨rfl, by decide, zin_u zin2 zin_g2, zU_mem 93 (by decide +kernel) (by decide +kernel)⟩
theorem fX2_40 : zFld RX2 40 2 9 RX2 TX2 11 := ⟨rfl, by decide, zin_u zin2 zin_g2, zU_mem 94 (by decide +kernel) (by decide +kernel)⟩
theorem fX2_43 : zFld RX2 43 2 10 RX2 TX2 11 := ⟨rfl, by decide, zin_u zin2 zin_g2, zU_mem 95 (by decide +kernel) (by decide +kernel)⟩
theorem fX4_7 : zFld RX4 7 4 1 RX4 TX4 11 := ⟨rfl, by decide, zin_u zin4 zin_g4, zU_mem 802 (by decide +kernel) (by decide +kernel)⟩
theorem fX4_13 : zFld RX4 13 4 3 RX4 TX4 11 := ⟨rfl, by decide, zin_u zin4 zin_g4, zU_mem 804 (by decide +kernel) (by decide +kernel)⟩
theorem fX4_16 : zFld RX4 16 4 0 RX4 TX4 11 := ⟨rfl, by decide, zin_u zin4 zin_g4, zU_mem 801 (by decide +kernel) (by decide +kernel)⟩
theorem fX4_76 : zFld RX4 76 4 2 RX4 TX4 11 := ⟨rfl, by decide, zin_u zin4 zin_g4, zU_mem 803 (by decide +kernel) (by decide +kernel)⟩
theorem fX4_140 : zFld RX4 140 4 4 RX4 TX4 11 := ⟨rfl, by decide, zin_u zin4 zin_g4, zU_mem 805 (by decide +kernel) (by decide +kernel)⟩
theorem fX4_143 : zFld RX4 143 4 5 RX4 TX4 11 := ⟨rfl, by decide, zin_u zin4 zin_g4, zU_mem 806 (by decide +kernel) (by decide +kernel)⟩
theorem fX4_152 : zFld RX4 152 4 7 RX4 TX4 11 := ⟨rfl, by decide, zin_u zin4 zin_g4, zU_mem 808 (by decide +kernel) (by decide +kernel)⟩
theorem fX4_155 : zFld RX4 155 4 6 RX4 TX4 11 := ⟨rfl, by decide, zin_u zin4 zin_g4, zU_mem 807 (by decide +kernel) (by decide +kernel)⟩
theorem fX4_165 : zFld RX4 165 4 8 RX4 TX4 11 := ⟨rfl, by decide, zin_u zin4 zin_g4, zU_mem 809 (by decide +kernel) (by decide +kernel)⟩
theorem fX4_168 : zFld RX4 168 4 9 RX4 TX4 11 := ⟨rfl, by decide, zin_u zin4 zin_g4, zU_mem 810 (by decide +kernel) (by decide +kernel)⟩
theorem fX4_185 : zFld RX4 185 4 10 RX4 TX4 11 := ⟨rfl, by decide, zin_u zin4 zin_g4, zU_mem 811 (by decide +kernel) (by decide +kernel)⟩
theorem u_iniX3 : Cond.initialized RX3 ∈ zU := zU_mem 57 (by decide +kernel) (by decide +kernel)
theorem u_iniX2 : Cond.initialized RX2 ∈ zU := zU_mem 58 (by decide +kernel) (by decide +kernel)
theorem u_iniX1 : Cond.initialized RX1 ∈ zU := zU_mem 59 (by decide +kernel) (by decide +kernel)
theorem u_iniX0 : Cond.initialized RX0 ∈ zU := zU_mem 60 (by decide +kernel) (by decide +kernel)
theorem u_iniX4 : Cond.initialized RX4 ∈ zU := zU_mem 61 (by decide +kernel) (by decide +kernel)
theorem u_cX3_checkSite : Cond.code yX3_checkSite cX3_checkSite 1 none ∈ zU := zU_mem 343 (by decide +kernel) (by decide +kernel)
theorem u_sX3_checkSite : Cond.static yX3_checkSite ∈ zU := zU_mem 342 (by decide +kernel) (by decide +kernel)
theorem u_dX3_checkSite : yX3_checkSite.cls = RX3 ∧ yX3_checkSite.cls ≠ "java/lang/invoke/MethodHandle" ∧ yX3_checkSite.cls ≠ "java/lang/invoke/VarHandle" ∧ (parseMethodDescriptor yX3_checkSite.desc).map (fun d => d.parameters.length) = some 1 := ⟨rfl, by decide +kernel, by decide +kernel, by decide +kernel⟩
theorem kX3_33 : zLkS RX3 33 yX3_checkSite cX3_checkSite 1 none 1 := zLkS_of (zU_mem 341 (by decide +kernel) (by decide +kernel)) u_sX3_checkSite u_iniX3 u_cX3_checkSite u_dX3_checkSite
theorem u_cJ6_bitCount_0f7a4 : Cond.code yJ6_bitCount_0f7a4 cJ6_bitCount_0f7a4 1 (some .int) ∈ zU := zU_mem 415 (by decide +kernel) (by decide +kernel)
theorem u_sJ6_bitCount_0f7a4 : Cond.static yJ6_bitCount_0f7a4 ∈ zU := zU_mem 414 (by decide +kernel) (by decide +kernel)
theorem u_dJ6_bitCount_0f7a4 : yJ6_bitCount_0f7a4.cls = RJ6 ∧ yJ6_bitCount_0f7a4.cls ≠ "java/lang/invoke/MethodHandle" ∧ yJ6_bitCount_0f7a4.cls ≠ "java/lang/invoke/VarHandle" ∧ (parseMethodDescriptor yJ6_bitCount_0f7a4.desc).map (fun d => d.parameters.length) = some 1 := ⟨rfl, by decide +kernel, by decide +kernel, by decide +kernel⟩
theorem u_cX2_canBegin : Cond.code yX2_canBegin cX2_canBegin 4 (some .boolean) ∈ zU := zU_mem 439 (by decide +kernel) (by decide +kernel)
theorem u_iX2_canBegin : Cond.instanceMethod yX2_canBegin ∈ zU := zU_mem 437 (by decide +kernel) (by decide +kernel)
theorem u_vX2_canBegin : Cond.selects RX2 yX2_canBegin yX2_canBegin ∈ zU := zU_mem 438 (by decide +kernel) (by decide +kernel)
theorem u_dX2_canBegin : yX2_canBegin.cls = RX2 ∧ yX2_canBegin.cls ≠ "java/lang/invoke/MethodHandle" ∧ yX2_canBegin.cls ≠ "java/lang/invoke/VarHandle" ∧ (parseMethodDescriptor yX2_canBegin.desc).map (fun d => d.parameters.length) = some 2 := ⟨rfl, by decide +kernel, by decide +kernel, by decide +kernel⟩
theorem kX3_52 : zLkV RX3 52 RX2 yX2_canBegin cX2_canBegin 4 (some .boolean) 2 := zLkV_of (zU_mem 436 (by decide +kernel) (by decide +kernel)) u_iX2_canBegin u_vX2_canBegin u_iniX2 u_cX2_canBegin u_dX2_canBegin
theorem u_cX1_save : Cond.code yX1_save cX1_save 3 none ∈ zU := zU_mem 459 (by decide +kernel) (by decide +kernel)
theorem u_iX1_save : Cond.instanceMethod yX1_save ∈ zU := zU_mem 457 (by decide +kernel) (by decide +kernel)
theorem u_vX1_save : Cond.selects RX1 yX1_save yX1_save ∈ zU := zU_mem 458 (by decide +kernel) (by decide +kernel)
theorem u_dX1_save : yX1_save.cls = RX1 ∧ yX1_save.cls ≠ "java/lang/invoke/MethodHandle" ∧ yX1_save.cls ≠ "java/lang/invoke/VarHandle" ∧ (parseMethodDescriptor yX1_save.desc).map (fun d => d.parameters.length) = some 1 := ⟨rfl, by decide +kernel, by decide +kernel, by decide +kernel⟩
theorem kX3_61 : zLkV RX3 61 RX1 yX1_save cX1_save 3 none 1 := zLkV_of (zU_mem 456 (by decide +kernel) (by decide +kernel)) u_iX1_save u_vX1_save u_iniX1 u_cX1_save u_dX1_save
theorem u_cX2_addDeal : Cond.code yX2_addDeal cX2_addDeal 6 (some .int) ∈ zU := zU_mem 480 (by decide +kernel) (by decide +kernel)
theorem u_iX2_addDeal : Cond.instanceMethod yX2_addDeal ∈ zU := zU_mem 478 (by decide +kernel) (by decide +kernel)
theorem u_vX2_addDeal : Cond.selects RX2 yX2_addDeal yX2_addDeal ∈ zU := zU_mem 479 (by decide +kernel) (by decide +kernel)
theorem u_dX2_addDeal : yX2_addDeal.cls = RX2 ∧ yX2_addDeal.cls ≠ "java/lang/invoke/MethodHandle" ∧ yX2_addDeal.cls ≠ "java/lang/invoke/VarHandle" ∧ (parseMethodDescriptor yX2_addDeal.desc).map (fun d => d.parameters.length) = some 3 := ⟨rfl, by decide +kernel, by decide +kernel, by decide +kernel⟩
theorem kX3_65 : zLkV RX3 65 RX2 yX2_addDeal cX2_addDeal 6 (some .int) 3 := zLkV_of (zU_mem 477 (by decide +kernel) (by decide +kernel)) u_iX2_addDeal u_vX2_addDeal u_iniX2 u_cX2_addDeal u_dX2_addDeal
theorem u_cX3_checkDealAndSite : Cond.code yX3_checkDealAndSite cX3_checkDealAndSite 3 none ∈ zU := zU_mem 492 (by decide +kernel) (by decide +kernel)
theorem u_iX3_checkDealAndSite : Cond.instanceMethod yX3_checkDealAndSite ∈ zU := zU_mem 491 (by decide +kernel) (by decide +kernel)
theorem u_vX3_checkDealAndSite : Cond.selects RX3 yX3_checkDealAndSite yX3_checkDealAndSite ∈ zU := zU_mem 6 (by decide +kernel) (by decide +kernel)
theorem u_dX3_checkDealAndSite : yX3_checkDealAndSite.cls = RX3 ∧ yX3_checkDealAndSite.cls ≠ "java/lang/invoke/MethodHandle" ∧ yX3_checkDealAndSite.cls ≠ "java/lang/invoke/VarHandle" ∧ (parseMethodDescriptor yX3_checkDealAndSite.desc).map (fun d => d.parameters.length) = some 2 := ⟨rfl, by decide +kernel, by decide +kernel, by decide +kernel⟩
theorem kX3_69 : zLkV RX3 69 RX3 yX3_checkDealAndSite cX3_checkDealAndSite 3 none 2 := zLkV_of (zU_mem 489 (by decide +kernel) (by decide +kernel)) u_iX3_checkDealAndSite u_vX3_checkDealAndSite u_iniX3 u_cX3_checkDealAndSite u_dX3_checkDealAndSite
theorem u_cX2_canVote : Cond.code yX2_canVote cX2_canVote 3 (some .boolean) ∈ zU := zU_mem 502 (by decide +kernel) (by decide +kernel)
theorem u_iX2_canVote : Cond.instanceMethod yX2_canVote ∈ zU := zU_mem 500 (by decide +kernel) (by decide +kernel)
theorem u_vX2_canVote : Cond.selects RX2 yX2_canVote yX2_canVote ∈ zU := zU_mem 501 (by decide +kernel) (by decide +kernel)
theorem u_dX2_canVote : yX2_canVote.cls = RX2 ∧ yX2_canVote.cls ≠ "java/lang/invoke/MethodHandle" ∧ yX2_canVote.cls ≠ "java/lang/invoke/VarHandle" ∧ (parseMethodDescriptor yX2_canVote.desc).map (fun d => d.parameters.length) = some 2 := ⟨rfl, by decide +kernel, by decide +kernel, by decide +kernel⟩
theorem kX3_73 : zLkV RX3 73 RX2 yX2_canVote cX2_canVote 3 (some .boolean) 2 := zLkV_of (zU_mem 499 (by decide +kernel) (by decide +kernel)) u_iX2_canVote u_vX2_canVote u_iniX2 u_cX2_canVote u_dX2_canVote
theorem u_cX2_castVote : Cond.code yX2_castVote cX2_castVote 5 (some .int) ∈ zU := zU_mem 507 (by decide +kernel) (by decide +kernel)
theorem u_iX2_castVote : Cond.instanceMethod yX2_castVote ∈ zU := zU_mem 505 (by decide +kernel) (by decide +kernel)
theorem u_vX2_castVote : Cond.selects RX2 yX2_castVote yX2_castVote ∈ zU := zU_mem 506 (by decide +kernel) (by decide +kernel)
theorem u_dX2_castVote : yX2_castVote.cls = RX2 ∧ yX2_castVote.cls ≠ "java/lang/invoke/MethodHandle" ∧ yX2_castVote.cls ≠ "java/lang/invoke/VarHandle" ∧ (parseMethodDescriptor yX2_castVote.desc).map (fun d => d.parameters.length) = some 3 := ⟨rfl, by decide +kernel, by decide +kernel, by decide +kernel⟩
theorem kX3_78 : zLkV RX3 78 RX2 yX2_castVote cX2_castVote 5 (some .int) 3 := zLkV_of (zU_mem 504 (by decide +kernel) (by decide +kernel)) u_iX2_castVote u_vX2_castVote u_iniX2 u_cX2_castVote u_dX2_castVote
theorem u_cX3_checkDeal : Cond.code yX3_checkDeal cX3_checkDeal 2 none ∈ zU := zU_mem 496 (by decide +kernel) (by decide +kernel)
theorem u_iX3_checkDeal : Cond.instanceMethod yX3_checkDeal ∈ zU := zU_mem 495 (by decide +kernel) (by decide +kernel)
theorem u_vX3_checkDeal : Cond.selects RX3 yX3_checkDeal yX3_checkDeal ∈ zU := zU_mem 7 (by decide +kernel) (by decide +kernel)
theorem u_dX3_checkDeal : yX3_checkDeal.cls = RX3 ∧ yX3_checkDeal.cls ≠ "java/lang/invoke/MethodHandle" ∧ yX3_checkDeal.cls ≠ "java/lang/invoke/VarHandle" ∧ (parseMethodDescriptor yX3_checkDeal.desc).map (fun d => d.parameters.length) = some 1 := ⟨rfl, by decide +kernel, by decide +kernel, by decide +kernel⟩
theorem kX3_82 : zLkV RX3 82 RX3 yX3_checkDeal cX3_checkDeal 2 none 1 := zLkV_of (zU_mem 493 (by decide +kernel) (by decide +kernel)) u_iX3_checkDeal u_vX3_checkDeal u_iniX3 u_cX3_checkDeal u_dX3_checkDeal
theorem u_cX2_canDecide : Cond.code yX2_canDecide cX2_canDecide 2 (some .boolean) ∈ zU := zU_mem 531 (by decide +kernel) (by decide +kernel)
theorem u_iX2_canDecide : Cond.instanceMethod yX2_canDecide ∈ zU := zU_mem 529 (by decide +kernel) (by decide +kernel)
theorem u_vX2_canDecide : Cond.selects RX2 yX2_canDecide yX2_canDecide ∈ zU := zU_mem 530 (by decide +kernel) (by decide +kernel)
theorem u_dX2_canDecide : yX2_canDecide.cls = RX2 ∧ yX2_canDecide.cls ≠ "java/lang/invoke/MethodHandle" ∧ yX2_canDecide.cls ≠ "java/lang/invoke/VarHandle" ∧ (parseMethodDescriptor yX2_canDecide.desc).map (fun d => d.parameters.length) = some 1 := ⟨rfl, by decide +kernel, by decide +kernel, by decide +kernel⟩
theorem kX3_85 : zLkV RX3 85 RX2 yX2_canDecide cX2_canDecide 2 (some .boolean) 1 := zLkV_of (zU_mem 528 (by decide +kernel) (by decide +kernel)) u_iX2_canDecide u_vX2_canDecide u_iniX2 u_cX2_canDecide u_dX2_canDecide
theorem u_cX2_makeDecision : Cond.code yX2_makeDecision cX2_makeDecision 3 (some .int) ∈ zU := zU_mem 536 (by decide +kernel) (by decide +kernel)
theorem u_iX2_makeDecision : Cond.instanceMethod yX2_makeDecision ∈ zU := zU_mem 534 (by decide +kernel) (by decide +kernel)
theorem u_vX2_makeDecision : Cond.selects RX2 yX2_makeDecision yX2_makeDecision ∈ zU := zU_mem 535 (by decide +kernel) (by decide +kernel)
theorem u_dX2_makeDecision : yX2_makeDecision.cls = RX2 ∧ yX2_makeDecision.cls ≠ "java/lang/invoke/MethodHandle" ∧ yX2_makeDecision.cls ≠ "java/lang/invoke/VarHandle" ∧ (parseMethodDescriptor yX2_makeDecision.desc).map (fun d => d.parameters.length) = some 1 := ⟨rfl, by decide +kernel, by decide +kernel, by decide +kernel⟩
theorem kX3_91 : zLkV RX3 91 RX2 yX2_makeDecision cX2_makeDecision 3 (some .int) 1 := zLkV_of (zU_mem 533 (by decide +kernel) (by decide +kernel)) u_iX2_makeDecision u_vX2_makeDecision u_iniX2 u_cX2_makeDecision u_dX2_makeDecision
theorem u_cX2_canTell : Cond.code yX2_canTell cX2_canTell 4 (some .boolean) ∈ zU := zU_mem 556 (by decide +kernel) (by decide +kernel)
theorem u_iX2_canTell : Cond.instanceMethod yX2_canTell ∈ zU := zU_mem 554 (by decide +kernel) (by decide +kernel)
theorem u_vX2_canTell : Cond.selects RX2 yX2_canTell yX2_canTell ∈ zU := zU_mem 555 (by decide +kernel) (by decide +kernel)
theorem u_dX2_canTell : yX2_canTell.cls = RX2 ∧ yX2_canTell.cls ≠ "java/lang/invoke/MethodHandle" ∧ yX2_canTell.cls ≠ "java/lang/invoke/VarHandle" ∧ (parseMethodDescriptor yX2_canTell.desc).map (fun d => d.parameters.length) = some 2 := ⟨rfl, by decide +kernel, by decide +kernel, by decide +kernel⟩
theorem kX3_94 : zLkV RX3 94 RX2 yX2_canTell cX2_canTell 4 (some .boolean) 2 := zLkV_of (zU_mem 553 (by decide +kernel) (by decide +kernel)) u_iX2_canTell u_vX2_canTell u_iniX2 u_cX2_canTell u_dX2_canTell
theorem u_cX2_tellMember : Cond.code yX2_tellMember cX2_tellMember 5 (some .int) ∈ zU := zU_mem 561 (by decide +kernel) (by decide +kernel)
theorem u_iX2_tellMember : Cond.instanceMethod yX2_tellMember ∈ zU := zU_mem 559 (by decide +kernel) (by decide +kernel)
theorem u_vX2_tellMember : Cond.selects RX2 yX2_tellMember yX2_tellMember ∈ zU := zU_mem 560 (by decide +kernel) (by decide +kernel)
theorem u_dX2_tellMember : yX2_tellMember.cls = RX2 ∧ yX2_tellMember.cls ≠ "java/lang/invoke/MethodHandle" ∧ yX2_tellMember.cls ≠ "java/lang/invoke/VarHandle" ∧ (parseMethodDescriptor yX2_tellMember.desc).map (fun d => d.parameters.length) = some 2 := ⟨rfl, by decide +kernel, by decide +kernel, by decide +kernel⟩
theorem kX3_99 : zLkV RX3 99 RX2 yX2_tellMember cX2_tellMember 5 (some .int) 2 := zLkV_of (zU_mem 558 (by decide +kernel) (by decide +kernel)) u_iX2_tellMember u_vX2_tellMember u_iniX2 u_cX2_tellMember u_dX2_tellMember
theorem u_cX2_canAsk : Cond.code yX2_canAsk cX2_canAsk 4 (some .boolean) ∈ zU := zU_mem 219 (by decide +kernel) (by decide +kernel)
theorem u_iX2_canAsk : Cond.instanceMethod yX2_canAsk ∈ zU := zU_mem 217 (by decide +kernel) (by decide +kernel)
theorem u_vX2_canAsk : Cond.selects RX2 yX2_canAsk yX2_canAsk ∈ zU := zU_mem 218 (by decide +kernel) (by decide +kernel)
theorem u_dX2_canAsk : yX2_canAsk.cls = RX2 ∧ yX2_canAsk.cls ≠ "java/lang/invoke/MethodHandle" ∧ yX2_canAsk.cls ≠ "java/lang/invoke/VarHandle" ∧ (parseMethodDescriptor yX2_canAsk.desc).map (fun d => d.parameters.length) = some 3 := ⟨rfl, by decide +kernel, by decide +kernel, by decide +kernel⟩
theorem kX3_105 : zLkV RX3 105 RX2 yX2_canAsk cX2_canAsk 4 (some .boolean) 3 := zLkV_of (zU_mem 571 (by decide +kernel) (by decide +kernel)) u_iX2_canAsk u_vX2_canAsk u_iniX2 u_cX2_canAsk u_dX2_canAsk
theorem u_cX2_putQuestion : Cond.code yX2_putQuestion cX2_putQuestion 5 (some .int) ∈ zU := zU_mem 576 (by decide +kernel) (by decide +kernel)
theorem u_iX2_putQuestion : Cond.instanceMethod yX2_putQuestion ∈ zU := zU_mem 574 (by decide +kernel) (by decide +kernel)
theorem u_vX2_putQuestion : Cond.selects RX2 yX2_putQuestion yX2_putQuestion ∈ zU := zU_mem 575 (by decide +kernel) (by decide +kernel)
theorem u_dX2_putQuestion : yX2_putQuestion.cls = RX2 ∧ yX2_putQuestion.cls ≠ "java/lang/invoke/MethodHandle" ∧ yX2_putQuestion.cls ≠ "java/lang/invoke/VarHandle" ∧ (parseMethodDescriptor yX2_putQuestion.desc).map (fun d => d.parameters.length) = some 3 := ⟨rfl, by decide +kernel, by decide +kernel, by decide +kernel⟩
theorem kX3_111 : zLkV RX3 111 RX2 yX2_putQuestion cX2_putQuestion 5 (some .int) 3 := zLkV_of (zU_mem 573 (by decide +kernel) (by decide +kernel)) u_iX2_putQuestion u_vX2_putQuestion u_iniX2 u_cX2_putQuestion u_dX2_putQuestion
theorem u_cX2_isAwake : Cond.code yX2_isAwake cX2_isAwake 2 (some .boolean) ∈ zU := zU_mem 223 (by decide +kernel) (by decide +kernel)
theorem u_iX2_isAwake : Cond.instanceMethod yX2_isAwake ∈ zU := zU_mem 221 (by decide +kernel) (by decide +kernel)
theorem u_vX2_isAwake : Cond.selects RX2 yX2_isAwake yX2_isAwake ∈ zU := zU_mem 222 (by decide +kernel) (by decide +kernel)
theorem u_dX2_isAwake : yX2_isAwake.cls = RX2 ∧ yX2_isAwake.cls ≠ "java/lang/invoke/MethodHandle" ∧ yX2_isAwake.cls ≠ "java/lang/invoke/VarHandle" ∧ (parseMethodDescriptor yX2_isAwake.desc).map (fun d => d.parameters.length) = some 1 := ⟨rfl, by decide +kernel, by decide +kernel, by decide +kernel⟩
theorem kX3_114 : zLkV RX3 114 RX2 yX2_isAwake cX2_isAwake 2 (some .boolean) 1 := zLkV_of (zU_mem 584 (by decide +kernel) (by decide +kernel)) u_iX2_isAwake u_vX2_isAwake u_iniX2 u_cX2_isAwake u_dX2_isAwake
theorem u_cX2_silence : Cond.code yX2_silence cX2_silence 4 (some .int) ∈ zU := zU_mem 589 (by decide +kernel) (by decide +kernel)
theorem u_iX2_silence : Cond.instanceMethod yX2_silence ∈ zU := zU_mem 587 (by decide +kernel) (by decide +kernel)
theorem u_vX2_silence : Cond.selects RX2 yX2_silence yX2_silence ∈ zU := zU_mem 588 (by decide +kernel) (by decide +kernel)
theorem u_dX2_silence : yX2_silence.cls = RX2 ∧ yX2_silence.cls ≠ "java/lang/invoke/MethodHandle" ∧ yX2_silence.cls ≠ "java/lang/invoke/VarHandle" ∧ (parseMethodDescriptor yX2_silence.desc).map (fun d => d.parameters.length) = some 1 := ⟨rfl, by decide +kernel, by decide +kernel, by decide +kernel⟩
theorem kX3_119 : zLkV RX3 119 RX2 yX2_silence cX2_silence 4 (some .int) 1 := zLkV_of (zU_mem 586 (by decide +kernel) (by decide +kernel)) u_iX2_silence u_vX2_silence u_iniX2 u_cX2_silence u_dX2_silence
theorem u_cX2_wake : Cond.code yX2_wake cX2_wake 4 (some .int) ∈ zU := zU_mem 601 (by decide +kernel) (by decide +kernel)
theorem u_iX2_wake : Cond.instanceMethod yX2_wake ∈ zU := zU_mem 599 (by decide +kernel) (by decide +kernel)
theorem u_vX2_wake : Cond.selects RX2 yX2_wake yX2_wake ∈ zU := zU_mem 600 (by decide +kernel) (by decide +kernel)
theorem u_dX2_wake : yX2_wake.cls = RX2 ∧ yX2_wake.cls ≠ "java/lang/invoke/MethodHandle" ∧ yX2_wake.cls ≠ "java/lang/invoke/VarHandle" ∧ (parseMethodDescriptor yX2_wake.desc).map (fun d => d.parameters.length) = some 1 := ⟨rfl, by decide +kernel, by decide +kernel, by decide +kernel⟩
theorem kX3_124 : zLkV RX3 124 RX2 yX2_wake cX2_wake 4 (some .int) 1 := zLkV_of (zU_mem 598 (by decide +kernel) (by decide +kernel)) u_iX2_wake u_vX2_wake u_iniX2 u_cX2_wake u_dX2_wake
theorem u_cX2_letPass : Cond.code yX2_letPass cX2_letPass 5 (some .int) ∈ zU := zU_mem 613 (by decide +kernel) (by decide +kernel)
theorem u_iX2_letPass : Cond.instanceMethod yX2_letPass ∈ zU := zU_mem 611 (by decide +kernel) (by decide +kernel)
theorem u_vX2_letPass : Cond.selects RX2 yX2_letPass yX2_letPass ∈ zU := zU_mem 612 (by decide +kernel) (by decide +kernel)
theorem u_dX2_letPass : yX2_letPass.cls = RX2 ∧ yX2_letPass.cls ≠ "java/lang/invoke/MethodHandle" ∧ yX2_letPass.cls ≠ "java/lang/invoke/VarHandle" ∧ (parseMethodDescriptor yX2_letPass.desc).map (fun d => d.parameters.length) = some 1 := ⟨rfl, by decide +kernel, by decide +kernel, by decide +kernel⟩
theorem kX3_129 : zLkV RX3 129 RX2 yX2_letPass cX2_letPass 5 (some .int) 1 := zLkV_of (zU_mem 610 (by decide +kernel) (by decide +kernel)) u_iX2_letPass u_vX2_letPass u_iniX2 u_cX2_letPass u_dX2_letPass
theorem u_cX2_changePatience : Cond.code yX2_changePatience cX2_changePatience 3 (some .int) ∈ zU := zU_mem 634 (by decide +kernel) (by decide +kernel)
theorem u_iX2_changePatience : Cond.instanceMethod yX2_changePatience ∈ zU := zU_mem 632 (by decide +kernel) (by decide +kernel)
theorem u_vX2_changePatience : Cond.selects RX2 yX2_changePatience yX2_changePatience ∈ zU := zU_mem 633 (by decide +kernel) (by decide +kernel)
theorem u_dX2_changePatience : yX2_changePatience.cls = RX2 ∧ yX2_changePatience.cls ≠ "java/lang/invoke/MethodHandle" ∧ yX2_changePatience.cls ≠ "java/lang/invoke/VarHandle" ∧ (parseMethodDescriptor yX2_changePatience.desc).map (fun d => d.parameters.length) = some 1 := ⟨rfl, by decide +kernel, by decide +kernel, by decide +kernel⟩
theorem kX3_134 : zLkV RX3 134 RX2 yX2_changePatience cX2_changePatience 3 (some .int) 1 := zLkV_of (zU_mem 631 (by decide +kernel) (by decide +kernel)) u_iX2_changePatience u_vX2_changePatience u_iniX2 u_cX2_changePatience u_dX2_changePatience
theorem u_cX2_dealCount : Cond.code yX2_dealCount cX2_dealCount 1 (some .int) ∈ zU := zU_mem 169 (by decide +kernel) (by decide +kernel)
theorem u_iX2_dealCount : Cond.instanceMethod yX2_dealCount ∈ zU := zU_mem 167 (by decide +kernel) (by decide +kernel)
theorem u_vX2_dealCount : Cond.selects RX2 yX2_dealCount yX2_dealCount ∈ zU := zU_mem 168 (by decide +kernel) (by decide +kernel)
theorem u_dX2_dealCount : yX2_dealCount.cls = RX2 ∧ yX2_dealCount.cls ≠ "java/lang/invoke/MethodHandle" ∧ yX2_dealCount.cls ≠ "java/lang/invoke/VarHandle" ∧ (parseMethodDescriptor yX2_dealCount.desc).map (fun d => d.parameters.length) = some 0 := ⟨rfl, by decide +kernel, by decide +kernel, by decide +kernel⟩
theorem kX3_137 : zLkV RX3 137 RX2 yX2_dealCount cX2_dealCount 1 (some .int) 0 := zLkV_of (zU_mem 166 (by decide +kernel) (by decide +kernel)) u_iX2_dealCount u_vX2_dealCount u_iniX2 u_cX2_dealCount u_dX2_dealCount
theorem u_cX2_stateOf : Cond.code yX2_stateOf cX2_stateOf 4 (some .int) ∈ zU := zU_mem 185 (by decide +kernel) (by decide +kernel)
theorem u_iX2_stateOf : Cond.instanceMethod yX2_stateOf ∈ zU := zU_mem 183 (by decide +kernel) (by decide +kernel)
theorem u_vX2_stateOf : Cond.selects RX2 yX2_stateOf yX2_stateOf ∈ zU := zU_mem 184 (by decide +kernel) (by decide +kernel)
theorem u_dX2_stateOf : yX2_stateOf.cls = RX2 ∧ yX2_stateOf.cls ≠ "java/lang/invoke/MethodHandle" ∧ yX2_stateOf.cls ≠ "java/lang/invoke/VarHandle" ∧ (parseMethodDescriptor yX2_stateOf.desc).map (fun d => d.parameters.length) = some 2 := ⟨rfl, by decide +kernel, by decide +kernel, by decide +kernel⟩
theorem kX3_141 : zLkV RX3 141 RX2 yX2_stateOf cX2_stateOf 4 (some .int) 2 := zLkV_of (zU_mem 649 (by decide +kernel) (by decide +kernel)) u_iX2_stateOf u_vX2_stateOf u_iniX2 u_cX2_stateOf u_dX2_stateOf
theorem u_cX2_decisionOf : Cond.code yX2_decisionOf cX2_decisionOf 2 (some .int) ∈ zU := zU_mem 326 (by decide +kernel) (by decide +kernel)
theorem u_iX2_decisionOf : Cond.instanceMethod yX2_decisionOf ∈ zU := zU_mem 324 (by decide +kernel) (by decide +kernel)
theorem u_vX2_decisionOf : Cond.selects RX2 yX2_decisionOf yX2_decisionOf ∈ zU := zU_mem 325 (by decide +kernel) (by decide +kernel)
theorem u_dX2_decisionOf : yX2_decisionOf.cls = RX2 ∧ yX2_decisionOf.cls ≠ "java/lang/invoke/MethodHandle" ∧ yX2_decisionOf.cls ≠ "java/lang/invoke/VarHandle" ∧ (parseMethodDescriptor yX2_decisionOf.desc).map (fun d => d.parameters.length) = some 1 := ⟨rfl, by decide +kernel, by decide +kernel, by decide +kernel⟩
theorem kX3_144 : zLkV RX3 144 RX2 yX2_decisionOf cX2_decisionOf 2 (some .int) 1 := zLkV_of (zU_mem 657 (by decide +kernel) (by decide +kernel)) u_iX2_decisionOf u_vX2_decisionOf u_iniX2 u_cX2_decisionOf u_dX2_decisionOf
theorem u_cX2_leaderOf : Cond.code yX2_leaderOf cX2_leaderOf 2 (some .int) ∈ zU := zU_mem 205 (by decide +kernel) (by decide +kernel)
theorem u_iX2_leaderOf : Cond.instanceMethod yX2_leaderOf ∈ zU := zU_mem 203 (by decide +kernel) (by decide +kernel)
theorem u_vX2_leaderOf : Cond.selects RX2 yX2_leaderOf yX2_leaderOf ∈ zU := zU_mem 204 (by decide +kernel) (by decide +kernel)
theorem u_dX2_leaderOf : yX2_leaderOf.cls = RX2 ∧ yX2_leaderOf.cls ≠ "java/lang/invoke/MethodHandle" ∧ yX2_leaderOf.cls ≠ "java/lang/invoke/VarHandle" ∧ (parseMethodDescriptor yX2_leaderOf.desc).map (fun d => d.parameters.length) = some 1 := ⟨rfl, by decide +kernel, by decide +kernel, by decide +kernel⟩
theorem kX3_147 : zLkV RX3 147 RX2 yX2_leaderOf cX2_leaderOf 2 (some .int) 1 := zLkV_of (zU_mem 665 (by decide +kernel) (by decide +kernel)) u_iX2_leaderOf u_vX2_leaderOf u_iniX2 u_cX2_leaderOf u_dX2_leaderOf
theorem u_cX2_patienceOf : Cond.code yX2_patienceOf cX2_patienceOf 3 (some .int) ∈ zU := zU_mem 330 (by decide +kernel) (by decide +kernel)
theorem u_iX2_patienceOf : Cond.instanceMethod yX2_patienceOf ∈ zU := zU_mem 328 (by decide +kernel) (by decide +kernel)
theorem u_vX2_patienceOf : Cond.selects RX2 yX2_patienceOf yX2_patienceOf ∈ zU := zU_mem 329 (by decide +kernel) (by decide +kernel)
theorem u_dX2_patienceOf : yX2_patienceOf.cls = RX2 ∧ yX2_patienceOf.cls ≠ "java/lang/invoke/MethodHandle" ∧ yX2_patienceOf.cls ≠ "java/lang/invoke/VarHandle" ∧ (parseMethodDescriptor yX2_patienceOf.desc).map (fun d => d.parameters.length) = some 2 := ⟨rfl, by decide +kernel, by decide +kernel, by decide +kernel⟩
theorem kX3_150 : zLkV RX3 150 RX2 yX2_patienceOf cX2_patienceOf 3 (some .int) 2 := zLkV_of (zU_mem 673 (by decide +kernel) (by decide +kernel)) u_iX2_patienceOf u_vX2_patienceOf u_iniX2 u_cX2_patienceOf u_dX2_patienceOf
theorem u_cX2_countOpen : Cond.code yX2_countOpen cX2_countOpen 3 (some .int) ∈ zU := zU_mem 177 (by decide +kernel) (by decide +kernel)
theorem u_iX2_countOpen : Cond.instanceMethod yX2_countOpen ∈ zU := zU_mem 175 (by decide +kernel) (by decide +kernel)
theorem u_vX2_countOpen : Cond.selects RX2 yX2_countOpen yX2_countOpen ∈ zU := zU_mem 176 (by decide +kernel) (by decide +kernel)
theorem u_dX2_countOpen : yX2_countOpen.cls = RX2 ∧ yX2_countOpen.cls ≠ "java/lang/invoke/MethodHandle" ∧ yX2_countOpen.cls ≠ "java/lang/invoke/VarHandle" ∧ (parseMethodDescriptor yX2_countOpen.desc).map (fun d => d.parameters.length) = some 0 := ⟨rfl, by decide +kernel, by decide +kernel, by decide +kernel⟩
theorem kX3_153 : zLkV RX3 153 RX2 yX2_countOpen cX2_countOpen 3 (some .int) 0 := zLkV_of (zU_mem 174 (by decide +kernel) (by decide +kernel)) u_iX2_countOpen u_vX2_countOpen u_iniX2 u_cX2_countOpen u_dX2_countOpen
theorem u_cX2_countStuck : Cond.code yX2_countStuck cX2_countStuck 3 (some .int) ∈ zU := zU_mem 193 (by decide +kernel) (by decide +kernel)
theorem u_iX2_countStuck : Cond.instanceMethod yX2_countStuck ∈ zU := zU_mem 191 (by decide +kernel) (by decide +kernel)
theorem u_vX2_countStuck : Cond.selects RX2 yX2_countStuck yX2_countStuck ∈ zU := zU_mem 192 (by decide +kernel) (by decide +kernel)
theorem u_dX2_countStuck : yX2_countStuck.cls = RX2 ∧ yX2_countStuck.cls ≠ "java/lang/invoke/MethodHandle" ∧ yX2_countStuck.cls ≠ "java/lang/invoke/VarHandle" ∧ (parseMethodDescriptor yX2_countStuck.desc).map (fun d => d.parameters.length) = some 0 := ⟨rfl, by decide +kernel, by decide +kernel, by decide +kernel⟩
theorem kX3_156 : zLkV RX3 156 RX2 yX2_countStuck cX2_countStuck 3 (some .int) 0 := zLkV_of (zU_mem 190 (by decide +kernel) (by decide +kernel)) u_iX2_countStuck u_vX2_countStuck u_iniX2 u_cX2_countStuck u_dX2_countStuck
theorem u_cX2_entriesOf : Cond.code yX2_entriesOf cX2_entriesOf 2 (some .int) ∈ zU := zU_mem 311 (by decide +kernel) (by decide +kernel)
theorem u_iX2_entriesOf : Cond.instanceMethod yX2_entriesOf ∈ zU := zU_mem 309 (by decide +kernel) (by decide +kernel)
theorem u_vX2_entriesOf : Cond.selects RX2 yX2_entriesOf yX2_entriesOf ∈ zU := zU_mem 310 (by decide +kernel) (by decide +kernel)
theorem u_dX2_entriesOf : yX2_entriesOf.cls = RX2 ∧ yX2_entriesOf.cls ≠ "java/lang/invoke/MethodHandle" ∧ yX2_entriesOf.cls ≠ "java/lang/invoke/VarHandle" ∧ (parseMethodDescriptor yX2_entriesOf.desc).map (fun d => d.parameters.length) = some 1 := ⟨rfl, by decide +kernel, by decide +kernel, by decide +kernel⟩
theorem kX3_159 : zLkV RX3 159 RX2 yX2_entriesOf cX2_entriesOf 2 (some .int) 1 := zLkV_of (zU_mem 681 (by decide +kernel) (by decide +kernel)) u_iX2_entriesOf u_vX2_entriesOf u_iniX2 u_cX2_entriesOf u_dX2_entriesOf
theorem u_cX2_entryAt : Cond.code yX2_entryAt cX2_entryAt 3 (some .int) ∈ zU := zU_mem 318 (by decide +kernel) (by decide +kernel)
theorem u_iX2_entryAt : Cond.instanceMethod yX2_entryAt ∈ zU := zU_mem 316 (by decide +kernel) (by decide +kernel)
theorem u_vX2_entryAt : Cond.selects RX2 yX2_entryAt yX2_entryAt ∈ zU := zU_mem 317 (by decide +kernel) (by decide +kernel)
theorem u_dX2_entryAt : yX2_entryAt.cls = RX2 ∧ yX2_entryAt.cls ≠ "java/lang/invoke/MethodHandle" ∧ yX2_entryAt.cls ≠ "java/lang/invoke/VarHandle" ∧ (parseMethodDescriptor yX2_entryAt.desc).map (fun d => d.parameters.length) = some 2 := ⟨rfl, by decide +kernel, by decide +kernel, by decide +kernel⟩
theorem kX3_167 : zLkV RX3 167 RX2 yX2_entryAt cX2_entryAt 3 (some .int) 2 := zLkV_of (zU_mem 690 (by decide +kernel) (by decide +kernel)) u_iX2_entryAt u_vX2_entryAt u_iniX2 u_cX2_entryAt u_dX2_entryAt
theorem u_cX2_itemsHeldBy : Cond.code yX2_itemsHeldBy cX2_itemsHeldBy 4 (some .int) ∈ zU := zU_mem 307 (by decide +kernel) (by decide +kernel)
theorem u_iX2_itemsHeldBy : Cond.instanceMethod yX2_itemsHeldBy ∈ zU := zU_mem 305 (by decide +kernel) (by decide +kernel)
theorem u_vX2_itemsHeldBy : Cond.selects RX2 yX2_itemsHeldBy yX2_itemsHeldBy ∈ zU := zU_mem 306 (by decide +kernel) (by decide +kernel)
theorem u_dX2_itemsHeldBy : yX2_itemsHeldBy.cls = RX2 ∧ yX2_itemsHeldBy.cls ≠ "java/lang/invoke/MethodHandle" ∧ yX2_itemsHeldBy.cls ≠ "java/lang/invoke/VarHandle" ∧ (parseMethodDescriptor yX2_itemsHeldBy.desc).map (fun d => d.parameters.length) = some 1 := ⟨rfl, by decide +kernel, by decide +kernel, by decide +kernel⟩
theorem kX3_170 : zLkV RX3 170 RX2 yX2_itemsHeldBy cX2_itemsHeldBy 4 (some .int) 1 := zLkV_of (zU_mem 698 (by decide +kernel) (by decide +kernel)) u_iX2_itemsHeldBy u_vX2_itemsHeldBy u_iniX2 u_cX2_itemsHeldBy u_dX2_itemsHeldBy
theorem u_cX2_questionCount : Cond.code yX2_questionCount cX2_questionCount 1 (some .int) ∈ zU := zU_mem 231 (by decide +kernel) (by decide +kernel)
theorem u_iX2_questionCount : Cond.instanceMethod yX2_questionCount ∈ zU := zU_mem 229 (by decide +kernel) (by decide +kernel)
theorem u_vX2_questionCount : Cond.selects RX2 yX2_questionCount yX2_questionCount ∈ zU := zU_mem 230 (by decide +kernel) (by decide +kernel)
theorem u_dX2_questionCount : yX2_questionCount.cls = RX2 ∧ yX2_questionCount.cls ≠ "java/lang/invoke/MethodHandle" ∧ yX2_questionCount.cls ≠ "java/lang/invoke/VarHandle" ∧ (parseMethodDescriptor yX2_questionCount.desc).map (fun d => d.parameters.length) = some 0 := ⟨rfl, by decide +kernel, by decide +kernel, by decide +kernel⟩
theorem kX3_173 : zLkV RX3 173 RX2 yX2_questionCount cX2_questionCount 1 (some .int) 0 := zLkV_of (zU_mem 228 (by decide +kernel) (by decide +kernel)) u_iX2_questionCount u_vX2_questionCount u_iniX2 u_cX2_questionCount u_dX2_questionCount
theorem u_cX2_countMembers : Cond.code yX2_countMembers cX2_countMembers 1 (some .int) ∈ zU := zU_mem 239 (by decide +kernel) (by decide +kernel)
theorem u_iX2_countMembers : Cond.instanceMethod yX2_countMembers ∈ zU := zU_mem 237 (by decide +kernel) (by decide +kernel)
theorem u_vX2_countMembers : Cond.selects RX2 yX2_countMembers yX2_countMembers ∈ zU := zU_mem 238 (by decide +kernel) (by decide +kernel)
theorem u_dX2_countMembers : yX2_countMembers.cls = RX2 ∧ yX2_countMembers.cls ≠ "java/lang/invoke/MethodHandle" ∧ yX2_countMembers.cls ≠ "java/lang/invoke/VarHandle" ∧ (parseMethodDescriptor yX2_countMembers.desc).map (fun d => d.parameters.length) = some 0 := ⟨rfl, by decide +kernel, by decide +kernel, by decide +kernel⟩
theorem kX3_176 : zLkV RX3 176 RX2 yX2_countMembers cX2_countMembers 1 (some .int) 0 := zLkV_of (zU_mem 236 (by decide +kernel) (by decide +kernel)) u_iX2_countMembers u_vX2_countMembers u_iniX2 u_cX2_countMembers u_dX2_countMembers
theorem u_cX2_countInState : Cond.code yX2_countInState cX2_countInState 5 (some .int) ∈ zU := zU_mem 243 (by decide +kernel) (by decide +kernel)
theorem u_iX2_countInState : Cond.instanceMethod yX2_countInState ∈ zU := zU_mem 241 (by decide +kernel) (by decide +kernel)
theorem u_vX2_countInState : Cond.selects RX2 yX2_countInState yX2_countInState ∈ zU := zU_mem 242 (by decide +kernel) (by decide +kernel)
theorem u_dX2_countInState : yX2_countInState.cls = RX2 ∧ yX2_countInState.cls ≠ "java/lang/invoke/MethodHandle" ∧ yX2_countInState.cls ≠ "java/lang/invoke/VarHandle" ∧ (parseMethodDescriptor yX2_countInState.desc).map (fun d => d.parameters.length) = some 1 := ⟨rfl, by decide +kernel, by decide +kernel, by decide +kernel⟩
theorem kX3_179 : zLkV RX3 179 RX2 yX2_countInState cX2_countInState 5 (some .int) 1 := zLkV_of (zU_mem 244 (by decide +kernel) (by decide +kernel)) u_iX2_countInState u_vX2_countInState u_iniX2 u_cX2_countInState u_dX2_countInState
theorem u_cX2_reasonAgainstYes : Cond.code yX2_reasonAgainstYes cX2_reasonAgainstYes 4 (some .int) ∈ zU := zU_mem 709 (by decide +kernel) (by decide +kernel)
theorem u_iX2_reasonAgainstYes : Cond.instanceMethod yX2_reasonAgainstYes ∈ zU := zU_mem 707 (by decide +kernel) (by decide +kernel)
theorem u_vX2_reasonAgainstYes : Cond.selects RX2 yX2_reasonAgainstYes yX2_reasonAgainstYes ∈ zU := zU_mem 708 (by decide +kernel) (by decide +kernel)
theorem u_dX2_reasonAgainstYes : yX2_reasonAgainstYes.cls = RX2 ∧ yX2_reasonAgainstYes.cls ≠ "java/lang/invoke/MethodHandle" ∧ yX2_reasonAgainstYes.cls ≠ "java/lang/invoke/VarHandle" ∧ (parseMethodDescriptor yX2_reasonAgainstYes.desc).map (fun d => d.parameters.length) = some 2 := ⟨rfl, by decide +kernel, by decide +kernel, by decide +kernel⟩
theorem kX3_182 : zLkV RX3 182 RX2 yX2_reasonAgainstYes cX2_reasonAgainstYes 4 (some .int) 2 := zLkV_of (zU_mem 706 (by decide +kernel) (by decide +kernel)) u_iX2_reasonAgainstYes u_vX2_reasonAgainstYes u_iniX2 u_cX2_reasonAgainstYes u_dX2_reasonAgainstYes
theorem u_cX2_helperFor : Cond.code yX2_helperFor cX2_helperFor 6 (some .int) ∈ zU := zU_mem 201 (by decide +kernel) (by decide +kernel)
theorem u_iX2_helperFor : Cond.instanceMethod yX2_helperFor ∈ zU := zU_mem 199 (by decide +kernel) (by decide +kernel)
theorem u_vX2_helperFor : Cond.selects RX2 yX2_helperFor yX2_helperFor ∈ zU := zU_mem 200 (by decide +kernel) (by decide +kernel)
theorem u_dX2_helperFor : yX2_helperFor.cls = RX2 ∧ yX2_helperFor.cls ≠ "java/lang/invoke/MethodHandle" ∧ yX2_helperFor.cls ≠ "java/lang/invoke/VarHandle" ∧ (parseMethodDescriptor yX2_helperFor.desc).map (fun d => d.parameters.length) = some 2 := ⟨rfl, by decide +kernel, by decide +kernel, by decide +kernel⟩
theorem kX3_185 : zLkV RX3 185 RX2 yX2_helperFor cX2_helperFor 6 (some .int) 2 := zLkV_of (zU_mem 717 (by decide +kernel) (by decide +kernel)) u_iX2_helperFor u_vX2_helperFor u_iniX2 u_cX2_helperFor u_dX2_helperFor
theorem u_cX2_copyFrom : Cond.code yX2_copyFrom cX2_copyFrom 2 none ∈ zU := zU_mem 467 (by decide +kernel) (by decide +kernel)
theorem u_iX2_copyFrom : Cond.instanceMethod yX2_copyFrom ∈ zU := zU_mem 465 (by decide +kernel) (by decide +kernel)
theorem u_vX2_copyFrom : Cond.selects RX2 yX2_copyFrom yX2_copyFrom ∈ zU := zU_mem 466 (by decide +kernel) (by decide +kernel)
theorem u_dX2_copyFrom : yX2_copyFrom.cls = RX2 ∧ yX2_copyFrom.cls ≠ "java/lang/invoke/MethodHandle" ∧ yX2_copyFrom.cls ≠ "java/lang/invoke/VarHandle" ∧ (parseMethodDescriptor yX2_copyFrom.desc).map (fun d => d.parameters.length) = some 1 := ⟨rfl, by decide +kernel, by decide +kernel, by decide +kernel⟩
theorem kX3_188 : zLkV RX3 188 RX2 yX2_copyFrom cX2_copyFrom 2 none 1 := zLkV_of (zU_mem 725 (by decide +kernel) (by decide +kernel)) u_iX2_copyFrom u_vX2_copyFrom u_iniX2 u_cX2_copyFrom u_dX2_copyFrom
theorem u_cX2_hasEnded : Cond.code yX2_hasEnded cX2_hasEnded 3 (some .boolean) ∈ zU := zU_mem 729 (by decide +kernel) (by decide +kernel)
theorem u_iX2_hasEnded : Cond.instanceMethod yX2_hasEnded ∈ zU := zU_mem 727 (by decide +kernel) (by decide +kernel)
theorem u_vX2_hasEnded : Cond.selects RX2 yX2_hasEnded yX2_hasEnded ∈ zU := zU_mem 728 (by decide +kernel) (by decide +kernel)
theorem u_dX2_hasEnded : yX2_hasEnded.cls = RX2 ∧ yX2_hasEnded.cls ≠ "java/lang/invoke/MethodHandle" ∧ yX2_hasEnded.cls ≠ "java/lang/invoke/VarHandle" ∧ (parseMethodDescriptor yX2_hasEnded.desc).map (fun d => d.parameters.length) = some 2 := ⟨rfl, by decide +kernel, by decide +kernel, by decide +kernel⟩
theorem kX3_191 : zLkV RX3 191 RX2 yX2_hasEnded cX2_hasEnded 3 (some .boolean) 2 := zLkV_of (zU_mem 726 (by decide +kernel) (by decide +kernel)) u_iX2_hasEnded u_vX2_hasEnded u_iniX2 u_cX2_hasEnded u_dX2_hasEnded
theorem u_cX2_tickDeal : Cond.code yX2_tickDeal cX2_tickDeal 4 none ∈ zU := zU_mem 617 (by decide +kernel) (by decide +kernel)
theorem u_iX2_tickDeal : Cond.instanceMethod yX2_tickDeal ∈ zU := zU_mem 615 (by decide +kernel) (by decide +kernel)
theorem u_vX2_tickDeal : Cond.selects RX2 yX2_tickDeal yX2_tickDeal ∈ zU := zU_mem 616 (by decide +kernel) (by decide +kernel)
theorem u_dX2_tickDeal : yX2_tickDeal.cls = RX2 ∧ yX2_tickDeal.cls ≠ "java/lang/invoke/MethodHandle" ∧ yX2_tickDeal.cls ≠ "java/lang/invoke/VarHandle" ∧ (parseMethodDescriptor yX2_tickDeal.desc).map (fun d => d.parameters.length) = some 1 := ⟨rfl, by decide +kernel, by decide +kernel, by decide +kernel⟩
theorem kX3_194 : zLkV RX3 194 RX2 yX2_tickDeal cX2_tickDeal 4 none 1 := zLkV_of (zU_mem 730 (by decide +kernel) (by decide +kernel)) u_iX2_tickDeal u_vX2_tickDeal u_iniX2 u_cX2_tickDeal u_dX2_tickDeal
theorem u_cX0_isFull : Cond.code yX0_isFull cX0_isFull 1 (some .boolean) ∈ zU := zU_mem 742 (by decide +kernel) (by decide +kernel)
theorem u_iX0_isFull : Cond.instanceMethod yX0_isFull ∈ zU := zU_mem 740 (by decide +kernel) (by decide +kernel)
theorem u_vX0_isFull : Cond.selects RX0 yX0_isFull yX0_isFull ∈ zU := zU_mem 741 (by decide +kernel) (by decide +kernel)
theorem u_dX0_isFull : yX0_isFull.cls = RX0 ∧ yX0_isFull.cls ≠ "java/lang/invoke/MethodHandle" ∧ yX0_isFull.cls ≠ "java/lang/invoke/VarHandle" ∧ (parseMethodDescriptor yX0_isFull.desc).map (fun d => d.parameters.length) = some 0 := ⟨rfl, by decide +kernel, by decide +kernel, by decide +kernel⟩
theorem kX3_199 : zLkV RX3 199 RX0 yX0_isFull cX0_isFull 1 (some .boolean) 0 := zLkV_of (zU_mem 739 (by decide +kernel) (by decide +kernel)) u_iX0_isFull u_vX0_isFull u_iniX0 u_cX0_isFull u_dX0_isFull
theorem u_cX0_add : Cond.code yX0_add cX0_add 2 (some .int) ∈ zU := zU_mem 747 (by decide +kernel) (by decide +kernel)
theorem u_iX0_add : Cond.instanceMethod yX0_add ∈ zU := zU_mem 745 (by decide +kernel) (by decide +kernel)
theorem u_vX0_add : Cond.selects RX0 yX0_add yX0_add ∈ zU := zU_mem 746 (by decide +kernel) (by decide +kernel)
theorem u_dX0_add : yX0_add.cls = RX0 ∧ yX0_add.cls ≠ "java/lang/invoke/MethodHandle" ∧ yX0_add.cls ≠ "java/lang/invoke/VarHandle" ∧ (parseMethodDescriptor yX0_add.desc).map (fun d => d.parameters.length) = some 1 := ⟨rfl, by decide +kernel, by decide +kernel, by decide +kernel⟩
theorem kX3_205 : zLkV RX3 205 RX0 yX0_add cX0_add 2 (some .int) 1 := zLkV_of (zU_mem 744 (by decide +kernel) (by decide +kernel)) u_iX0_add u_vX0_add u_iniX0 u_cX0_add u_dX0_add
theorem u_cX0_clear : Cond.code yX0_clear cX0_clear 2 (some .int) ∈ zU := zU_mem 252 (by decide +kernel) (by decide +kernel)
theorem u_iX0_clear : Cond.instanceMethod yX0_clear ∈ zU := zU_mem 250 (by decide +kernel) (by decide +kernel)
theorem u_vX0_clear : Cond.selects RX0 yX0_clear yX0_clear ∈ zU := zU_mem 251 (by decide +kernel) (by decide +kernel)
theorem u_dX0_clear : yX0_clear.cls = RX0 ∧ yX0_clear.cls ≠ "java/lang/invoke/MethodHandle" ∧ yX0_clear.cls ≠ "java/lang/invoke/VarHandle" ∧ (parseMethodDescriptor yX0_clear.desc).map (fun d => d.parameters.length) = some 0 := ⟨rfl, by decide +kernel, by decide +kernel, by decide +kernel⟩
theorem kX3_208 : zLkV RX3 208 RX0 yX0_clear cX0_clear 2 (some .int) 0 := zLkV_of (zU_mem 249 (by decide +kernel) (by decide +kernel)) u_iX0_clear u_vX0_clear u_iniX0 u_cX0_clear u_dX0_clear
theorem u_cX0_errorIndex : Cond.code yX0_errorIndex cX0_errorIndex 3 (some .int) ∈ zU := zU_mem 260 (by decide +kernel) (by decide +kernel)
theorem u_iX0_errorIndex : Cond.instanceMethod yX0_errorIndex ∈ zU := zU_mem 258 (by decide +kernel) (by decide +kernel)
theorem u_vX0_errorIndex : Cond.selects RX0 yX0_errorIndex yX0_errorIndex ∈ zU := zU_mem 259 (by decide +kernel) (by decide +kernel)
theorem u_dX0_errorIndex : yX0_errorIndex.cls = RX0 ∧ yX0_errorIndex.cls ≠ "java/lang/invoke/MethodHandle" ∧ yX0_errorIndex.cls ≠ "java/lang/invoke/VarHandle" ∧ (parseMethodDescriptor yX0_errorIndex.desc).map (fun d => d.parameters.length) = some 0 := ⟨rfl, by decide +kernel, by decide +kernel, by decide +kernel⟩
theorem kX3_211 : zLkV RX3 211 RX0 yX0_errorIndex cX0_errorIndex 3 (some .int) 0 := zLkV_of (zU_mem 257 (by decide +kernel) (by decide +kernel)) u_iX0_errorIndex u_vX0_errorIndex u_iniX0 u_cX0_errorIndex u_dX0_errorIndex
theorem u_cX0_isComplete : Cond.code yX0_isComplete cX0_isComplete 3 (some .boolean) ∈ zU := zU_mem 759 (by decide +kernel) (by decide +kernel)
theorem u_iX0_isComplete : Cond.instanceMethod yX0_isComplete ∈ zU := zU_mem 757 (by decide +kernel) (by decide +kernel)
theorem u_vX0_isComplete : Cond.selects RX0 yX0_isComplete yX0_isComplete ∈ zU := zU_mem 758 (by decide +kernel) (by decide +kernel)
theorem u_dX0_isComplete : yX0_isComplete.cls = RX0 ∧ yX0_isComplete.cls ≠ "java/lang/invoke/MethodHandle" ∧ yX0_isComplete.cls ≠ "java/lang/invoke/VarHandle" ∧ (parseMethodDescriptor yX0_isComplete.desc).map (fun d => d.parameters.length) = some 0 := ⟨rfl, by decide +kernel, by decide +kernel, by decide +kernel⟩
theorem kX3_214 : zLkV RX3 214 RX0 yX0_isComplete cX0_isComplete 3 (some .boolean) 0 := zLkV_of (zU_mem 756 (by decide +kernel) (by decide +kernel)) u_iX0_isComplete u_vX0_isComplete u_iniX0 u_cX0_isComplete u_dX0_isComplete
theorem u_cX0_size : Cond.code yX0_size cX0_size 1 (some .int) ∈ zU := zU_mem 764 (by decide +kernel) (by decide +kernel)
theorem u_iX0_size : Cond.instanceMethod yX0_size ∈ zU := zU_mem 762 (by decide +kernel) (by decide +kernel)
theorem u_vX0_size : Cond.selects RX0 yX0_size yX0_size ∈ zU := zU_mem 763 (by decide +kernel) (by decide +kernel)
theorem u_dX0_size : yX0_size.cls = RX0 ∧ yX0_size.cls ≠ "java/lang/invoke/MethodHandle" ∧ yX0_size.cls ≠ "java/lang/invoke/VarHandle" ∧ (parseMethodDescriptor yX0_size.desc).map (fun d => d.parameters.length) = some 0 := ⟨rfl, by decide +kernel, by decide +kernel, by decide +kernel⟩
theorem kX3_219 : zLkV RX3 219 RX0 yX0_size cX0_size 1 (some .int) 0 := zLkV_of (zU_mem 761 (by decide +kernel) (by decide +kernel)) u_iX0_size u_vX0_size u_iniX0 u_cX0_size u_dX0_size
theorem u_cX0_isActionEnd : Cond.code yX0_isActionEnd cX0_isActionEnd 2 (some .boolean) ∈ zU := zU_mem 768 (by decide +kernel) (by decide +kernel)
theorem u_iX0_isActionEnd : Cond.instanceMethod yX0_isActionEnd ∈ zU := zU_mem 766 (by decide +kernel) (by decide +kernel)
theorem u_vX0_isActionEnd : Cond.selects RX0 yX0_isActionEnd yX0_isActionEnd ∈ zU := zU_mem 767 (by decide +kernel) (by decide +kernel)
theorem u_dX0_isActionEnd : yX0_isActionEnd.cls = RX0 ∧ yX0_isActionEnd.cls ≠ "java/lang/invoke/MethodHandle" ∧ yX0_isActionEnd.cls ≠ "java/lang/invoke/VarHandle" ∧ (parseMethodDescriptor yX0_isActionEnd.desc).map (fun d => d.parameters.length) = some 1 := ⟨rfl, by decide +kernel, by decide +kernel, by decide +kernel⟩
theorem kX3_222 : zLkV RX3 222 RX0 yX0_isActionEnd cX0_isActionEnd 2 (some .boolean) 1 := zLkV_of (zU_mem 765 (by decide +kernel) (by decide +kernel)) u_iX0_isActionEnd u_vX0_isActionEnd u_iniX0 u_cX0_isActionEnd u_dX0_isActionEnd
theorem u_cX3_perform : Cond.code yX3_perform cX3_perform 5 (some .int) ∈ zU := zU_mem 772 (by decide +kernel) (by decide +kernel)
theorem u_iX3_perform : Cond.instanceMethod yX3_perform ∈ zU := zU_mem 771 (by decide +kernel) (by decide +kernel)
theorem u_vX3_perform : Cond.selects RX3 yX3_perform yX3_perform ∈ zU := zU_mem 14 (by decide +kernel) (by decide +kernel)
theorem u_dX3_perform : yX3_perform.cls = RX3 ∧ yX3_perform.cls ≠ "java/lang/invoke/MethodHandle" ∧ yX3_perform.cls ≠ "java/lang/invoke/VarHandle" ∧ (parseMethodDescriptor yX3_perform.desc).map (fun d => d.parameters.length) = some 2 := ⟨rfl, by decide +kernel, by decide +kernel, by decide +kernel⟩
theorem kX3_225 : zLkV RX3 225 RX3 yX3_perform cX3_perform 5 (some .int) 2 := zLkV_of (zU_mem 769 (by decide +kernel) (by decide +kernel)) u_iX3_perform u_vX3_perform u_iniX3 u_cX3_perform u_dX3_perform
theorem u_cX1_size : Cond.code yX1_size cX1_size 1 (some .int) ∈ zU := zU_mem 287 (by decide +kernel) (by decide +kernel)
theorem u_iX1_size : Cond.instanceMethod yX1_size ∈ zU := zU_mem 285 (by decide +kernel) (by decide +kernel)
theorem u_vX1_size : Cond.selects RX1 yX1_size yX1_size ∈ zU := zU_mem 286 (by decide +kernel) (by decide +kernel)
theorem u_dX1_size : yX1_size.cls = RX1 ∧ yX1_size.cls ≠ "java/lang/invoke/MethodHandle" ∧ yX1_size.cls ≠ "java/lang/invoke/VarHandle" ∧ (parseMethodDescriptor yX1_size.desc).map (fun d => d.parameters.length) = some 0 := ⟨rfl, by decide +kernel, by decide +kernel, by decide +kernel⟩
theorem kX3_228 : zLkV RX3 228 RX1 yX1_size cX1_size 1 (some .int) 0 := zLkV_of (zU_mem 284 (by decide +kernel) (by decide +kernel)) u_iX1_size u_vX1_size u_iniX1 u_cX1_size u_dX1_size
theorem u_cX1_restore : Cond.code yX1_restore cX1_restore 3 none ∈ zU := zU_mem 794 (by decide +kernel) (by decide +kernel)
theorem u_iX1_restore : Cond.instanceMethod yX1_restore ∈ zU := zU_mem 792 (by decide +kernel) (by decide +kernel)
theorem u_vX1_restore : Cond.selects RX1 yX1_restore yX1_restore ∈ zU := zU_mem 793 (by decide +kernel) (by decide +kernel)
theorem u_dX1_restore : yX1_restore.cls = RX1 ∧ yX1_restore.cls ≠ "java/lang/invoke/MethodHandle" ∧ yX1_restore.cls ≠ "java/lang/invoke/VarHandle" ∧ (parseMethodDescriptor yX1_restore.desc).map (fun d => d.parameters.length) = some 1 := ⟨rfl, by decide +kernel, by decide +kernel, by decide +kernel⟩
theorem kX3_231 : zLkV RX3 231 RX1 yX1_restore cX1_restore 3 none 1 := zLkV_of (zU_mem 791 (by decide +kernel) (by decide +kernel)) u_iX1_restore u_vX1_restore u_iniX1 u_cX1_restore u_dX1_restore
theorem u_cX2_hash : Cond.code yX2_hash cX2_hash 4 (some .long) ∈ zU := zU_mem 295 (by decide +kernel) (by decide +kernel)
theorem u_iX2_hash : Cond.instanceMethod yX2_hash ∈ zU := zU_mem 293 (by decide +kernel) (by decide +kernel)
theorem u_vX2_hash : Cond.selects RX2 yX2_hash yX2_hash ∈ zU := zU_mem 294 (by decide +kernel) (by decide +kernel)
theorem u_dX2_hash : yX2_hash.cls = RX2 ∧ yX2_hash.cls ≠ "java/lang/invoke/MethodHandle" ∧ yX2_hash.cls ≠ "java/lang/invoke/VarHandle" ∧ (parseMethodDescriptor yX2_hash.desc).map (fun d => d.parameters.length) = some 0 := ⟨rfl, by decide +kernel, by decide +kernel, by decide +kernel⟩
theorem kX3_234 : zLkV RX3 234 RX2 yX2_hash cX2_hash 4 (some .long) 0 := zLkV_of (zU_mem 292 (by decide +kernel) (by decide +kernel)) u_iX2_hash u_vX2_hash u_iniX2 u_cX2_hash u_dX2_hash
theorem u_cX0_digitAt : Cond.code yX0_digitAt cX0_digitAt 2 (some .int) ∈ zU := zU_mem 776 (by decide +kernel) (by decide +kernel)
theorem u_iX0_digitAt : Cond.instanceMethod yX0_digitAt ∈ zU := zU_mem 774 (by decide +kernel) (by decide +kernel)
theorem u_vX0_digitAt : Cond.selects RX0 yX0_digitAt yX0_digitAt ∈ zU := zU_mem 775 (by decide +kernel) (by decide +kernel)
theorem u_dX0_digitAt : yX0_digitAt.cls = RX0 ∧ yX0_digitAt.cls ≠ "java/lang/invoke/MethodHandle" ∧ yX0_digitAt.cls ≠ "java/lang/invoke/VarHandle" ∧ (parseMethodDescriptor yX0_digitAt.desc).map (fun d => d.parameters.length) = some 1 := ⟨rfl, by decide +kernel, by decide +kernel, by decide +kernel⟩
theorem kX3_238 : zLkV RX3 238 RX0 yX0_digitAt cX0_digitAt 2 (some .int) 1 := zLkV_of (zU_mem 773 (by decide +kernel) (by decide +kernel)) u_iX0_digitAt u_vX0_digitAt u_iniX0 u_cX0_digitAt u_dX0_digitAt
theorem u_cX0_signAt : Cond.code yX0_signAt cX0_signAt 2 (some .int) ∈ zU := zU_mem 264 (by decide +kernel) (by decide +kernel)
theorem u_iX0_signAt : Cond.instanceMethod yX0_signAt ∈ zU := zU_mem 262 (by decide +kernel) (by decide +kernel)
theorem u_vX0_signAt : Cond.selects RX0 yX0_signAt yX0_signAt ∈ zU := zU_mem 263 (by decide +kernel) (by decide +kernel)
theorem u_dX0_signAt : yX0_signAt.cls = RX0 ∧ yX0_signAt.cls ≠ "java/lang/invoke/MethodHandle" ∧ yX0_signAt.cls ≠ "java/lang/invoke/VarHandle" ∧ (parseMethodDescriptor yX0_signAt.desc).map (fun d => d.parameters.length) = some 1 := ⟨rfl, by decide +kernel, by decide +kernel, by decide +kernel⟩
theorem kX3_241 : zLkV RX3 241 RX0 yX0_signAt cX0_signAt 2 (some .int) 1 := zLkV_of (zU_mem 777 (by decide +kernel) (by decide +kernel)) u_iX0_signAt u_vX0_signAt u_iniX0 u_cX0_signAt u_dX0_signAt
theorem u_cX0_numberIn : Cond.code yX0_numberIn cX0_numberIn 5 (some .int) ∈ zU := zU_mem 781 (by decide +kernel) (by decide +kernel)
theorem u_iX0_numberIn : Cond.instanceMethod yX0_numberIn ∈ zU := zU_mem 779 (by decide +kernel) (by decide +kernel)
theorem u_vX0_numberIn : Cond.selects RX0 yX0_numberIn yX0_numberIn ∈ zU := zU_mem 780 (by decide +kernel) (by decide +kernel)
theorem u_dX0_numberIn : yX0_numberIn.cls = RX0 ∧ yX0_numberIn.cls ≠ "java/lang/invoke/MethodHandle" ∧ yX0_numberIn.cls ≠ "java/lang/invoke/VarHandle" ∧ (parseMethodDescriptor yX0_numberIn.desc).map (fun d => d.parameters.length) = some 2 := ⟨rfl, by decide +kernel, by decide +kernel, by decide +kernel⟩
theorem kX3_244 : zLkV RX3 244 RX0 yX0_numberIn cX0_numberIn 5 (some .int) 2 := zLkV_of (zU_mem 778 (by decide +kernel) (by decide +kernel)) u_iX0_numberIn u_vX0_numberIn u_iniX0 u_cX0_numberIn u_dX0_numberIn
theorem u_cX2_hasDeal : Cond.code yX2_hasDeal cX2_hasDeal 2 (some .boolean) ∈ zU := zU_mem 209 (by decide +kernel) (by decide +kernel)
theorem u_iX2_hasDeal : Cond.instanceMethod yX2_hasDeal ∈ zU := zU_mem 207 (by decide +kernel) (by decide +kernel)
theorem u_vX2_hasDeal : Cond.selects RX2 yX2_hasDeal yX2_hasDeal ∈ zU := zU_mem 208 (by decide +kernel) (by decide +kernel)
theorem u_dX2_hasDeal : yX2_hasDeal.cls = RX2 ∧ yX2_hasDeal.cls ≠ "java/lang/invoke/MethodHandle" ∧ yX2_hasDeal.cls ≠ "java/lang/invoke/VarHandle" ∧ (parseMethodDescriptor yX2_hasDeal.desc).map (fun d => d.parameters.length) = some 1 := ⟨rfl, by decide +kernel, by decide +kernel, by decide +kernel⟩
theorem kX3_247 : zLkV RX3 247 RX2 yX2_hasDeal cX2_hasDeal 2 (some .boolean) 1 := zLkV_of (zU_mem 497 (by decide +kernel) (by decide +kernel)) u_iX2_hasDeal u_vX2_hasDeal u_iniX2 u_cX2_hasDeal u_dX2_hasDeal
theorem u_cX3_isSite : Cond.code yX3_isSite cX3_isSite 1 (some .boolean) ∈ zU := zU_mem 314 (by decide +kernel) (by decide +kernel)
theorem u_sX3_isSite : Cond.static yX3_isSite ∈ zU := zU_mem 313 (by decide +kernel) (by decide +kernel)
theorem u_dX3_isSite : yX3_isSite.cls = RX3 ∧ yX3_isSite.cls ≠ "java/lang/invoke/MethodHandle" ∧ yX3_isSite.cls ≠ "java/lang/invoke/VarHandle" ∧ (parseMethodDescriptor yX3_isSite.desc).map (fun d => d.parameters.length) = some 1 := ⟨rfl, by decide +kernel, by decide +kernel, by decide +kernel⟩
theorem kX3_252 : zLkS RX3 252 yX3_isSite cX3_isSite 1 (some .boolean) 1 := zLkS_of (zU_mem 344 (by decide +kernel) (by decide +kernel)) u_sX3_isSite u_iniX3 u_cX3_isSite u_dX3_isSite
theorem kX0_19 : zLkV RX0 19 RX0 yX0_isFull cX0_isFull 1 (some .boolean) 0 := zLkV_of (zU_mem 748 (by decide +kernel) (by decide +kernel)) u_iX0_isFull u_vX0_isFull u_iniX0 u_cX0_isFull u_dX0_isFull
theorem kX0_23 : zLkV RX0 23 RX0 yX0_signAt cX0_signAt 2 (some .int) 1 := zLkV_of (zU_mem 261 (by decide +kernel) (by decide +kernel)) u_iX0_signAt u_vX0_signAt u_iniX0 u_cX0_signAt u_dX0_signAt
theorem kX0_27 : zLkV RX0 27 RX0 yX0_digitAt cX0_digitAt 2 (some .int) 1 := zLkV_of (zU_mem 782 (by decide +kernel) (by decide +kernel)) u_iX0_digitAt u_vX0_digitAt u_iniX0 u_cX0_digitAt u_dX0_digitAt
theorem u_cX0_phaseAfter : Cond.code yX0_phaseAfter cX0_phaseAfter 3 (some .int) ∈ zU := zU_mem 267 (by decide +kernel) (by decide +kernel)
theorem u_sX0_phaseAfter : Cond.static yX0_phaseAfter ∈ zU := zU_mem 266 (by decide +kernel) (by decide +kernel)
theorem u_dX0_phaseAfter : yX0_phaseAfter.cls = RX0 ∧ yX0_phaseAfter.cls ≠ "java/lang/invoke/MethodHandle" ∧ yX0_phaseAfter.cls ≠ "java/lang/invoke/VarHandle" ∧ (parseMethodDescriptor yX0_phaseAfter.desc).map (fun d => d.parameters.length) = some 3 := ⟨rfl, by decide +kernel, by decide +kernel, by decide +kernel⟩
theorem kX0_30 : zLkS RX0 30 yX0_phaseAfter cX0_phaseAfter 3 (some .int) 3 := zLkS_of (zU_mem 265 (by decide +kernel) (by decide +kernel)) u_sX0_phaseAfter u_iniX0 u_cX0_phaseAfter u_dX0_phaseAfter
theorem u_cX0_phaseAfterKind : Cond.code yX0_phaseAfterKind cX0_phaseAfterKind 1 (some .int) ∈ zU := zU_mem 270 (by decide +kernel) (by decide +kernel)
theorem u_sX0_phaseAfterKind : Cond.static yX0_phaseAfterKind ∈ zU := zU_mem 269 (by decide +kernel) (by decide +kernel)
theorem u_dX0_phaseAfterKind : yX0_phaseAfterKind.cls = RX0 ∧ yX0_phaseAfterKind.cls ≠ "java/lang/invoke/MethodHandle" ∧ yX0_phaseAfterKind.cls ≠ "java/lang/invoke/VarHandle" ∧ (parseMethodDescriptor yX0_phaseAfterKind.desc).map (fun d => d.parameters.length) = some 1 := ⟨rfl, by decide +kernel, by decide +kernel, by decide +kernel⟩
theorem kX0_34 : zLkS RX0 34 yX0_phaseAfterKind cX0_phaseAfterKind 1 (some .int) 1 := zLkS_of (zU_mem 268 (by decide +kernel) (by decide +kernel)) u_sX0_phaseAfterKind u_iniX0 u_cX0_phaseAfterKind u_dX0_phaseAfterKind
theorem u_cX0_isIn : Cond.code yX0_isIn cX0_isIn 3 (some .boolean) ∈ zU := zU_mem 273 (by decide +kernel) (by decide +kernel)
theorem u_sX0_isIn : Cond.static yX0_isIn ∈ zU := zU_mem 272 (by decide +kernel) (by decide +kernel)
theorem u_dX0_isIn : yX0_isIn.cls = RX0 ∧ yX0_isIn.cls ≠ "java/lang/invoke/MethodHandle" ∧ yX0_isIn.cls ≠ "java/lang/invoke/VarHandle" ∧ (parseMethodDescriptor yX0_isIn.desc).map (fun d => d.parameters.length) = some 3 := ⟨rfl, by decide +kernel, by decide +kernel, by decide +kernel⟩
theorem kX0_37 : zLkS RX0 37 yX0_isIn cX0_isIn 3 (some .boolean) 3 := zLkS_of (zU_mem 271 (by decide +kernel) (by decide +kernel)) u_sX0_isIn u_iniX0 u_cX0_isIn u_dX0_isIn
theorem u_cX0_phaseAfterFirstDigit : Cond.code yX0_phaseAfterFirstDigit cX0_phaseAfterFirstDigit 1 (some .int) ∈ zU := zU_mem 276 (by decide +kernel) (by decide +kernel)
theorem u_sX0_phaseAfterFirstDigit : Cond.static yX0_phaseAfterFirstDigit ∈ zU := zU_mem 275 (by decide +kernel) (by decide +kernel)
theorem u_dX0_phaseAfterFirstDigit : yX0_phaseAfterFirstDigit.cls = RX0 ∧ yX0_phaseAfterFirstDigit.cls ≠ "java/lang/invoke/MethodHandle" ∧ yX0_phaseAfterFirstDigit.cls ≠ "java/lang/invoke/VarHandle" ∧ (parseMethodDescriptor yX0_phaseAfterFirstDigit.desc).map (fun d => d.parameters.length) = some 1 := ⟨rfl, by decide +kernel, by decide +kernel, by decide +kernel⟩
theorem kX0_41 : zLkS RX0 41 yX0_phaseAfterFirstDigit cX0_phaseAfterFirstDigit 1 (some .int) 1 := zLkS_of (zU_mem 274 (by decide +kernel) (by decide +kernel)) u_sX0_phaseAfterFirstDigit u_iniX0 u_cX0_phaseAfterFirstDigit u_dX0_phaseAfterFirstDigit
theorem u_cX0_phaseAfterAction : Cond.code yX0_phaseAfterAction cX0_phaseAfterAction 1 (some .int) ∈ zU := zU_mem 279 (by decide +kernel) (by decide +kernel)
theorem u_sX0_phaseAfterAction : Cond.static yX0_phaseAfterAction ∈ zU := zU_mem 278 (by decide +kernel) (by decide +kernel)
theorem u_dX0_phaseAfterAction : yX0_phaseAfterAction.cls = RX0 ∧ yX0_phaseAfterAction.cls ≠ "java/lang/invoke/MethodHandle" ∧ yX0_phaseAfterAction.cls ≠ "java/lang/invoke/VarHandle" ∧ (parseMethodDescriptor yX0_phaseAfterAction.desc).map (fun d => d.parameters.length) = some 1 := ⟨rfl, by decide +kernel, by decide +kernel, by decide +kernel⟩
theorem kX0_44 : zLkS RX0 44 yX0_phaseAfterAction cX0_phaseAfterAction 1 (some .int) 1 := zLkS_of (zU_mem 277 (by decide +kernel) (by decide +kernel)) u_sX0_phaseAfterAction u_iniX0 u_cX0_phaseAfterAction u_dX0_phaseAfterAction
theorem u_cX1_discardOldest : Cond.code yX1_discardOldest cX1_discardOldest 3 none ∈ zU := zU_mem 463 (by decide +kernel) (by decide +kernel)
theorem u_iX1_discardOldest : Cond.instanceMethod yX1_discardOldest ∈ zU := zU_mem 462 (by decide +kernel) (by decide +kernel)
theorem u_vX1_discardOldest : Cond.selects RX1 yX1_discardOldest yX1_discardOldest ∈ zU := zU_mem 5 (by decide +kernel) (by decide +kernel)
theorem u_dX1_discardOldest : yX1_discardOldest.cls = RX1 ∧ yX1_discardOldest.cls ≠ "java/lang/invoke/MethodHandle" ∧ yX1_discardOldest.cls ≠ "java/lang/invoke/VarHandle" ∧ (parseMethodDescriptor yX1_discardOldest.desc).map (fun d => d.parameters.length) = some 0 := ⟨rfl, by decide +kernel, by decide +kernel, by decide +kernel⟩
theorem kX1_22 : zLkV RX1 22 RX1 yX1_discardOldest cX1_discardOldest 3 none 0 := zLkV_of (zU_mem 460 (by decide +kernel) (by decide +kernel)) u_iX1_discardOldest u_vX1_discardOldest u_iniX1 u_cX1_discardOldest u_dX1_discardOldest
theorem kX1_25 : zLkV RX1 25 RX2 yX2_copyFrom cX2_copyFrom 2 none 1 := zLkV_of (zU_mem 464 (by decide +kernel) (by decide +kernel)) u_iX2_copyFrom u_vX2_copyFrom u_iniX2 u_cX2_copyFrom u_dX2_copyFrom
theorem u_cX2_copyRow : Cond.code yX2_copyRow cX2_copyRow 2 none ∈ zU := zU_mem 470 (by decide +kernel) (by decide +kernel)
theorem u_sX2_copyRow : Cond.static yX2_copyRow ∈ zU := zU_mem 469 (by decide +kernel) (by decide +kernel)
theorem u_dX2_copyRow : yX2_copyRow.cls = RX2 ∧ yX2_copyRow.cls ≠ "java/lang/invoke/MethodHandle" ∧ yX2_copyRow.cls ≠ "java/lang/invoke/VarHandle" ∧ (parseMethodDescriptor yX2_copyRow.desc).map (fun d => d.parameters.length) = some 2 := ⟨rfl, by decide +kernel, by decide +kernel, by decide +kernel⟩
theorem kX2_46 : zLkS RX2 46 yX2_copyRow cX2_copyRow 2 none 2 := zLkS_of (zU_mem 468 (by decide +kernel) (by decide +kernel)) u_sX2_copyRow u_iniX2 u_cX2_copyRow u_dX2_copyRow
theorem u_cJ9_min_7cf53 : Cond.code yJ9_min_7cf53 cJ9_min_7cf53 2 (some .int) ∈ zU := zU_mem 473 (by decide +kernel) (by decide +kernel)
theorem u_sJ9_min_7cf53 : Cond.static yJ9_min_7cf53 ∈ zU := zU_mem 472 (by decide +kernel) (by decide +kernel)
theorem u_dJ9_min_7cf53 : yJ9_min_7cf53.cls = RJ9 ∧ yJ9_min_7cf53.cls ≠ "java/lang/invoke/MethodHandle" ∧ yJ9_min_7cf53.cls ≠ "java/lang/invoke/VarHandle" ∧ (parseMethodDescriptor yJ9_min_7cf53.desc).map (fun d => d.parameters.length) = some 2 := ⟨rfl, by decide +kernel, by decide +kernel, by decide +kernel⟩
theorem kX2_62 : zLkV RX2 62 RX2 yX2_hasDeal cX2_hasDeal 2 (some .boolean) 1 := zLkV_of (zU_mem 206 (by decide +kernel) (by decide +kernel)) u_iX2_hasDeal u_vX2_hasDeal u_iniX2 u_cX2_hasDeal u_dX2_hasDeal
theorem kX2_66 : zLkV RX2 66 RX2 yX2_stateOf cX2_stateOf 4 (some .int) 2 := zLkV_of (zU_mem 182 (by decide +kernel) (by decide +kernel)) u_iX2_stateOf u_vX2_stateOf u_iniX2 u_cX2_stateOf u_dX2_stateOf
theorem u_cX2_isEnd : Cond.code yX2_isEnd cX2_isEnd 1 (some .boolean) ∈ zU := zU_mem 215 (by decide +kernel) (by decide +kernel)
theorem u_sX2_isEnd : Cond.static yX2_isEnd ∈ zU := zU_mem 214 (by decide +kernel) (by decide +kernel)
theorem u_dX2_isEnd : yX2_isEnd.cls = RX2 ∧ yX2_isEnd.cls ≠ "java/lang/invoke/MethodHandle" ∧ yX2_isEnd.cls ≠ "java/lang/invoke/VarHandle" ∧ (parseMethodDescriptor yX2_isEnd.desc).map (fun d => d.parameters.length) = some 1 := ⟨rfl, by decide +kernel, by decide +kernel, by decide +kernel⟩
theorem kX2_69 : zLkS RX2 69 yX2_isEnd cX2_isEnd 1 (some .boolean) 1 := zLkS_of (zU_mem 213 (by decide +kernel) (by decide +kernel)) u_sX2_isEnd u_iniX2 u_cX2_isEnd u_dX2_isEnd
theorem kX2_75 : zLkV RX2 75 RX2 yX2_entriesOf cX2_entriesOf 2 (some .int) 1 := zLkV_of (zU_mem 308 (by decide +kernel) (by decide +kernel)) u_iX2_entriesOf u_vX2_entriesOf u_iniX2 u_cX2_entriesOf u_dX2_entriesOf
theorem kX2_79 : zLkV RX2 79 RX2 yX2_isAwake cX2_isAwake 2 (some .boolean) 1 := zLkV_of (zU_mem 220 (by decide +kernel) (by decide +kernel)) u_iX2_isAwake u_vX2_isAwake u_iniX2 u_cX2_isAwake u_dX2_isAwake
theorem kX2_82 : zLkV RX2 82 RX2 yX2_leaderOf cX2_leaderOf 2 (some .int) 1 := zLkV_of (zU_mem 202 (by decide +kernel) (by decide +kernel)) u_iX2_leaderOf u_vX2_leaderOf u_iniX2 u_cX2_leaderOf u_dX2_leaderOf
theorem kX2_85 : zLkV RX2 85 RX2 yX2_decisionOf cX2_decisionOf 2 (some .int) 1 := zLkV_of (zU_mem 323 (by decide +kernel) (by decide +kernel)) u_iX2_decisionOf u_vX2_decisionOf u_iniX2 u_cX2_decisionOf u_dX2_decisionOf
theorem kX2_88 : zLkV RX2 88 RX2 yX2_canBegin cX2_canBegin 4 (some .boolean) 2 := zLkV_of (zU_mem 481 (by decide +kernel) (by decide +kernel)) u_iX2_canBegin u_vX2_canBegin u_iniX2 u_cX2_canBegin u_dX2_canBegin
theorem kX2_92 : zLkV RX2 92 RX2 yX2_canVote cX2_canVote 3 (some .boolean) 2 := zLkV_of (zU_mem 508 (by decide +kernel) (by decide +kernel)) u_iX2_canVote u_vX2_canVote u_iniX2 u_cX2_canVote u_dX2_canVote
theorem u_cX2_holdsForAnother : Cond.code yX2_holdsForAnother cX2_holdsForAnother 4 (some .boolean) ∈ zU := zU_mem 512 (by decide +kernel) (by decide +kernel)
theorem u_iX2_holdsForAnother : Cond.instanceMethod yX2_holdsForAnother ∈ zU := zU_mem 511 (by decide +kernel) (by decide +kernel)
theorem u_vX2_holdsForAnother : Cond.selects RX2 yX2_holdsForAnother yX2_holdsForAnother ∈ zU := zU_mem 8 (by decide +kernel) (by decide +kernel)
theorem u_dX2_holdsForAnother : yX2_holdsForAnother.cls = RX2 ∧ yX2_holdsForAnother.cls ≠ "java/lang/invoke/MethodHandle" ∧ yX2_holdsForAnother.cls ≠ "java/lang/invoke/VarHandle" ∧ (parseMethodDescriptor yX2_holdsForAnother.desc).map (fun d => d.parameters.length) = some 2 := ⟨rfl, by decide +kernel, by decide +kernel, by decide +kernel⟩
theorem kX2_95 : zLkV RX2 95 RX2 yX2_holdsForAnother cX2_holdsForAnother 4 (some .boolean) 2 := zLkV_of (zU_mem 509 (by decide +kernel) (by decide +kernel)) u_iX2_holdsForAnother u_vX2_holdsForAnother u_iniX2 u_cX2_holdsForAnother u_dX2_holdsForAnother
theorem u_cX2_enter : Cond.code yX2_enter cX2_enter 4 none ∈ zU := zU_mem 516 (by decide +kernel) (by decide +kernel)
theorem u_iX2_enter : Cond.instanceMethod yX2_enter ∈ zU := zU_mem 515 (by decide +kernel) (by decide +kernel)
theorem u_vX2_enter : Cond.selects RX2 yX2_enter yX2_enter ∈ zU := zU_mem 9 (by decide +kernel) (by decide +kernel)
theorem u_dX2_enter : yX2_enter.cls = RX2 ∧ yX2_enter.cls ≠ "java/lang/invoke/MethodHandle" ∧ yX2_enter.cls ≠ "java/lang/invoke/VarHandle" ∧ (parseMethodDescriptor yX2_enter.desc).map (fun d => d.parameters.length) = some 3 := ⟨rfl, by decide +kernel, by decide +kernel, by decide +kernel⟩
theorem kX2_98 : zLkV RX2 98 RX2 yX2_enter cX2_enter 4 none 3 := zLkV_of (zU_mem 513 (by decide +kernel) (by decide +kernel)) u_iX2_enter u_vX2_enter u_iniX2 u_cX2_enter u_dX2_enter
theorem kX2_102 : zLkV RX2 102 RX2 yX2_canDecide cX2_canDecide 2 (some .boolean) 1 := zLkV_of (zU_mem 537 (by decide +kernel) (by decide +kernel)) u_iX2_canDecide u_vX2_canDecide u_iniX2 u_cX2_canDecide u_dX2_canDecide
theorem u_cX2_areAllInDoubt : Cond.code yX2_areAllInDoubt cX2_areAllInDoubt 4 (some .boolean) ∈ zU := zU_mem 541 (by decide +kernel) (by decide +kernel)
theorem u_iX2_areAllInDoubt : Cond.instanceMethod yX2_areAllInDoubt ∈ zU := zU_mem 540 (by decide +kernel) (by decide +kernel)
theorem u_vX2_areAllInDoubt : Cond.selects RX2 yX2_areAllInDoubt yX2_areAllInDoubt ∈ zU := zU_mem 11 (by decide +kernel) (by decide +kernel)
theorem u_dX2_areAllInDoubt : yX2_areAllInDoubt.cls = RX2 ∧ yX2_areAllInDoubt.cls ≠ "java/lang/invoke/MethodHandle" ∧ yX2_areAllInDoubt.cls ≠ "java/lang/invoke/VarHandle" ∧ (parseMethodDescriptor yX2_areAllInDoubt.desc).map (fun d => d.parameters.length) = some 1 := ⟨rfl, by decide +kernel, by decide +kernel, by decide +kernel⟩
theorem kX2_105 : zLkV RX2 105 RX2 yX2_areAllInDoubt cX2_areAllInDoubt 4 (some .boolean) 1 := zLkV_of (zU_mem 538 (by decide +kernel) (by decide +kernel)) u_iX2_areAllInDoubt u_vX2_areAllInDoubt u_iniX2 u_cX2_areAllInDoubt u_dX2_areAllInDoubt
theorem u_cX2_settle : Cond.code yX2_settle cX2_settle 3 none ∈ zU := zU_mem 545 (by decide +kernel) (by decide +kernel)
theorem u_iX2_settle : Cond.instanceMethod yX2_settle ∈ zU := zU_mem 544 (by decide +kernel) (by decide +kernel)
theorem u_vX2_settle : Cond.selects RX2 yX2_settle yX2_settle ∈ zU := zU_mem 12 (by decide +kernel) (by decide +kernel)
theorem u_dX2_settle : yX2_settle.cls = RX2 ∧ yX2_settle.cls ≠ "java/lang/invoke/MethodHandle" ∧ yX2_settle.cls ≠ "java/lang/invoke/VarHandle" ∧ (parseMethodDescriptor yX2_settle.desc).map (fun d => d.parameters.length) = some 2 := ⟨rfl, by decide +kernel, by decide +kernel, by decide +kernel⟩
theorem kX2_108 : zLkV RX2 108 RX2 yX2_settle cX2_settle 3 none 2 := zLkV_of (zU_mem 542 (by decide +kernel) (by decide +kernel)) u_iX2_settle u_vX2_settle u_iniX2 u_cX2_settle u_dX2_settle
theorem kX2_112 : zLkV RX2 112 RX2 yX2_canTell cX2_canTell 4 (some .boolean) 2 := zLkV_of (zU_mem 562 (by decide +kernel) (by decide +kernel)) u_iX2_canTell u_vX2_canTell u_iniX2 u_cX2_canTell u_dX2_canTell
theorem kX2_115 : zLkV RX2 115 RX2 yX2_canAsk cX2_canAsk 4 (some .boolean) 3 := zLkV_of (zU_mem 216 (by decide +kernel) (by decide +kernel)) u_iX2_canAsk u_vX2_canAsk u_iniX2 u_cX2_canAsk u_dX2_canAsk
theorem u_cX2_write : Cond.code yX2_write cX2_write 3 none ∈ zU := zU_mem 520 (by decide +kernel) (by decide +kernel)
theorem u_iX2_write : Cond.instanceMethod yX2_write ∈ zU := zU_mem 519 (by decide +kernel) (by decide +kernel)
theorem u_vX2_write : Cond.selects RX2 yX2_write yX2_write ∈ zU := zU_mem 10 (by decide +kernel) (by decide +kernel)
theorem u_dX2_write : yX2_write.cls = RX2 ∧ yX2_write.cls ≠ "java/lang/invoke/MethodHandle" ∧ yX2_write.cls ≠ "java/lang/invoke/VarHandle" ∧ (parseMethodDescriptor yX2_write.desc).map (fun d => d.parameters.length) = some 2 := ⟨rfl, by decide +kernel, by decide +kernel, by decide +kernel⟩
theorem kX2_119 : zLkV RX2 119 RX2 yX2_write cX2_write 3 none 2 := zLkV_of (zU_mem 517 (by decide +kernel) (by decide +kernel)) u_iX2_write u_vX2_write u_iniX2 u_cX2_write u_dX2_write
theorem kX2_122 : zLkV RX2 122 RX2 yX2_countInState cX2_countInState 5 (some .int) 1 := zLkV_of (zU_mem 240 (by decide +kernel) (by decide +kernel)) u_iX2_countInState u_vX2_countInState u_iniX2 u_cX2_countInState u_dX2_countInState
theorem kX2_125 : zLkV RX2 125 RX2 yX2_tickDeal cX2_tickDeal 4 none 1 := zLkV_of (zU_mem 614 (by decide +kernel) (by decide +kernel)) u_iX2_tickDeal u_vX2_tickDeal u_iniX2 u_cX2_tickDeal u_dX2_tickDeal
theorem u_cX2_losesPatience : Cond.code yX2_losesPatience cX2_losesPatience 4 (some .boolean) ∈ zU := zU_mem 621 (by decide +kernel) (by decide +kernel)
theorem u_iX2_losesPatience : Cond.instanceMethod yX2_losesPatience ∈ zU := zU_mem 620 (by decide +kernel) (by decide +kernel)
theorem u_vX2_losesPatience : Cond.selects RX2 yX2_losesPatience yX2_losesPatience ∈ zU := zU_mem 13 (by decide +kernel) (by decide +kernel)
theorem u_dX2_losesPatience : yX2_losesPatience.cls = RX2 ∧ yX2_losesPatience.cls ≠ "java/lang/invoke/MethodHandle" ∧ yX2_losesPatience.cls ≠ "java/lang/invoke/VarHandle" ∧ (parseMethodDescriptor yX2_losesPatience.desc).map (fun d => d.parameters.length) = some 2 := ⟨rfl, by decide +kernel, by decide +kernel, by decide +kernel⟩
theorem kX2_129 : zLkV RX2 129 RX2 yX2_losesPatience cX2_losesPatience 4 (some .boolean) 2 := zLkV_of (zU_mem 618 (by decide +kernel) (by decide +kernel)) u_iX2_losesPatience u_vX2_losesPatience u_iniX2 u_cX2_losesPatience u_dX2_losesPatience
theorem kX2_132 : zLkV RX2 132 RX2 yX2_putQuestion cX2_putQuestion 5 (some .int) 3 := zLkV_of (zU_mem 622 (by decide +kernel) (by decide +kernel)) u_iX2_putQuestion u_vX2_putQuestion u_iniX2 u_cX2_putQuestion u_dX2_putQuestion
theorem u_cX2_isOpen : Cond.code yX2_isOpen cX2_isOpen 4 (some .boolean) ∈ zU := zU_mem 181 (by decide +kernel) (by decide +kernel)
theorem u_iX2_isOpen : Cond.instanceMethod yX2_isOpen ∈ zU := zU_mem 180 (by decide +kernel) (by decide +kernel)
theorem u_vX2_isOpen : Cond.selects RX2 yX2_isOpen yX2_isOpen ∈ zU := zU_mem 0 (by decide +kernel) (by decide +kernel)
theorem u_dX2_isOpen : yX2_isOpen.cls = RX2 ∧ yX2_isOpen.cls ≠ "java/lang/invoke/MethodHandle" ∧ yX2_isOpen.cls ≠ "java/lang/invoke/VarHandle" ∧ (parseMethodDescriptor yX2_isOpen.desc).map (fun d => d.parameters.length) = some 1 := ⟨rfl, by decide +kernel, by decide +kernel, by decide +kernel⟩
theorem kX2_136 : zLkV RX2 136 RX2 yX2_isOpen cX2_isOpen 4 (some .boolean) 1 := zLkV_of (zU_mem 178 (by decide +kernel) (by decide +kernel)) u_iX2_isOpen u_vX2_isOpen u_iniX2 u_cX2_isOpen u_dX2_isOpen
theorem u_cX2_isStuck : Cond.code yX2_isStuck cX2_isStuck 4 (some .boolean) ∈ zU := zU_mem 197 (by decide +kernel) (by decide +kernel)
theorem u_iX2_isStuck : Cond.instanceMethod yX2_isStuck ∈ zU := zU_mem 196 (by decide +kernel) (by decide +kernel)
theorem u_vX2_isStuck : Cond.selects RX2 yX2_isStuck yX2_isStuck ∈ zU := zU_mem 1 (by decide +kernel) (by decide +kernel)
theorem u_dX2_isStuck : yX2_isStuck.cls = RX2 ∧ yX2_isStuck.cls ≠ "java/lang/invoke/MethodHandle" ∧ yX2_isStuck.cls ≠ "java/lang/invoke/VarHandle" ∧ (parseMethodDescriptor yX2_isStuck.desc).map (fun d => d.parameters.length) = some 1 := ⟨rfl, by decide +kernel, by decide +kernel, by decide +kernel⟩
theorem kX2_139 : zLkV RX2 139 RX2 yX2_isStuck cX2_isStuck 4 (some .boolean) 1 := zLkV_of (zU_mem 194 (by decide +kernel) (by decide +kernel)) u_iX2_isStuck u_vX2_isStuck u_iniX2 u_cX2_isStuck u_dX2_isStuck
theorem kX2_142 : zLkV RX2 142 RX2 yX2_helperFor cX2_helperFor 6 (some .int) 2 := zLkV_of (zU_mem 198 (by decide +kernel) (by decide +kernel)) u_iX2_helperFor u_vX2_helperFor u_iniX2 u_cX2_helperFor u_dX2_helperFor
theorem u_cX2_isAnswer : Cond.code yX2_isAnswer cX2_isAnswer 1 (some .boolean) ∈ zU := zU_mem 212 (by decide +kernel) (by decide +kernel)
theorem u_sX2_isAnswer : Cond.static yX2_isAnswer ∈ zU := zU_mem 211 (by decide +kernel) (by decide +kernel)
theorem u_dX2_isAnswer : yX2_isAnswer.cls = RX2 ∧ yX2_isAnswer.cls ≠ "java/lang/invoke/MethodHandle" ∧ yX2_isAnswer.cls ≠ "java/lang/invoke/VarHandle" ∧ (parseMethodDescriptor yX2_isAnswer.desc).map (fun d => d.parameters.length) = some 1 := ⟨rfl, by decide +kernel, by decide +kernel, by decide +kernel⟩
theorem kX2_145 : zLkS RX2 145 yX2_isAnswer cX2_isAnswer 1 (some .boolean) 1 := zLkS_of (zU_mem 210 (by decide +kernel) (by decide +kernel)) u_sX2_isAnswer u_iniX2 u_cX2_isAnswer u_dX2_isAnswer
theorem kX2_152 : zLkV RX2 152 RX2 yX2_countOpen cX2_countOpen 3 (some .int) 0 := zLkV_of (zU_mem 298 (by decide +kernel) (by decide +kernel)) u_iX2_countOpen u_vX2_countOpen u_iniX2 u_cX2_countOpen u_dX2_countOpen
theorem kX2_156 : zLkV RX2 156 RX2 yX2_countStuck cX2_countStuck 3 (some .int) 0 := zLkV_of (zU_mem 299 (by decide +kernel) (by decide +kernel)) u_iX2_countStuck u_vX2_countStuck u_iniX2 u_cX2_countStuck u_dX2_countStuck
theorem u_cX2_hashSite : Cond.code yX2_hashSite cX2_hashSite 8 (some .long) ∈ zU := zU_mem 303 (by decide +kernel) (by decide +kernel)
theorem u_iX2_hashSite : Cond.instanceMethod yX2_hashSite ∈ zU := zU_mem 302 (by decide +kernel) (by decide +kernel)
theorem u_vX2_hashSite : Cond.selects RX2 yX2_hashSite yX2_hashSite ∈ zU := zU_mem 2 (by decide +kernel) (by decide +kernel)
theorem u_dX2_hashSite : yX2_hashSite.cls = RX2 ∧ yX2_hashSite.cls ≠ "java/lang/invoke/MethodHandle" ∧ yX2_hashSite.cls ≠ "java/lang/invoke/VarHandle" ∧ (parseMethodDescriptor yX2_hashSite.desc).map (fun d => d.parameters.length) = some 2 := ⟨rfl, by decide +kernel, by decide +kernel, by decide +kernel⟩
theorem kX2_159 : zLkV RX2 159 RX2 yX2_hashSite cX2_hashSite 8 (some .long) 2 := zLkV_of (zU_mem 300 (by decide +kernel) (by decide +kernel)) u_iX2_hashSite u_vX2_hashSite u_iniX2 u_cX2_hashSite u_dX2_hashSite
theorem u_cX2_hashDeal : Cond.code yX2_hashDeal cX2_hashDeal 7 (some .long) ∈ zU := zU_mem 322 (by decide +kernel) (by decide +kernel)
theorem u_iX2_hashDeal : Cond.instanceMethod yX2_hashDeal ∈ zU := zU_mem 321 (by decide +kernel) (by decide +kernel)
theorem u_vX2_hashDeal : Cond.selects RX2 yX2_hashDeal yX2_hashDeal ∈ zU := zU_mem 3 (by decide +kernel) (by decide +kernel)
theorem u_dX2_hashDeal : yX2_hashDeal.cls = RX2 ∧ yX2_hashDeal.cls ≠ "java/lang/invoke/MethodHandle" ∧ yX2_hashDeal.cls ≠ "java/lang/invoke/VarHandle" ∧ (parseMethodDescriptor yX2_hashDeal.desc).map (fun d => d.parameters.length) = some 2 := ⟨rfl, by decide +kernel, by decide +kernel, by decide +kernel⟩
theorem kX2_163 : zLkV RX2 163 RX2 yX2_hashDeal cX2_hashDeal 7 (some .long) 2 := zLkV_of (zU_mem 319 (by decide +kernel) (by decide +kernel)) u_iX2_hashDeal u_vX2_hashDeal u_iniX2 u_cX2_hashDeal u_dX2_hashDeal
theorem kX2_166 : zLkV RX2 166 RX2 yX2_itemsHeldBy cX2_itemsHeldBy 4 (some .int) 1 := zLkV_of (zU_mem 304 (by decide +kernel) (by decide +kernel)) u_iX2_itemsHeldBy u_vX2_itemsHeldBy u_iniX2 u_cX2_itemsHeldBy u_dX2_itemsHeldBy
theorem kX2_169 : zLkV RX2 169 RX2 yX2_entryAt cX2_entryAt 3 (some .int) 2 := zLkV_of (zU_mem 315 (by decide +kernel) (by decide +kernel)) u_iX2_entryAt u_vX2_entryAt u_iniX2 u_cX2_entryAt u_dX2_entryAt
theorem kX2_172 : zLkV RX2 172 RX2 yX2_patienceOf cX2_patienceOf 3 (some .int) 2 := zLkV_of (zU_mem 327 (by decide +kernel) (by decide +kernel)) u_iX2_patienceOf u_vX2_patienceOf u_iniX2 u_cX2_patienceOf u_dX2_patienceOf
theorem u_cX3_begin : Cond.code yX3_begin cX3_begin 4 (some .int) ∈ zU := zU_mem 340 (by decide +kernel) (by decide +kernel)
theorem u_iX3_begin : Cond.instanceMethod yX3_begin ∈ zU := zU_mem 338 (by decide +kernel) (by decide +kernel)
theorem u_vX3_begin : Cond.selects RX3 yX3_begin yX3_begin ∈ zU := zU_mem 339 (by decide +kernel) (by decide +kernel)
theorem u_dX3_begin : yX3_begin.cls = RX3 ∧ yX3_begin.cls ≠ "java/lang/invoke/MethodHandle" ∧ yX3_begin.cls ≠ "java/lang/invoke/VarHandle" ∧ (parseMethodDescriptor yX3_begin.desc).map (fun d => d.parameters.length) = some 3 := ⟨rfl, by decide +kernel, by decide +kernel, by decide +kernel⟩
theorem u_cX3_vote : Cond.code yX3_vote cX3_vote 4 (some .int) ∈ zU := zU_mem 488 (by decide +kernel) (by decide +kernel)
theorem u_iX3_vote : Cond.instanceMethod yX3_vote ∈ zU := zU_mem 486 (by decide +kernel) (by decide +kernel)
theorem u_vX3_vote : Cond.selects RX3 yX3_vote yX3_vote ∈ zU := zU_mem 487 (by decide +kernel) (by decide +kernel)
theorem u_dX3_vote : yX3_vote.cls = RX3 ∧ yX3_vote.cls ≠ "java/lang/invoke/MethodHandle" ∧ yX3_vote.cls ≠ "java/lang/invoke/VarHandle" ∧ (parseMethodDescriptor yX3_vote.desc).map (fun d => d.parameters.length) = some 3 := ⟨rfl, by decide +kernel, by decide +kernel, by decide +kernel⟩
theorem u_cX3_decide : Cond.code yX3_decide cX3_decide 2 (some .int) ∈ zU := zU_mem 527 (by decide +kernel) (by decide +kernel)
theorem u_iX3_decide : Cond.instanceMethod yX3_decide ∈ zU := zU_mem 525 (by decide +kernel) (by decide +kernel)
theorem u_vX3_decide : Cond.selects RX3 yX3_decide yX3_decide ∈ zU := zU_mem 526 (by decide +kernel) (by decide +kernel)
theorem u_dX3_decide : yX3_decide.cls = RX3 ∧ yX3_decide.cls ≠ "java/lang/invoke/MethodHandle" ∧ yX3_decide.cls ≠ "java/lang/invoke/VarHandle" ∧ (parseMethodDescriptor yX3_decide.desc).map (fun d => d.parameters.length) = some 1 := ⟨rfl, by decide +kernel, by decide +kernel, by decide +kernel⟩
theorem u_cX3_tell : Cond.code yX3_tell cX3_tell 3 (some .int) ∈ zU := zU_mem 552 (by decide +kernel) (by decide +kernel)
theorem u_iX3_tell : Cond.instanceMethod yX3_tell ∈ zU := zU_mem 550 (by decide +kernel) (by decide +kernel)
theorem u_vX3_tell : Cond.selects RX3 yX3_tell yX3_tell ∈ zU := zU_mem 551 (by decide +kernel) (by decide +kernel)
theorem u_dX3_tell : yX3_tell.cls = RX3 ∧ yX3_tell.cls ≠ "java/lang/invoke/MethodHandle" ∧ yX3_tell.cls ≠ "java/lang/invoke/VarHandle" ∧ (parseMethodDescriptor yX3_tell.desc).map (fun d => d.parameters.length) = some 2 := ⟨rfl, by decide +kernel, by decide +kernel, by decide +kernel⟩
theorem u_cX3_ask : Cond.code yX3_ask cX3_ask 4 (some .int) ∈ zU := zU_mem 569 (by decide +kernel) (by decide +kernel)
theorem u_iX3_ask : Cond.instanceMethod yX3_ask ∈ zU := zU_mem 567 (by decide +kernel) (by decide +kernel)
theorem u_vX3_ask : Cond.selects RX3 yX3_ask yX3_ask ∈ zU := zU_mem 568 (by decide +kernel) (by decide +kernel)
theorem u_dX3_ask : yX3_ask.cls = RX3 ∧ yX3_ask.cls ≠ "java/lang/invoke/MethodHandle" ∧ yX3_ask.cls ≠ "java/lang/invoke/VarHandle" ∧ (parseMethodDescriptor yX3_ask.desc).map (fun d => d.parameters.length) = some 3 := ⟨rfl, by decide +kernel, by decide +kernel, by decide +kernel⟩
theorem u_cX3_fallSilent : Cond.code yX3_fallSilent cX3_fallSilent 2 (some .int) ∈ zU := zU_mem 583 (by decide +kernel) (by decide +kernel)
theorem u_iX3_fallSilent : Cond.instanceMethod yX3_fallSilent ∈ zU := zU_mem 581 (by decide +kernel) (by decide +kernel)
theorem u_vX3_fallSilent : Cond.selects RX3 yX3_fallSilent yX3_fallSilent ∈ zU := zU_mem 582 (by decide +kernel) (by decide +kernel)
theorem u_dX3_fallSilent : yX3_fallSilent.cls = RX3 ∧ yX3_fallSilent.cls ≠ "java/lang/invoke/MethodHandle" ∧ yX3_fallSilent.cls ≠ "java/lang/invoke/VarHandle" ∧ (parseMethodDescriptor yX3_fallSilent.desc).map (fun d => d.parameters.length) = some 1 := ⟨rfl, by decide +kernel, by decide +kernel, by decide +kernel⟩
theorem u_cX3_comeBack : Cond.code yX3_comeBack cX3_comeBack 2 (some .int) ∈ zU := zU_mem 596 (by decide +kernel) (by decide +kernel)
theorem u_iX3_comeBack : Cond.instanceMethod yX3_comeBack ∈ zU := zU_mem 594 (by decide +kernel) (by decide +kernel)
theorem u_vX3_comeBack : Cond.selects RX3 yX3_comeBack yX3_comeBack ∈ zU := zU_mem 595 (by decide +kernel) (by decide +kernel)
theorem u_dX3_comeBack : yX3_comeBack.cls = RX3 ∧ yX3_comeBack.cls ≠ "java/lang/invoke/MethodHandle" ∧ yX3_comeBack.cls ≠ "java/lang/invoke/VarHandle" ∧ (parseMethodDescriptor yX3_comeBack.desc).map (fun d => d.parameters.length) = some 1 := ⟨rfl, by decide +kernel, by decide +kernel, by decide +kernel⟩
theorem u_cX3_pass : Cond.code yX3_pass cX3_pass 2 (some .int) ∈ zU := zU_mem 608 (by decide +kernel) (by decide +kernel)
theorem u_iX3_pass : Cond.instanceMethod yX3_pass ∈ zU := zU_mem 606 (by decide +kernel) (by decide +kernel)
theorem u_vX3_pass : Cond.selects RX3 yX3_pass yX3_pass ∈ zU := zU_mem 607 (by decide +kernel) (by decide +kernel)
theorem u_dX3_pass : yX3_pass.cls = RX3 ∧ yX3_pass.cls ≠ "java/lang/invoke/MethodHandle" ∧ yX3_pass.cls ≠ "java/lang/invoke/VarHandle" ∧ (parseMethodDescriptor yX3_pass.desc).map (fun d => d.parameters.length) = some 1 := ⟨rfl, by decide +kernel, by decide +kernel, by decide +kernel⟩
theorem u_cX3_setPatience : Cond.code yX3_setPatience cX3_setPatience 2 (some .int) ∈ zU := zU_mem 629 (by decide +kernel) (by decide +kernel)
theorem u_iX3_setPatience : Cond.instanceMethod yX3_setPatience ∈ zU := zU_mem 627 (by decide +kernel) (by decide +kernel)
theorem u_vX3_setPatience : Cond.selects RX3 yX3_setPatience yX3_setPatience ∈ zU := zU_mem 628 (by decide +kernel) (by decide +kernel)
theorem u_dX3_setPatience : yX3_setPatience.cls = RX3 ∧ yX3_setPatience.cls ≠ "java/lang/invoke/MethodHandle" ∧ yX3_setPatience.cls ≠ "java/lang/invoke/VarHandle" ∧ (parseMethodDescriptor yX3_setPatience.desc).map (fun d => d.parameters.length) = some 1 := ⟨rfl, by decide +kernel, by decide +kernel, by decide +kernel⟩
theorem u_cX3_isUp : Cond.code yX3_isUp cX3_isUp 2 (some .boolean) ∈ zU := zU_mem 641 (by decide +kernel) (by decide +kernel)
theorem u_iX3_isUp : Cond.instanceMethod yX3_isUp ∈ zU := zU_mem 639 (by decide +kernel) (by decide +kernel)
theorem u_vX3_isUp : Cond.selects RX3 yX3_isUp yX3_isUp ∈ zU := zU_mem 640 (by decide +kernel) (by decide +kernel)
theorem u_dX3_isUp : yX3_isUp.cls = RX3 ∧ yX3_isUp.cls ≠ "java/lang/invoke/MethodHandle" ∧ yX3_isUp.cls ≠ "java/lang/invoke/VarHandle" ∧ (parseMethodDescriptor yX3_isUp.desc).map (fun d => d.parameters.length) = some 1 := ⟨rfl, by decide +kernel, by decide +kernel, by decide +kernel⟩
theorem u_cX3_state : Cond.code yX3_state cX3_state 3 (some .int) ∈ zU := zU_mem 648 (by decide +kernel) (by decide +kernel)
theorem u_iX3_state : Cond.instanceMethod yX3_state ∈ zU := zU_mem 646 (by decide +kernel) (by decide +kernel)
theorem u_vX3_state : Cond.selects RX3 yX3_state yX3_state ∈ zU := zU_mem 647 (by decide +kernel) (by decide +kernel)
theorem u_dX3_state : yX3_state.cls = RX3 ∧ yX3_state.cls ≠ "java/lang/invoke/MethodHandle" ∧ yX3_state.cls ≠ "java/lang/invoke/VarHandle" ∧ (parseMethodDescriptor yX3_state.desc).map (fun d => d.parameters.length) = some 2 := ⟨rfl, by decide +kernel, by decide +kernel, by decide +kernel⟩
theorem u_cX3_decision : Cond.code yX3_decision cX3_decision 2 (some .int) ∈ zU := zU_mem 656 (by decide +kernel) (by decide +kernel)
theorem u_iX3_decision : Cond.instanceMethod yX3_decision ∈ zU := zU_mem 654 (by decide +kernel) (by decide +kernel)
theorem u_vX3_decision : Cond.selects RX3 yX3_decision yX3_decision ∈ zU := zU_mem 655 (by decide +kernel) (by decide +kernel)
theorem u_dX3_decision : yX3_decision.cls = RX3 ∧ yX3_decision.cls ≠ "java/lang/invoke/MethodHandle" ∧ yX3_decision.cls ≠ "java/lang/invoke/VarHandle" ∧ (parseMethodDescriptor yX3_decision.desc).map (fun d => d.parameters.length) = some 1 := ⟨rfl, by decide +kernel, by decide +kernel, by decide +kernel⟩
theorem u_cX3_leader : Cond.code yX3_leader cX3_leader 2 (some .int) ∈ zU := zU_mem 664 (by decide +kernel) (by decide +kernel)
theorem u_iX3_leader : Cond.instanceMethod yX3_leader ∈ zU := zU_mem 662 (by decide +kernel) (by decide +kernel)
theorem u_vX3_leader : Cond.selects RX3 yX3_leader yX3_leader ∈ zU := zU_mem 663 (by decide +kernel) (by decide +kernel)
theorem u_dX3_leader : yX3_leader.cls = RX3 ∧ yX3_leader.cls ≠ "java/lang/invoke/MethodHandle" ∧ yX3_leader.cls ≠ "java/lang/invoke/VarHandle" ∧ (parseMethodDescriptor yX3_leader.desc).map (fun d => d.parameters.length) = some 1 := ⟨rfl, by decide +kernel, by decide +kernel, by decide +kernel⟩
theorem u_cX3_patience : Cond.code yX3_patience cX3_patience 3 (some .int) ∈ zU := zU_mem 672 (by decide +kernel) (by decide +kernel)
theorem u_iX3_patience : Cond.instanceMethod yX3_patience ∈ zU := zU_mem 670 (by decide +kernel) (by decide +kernel)
theorem u_vX3_patience : Cond.selects RX3 yX3_patience yX3_patience ∈ zU := zU_mem 671 (by decide +kernel) (by decide +kernel)
theorem u_dX3_patience : yX3_patience.cls = RX3 ∧ yX3_patience.cls ≠ "java/lang/invoke/MethodHandle" ∧ yX3_patience.cls ≠ "java/lang/invoke/VarHandle" ∧ (parseMethodDescriptor yX3_patience.desc).map (fun d => d.parameters.length) = some 2 := ⟨rfl, by decide +kernel, by decide +kernel, by decide +kernel⟩
theorem u_cX3_logLength : Cond.code yX3_logLength cX3_logLength 2 (some .int) ∈ zU := zU_mem 680 (by decide +kernel) (by decide +kernel)
theorem u_iX3_logLength : Cond.instanceMethod yX3_logLength ∈ zU := zU_mem 678 (by decide +kernel) (by decide +kernel)
theorem u_vX3_logLength : Cond.selects RX3 yX3_logLength yX3_logLength ∈ zU := zU_mem 679 (by decide +kernel) (by decide +kernel)
theorem u_dX3_logLength : yX3_logLength.cls = RX3 ∧ yX3_logLength.cls ≠ "java/lang/invoke/MethodHandle" ∧ yX3_logLength.cls ≠ "java/lang/invoke/VarHandle" ∧ (parseMethodDescriptor yX3_logLength.desc).map (fun d => d.parameters.length) = some 1 := ⟨rfl, by decide +kernel, by decide +kernel, by decide +kernel⟩
theorem u_cX3_log : Cond.code yX3_log cX3_log 3 (some .int) ∈ zU := zU_mem 688 (by decide +kernel) (by decide +kernel)
theorem u_iX3_log : Cond.instanceMethod yX3_log ∈ zU := zU_mem 686 (by decide +kernel) (by decide +kernel)
theorem u_vX3_log : Cond.selects RX3 yX3_log yX3_log ∈ zU := zU_mem 687 (by decide +kernel) (by decide +kernel)
theorem u_dX3_log : yX3_log.cls = RX3 ∧ yX3_log.cls ≠ "java/lang/invoke/MethodHandle" ∧ yX3_log.cls ≠ "java/lang/invoke/VarHandle" ∧ (parseMethodDescriptor yX3_log.desc).map (fun d => d.parameters.length) = some 2 := ⟨rfl, by decide +kernel, by decide +kernel, by decide +kernel⟩
theorem u_cX3_held : Cond.code yX3_held cX3_held 2 (some .int) ∈ zU := zU_mem 697 (by decide +kernel) (by decide +kernel)
theorem u_iX3_held : Cond.instanceMethod yX3_held ∈ zU := zU_mem 695 (by decide +kernel) (by decide +kernel)
theorem u_vX3_held : Cond.selects RX3 yX3_held yX3_held ∈ zU := zU_mem 696 (by decide +kernel) (by decide +kernel)
theorem u_dX3_held : yX3_held.cls = RX3 ∧ yX3_held.cls ≠ "java/lang/invoke/MethodHandle" ∧ yX3_held.cls ≠ "java/lang/invoke/VarHandle" ∧ (parseMethodDescriptor yX3_held.desc).map (fun d => d.parameters.length) = some 1 := ⟨rfl, by decide +kernel, by decide +kernel, by decide +kernel⟩
theorem u_cX3_reason : Cond.code yX3_reason cX3_reason 3 (some .int) ∈ zU := zU_mem 705 (by decide +kernel) (by decide +kernel)
theorem u_iX3_reason : Cond.instanceMethod yX3_reason ∈ zU := zU_mem 703 (by decide +kernel) (by decide +kernel)
theorem u_vX3_reason : Cond.selects RX3 yX3_reason yX3_reason ∈ zU := zU_mem 704 (by decide +kernel) (by decide +kernel)
theorem u_dX3_reason : yX3_reason.cls = RX3 ∧ yX3_reason.cls ≠ "java/lang/invoke/MethodHandle" ∧ yX3_reason.cls ≠ "java/lang/invoke/VarHandle" ∧ (parseMethodDescriptor yX3_reason.desc).map (fun d => d.parameters.length) = some 2 := ⟨rfl, by decide +kernel, by decide +kernel, by decide +kernel⟩
theorem u_cX3_helper : Cond.code yX3_helper cX3_helper 3 (some .int) ∈ zU := zU_mem 716 (by decide +kernel) (by decide +kernel)
theorem u_iX3_helper : Cond.instanceMethod yX3_helper ∈ zU := zU_mem 714 (by decide +kernel) (by decide +kernel)
theorem u_vX3_helper : Cond.selects RX3 yX3_helper yX3_helper ∈ zU := zU_mem 715 (by decide +kernel) (by decide +kernel)
theorem u_dX3_helper : yX3_helper.cls = RX3 ∧ yX3_helper.cls ≠ "java/lang/invoke/MethodHandle" ∧ yX3_helper.cls ≠ "java/lang/invoke/VarHandle" ∧ (parseMethodDescriptor yX3_helper.desc).map (fun d => d.parameters.length) = some 2 := ⟨rfl, by decide +kernel, by decide +kernel, by decide +kernel⟩
theorem u_cX3_ticksToEnd : Cond.code yX3_ticksToEnd cX3_ticksToEnd 4 (some .int) ∈ zU := zU_mem 724 (by decide +kernel) (by decide +kernel)
theorem u_iX3_ticksToEnd : Cond.instanceMethod yX3_ticksToEnd ∈ zU := zU_mem 722 (by decide +kernel) (by decide +kernel)
theorem u_vX3_ticksToEnd : Cond.selects RX3 yX3_ticksToEnd yX3_ticksToEnd ∈ zU := zU_mem 723 (by decide +kernel) (by decide +kernel)
theorem u_dX3_ticksToEnd : yX3_ticksToEnd.cls = RX3 ∧ yX3_ticksToEnd.cls ≠ "java/lang/invoke/MethodHandle" ∧ yX3_ticksToEnd.cls ≠ "java/lang/invoke/VarHandle" ∧ (parseMethodDescriptor yX3_ticksToEnd.desc).map (fun d => d.parameters.length) = some 2 := ⟨rfl, by decide +kernel, by decide +kernel, by decide +kernel⟩
theorem u_cX3_append : Cond.code yX3_append cX3_append 2 (some .int) ∈ zU := zU_mem 737 (by decide +kernel) (by decide +kernel)
theorem u_iX3_append : Cond.instanceMethod yX3_append ∈ zU := zU_mem 735 (by decide +kernel) (by decide +kernel)
theorem u_vX3_append : Cond.selects RX3 yX3_append yX3_append ∈ zU := zU_mem 736 (by decide +kernel) (by decide +kernel)
theorem u_dX3_append : yX3_append.cls = RX3 ∧ yX3_append.cls ≠ "java/lang/invoke/MethodHandle" ∧ yX3_append.cls ≠ "java/lang/invoke/VarHandle" ∧ (parseMethodDescriptor yX3_append.desc).map (fun d => d.parameters.length) = some 1 := ⟨rfl, by decide +kernel, by decide +kernel, by decide +kernel⟩
theorem u_cX3_run : Cond.code yX3_run cX3_run 5 (some .int) ∈ zU := zU_mem 755 (by decide +kernel) (by decide +kernel)
theorem u_iX3_run : Cond.instanceMethod yX3_run ∈ zU := zU_mem 753 (by decide +kernel) (by decide +kernel)
theorem u_vX3_run : Cond.selects RX3 yX3_run yX3_run ∈ zU := zU_mem 754 (by decide +kernel) (by decide +kernel)
theorem u_dX3_run : yX3_run.cls = RX3 ∧ yX3_run.cls ≠ "java/lang/invoke/MethodHandle" ∧ yX3_run.cls ≠ "java/lang/invoke/VarHandle" ∧ (parseMethodDescriptor yX3_run.desc).map (fun d => d.parameters.length) = some 0 := ⟨rfl, by decide +kernel, by decide +kernel, by decide +kernel⟩
theorem u_cX3_undo : Cond.code yX3_undo cX3_undo 1 (some .int) ∈ zU := zU_mem 789 (by decide +kernel) (by decide +kernel)
theorem u_iX3_undo : Cond.instanceMethod yX3_undo ∈ zU := zU_mem 787 (by decide +kernel) (by decide +kernel)
theorem u_vX3_undo : Cond.selects RX3 yX3_undo yX3_undo ∈ zU := zU_mem 788 (by decide +kernel) (by decide +kernel)
theorem u_dX3_undo : yX3_undo.cls = RX3 ∧ yX3_undo.cls ≠ "java/lang/invoke/MethodHandle" ∧ yX3_undo.cls ≠ "java/lang/invoke/VarHandle" ∧ (parseMethodDescriptor yX3_undo.desc).map (fun d => d.parameters.length) = some 0 := ⟨rfl, by decide +kernel, by decide +kernel, by decide +kernel⟩
theorem u_cX4_begin : Cond.code yX4_begin cX4_begin 7 (some .int) ∈ zU := zU_mem 842 (by decide +kernel) (by decide +kernel)
theorem u_iX4_begin : Cond.instanceMethod yX4_begin ∈ zU := zU_mem 840 (by decide +kernel) (by decide +kernel)
theorem u_vX4_begin : Cond.selects RX4 yX4_begin yX4_begin ∈ zU := zU_mem 841 (by decide +kernel) (by decide +kernel)
theorem u_dX4_begin : yX4_begin.cls = RX4 ∧ yX4_begin.cls ≠ "java/lang/invoke/MethodHandle" ∧ yX4_begin.cls ≠ "java/lang/invoke/VarHandle" ∧ (parseMethodDescriptor yX4_begin.desc).map (fun d => d.parameters.length) = some 3 := ⟨rfl, by decide +kernel, by decide +kernel, by decide +kernel⟩
theorem u_cX4_thrown : Cond.code yX4_thrown cX4_thrown 1 (some .int) ∈ zU := zU_mem 838 (by decide +kernel) (by decide +kernel)
theorem u_iX4_thrown : Cond.instanceMethod yX4_thrown ∈ zU := zU_mem 836 (by decide +kernel) (by decide +kernel)
theorem u_vX4_thrown : Cond.selects RX4 yX4_thrown yX4_thrown ∈ zU := zU_mem 837 (by decide +kernel) (by decide +kernel)
theorem u_dX4_thrown : yX4_thrown.cls = RX4 ∧ yX4_thrown.cls ≠ "java/lang/invoke/MethodHandle" ∧ yX4_thrown.cls ≠ "java/lang/invoke/VarHandle" ∧ (parseMethodDescriptor yX4_thrown.desc).map (fun d => d.parameters.length) = some 0 := ⟨rfl, by decide +kernel, by decide +kernel, by decide +kernel⟩
theorem u_cX4_vote : Cond.code yX4_vote cX4_vote 5 (some .int) ∈ zU := zU_mem 867 (by decide +kernel) (by decide +kernel)
theorem u_iX4_vote : Cond.instanceMethod yX4_vote ∈ zU := zU_mem 865 (by decide +kernel) (by decide +kernel)
theorem u_vX4_vote : Cond.selects RX4 yX4_vote yX4_vote ∈ zU := zU_mem 866 (by decide +kernel) (by decide +kernel)
theorem u_dX4_vote : yX4_vote.cls = RX4 ∧ yX4_vote.cls ≠ "java/lang/invoke/MethodHandle" ∧ yX4_vote.cls ≠ "java/lang/invoke/VarHandle" ∧ (parseMethodDescriptor yX4_vote.desc).map (fun d => d.parameters.length) = some 3 := ⟨rfl, by decide +kernel, by decide +kernel, by decide +kernel⟩
theorem u_cX4_decide : Cond.code yX4_decide cX4_decide 3 (some .int) ∈ zU := zU_mem 915 (by decide +kernel) (by decide +kernel)
theorem u_iX4_decide : Cond.instanceMethod yX4_decide ∈ zU := zU_mem 913 (by decide +kernel) (by decide +kernel)
theorem u_vX4_decide : Cond.selects RX4 yX4_decide yX4_decide ∈ zU := zU_mem 914 (by decide +kernel) (by decide +kernel)
theorem u_dX4_decide : yX4_decide.cls = RX4 ∧ yX4_decide.cls ≠ "java/lang/invoke/MethodHandle" ∧ yX4_decide.cls ≠ "java/lang/invoke/VarHandle" ∧ (parseMethodDescriptor yX4_decide.desc).map (fun d => d.parameters.length) = some 1 := ⟨rfl, by decide +kernel, by decide +kernel, by decide +kernel⟩
theorem u_cX4_tell : Cond.code yX4_tell cX4_tell 4 (some .int) ∈ zU := zU_mem 931 (by decide +kernel) (by decide +kernel)
theorem u_iX4_tell : Cond.instanceMethod yX4_tell ∈ zU := zU_mem 929 (by decide +kernel) (by decide +kernel)
theorem u_vX4_tell : Cond.selects RX4 yX4_tell yX4_tell ∈ zU := zU_mem 930 (by decide +kernel) (by decide +kernel)
theorem u_dX4_tell : yX4_tell.cls = RX4 ∧ yX4_tell.cls ≠ "java/lang/invoke/MethodHandle" ∧ yX4_tell.cls ≠ "java/lang/invoke/VarHandle" ∧ (parseMethodDescriptor yX4_tell.desc).map (fun d => d.parameters.length) = some 2 := ⟨rfl, by decide +kernel, by decide +kernel, by decide +kernel⟩
theorem u_cX4_ask : Cond.code yX4_ask cX4_ask 5 (some .int) ∈ zU := zU_mem 943 (by decide +kernel) (by decide +kernel)
theorem u_iX4_ask : Cond.instanceMethod yX4_ask ∈ zU := zU_mem 941 (by decide +kernel) (by decide +kernel)
theorem u_vX4_ask : Cond.selects RX4 yX4_ask yX4_ask ∈ zU := zU_mem 942 (by decide +kernel) (by decide +kernel)
theorem u_dX4_ask : yX4_ask.cls = RX4 ∧ yX4_ask.cls ≠ "java/lang/invoke/MethodHandle" ∧ yX4_ask.cls ≠ "java/lang/invoke/VarHandle" ∧ (parseMethodDescriptor yX4_ask.desc).map (fun d => d.parameters.length) = some 3 := ⟨rfl, by decide +kernel, by decide +kernel, by decide +kernel⟩
theorem u_cX4_fallSilent : Cond.code yX4_fallSilent cX4_fallSilent 3 (some .int) ∈ zU := zU_mem 959 (by decide +kernel) (by decide +kernel)
theorem u_iX4_fallSilent : Cond.instanceMethod yX4_fallSilent ∈ zU := zU_mem 957 (by decide +kernel) (by decide +kernel)
theorem u_vX4_fallSilent : Cond.selects RX4 yX4_fallSilent yX4_fallSilent ∈ zU := zU_mem 958 (by decide +kernel) (by decide +kernel)
theorem u_dX4_fallSilent : yX4_fallSilent.cls = RX4 ∧ yX4_fallSilent.cls ≠ "java/lang/invoke/MethodHandle" ∧ yX4_fallSilent.cls ≠ "java/lang/invoke/VarHandle" ∧ (parseMethodDescriptor yX4_fallSilent.desc).map (fun d => d.parameters.length) = some 1 := ⟨rfl, by decide +kernel, by decide +kernel, by decide +kernel⟩
theorem u_cX4_comeBack : Cond.code yX4_comeBack cX4_comeBack 3 (some .int) ∈ zU := zU_mem 967 (by decide +kernel) (by decide +kernel)
theorem u_iX4_comeBack : Cond.instanceMethod yX4_comeBack ∈ zU := zU_mem 965 (by decide +kernel) (by decide +kernel)
theorem u_vX4_comeBack : Cond.selects RX4 yX4_comeBack yX4_comeBack ∈ zU := zU_mem 966 (by decide +kernel) (by decide +kernel)
theorem u_dX4_comeBack : yX4_comeBack.cls = RX4 ∧ yX4_comeBack.cls ≠ "java/lang/invoke/MethodHandle" ∧ yX4_comeBack.cls ≠ "java/lang/invoke/VarHandle" ∧ (parseMethodDescriptor yX4_comeBack.desc).map (fun d => d.parameters.length) = some 1 := ⟨rfl, by decide +kernel, by decide +kernel, by decide +kernel⟩
theorem u_cX4_pass : Cond.code yX4_pass cX4_pass 2 (some .int) ∈ zU := zU_mem 975 (by decide +kernel) (by decide +kernel)
theorem u_iX4_pass : Cond.instanceMethod yX4_pass ∈ zU := zU_mem 973 (by decide +kernel) (by decide +kernel)
theorem u_vX4_pass : Cond.selects RX4 yX4_pass yX4_pass ∈ zU := zU_mem 974 (by decide +kernel) (by decide +kernel)
theorem u_dX4_pass : yX4_pass.cls = RX4 ∧ yX4_pass.cls ≠ "java/lang/invoke/MethodHandle" ∧ yX4_pass.cls ≠ "java/lang/invoke/VarHandle" ∧ (parseMethodDescriptor yX4_pass.desc).map (fun d => d.parameters.length) = some 1 := ⟨rfl, by decide +kernel, by decide +kernel, by decide +kernel⟩
theorem u_cX4_setPatience : Cond.code yX4_setPatience cX4_setPatience 3 (some .int) ∈ zU := zU_mem 995 (by decide +kernel) (by decide +kernel)
theorem u_iX4_setPatience : Cond.instanceMethod yX4_setPatience ∈ zU := zU_mem 993 (by decide +kernel) (by decide +kernel)
theorem u_vX4_setPatience : Cond.selects RX4 yX4_setPatience yX4_setPatience ∈ zU := zU_mem 994 (by decide +kernel) (by decide +kernel)
theorem u_dX4_setPatience : yX4_setPatience.cls = RX4 ∧ yX4_setPatience.cls ≠ "java/lang/invoke/MethodHandle" ∧ yX4_setPatience.cls ≠ "java/lang/invoke/VarHandle" ∧ (parseMethodDescriptor yX4_setPatience.desc).map (fun d => d.parameters.length) = some 1 := ⟨rfl, by decide +kernel, by decide +kernel, by decide +kernel⟩
theorem u_cX3_deals : Cond.code yX3_deals cX3_deals 1 (some .int) ∈ zU := zU_mem 165 (by decide +kernel) (by decide +kernel)
theorem u_iX3_deals : Cond.instanceMethod yX3_deals ∈ zU := zU_mem 163 (by decide +kernel) (by decide +kernel)
theorem u_vX3_deals : Cond.selects RX3 yX3_deals yX3_deals ∈ zU := zU_mem 164 (by decide +kernel) (by decide +kernel)
theorem u_dX3_deals : yX3_deals.cls = RX3 ∧ yX3_deals.cls ≠ "java/lang/invoke/MethodHandle" ∧ yX3_deals.cls ≠ "java/lang/invoke/VarHandle" ∧ (parseMethodDescriptor yX3_deals.desc).map (fun d => d.parameters.length) = some 0 := ⟨rfl, by decide +kernel, by decide +kernel, by decide +kernel⟩
theorem u_cX4_deals : Cond.code yX4_deals cX4_deals 1 (some .int) ∈ zU := zU_mem 999 (by decide +kernel) (by decide +kernel)
theorem u_iX4_deals : Cond.instanceMethod yX4_deals ∈ zU := zU_mem 997 (by decide +kernel) (by decide +kernel)
theorem u_vX4_deals : Cond.selects RX4 yX4_deals yX4_deals ∈ zU := zU_mem 998 (by decide +kernel) (by decide +kernel)
theorem u_dX4_deals : yX4_deals.cls = RX4 ∧ yX4_deals.cls ≠ "java/lang/invoke/MethodHandle" ∧ yX4_deals.cls ≠ "java/lang/invoke/VarHandle" ∧ (parseMethodDescriptor yX4_deals.desc).map (fun d => d.parameters.length) = some 0 := ⟨rfl, by decide +kernel, by decide +kernel, by decide +kernel⟩
theorem u_cX4_isUp : Cond.code yX4_isUp cX4_isUp 2 (some .boolean) ∈ zU := zU_mem 1003 (by decide +kernel) (by decide +kernel)
theorem u_iX4_isUp : Cond.instanceMethod yX4_isUp ∈ zU := zU_mem 1001 (by decide +kernel) (by decide +kernel)
theorem u_vX4_isUp : Cond.selects RX4 yX4_isUp yX4_isUp ∈ zU := zU_mem 1002 (by decide +kernel) (by decide +kernel)
theorem u_dX4_isUp : yX4_isUp.cls = RX4 ∧ yX4_isUp.cls ≠ "java/lang/invoke/MethodHandle" ∧ yX4_isUp.cls ≠ "java/lang/invoke/VarHandle" ∧ (parseMethodDescriptor yX4_isUp.desc).map (fun d => d.parameters.length) = some 1 := ⟨rfl, by decide +kernel, by decide +kernel, by decide +kernel⟩
theorem u_cX4_state : Cond.code yX4_state cX4_state 3 (some .int) ∈ zU := zU_mem 1007 (by decide +kernel) (by decide +kernel)
theorem u_iX4_state : Cond.instanceMethod yX4_state ∈ zU := zU_mem 1005 (by decide +kernel) (by decide +kernel)
theorem u_vX4_state : Cond.selects RX4 yX4_state yX4_state ∈ zU := zU_mem 1006 (by decide +kernel) (by decide +kernel)
theorem u_dX4_state : yX4_state.cls = RX4 ∧ yX4_state.cls ≠ "java/lang/invoke/MethodHandle" ∧ yX4_state.cls ≠ "java/lang/invoke/VarHandle" ∧ (parseMethodDescriptor yX4_state.desc).map (fun d => d.parameters.length) = some 2 := ⟨rfl, by decide +kernel, by decide +kernel, by decide +kernel⟩
theorem u_cX4_decision : Cond.code yX4_decision cX4_decision 2 (some .int) ∈ zU := zU_mem 1011 (by decide +kernel) (by decide +kernel)
theorem u_iX4_decision : Cond.instanceMethod yX4_decision ∈ zU := zU_mem 1009 (by decide +kernel) (by decide +kernel)
theorem u_vX4_decision : Cond.selects RX4 yX4_decision yX4_decision ∈ zU := zU_mem 1010 (by decide +kernel) (by decide +kernel)
theorem u_dX4_decision : yX4_decision.cls = RX4 ∧ yX4_decision.cls ≠ "java/lang/invoke/MethodHandle" ∧ yX4_decision.cls ≠ "java/lang/invoke/VarHandle" ∧ (parseMethodDescriptor yX4_decision.desc).map (fun d => d.parameters.length) = some 1 := ⟨rfl, by decide +kernel, by decide +kernel, by decide +kernel⟩
theorem u_cX4_leader : Cond.code yX4_leader cX4_leader 2 (some .int) ∈ zU := zU_mem 1015 (by decide +kernel) (by decide +kernel)
theorem u_iX4_leader : Cond.instanceMethod yX4_leader ∈ zU := zU_mem 1013 (by decide +kernel) (by decide +kernel)
theorem u_vX4_leader : Cond.selects RX4 yX4_leader yX4_leader ∈ zU := zU_mem 1014 (by decide +kernel) (by decide +kernel)
theorem u_dX4_leader : yX4_leader.cls = RX4 ∧ yX4_leader.cls ≠ "java/lang/invoke/MethodHandle" ∧ yX4_leader.cls ≠ "java/lang/invoke/VarHandle" ∧ (parseMethodDescriptor yX4_leader.desc).map (fun d => d.parameters.length) = some 1 := ⟨rfl, by decide +kernel, by decide +kernel, by decide +kernel⟩
theorem u_cX4_patience : Cond.code yX4_patience cX4_patience 3 (some .int) ∈ zU := zU_mem 1019 (by decide +kernel) (by decide +kernel)
theorem u_iX4_patience : Cond.instanceMethod yX4_patience ∈ zU := zU_mem 1017 (by decide +kernel) (by decide +kernel)
theorem u_vX4_patience : Cond.selects RX4 yX4_patience yX4_patience ∈ zU := zU_mem 1018 (by decide +kernel) (by decide +kernel)
theorem u_dX4_patience : yX4_patience.cls = RX4 ∧ yX4_patience.cls ≠ "java/lang/invoke/MethodHandle" ∧ yX4_patience.cls ≠ "java/lang/invoke/VarHandle" ∧ (parseMethodDescriptor yX4_patience.desc).map (fun d => d.parameters.length) = some 2 := ⟨rfl, by decide +kernel, by decide +kernel, by decide +kernel⟩
theorem u_cX3_open : Cond.code yX3_open cX3_open 1 (some .int) ∈ zU := zU_mem 173 (by decide +kernel) (by decide +kernel)
theorem u_iX3_open : Cond.instanceMethod yX3_open ∈ zU := zU_mem 171 (by decide +kernel) (by decide +kernel)
theorem u_vX3_open : Cond.selects RX3 yX3_open yX3_open ∈ zU := zU_mem 172 (by decide +kernel) (by decide +kernel)
theorem u_dX3_open : yX3_open.cls = RX3 ∧ yX3_open.cls ≠ "java/lang/invoke/MethodHandle" ∧ yX3_open.cls ≠ "java/lang/invoke/VarHandle" ∧ (parseMethodDescriptor yX3_open.desc).map (fun d => d.parameters.length) = some 0 := ⟨rfl, by decide +kernel, by decide +kernel, by decide +kernel⟩
theorem u_cX4_open : Cond.code yX4_open cX4_open 1 (some .int) ∈ zU := zU_mem 1027 (by decide +kernel) (by decide +kernel)
theorem u_iX4_open : Cond.instanceMethod yX4_open ∈ zU := zU_mem 1025 (by decide +kernel) (by decide +kernel)
theorem u_vX4_open : Cond.selects RX4 yX4_open yX4_open ∈ zU := zU_mem 1026 (by decide +kernel) (by decide +kernel)
theorem u_dX4_open : yX4_open.cls = RX4 ∧ yX4_open.cls ≠ "java/lang/invoke/MethodHandle" ∧ yX4_open.cls ≠ "java/lang/invoke/VarHandle" ∧ (parseMethodDescriptor yX4_open.desc).map (fun d => d.parameters.length) = some 0 := ⟨rfl, by decide +kernel, by decide +kernel, by decide +kernel⟩
theorem u_cX3_stuck : Cond.code yX3_stuck cX3_stuck 1 (some .int) ∈ zU := zU_mem 189 (by decide +kernel) (by decide +kernel)
theorem u_iX3_stuck : Cond.instanceMethod yX3_stuck ∈ zU := zU_mem 187 (by decide +kernel) (by decide +kernel)
theorem u_vX3_stuck : Cond.selects RX3 yX3_stuck yX3_stuck ∈ zU := zU_mem 188 (by decide +kernel) (by decide +kernel)
theorem u_dX3_stuck : yX3_stuck.cls = RX3 ∧ yX3_stuck.cls ≠ "java/lang/invoke/MethodHandle" ∧ yX3_stuck.cls ≠ "java/lang/invoke/VarHandle" ∧ (parseMethodDescriptor yX3_stuck.desc).map (fun d => d.parameters.length) = some 0 := ⟨rfl, by decide +kernel, by decide +kernel, by decide +kernel⟩
theorem u_cX4_stuck : Cond.code yX4_stuck cX4_stuck 1 (some .int) ∈ zU := zU_mem 1035 (by decide +kernel) (by decide +kernel)
theorem u_iX4_stuck : Cond.instanceMethod yX4_stuck ∈ zU := zU_mem 1033 (by decide +kernel) (by decide +kernel)
theorem u_vX4_stuck : Cond.selects RX4 yX4_stuck yX4_stuck ∈ zU := zU_mem 1034 (by decide +kernel) (by decide +kernel)
theorem u_dX4_stuck : yX4_stuck.cls = RX4 ∧ yX4_stuck.cls ≠ "java/lang/invoke/MethodHandle" ∧ yX4_stuck.cls ≠ "java/lang/invoke/VarHandle" ∧ (parseMethodDescriptor yX4_stuck.desc).map (fun d => d.parameters.length) = some 0 := ⟨rfl, by decide +kernel, by decide +kernel, by decide +kernel⟩
theorem u_cX4_logLength : Cond.code yX4_logLength cX4_logLength 2 (some .int) ∈ zU := zU_mem 1047 (by decide +kernel) (by decide +kernel)
theorem u_iX4_logLength : Cond.instanceMethod yX4_logLength ∈ zU := zU_mem 1045 (by decide +kernel) (by decide +kernel)
theorem u_vX4_logLength : Cond.selects RX4 yX4_logLength yX4_logLength ∈ zU := zU_mem 1046 (by decide +kernel) (by decide +kernel)
theorem u_dX4_logLength : yX4_logLength.cls = RX4 ∧ yX4_logLength.cls ≠ "java/lang/invoke/MethodHandle" ∧ yX4_logLength.cls ≠ "java/lang/invoke/VarHandle" ∧ (parseMethodDescriptor yX4_logLength.desc).map (fun d => d.parameters.length) = some 1 := ⟨rfl, by decide +kernel, by decide +kernel, by decide +kernel⟩
theorem u_cX4_log : Cond.code yX4_log cX4_log 3 (some .int) ∈ zU := zU_mem 1051 (by decide +kernel) (by decide +kernel)
theorem u_iX4_log : Cond.instanceMethod yX4_log ∈ zU := zU_mem 1049 (by decide +kernel) (by decide +kernel)
theorem u_vX4_log : Cond.selects RX4 yX4_log yX4_log ∈ zU := zU_mem 1050 (by decide +kernel) (by decide +kernel)
theorem u_dX4_log : yX4_log.cls = RX4 ∧ yX4_log.cls ≠ "java/lang/invoke/MethodHandle" ∧ yX4_log.cls ≠ "java/lang/invoke/VarHandle" ∧ (parseMethodDescriptor yX4_log.desc).map (fun d => d.parameters.length) = some 2 := ⟨rfl, by decide +kernel, by decide +kernel, by decide +kernel⟩
theorem u_cX4_held : Cond.code yX4_held cX4_held 2 (some .int) ∈ zU := zU_mem 1055 (by decide +kernel) (by decide +kernel)
theorem u_iX4_held : Cond.instanceMethod yX4_held ∈ zU := zU_mem 1053 (by decide +kernel) (by decide +kernel)
theorem u_vX4_held : Cond.selects RX4 yX4_held yX4_held ∈ zU := zU_mem 1054 (by decide +kernel) (by decide +kernel)
theorem u_dX4_held : yX4_held.cls = RX4 ∧ yX4_held.cls ≠ "java/lang/invoke/MethodHandle" ∧ yX4_held.cls ≠ "java/lang/invoke/VarHandle" ∧ (parseMethodDescriptor yX4_held.desc).map (fun d => d.parameters.length) = some 1 := ⟨rfl, by decide +kernel, by decide +kernel, by decide +kernel⟩
theorem u_cX3_asked : Cond.code yX3_asked cX3_asked 1 (some .int) ∈ zU := zU_mem 227 (by decide +kernel) (by decide +kernel)
theorem u_iX3_asked : Cond.instanceMethod yX3_asked ∈ zU := zU_mem 225 (by decide +kernel) (by decide +kernel)
theorem u_vX3_asked : Cond.selects RX3 yX3_asked yX3_asked ∈ zU := zU_mem 226 (by decide +kernel) (by decide +kernel)
theorem u_dX3_asked : yX3_asked.cls = RX3 ∧ yX3_asked.cls ≠ "java/lang/invoke/MethodHandle" ∧ yX3_asked.cls ≠ "java/lang/invoke/VarHandle" ∧ (parseMethodDescriptor yX3_asked.desc).map (fun d => d.parameters.length) = some 0 := ⟨rfl, by decide +kernel, by decide +kernel, by decide +kernel⟩
theorem u_cX4_asked : Cond.code yX4_asked cX4_asked 1 (some .int) ∈ zU := zU_mem 1059 (by decide +kernel) (by decide +kernel)
theorem u_iX4_asked : Cond.instanceMethod yX4_asked ∈ zU := zU_mem 1057 (by decide +kernel) (by decide +kernel)
theorem u_vX4_asked : Cond.selects RX4 yX4_asked yX4_asked ∈ zU := zU_mem 1058 (by decide +kernel) (by decide +kernel)
theorem u_dX4_asked : yX4_asked.cls = RX4 ∧ yX4_asked.cls ≠ "java/lang/invoke/MethodHandle" ∧ yX4_asked.cls ≠ "java/lang/invoke/VarHandle" ∧ (parseMethodDescriptor yX4_asked.desc).map (fun d => d.parameters.length) = some 0 := ⟨rfl, by decide +kernel, by decide +kernel, by decide +kernel⟩
theorem u_cX3_doubtShare : Cond.code yX3_doubtShare cX3_doubtShare 2 (some .double) ∈ zU := zU_mem 235 (by decide +kernel) (by decide +kernel)
theorem u_iX3_doubtShare : Cond.instanceMethod yX3_doubtShare ∈ zU := zU_mem 233 (by decide +kernel) (by decide +kernel)
theorem u_vX3_doubtShare : Cond.selects RX3 yX3_doubtShare yX3_doubtShare ∈ zU := zU_mem 234 (by decide +kernel) (by decide +kernel)
theorem u_dX3_doubtShare : yX3_doubtShare.cls = RX3 ∧ yX3_doubtShare.cls ≠ "java/lang/invoke/MethodHandle" ∧ yX3_doubtShare.cls ≠ "java/lang/invoke/VarHandle" ∧ (parseMethodDescriptor yX3_doubtShare.desc).map (fun d => d.parameters.length) = some 0 := ⟨rfl, by decide +kernel, by decide +kernel, by decide +kernel⟩
theorem u_cX4_doubtShare : Cond.code yX4_doubtShare cX4_doubtShare 4 (some .double) ∈ zU := zU_mem 1063 (by decide +kernel) (by decide +kernel)
theorem u_iX4_doubtShare : Cond.instanceMethod yX4_doubtShare ∈ zU := zU_mem 1061 (by decide +kernel) (by decide +kernel)
theorem u_vX4_doubtShare : Cond.selects RX4 yX4_doubtShare yX4_doubtShare ∈ zU := zU_mem 1062 (by decide +kernel) (by decide +kernel)
theorem u_dX4_doubtShare : yX4_doubtShare.cls = RX4 ∧ yX4_doubtShare.cls ≠ "java/lang/invoke/MethodHandle" ∧ yX4_doubtShare.cls ≠ "java/lang/invoke/VarHandle" ∧ (parseMethodDescriptor yX4_doubtShare.desc).map (fun d => d.parameters.length) = some 0 := ⟨rfl, by decide +kernel, by decide +kernel, by decide +kernel⟩
theorem u_cX4_reason : Cond.code yX4_reason cX4_reason 3 (some .int) ∈ zU := zU_mem 1067 (by decide +kernel) (by decide +kernel)
theorem u_iX4_reason : Cond.instanceMethod yX4_reason ∈ zU := zU_mem 1065 (by decide +kernel) (by decide +kernel)
theorem u_vX4_reason : Cond.selects RX4 yX4_reason yX4_reason ∈ zU := zU_mem 1066 (by decide +kernel) (by decide +kernel)
theorem u_dX4_reason : yX4_reason.cls = RX4 ∧ yX4_reason.cls ≠ "java/lang/invoke/MethodHandle" ∧ yX4_reason.cls ≠ "java/lang/invoke/VarHandle" ∧ (parseMethodDescriptor yX4_reason.desc).map (fun d => d.parameters.length) = some 2 := ⟨rfl, by decide +kernel, by decide +kernel, by decide +kernel⟩
theorem u_cX4_helper : Cond.code yX4_helper cX4_helper 3 (some .int) ∈ zU := zU_mem 1071 (by decide +kernel) (by decide +kernel)
theorem u_iX4_helper : Cond.instanceMethod yX4_helper ∈ zU := zU_mem 1069 (by decide +kernel) (by decide +kernel)
theorem u_vX4_helper : Cond.selects RX4 yX4_helper yX4_helper ∈ zU := zU_mem 1070 (by decide +kernel) (by decide +kernel)
theorem u_dX4_helper : yX4_helper.cls = RX4 ∧ yX4_helper.cls ≠ "java/lang/invoke/MethodHandle" ∧ yX4_helper.cls ≠ "java/lang/invoke/VarHandle" ∧ (parseMethodDescriptor yX4_helper.desc).map (fun d => d.parameters.length) = some 2 := ⟨rfl, by decide +kernel, by decide +kernel, by decide +kernel⟩
theorem u_cX4_ticksToEnd : Cond.code yX4_ticksToEnd cX4_ticksToEnd 4 (some .int) ∈ zU := zU_mem 1075 (by decide +kernel) (by decide +kernel)
theorem u_iX4_ticksToEnd : Cond.instanceMethod yX4_ticksToEnd ∈ zU := zU_mem 1073 (by decide +kernel) (by decide +kernel)
theorem u_vX4_ticksToEnd : Cond.selects RX4 yX4_ticksToEnd yX4_ticksToEnd ∈ zU := zU_mem 1074 (by decide +kernel) (by decide +kernel)
theorem u_dX4_ticksToEnd : yX4_ticksToEnd.cls = RX4 ∧ yX4_ticksToEnd.cls ≠ "java/lang/invoke/MethodHandle" ∧ yX4_ticksToEnd.cls ≠ "java/lang/invoke/VarHandle" ∧ (parseMethodDescriptor yX4_ticksToEnd.desc).map (fun d => d.parameters.length) = some 2 := ⟨rfl, by decide +kernel, by decide +kernel, by decide +kernel⟩
theorem u_cX4_append : Cond.code yX4_append cX4_append 2 (some .int) ∈ zU := zU_mem 1079 (by decide +kernel) (by decide +kernel)
theorem u_iX4_append : Cond.instanceMethod yX4_append ∈ zU := zU_mem 1077 (by decide +kernel) (by decide +kernel)
theorem u_vX4_append : Cond.selects RX4 yX4_append yX4_append ∈ zU := zU_mem 1078 (by decide +kernel) (by decide +kernel)
theorem u_dX4_append : yX4_append.cls = RX4 ∧ yX4_append.cls ≠ "java/lang/invoke/MethodHandle" ∧ yX4_append.cls ≠ "java/lang/invoke/VarHandle" ∧ (parseMethodDescriptor yX4_append.desc).map (fun d => d.parameters.length) = some 1 := ⟨rfl, by decide +kernel, by decide +kernel, by decide +kernel⟩
theorem u_cX3_clearText : Cond.code yX3_clearText cX3_clearText 1 (some .int) ∈ zU := zU_mem 248 (by decide +kernel) (by decide +kernel)
theorem u_iX3_clearText : Cond.instanceMethod yX3_clearText ∈ zU := zU_mem 246 (by decide +kernel) (by decide +kernel)
theorem u_vX3_clearText : Cond.selects RX3 yX3_clearText yX3_clearText ∈ zU := zU_mem 247 (by decide +kernel) (by decide +kernel)
theorem u_dX3_clearText : yX3_clearText.cls = RX3 ∧ yX3_clearText.cls ≠ "java/lang/invoke/MethodHandle" ∧ yX3_clearText.cls ≠ "java/lang/invoke/VarHandle" ∧ (parseMethodDescriptor yX3_clearText.desc).map (fun d => d.parameters.length) = some 0 := ⟨rfl, by decide +kernel, by decide +kernel, by decide +kernel⟩
theorem u_cX4_clearText : Cond.code yX4_clearText cX4_clearText 2 (some .int) ∈ zU := zU_mem 1083 (by decide +kernel) (by decide +kernel)
theorem u_iX4_clearText : Cond.instanceMethod yX4_clearText ∈ zU := zU_mem 1081 (by decide +kernel) (by decide +kernel)
theorem u_vX4_clearText : Cond.selects RX4 yX4_clearText yX4_clearText ∈ zU := zU_mem 1082 (by decide +kernel) (by decide +kernel)
theorem u_dX4_clearText : yX4_clearText.cls = RX4 ∧ yX4_clearText.cls ≠ "java/lang/invoke/MethodHandle" ∧ yX4_clearText.cls ≠ "java/lang/invoke/VarHandle" ∧ (parseMethodDescriptor yX4_clearText.desc).map (fun d => d.parameters.length) = some 0 := ⟨rfl, by decide +kernel, by decide +kernel, by decide +kernel⟩
theorem u_cX3_firstError : Cond.code yX3_firstError cX3_firstError 1 (some .int) ∈ zU := zU_mem 256 (by decide +kernel) (by decide +kernel)
theorem u_iX3_firstError : Cond.instanceMethod yX3_firstError ∈ zU := zU_mem 254 (by decide +kernel) (by decide +kernel)
theorem u_vX3_firstError : Cond.selects RX3 yX3_firstError yX3_firstError ∈ zU := zU_mem 255 (by decide +kernel) (by decide +kernel)
theorem u_dX3_firstError : yX3_firstError.cls = RX3 ∧ yX3_firstError.cls ≠ "java/lang/invoke/MethodHandle" ∧ yX3_firstError.cls ≠ "java/lang/invoke/VarHandle" ∧ (parseMethodDescriptor yX3_firstError.desc).map (fun d => d.parameters.length) = some 0 := ⟨rfl, by decide +kernel, by decide +kernel, by decide +kernel⟩
theorem u_cX4_firstError : Cond.code yX4_firstError cX4_firstError 1 (some .int) ∈ zU := zU_mem 1087 (by decide +kernel) (by decide +kernel)
theorem u_iX4_firstError : Cond.instanceMethod yX4_firstError ∈ zU := zU_mem 1085 (by decide +kernel) (by decide +kernel)
theorem u_vX4_firstError : Cond.selects RX4 yX4_firstError yX4_firstError ∈ zU := zU_mem 1086 (by decide +kernel) (by decide +kernel)
theorem u_dX4_firstError : yX4_firstError.cls = RX4 ∧ yX4_firstError.cls ≠ "java/lang/invoke/MethodHandle" ∧ yX4_firstError.cls ≠ "java/lang/invoke/VarHandle" ∧ (parseMethodDescriptor yX4_firstError.desc).map (fun d => d.parameters.length) = some 0 := ⟨rfl, by decide +kernel, by decide +kernel, by decide +kernel⟩
theorem u_cX4_run : Cond.code yX4_run cX4_run 2 (some .int) ∈ zU := zU_mem 1115 (by decide +kernel) (by decide +kernel)
theorem u_iX4_run : Cond.instanceMethod yX4_run ∈ zU := zU_mem 1113 (by decide +kernel) (by decide +kernel)
theorem u_vX4_run : Cond.selects RX4 yX4_run yX4_run ∈ zU := zU_mem 1114 (by decide +kernel) (by decide +kernel)
theorem u_dX4_run : yX4_run.cls = RX4 ∧ yX4_run.cls ≠ "java/lang/invoke/MethodHandle" ∧ yX4_run.cls ≠ "java/lang/invoke/VarHandle" ∧ (parseMethodDescriptor yX4_run.desc).map (fun d => d.parameters.length) = some 0 := ⟨rfl, by decide +kernel, by decide +kernel, by decide +kernel⟩
theorem u_cX4_undo : Cond.code yX4_undo cX4_undo 1 (some .int) ∈ zU := zU_mem 1127 (by decide +kernel) (by decide +kernel)
theorem u_iX4_undo : Cond.instanceMethod yX4_undo ∈ zU := zU_mem 1125 (by decide +kernel) (by decide +kernel)
theorem u_vX4_undo : Cond.selects RX4 yX4_undo yX4_undo ∈ zU := zU_mem 1126 (by decide +kernel) (by decide +kernel)
theorem u_dX4_undo : yX4_undo.cls = RX4 ∧ yX4_undo.cls ≠ "java/lang/invoke/MethodHandle" ∧ yX4_undo.cls ≠ "java/lang/invoke/VarHandle" ∧ (parseMethodDescriptor yX4_undo.desc).map (fun d => d.parameters.length) = some 0 := ⟨rfl, by decide +kernel, by decide +kernel, by decide +kernel⟩
theorem u_cX3_savedStates : Cond.code yX3_savedStates cX3_savedStates 1 (some .int) ∈ zU := zU_mem 283 (by decide +kernel) (by decide +kernel)
theorem u_iX3_savedStates : Cond.instanceMethod yX3_savedStates ∈ zU := zU_mem 281 (by decide +kernel) (by decide +kernel)
theorem u_vX3_savedStates : Cond.selects RX3 yX3_savedStates yX3_savedStates ∈ zU := zU_mem 282 (by decide +kernel) (by decide +kernel)
theorem u_dX3_savedStates : yX3_savedStates.cls = RX3 ∧ yX3_savedStates.cls ≠ "java/lang/invoke/MethodHandle" ∧ yX3_savedStates.cls ≠ "java/lang/invoke/VarHandle" ∧ (parseMethodDescriptor yX3_savedStates.desc).map (fun d => d.parameters.length) = some 0 := ⟨rfl, by decide +kernel, by decide +kernel, by decide +kernel⟩
theorem u_cX4_savedStates : Cond.code yX4_savedStates cX4_savedStates 1 (some .int) ∈ zU := zU_mem 1131 (by decide +kernel) (by decide +kernel)
theorem u_iX4_savedStates : Cond.instanceMethod yX4_savedStates ∈ zU := zU_mem 1129 (by decide +kernel) (by decide +kernel)
theorem u_vX4_savedStates : Cond.selects RX4 yX4_savedStates yX4_savedStates ∈ zU := zU_mem 1130 (by decide +kernel) (by decide +kernel)
theorem u_dX4_savedStates : yX4_savedStates.cls = RX4 ∧ yX4_savedStates.cls ≠ "java/lang/invoke/MethodHandle" ∧ yX4_savedStates.cls ≠ "java/lang/invoke/VarHandle" ∧ (parseMethodDescriptor yX4_savedStates.desc).map (fun d => d.parameters.length) = some 0 := ⟨rfl, by decide +kernel, by decide +kernel, by decide +kernel⟩
theorem u_cX3_digest : Cond.code yX3_digest cX3_digest 1 (some .long) ∈ zU := zU_mem 291 (by decide +kernel) (by decide +kernel)
theorem u_iX3_digest : Cond.instanceMethod yX3_digest ∈ zU := zU_mem 289 (by decide +kernel) (by decide +kernel)
theorem u_vX3_digest : Cond.selects RX3 yX3_digest yX3_digest ∈ zU := zU_mem 290 (by decide +kernel) (by decide +kernel)
theorem u_dX3_digest : yX3_digest.cls = RX3 ∧ yX3_digest.cls ≠ "java/lang/invoke/MethodHandle" ∧ yX3_digest.cls ≠ "java/lang/invoke/VarHandle" ∧ (parseMethodDescriptor yX3_digest.desc).map (fun d => d.parameters.length) = some 0 := ⟨rfl, by decide +kernel, by decide +kernel, by decide +kernel⟩
theorem u_cX4_digest : Cond.code yX4_digest cX4_digest 3 (some .long) ∈ zU := zU_mem 1135 (by decide +kernel) (by decide +kernel)
theorem u_iX4_digest : Cond.instanceMethod yX4_digest ∈ zU := zU_mem 1133 (by decide +kernel) (by decide +kernel)
theorem u_vX4_digest : Cond.selects RX4 yX4_digest yX4_digest ∈ zU := zU_mem 1134 (by decide +kernel) (by decide +kernel)
theorem u_dX4_digest : yX4_digest.cls = RX4 ∧ yX4_digest.cls ≠ "java/lang/invoke/MethodHandle" ∧ yX4_digest.cls ≠ "java/lang/invoke/VarHandle" ∧ (parseMethodDescriptor yX4_digest.desc).map (fun d => d.parameters.length) = some 0 := ⟨rfl, by decide +kernel, by decide +kernel, by decide +kernel⟩
theorem u_cX4_in : Cond.code yX4_in cX4_in 3 (some .boolean) ∈ zU := zU_mem 845 (by decide +kernel) (by decide +kernel)
theorem u_sX4_in : Cond.static yX4_in ∈ zU := zU_mem 844 (by decide +kernel) (by decide +kernel)
theorem u_dX4_in : yX4_in.cls = RX4 ∧ yX4_in.cls ≠ "java/lang/invoke/MethodHandle" ∧ yX4_in.cls ≠ "java/lang/invoke/VarHandle" ∧ (parseMethodDescriptor yX4_in.desc).map (fun d => d.parameters.length) = some 3 := ⟨rfl, by decide +kernel, by decide +kernel, by decide +kernel⟩
theorem kX4_20 : zLkS RX4 20 yX4_in cX4_in 3 (some .boolean) 3 := zLkS_of (zU_mem 843 (by decide +kernel) (by decide +kernel)) u_sX4_in u_iniX4 u_cX4_in u_dX4_in
theorem u_cX4_of : Cond.code yX4_of cX4_of 4 (some .int) ∈ zU := zU_mem 891 (by decide +kernel) (by decide +kernel)
theorem u_iX4_of : Cond.instanceMethod yX4_of ∈ zU := zU_mem 890 (by decide +kernel) (by decide +kernel)
theorem u_vX4_of : Cond.selects RX4 yX4_of yX4_of ∈ zU := zU_mem 23 (by decide +kernel) (by decide +kernel)
theorem u_dX4_of : yX4_of.cls = RX4 ∧ yX4_of.cls ≠ "java/lang/invoke/MethodHandle" ∧ yX4_of.cls ≠ "java/lang/invoke/VarHandle" ∧ (parseMethodDescriptor yX4_of.desc).map (fun d => d.parameters.length) = some 3 := ⟨rfl, by decide +kernel, by decide +kernel, by decide +kernel⟩
theorem kX4_24 : zLkV RX4 24 RX4 yX4_of cX4_of 4 (some .int) 3 := zLkV_of (zU_mem 888 (by decide +kernel) (by decide +kernel)) u_iX4_of u_vX4_of u_iniX4 u_cX4_of u_dX4_of
theorem u_cX4_isMember : Cond.code yX4_isMember cX4_isMember 4 (some .boolean) ∈ zU := zU_mem 887 (by decide +kernel) (by decide +kernel)
theorem u_iX4_isMember : Cond.instanceMethod yX4_isMember ∈ zU := zU_mem 886 (by decide +kernel) (by decide +kernel)
theorem u_vX4_isMember : Cond.selects RX4 yX4_isMember yX4_isMember ∈ zU := zU_mem 22 (by decide +kernel) (by decide +kernel)
theorem u_dX4_isMember : yX4_isMember.cls = RX4 ∧ yX4_isMember.cls ≠ "java/lang/invoke/MethodHandle" ∧ yX4_isMember.cls ≠ "java/lang/invoke/VarHandle" ∧ (parseMethodDescriptor yX4_isMember.desc).map (fun d => d.parameters.length) = some 3 := ⟨rfl, by decide +kernel, by decide +kernel, by decide +kernel⟩
theorem kX4_28 : zLkV RX4 28 RX4 yX4_isMember cX4_isMember 4 (some .boolean) 3 := zLkV_of (zU_mem 884 (by decide +kernel) (by decide +kernel)) u_iX4_isMember u_vX4_isMember u_iniX4 u_cX4_isMember u_dX4_isMember
theorem u_cX4_logs : Cond.code yX4_logs cX4_logs 5 none ∈ zU := zU_mem 911 (by decide +kernel) (by decide +kernel)
theorem u_iX4_logs : Cond.instanceMethod yX4_logs ∈ zU := zU_mem 910 (by decide +kernel) (by decide +kernel)
theorem u_vX4_logs : Cond.selects RX4 yX4_logs yX4_logs ∈ zU := zU_mem 28 (by decide +kernel) (by decide +kernel)
theorem u_dX4_logs : yX4_logs.cls = RX4 ∧ yX4_logs.cls ≠ "java/lang/invoke/MethodHandle" ∧ yX4_logs.cls ≠ "java/lang/invoke/VarHandle" ∧ (parseMethodDescriptor yX4_logs.desc).map (fun d => d.parameters.length) = some 3 := ⟨rfl, by decide +kernel, by decide +kernel, by decide +kernel⟩
theorem kX4_31 : zLkV RX4 31 RX4 yX4_logs cX4_logs 5 none 3 := zLkV_of (zU_mem 908 (by decide +kernel) (by decide +kernel)) u_iX4_logs u_vX4_logs u_iniX4 u_cX4_logs u_dX4_logs
theorem u_cX4_stateOf : Cond.code yX4_stateOf cX4_stateOf 4 (some .int) ∈ zU := zU_mem 883 (by decide +kernel) (by decide +kernel)
theorem u_iX4_stateOf : Cond.instanceMethod yX4_stateOf ∈ zU := zU_mem 882 (by decide +kernel) (by decide +kernel)
theorem u_vX4_stateOf : Cond.selects RX4 yX4_stateOf yX4_stateOf ∈ zU := zU_mem 21 (by decide +kernel) (by decide +kernel)
theorem u_dX4_stateOf : yX4_stateOf.cls = RX4 ∧ yX4_stateOf.cls ≠ "java/lang/invoke/MethodHandle" ∧ yX4_stateOf.cls ≠ "java/lang/invoke/VarHandle" ∧ (parseMethodDescriptor yX4_stateOf.desc).map (fun d => d.parameters.length) = some 3 := ⟨rfl, by decide +kernel, by decide +kernel, by decide +kernel⟩
theorem kX4_35 : zLkV RX4 35 RX4 yX4_stateOf cX4_stateOf 4 (some .int) 3 := zLkV_of (zU_mem 880 (by decide +kernel) (by decide +kernel)) u_iX4_stateOf u_vX4_stateOf u_iniX4 u_cX4_stateOf u_dX4_stateOf
theorem u_cX4_heldBy : Cond.code yX4_heldBy cX4_heldBy 5 (some .int) ∈ zU := zU_mem 903 (by decide +kernel) (by decide +kernel)
theorem u_iX4_heldBy : Cond.instanceMethod yX4_heldBy ∈ zU := zU_mem 902 (by decide +kernel) (by decide +kernel)
theorem u_vX4_heldBy : Cond.selects RX4 yX4_heldBy yX4_heldBy ∈ zU := zU_mem 26 (by decide +kernel) (by decide +kernel)
theorem u_dX4_heldBy : yX4_heldBy.cls = RX4 ∧ yX4_heldBy.cls ≠ "java/lang/invoke/MethodHandle" ∧ yX4_heldBy.cls ≠ "java/lang/invoke/VarHandle" ∧ (parseMethodDescriptor yX4_heldBy.desc).map (fun d => d.parameters.length) = some 2 := ⟨rfl, by decide +kernel, by decide +kernel, by decide +kernel⟩
theorem kX4_38 : zLkV RX4 38 RX4 yX4_heldBy cX4_heldBy 5 (some .int) 2 := zLkV_of (zU_mem 900 (by decide +kernel) (by decide +kernel)) u_iX4_heldBy u_vX4_heldBy u_iniX4 u_cX4_heldBy u_dX4_heldBy
theorem u_cX4_isHeld : Cond.code yX4_isHeld cX4_isHeld 4 (some .boolean) ∈ zU := zU_mem 899 (by decide +kernel) (by decide +kernel)
theorem u_iX4_isHeld : Cond.instanceMethod yX4_isHeld ∈ zU := zU_mem 898 (by decide +kernel) (by decide +kernel)
theorem u_vX4_isHeld : Cond.selects RX4 yX4_isHeld yX4_isHeld ∈ zU := zU_mem 25 (by decide +kernel) (by decide +kernel)
theorem u_dX4_isHeld : yX4_isHeld.cls = RX4 ∧ yX4_isHeld.cls ≠ "java/lang/invoke/MethodHandle" ∧ yX4_isHeld.cls ≠ "java/lang/invoke/VarHandle" ∧ (parseMethodDescriptor yX4_isHeld.desc).map (fun d => d.parameters.length) = some 3 := ⟨rfl, by decide +kernel, by decide +kernel, by decide +kernel⟩
theorem kX4_42 : zLkV RX4 42 RX4 yX4_isHeld cX4_isHeld 4 (some .boolean) 3 := zLkV_of (zU_mem 896 (by decide +kernel) (by decide +kernel)) u_iX4_isHeld u_vX4_isHeld u_iniX4 u_cX4_isHeld u_dX4_isHeld
theorem u_cX4_gets : Cond.code yX4_gets cX4_gets 5 none ∈ zU := zU_mem 907 (by decide +kernel) (by decide +kernel)
theorem u_iX4_gets : Cond.instanceMethod yX4_gets ∈ zU := zU_mem 906 (by decide +kernel) (by decide +kernel)
theorem u_vX4_gets : Cond.selects RX4 yX4_gets yX4_gets ∈ zU := zU_mem 27 (by decide +kernel) (by decide +kernel)
theorem u_dX4_gets : yX4_gets.cls = RX4 ∧ yX4_gets.cls ≠ "java/lang/invoke/MethodHandle" ∧ yX4_gets.cls ≠ "java/lang/invoke/VarHandle" ∧ (parseMethodDescriptor yX4_gets.desc).map (fun d => d.parameters.length) = some 4 := ⟨rfl, by decide +kernel, by decide +kernel, by decide +kernel⟩
theorem kX4_45 : zLkV RX4 45 RX4 yX4_gets cX4_gets 5 none 4 := zLkV_of (zU_mem 904 (by decide +kernel) (by decide +kernel)) u_iX4_gets u_vX4_gets u_iniX4 u_cX4_gets u_dX4_gets
theorem u_cX4_decides : Cond.code yX4_decides cX4_decides 4 none ∈ zU := zU_mem 927 (by decide +kernel) (by decide +kernel)
theorem u_iX4_decides : Cond.instanceMethod yX4_decides ∈ zU := zU_mem 926 (by decide +kernel) (by decide +kernel)
theorem u_vX4_decides : Cond.selects RX4 yX4_decides yX4_decides ∈ zU := zU_mem 31 (by decide +kernel) (by decide +kernel)
theorem u_dX4_decides : yX4_decides.cls = RX4 ∧ yX4_decides.cls ≠ "java/lang/invoke/MethodHandle" ∧ yX4_decides.cls ≠ "java/lang/invoke/VarHandle" ∧ (parseMethodDescriptor yX4_decides.desc).map (fun d => d.parameters.length) = some 3 := ⟨rfl, by decide +kernel, by decide +kernel, by decide +kernel⟩
theorem kX4_49 : zLkV RX4 49 RX4 yX4_decides cX4_decides 4 none 3 := zLkV_of (zU_mem 924 (by decide +kernel) (by decide +kernel)) u_iX4_decides u_vX4_decides u_iniX4 u_cX4_decides u_dX4_decides
theorem u_cX4_tells : Cond.code yX4_tells cX4_tells 6 none ∈ zU := zU_mem 939 (by decide +kernel) (by decide +kernel)
theorem u_iX4_tells : Cond.instanceMethod yX4_tells ∈ zU := zU_mem 938 (by decide +kernel) (by decide +kernel)
theorem u_vX4_tells : Cond.selects RX4 yX4_tells yX4_tells ∈ zU := zU_mem 33 (by decide +kernel) (by decide +kernel)
theorem u_dX4_tells : yX4_tells.cls = RX4 ∧ yX4_tells.cls ≠ "java/lang/invoke/MethodHandle" ∧ yX4_tells.cls ≠ "java/lang/invoke/VarHandle" ∧ (parseMethodDescriptor yX4_tells.desc).map (fun d => d.parameters.length) = some 3 := ⟨rfl, by decide +kernel, by decide +kernel, by decide +kernel⟩
theorem kX4_52 : zLkV RX4 52 RX4 yX4_tells cX4_tells 6 none 3 := zLkV_of (zU_mem 936 (by decide +kernel) (by decide +kernel)) u_iX4_tells u_vX4_tells u_iniX4 u_cX4_tells u_dX4_tells
theorem u_cX4_helps : Cond.code yX4_helps cX4_helps 4 (some .boolean) ∈ zU := zU_mem 955 (by decide +kernel) (by decide +kernel)
theorem u_iX4_helps : Cond.instanceMethod yX4_helps ∈ zU := zU_mem 954 (by decide +kernel) (by decide +kernel)
theorem u_vX4_helps : Cond.selects RX4 yX4_helps yX4_helps ∈ zU := zU_mem 36 (by decide +kernel) (by decide +kernel)
theorem u_dX4_helps : yX4_helps.cls = RX4 ∧ yX4_helps.cls ≠ "java/lang/invoke/MethodHandle" ∧ yX4_helps.cls ≠ "java/lang/invoke/VarHandle" ∧ (parseMethodDescriptor yX4_helps.desc).map (fun d => d.parameters.length) = some 3 := ⟨rfl, by decide +kernel, by decide +kernel, by decide +kernel⟩
theorem kX4_55 : zLkV RX4 55 RX4 yX4_helps cX4_helps 4 (some .boolean) 3 := zLkV_of (zU_mem 952 (by decide +kernel) (by decide +kernel)) u_iX4_helps u_vX4_helps u_iniX4 u_cX4_helps u_dX4_helps
theorem u_cX4_isUpNow : Cond.code yX4_isUpNow cX4_isUpNow 3 (some .boolean) ∈ zU := zU_mem 879 (by decide +kernel) (by decide +kernel)
theorem u_iX4_isUpNow : Cond.instanceMethod yX4_isUpNow ∈ zU := zU_mem 878 (by decide +kernel) (by decide +kernel)
theorem u_vX4_isUpNow : Cond.selects RX4 yX4_isUpNow yX4_isUpNow ∈ zU := zU_mem 20 (by decide +kernel) (by decide +kernel)
theorem u_dX4_isUpNow : yX4_isUpNow.cls = RX4 ∧ yX4_isUpNow.cls ≠ "java/lang/invoke/MethodHandle" ∧ yX4_isUpNow.cls ≠ "java/lang/invoke/VarHandle" ∧ (parseMethodDescriptor yX4_isUpNow.desc).map (fun d => d.parameters.length) = some 2 := ⟨rfl, by decide +kernel, by decide +kernel, by decide +kernel⟩
theorem kX4_58 : zLkV RX4 58 RX4 yX4_isUpNow cX4_isUpNow 3 (some .boolean) 2 := zLkV_of (zU_mem 876 (by decide +kernel) (by decide +kernel)) u_iX4_isUpNow u_vX4_isUpNow u_iniX4 u_cX4_isUpNow u_dX4_isUpNow
theorem u_cX4_asks : Cond.code yX4_asks cX4_asks 5 none ∈ zU := zU_mem 951 (by decide +kernel) (by decide +kernel)
theorem u_iX4_asks : Cond.instanceMethod yX4_asks ∈ zU := zU_mem 950 (by decide +kernel) (by decide +kernel)
theorem u_vX4_asks : Cond.selects RX4 yX4_asks yX4_asks ∈ zU := zU_mem 35 (by decide +kernel) (by decide +kernel)
theorem u_dX4_asks : yX4_asks.cls = RX4 ∧ yX4_asks.cls ≠ "java/lang/invoke/MethodHandle" ∧ yX4_asks.cls ≠ "java/lang/invoke/VarHandle" ∧ (parseMethodDescriptor yX4_asks.desc).map (fun d => d.parameters.length) = some 4 := ⟨rfl, by decide +kernel, by decide +kernel, by decide +kernel⟩
theorem kX4_62 : zLkV RX4 62 RX4 yX4_asks cX4_asks 5 none 4 := zLkV_of (zU_mem 948 (by decide +kernel) (by decide +kernel)) u_iX4_asks u_vX4_asks u_iniX4 u_cX4_asks u_dX4_asks
theorem u_cX4_asksAll : Cond.code yX4_asksAll cX4_asksAll 5 none ∈ zU := zU_mem 991 (by decide +kernel) (by decide +kernel)
theorem u_iX4_asksAll : Cond.instanceMethod yX4_asksAll ∈ zU := zU_mem 990 (by decide +kernel) (by decide +kernel)
theorem u_vX4_asksAll : Cond.selects RX4 yX4_asksAll yX4_asksAll ∈ zU := zU_mem 42 (by decide +kernel) (by decide +kernel)
theorem u_dX4_asksAll : yX4_asksAll.cls = RX4 ∧ yX4_asksAll.cls ≠ "java/lang/invoke/MethodHandle" ∧ yX4_asksAll.cls ≠ "java/lang/invoke/VarHandle" ∧ (parseMethodDescriptor yX4_asksAll.desc).map (fun d => d.parameters.length) = some 3 := ⟨rfl, by decide +kernel, by decide +kernel, by decide +kernel⟩
theorem kX4_65 : zLkV RX4 65 RX4 yX4_asksAll cX4_asksAll 5 none 3 := zLkV_of (zU_mem 988 (by decide +kernel) (by decide +kernel)) u_iX4_asksAll u_vX4_asksAll u_iniX4 u_cX4_asksAll u_dX4_asksAll
theorem u_cX4_ended : Cond.code yX4_ended cX4_ended 4 (some .int) ∈ zU := zU_mem 983 (by decide +kernel) (by decide +kernel)
theorem u_iX4_ended : Cond.instanceMethod yX4_ended ∈ zU := zU_mem 982 (by decide +kernel) (by decide +kernel)
theorem u_vX4_ended : Cond.selects RX4 yX4_ended yX4_ended ∈ zU := zU_mem 40 (by decide +kernel) (by decide +kernel)
theorem u_dX4_ended : yX4_ended.cls = RX4 ∧ yX4_ended.cls ≠ "java/lang/invoke/MethodHandle" ∧ yX4_ended.cls ≠ "java/lang/invoke/VarHandle" ∧ (parseMethodDescriptor yX4_ended.desc).map (fun d => d.parameters.length) = some 1 := ⟨rfl, by decide +kernel, by decide +kernel, by decide +kernel⟩
theorem kX4_68 : zLkV RX4 68 RX4 yX4_ended cX4_ended 4 (some .int) 1 := zLkV_of (zU_mem 980 (by decide +kernel) (by decide +kernel)) u_iX4_ended u_vX4_ended u_iniX4 u_cX4_ended u_dX4_ended
theorem u_cX4_ticks : Cond.code yX4_ticks cX4_ticks 5 none ∈ zU := zU_mem 987 (by decide +kernel) (by decide +kernel)
theorem u_iX4_ticks : Cond.instanceMethod yX4_ticks ∈ zU := zU_mem 986 (by decide +kernel) (by decide +kernel)
theorem u_vX4_ticks : Cond.selects RX4 yX4_ticks yX4_ticks ∈ zU := zU_mem 41 (by decide +kernel) (by decide +kernel)
theorem u_dX4_ticks : yX4_ticks.cls = RX4 ∧ yX4_ticks.cls ≠ "java/lang/invoke/MethodHandle" ∧ yX4_ticks.cls ≠ "java/lang/invoke/VarHandle" ∧ (parseMethodDescriptor yX4_ticks.desc).map (fun d => d.parameters.length) = some 1 := ⟨rfl, by decide +kernel, by decide +kernel, by decide +kernel⟩
theorem kX4_72 : zLkV RX4 72 RX4 yX4_ticks cX4_ticks 5 none 1 := zLkV_of (zU_mem 984 (by decide +kernel) (by decide +kernel)) u_iX4_ticks u_vX4_ticks u_iniX4 u_cX4_ticks u_dX4_ticks
theorem u_cX4_copies : Cond.code yX4_copies cX4_copies 4 none ∈ zU := zU_mem 863 (by decide +kernel) (by decide +kernel)
theorem u_iX4_copies : Cond.instanceMethod yX4_copies ∈ zU := zU_mem 862 (by decide +kernel) (by decide +kernel)
theorem u_vX4_copies : Cond.selects RX4 yX4_copies yX4_copies ∈ zU := zU_mem 17 (by decide +kernel) (by decide +kernel)
theorem u_dX4_copies : yX4_copies.cls = RX4 ∧ yX4_copies.cls ≠ "java/lang/invoke/MethodHandle" ∧ yX4_copies.cls ≠ "java/lang/invoke/VarHandle" ∧ (parseMethodDescriptor yX4_copies.desc).map (fun d => d.parameters.length) = some 2 := ⟨rfl, by decide +kernel, by decide +kernel, by decide +kernel⟩
theorem kX4_79 : zLkV RX4 79 RX4 yX4_copies cX4_copies 4 none 2 := zLkV_of (zU_mem 860 (by decide +kernel) (by decide +kernel)) u_iX4_copies u_vX4_copies u_iniX4 u_cX4_copies u_dX4_copies
theorem u_cX4_bits : Cond.code yX4_bits cX4_bits 3 (some .int) ∈ zU := zU_mem 848 (by decide +kernel) (by decide +kernel)
theorem u_sX4_bits : Cond.static yX4_bits ∈ zU := zU_mem 847 (by decide +kernel) (by decide +kernel)
theorem u_dX4_bits : yX4_bits.cls = RX4 ∧ yX4_bits.cls ≠ "java/lang/invoke/MethodHandle" ∧ yX4_bits.cls ≠ "java/lang/invoke/VarHandle" ∧ (parseMethodDescriptor yX4_bits.desc).map (fun d => d.parameters.length) = some 1 := ⟨rfl, by decide +kernel, by decide +kernel, by decide +kernel⟩
theorem kX4_83 : zLkS RX4 83 yX4_bits cX4_bits 3 (some .int) 1 := zLkS_of (zU_mem 846 (by decide +kernel) (by decide +kernel)) u_sX4_bits u_iniX4 u_cX4_bits u_dX4_bits
theorem u_cX4_isSite : Cond.code yX4_isSite cX4_isSite 1 (some .boolean) ∈ zU := zU_mem 851 (by decide +kernel) (by decide +kernel)
theorem u_sX4_isSite : Cond.static yX4_isSite ∈ zU := zU_mem 850 (by decide +kernel) (by decide +kernel)
theorem u_dX4_isSite : yX4_isSite.cls = RX4 ∧ yX4_isSite.cls ≠ "java/lang/invoke/MethodHandle" ∧ yX4_isSite.cls ≠ "java/lang/invoke/VarHandle" ∧ (parseMethodDescriptor yX4_isSite.desc).map (fun d => d.parameters.length) = some 1 := ⟨rfl, by decide +kernel, by decide +kernel, by decide +kernel⟩
theorem kX4_86 : zLkS RX4 86 yX4_isSite cX4_isSite 1 (some .boolean) 1 := zLkS_of (zU_mem 849 (by decide +kernel) (by decide +kernel)) u_sX4_isSite u_iniX4 u_cX4_isSite u_dX4_isSite
theorem u_cX4_holds : Cond.code yX4_holds cX4_holds 2 (some .boolean) ∈ zU := zU_mem 855 (by decide +kernel) (by decide +kernel)
theorem u_iX4_holds : Cond.instanceMethod yX4_holds ∈ zU := zU_mem 854 (by decide +kernel) (by decide +kernel)
theorem u_vX4_holds : Cond.selects RX4 yX4_holds yX4_holds ∈ zU := zU_mem 15 (by decide +kernel) (by decide +kernel)
theorem u_dX4_holds : yX4_holds.cls = RX4 ∧ yX4_holds.cls ≠ "java/lang/invoke/MethodHandle" ∧ yX4_holds.cls ≠ "java/lang/invoke/VarHandle" ∧ (parseMethodDescriptor yX4_holds.desc).map (fun d => d.parameters.length) = some 1 := ⟨rfl, by decide +kernel, by decide +kernel, by decide +kernel⟩
theorem kX4_90 : zLkV RX4 90 RX4 yX4_holds cX4_holds 2 (some .boolean) 1 := zLkV_of (zU_mem 852 (by decide +kernel) (by decide +kernel)) u_iX4_holds u_vX4_holds u_iniX4 u_cX4_holds u_dX4_holds
theorem u_cX4_save : Cond.code yX4_save cX4_save 2 none ∈ zU := zU_mem 859 (by decide +kernel) (by decide +kernel)
theorem u_iX4_save : Cond.instanceMethod yX4_save ∈ zU := zU_mem 858 (by decide +kernel) (by decide +kernel)
theorem u_vX4_save : Cond.selects RX4 yX4_save yX4_save ∈ zU := zU_mem 16 (by decide +kernel) (by decide +kernel)
theorem u_dX4_save : yX4_save.cls = RX4 ∧ yX4_save.cls ≠ "java/lang/invoke/MethodHandle" ∧ yX4_save.cls ≠ "java/lang/invoke/VarHandle" ∧ (parseMethodDescriptor yX4_save.desc).map (fun d => d.parameters.length) = some 0 := ⟨rfl, by decide +kernel, by decide +kernel, by decide +kernel⟩
theorem kX4_93 : zLkV RX4 93 RX4 yX4_save cX4_save 2 none 0 := zLkV_of (zU_mem 856 (by decide +kernel) (by decide +kernel)) u_iX4_save u_vX4_save u_iniX4 u_cX4_save u_dX4_save
theorem u_cX4_isDeal : Cond.code yX4_isDeal cX4_isDeal 2 (some .boolean) ∈ zU := zU_mem 871 (by decide +kernel) (by decide +kernel)
theorem u_iX4_isDeal : Cond.instanceMethod yX4_isDeal ∈ zU := zU_mem 870 (by decide +kernel) (by decide +kernel)
theorem u_vX4_isDeal : Cond.selects RX4 yX4_isDeal yX4_isDeal ∈ zU := zU_mem 18 (by decide +kernel) (by decide +kernel)
theorem u_dX4_isDeal : yX4_isDeal.cls = RX4 ∧ yX4_isDeal.cls ≠ "java/lang/invoke/MethodHandle" ∧ yX4_isDeal.cls ≠ "java/lang/invoke/VarHandle" ∧ (parseMethodDescriptor yX4_isDeal.desc).map (fun d => d.parameters.length) = some 1 := ⟨rfl, by decide +kernel, by decide +kernel, by decide +kernel⟩
theorem kX4_96 : zLkV RX4 96 RX4 yX4_isDeal cX4_isDeal 2 (some .boolean) 1 := zLkV_of (zU_mem 868 (by decide +kernel) (by decide +kernel)) u_iX4_isDeal u_vX4_isDeal u_iniX4 u_cX4_isDeal u_dX4_isDeal
theorem u_cX4_canVote : Cond.code yX4_canVote cX4_canVote 3 (some .boolean) ∈ zU := zU_mem 875 (by decide +kernel) (by decide +kernel)
theorem u_iX4_canVote : Cond.instanceMethod yX4_canVote ∈ zU := zU_mem 874 (by decide +kernel) (by decide +kernel)
theorem u_vX4_canVote : Cond.selects RX4 yX4_canVote yX4_canVote ∈ zU := zU_mem 19 (by decide +kernel) (by decide +kernel)
theorem u_dX4_canVote : yX4_canVote.cls = RX4 ∧ yX4_canVote.cls ≠ "java/lang/invoke/MethodHandle" ∧ yX4_canVote.cls ≠ "java/lang/invoke/VarHandle" ∧ (parseMethodDescriptor yX4_canVote.desc).map (fun d => d.parameters.length) = some 2 := ⟨rfl, by decide +kernel, by decide +kernel, by decide +kernel⟩
theorem kX4_99 : zLkV RX4 99 RX4 yX4_canVote cX4_canVote 3 (some .boolean) 2 := zLkV_of (zU_mem 872 (by decide +kernel) (by decide +kernel)) u_iX4_canVote u_vX4_canVote u_iniX4 u_cX4_canVote u_dX4_canVote
theorem u_cX4_votes : Cond.code yX4_votes cX4_votes 4 none ∈ zU := zU_mem 895 (by decide +kernel) (by decide +kernel)
theorem u_iX4_votes : Cond.instanceMethod yX4_votes ∈ zU := zU_mem 894 (by decide +kernel) (by decide +kernel)
theorem u_vX4_votes : Cond.selects RX4 yX4_votes yX4_votes ∈ zU := zU_mem 24 (by decide +kernel) (by decide +kernel)
theorem u_dX4_votes : yX4_votes.cls = RX4 ∧ yX4_votes.cls ≠ "java/lang/invoke/MethodHandle" ∧ yX4_votes.cls ≠ "java/lang/invoke/VarHandle" ∧ (parseMethodDescriptor yX4_votes.desc).map (fun d => d.parameters.length) = some 3 := ⟨rfl, by decide +kernel, by decide +kernel, by decide +kernel⟩
theorem kX4_102 : zLkV RX4 102 RX4 yX4_votes cX4_votes 4 none 3 := zLkV_of (zU_mem 892 (by decide +kernel) (by decide +kernel)) u_iX4_votes u_vX4_votes u_iniX4 u_cX4_votes u_dX4_votes
theorem u_cX4_canDecide : Cond.code yX4_canDecide cX4_canDecide 2 (some .boolean) ∈ zU := zU_mem 919 (by decide +kernel) (by decide +kernel)
theorem u_iX4_canDecide : Cond.instanceMethod yX4_canDecide ∈ zU := zU_mem 918 (by decide +kernel) (by decide +kernel)
theorem u_vX4_canDecide : Cond.selects RX4 yX4_canDecide yX4_canDecide ∈ zU := zU_mem 29 (by decide +kernel) (by decide +kernel)
theorem u_dX4_canDecide : yX4_canDecide.cls = RX4 ∧ yX4_canDecide.cls ≠ "java/lang/invoke/MethodHandle" ∧ yX4_canDecide.cls ≠ "java/lang/invoke/VarHandle" ∧ (parseMethodDescriptor yX4_canDecide.desc).map (fun d => d.parameters.length) = some 1 := ⟨rfl, by decide +kernel, by decide +kernel, by decide +kernel⟩
theorem kX4_106 : zLkV RX4 106 RX4 yX4_canDecide cX4_canDecide 2 (some .boolean) 1 := zLkV_of (zU_mem 916 (by decide +kernel) (by decide +kernel)) u_iX4_canDecide u_vX4_canDecide u_iniX4 u_cX4_canDecide u_dX4_canDecide
theorem u_cX4_verdict : Cond.code yX4_verdict cX4_verdict 4 (some .int) ∈ zU := zU_mem 923 (by decide +kernel) (by decide +kernel)
theorem u_iX4_verdict : Cond.instanceMethod yX4_verdict ∈ zU := zU_mem 922 (by decide +kernel) (by decide +kernel)
theorem u_vX4_verdict : Cond.selects RX4 yX4_verdict yX4_verdict ∈ zU := zU_mem 30 (by decide +kernel) (by decide +kernel)
theorem u_dX4_verdict : yX4_verdict.cls = RX4 ∧ yX4_verdict.cls ≠ "java/lang/invoke/MethodHandle" ∧ yX4_verdict.cls ≠ "java/lang/invoke/VarHandle" ∧ (parseMethodDescriptor yX4_verdict.desc).map (fun d => d.parameters.length) = some 1 := ⟨rfl, by decide +kernel, by decide +kernel, by decide +kernel⟩
theorem kX4_109 : zLkV RX4 109 RX4 yX4_verdict cX4_verdict 4 (some .int) 1 := zLkV_of (zU_mem 920 (by decide +kernel) (by decide +kernel)) u_iX4_verdict u_vX4_verdict u_iniX4 u_cX4_verdict u_dX4_verdict
theorem u_cX4_canTell : Cond.code yX4_canTell cX4_canTell 3 (some .boolean) ∈ zU := zU_mem 935 (by decide +kernel) (by decide +kernel)
theorem u_iX4_canTell : Cond.instanceMethod yX4_canTell ∈ zU := zU_mem 934 (by decide +kernel) (by decide +kernel)
theorem u_vX4_canTell : Cond.selects RX4 yX4_canTell yX4_canTell ∈ zU := zU_mem 32 (by decide +kernel) (by decide +kernel)
theorem u_dX4_canTell : yX4_canTell.cls = RX4 ∧ yX4_canTell.cls ≠ "java/lang/invoke/MethodHandle" ∧ yX4_canTell.cls ≠ "java/lang/invoke/VarHandle" ∧ (parseMethodDescriptor yX4_canTell.desc).map (fun d => d.parameters.length) = some 2 := ⟨rfl, by decide +kernel, by decide +kernel, by decide +kernel⟩
theorem kX4_112 : zLkV RX4 112 RX4 yX4_canTell cX4_canTell 3 (some .boolean) 2 := zLkV_of (zU_mem 932 (by decide +kernel) (by decide +kernel)) u_iX4_canTell u_vX4_canTell u_iniX4 u_cX4_canTell u_dX4_canTell
theorem u_cX4_canAsk : Cond.code yX4_canAsk cX4_canAsk 4 (some .boolean) ∈ zU := zU_mem 947 (by decide +kernel) (by decide +kernel)
theorem u_iX4_canAsk : Cond.instanceMethod yX4_canAsk ∈ zU := zU_mem 946 (by decide +kernel) (by decide +kernel)
theorem u_vX4_canAsk : Cond.selects RX4 yX4_canAsk yX4_canAsk ∈ zU := zU_mem 34 (by decide +kernel) (by decide +kernel)
theorem u_dX4_canAsk : yX4_canAsk.cls = RX4 ∧ yX4_canAsk.cls ≠ "java/lang/invoke/MethodHandle" ∧ yX4_canAsk.cls ≠ "java/lang/invoke/VarHandle" ∧ (parseMethodDescriptor yX4_canAsk.desc).map (fun d => d.parameters.length) = some 3 := ⟨rfl, by decide +kernel, by decide +kernel, by decide +kernel⟩
theorem kX4_115 : zLkV RX4 115 RX4 yX4_canAsk cX4_canAsk 4 (some .boolean) 3 := zLkV_of (zU_mem 944 (by decide +kernel) (by decide +kernel)) u_iX4_canAsk u_vX4_canAsk u_iniX4 u_cX4_canAsk u_dX4_canAsk
theorem u_cX4_inDoubt : Cond.code yX4_inDoubt cX4_inDoubt 4 (some .int) ∈ zU := zU_mem 963 (by decide +kernel) (by decide +kernel)
theorem u_iX4_inDoubt : Cond.instanceMethod yX4_inDoubt ∈ zU := zU_mem 962 (by decide +kernel) (by decide +kernel)
theorem u_vX4_inDoubt : Cond.selects RX4 yX4_inDoubt yX4_inDoubt ∈ zU := zU_mem 37 (by decide +kernel) (by decide +kernel)
theorem u_dX4_inDoubt : yX4_inDoubt.cls = RX4 ∧ yX4_inDoubt.cls ≠ "java/lang/invoke/MethodHandle" ∧ yX4_inDoubt.cls ≠ "java/lang/invoke/VarHandle" ∧ (parseMethodDescriptor yX4_inDoubt.desc).map (fun d => d.parameters.length) = some 1 := ⟨rfl, by decide +kernel, by decide +kernel, by decide +kernel⟩
theorem kX4_118 : zLkV RX4 118 RX4 yX4_inDoubt cX4_inDoubt 4 (some .int) 1 := zLkV_of (zU_mem 960 (by decide +kernel) (by decide +kernel)) u_iX4_inDoubt u_vX4_inDoubt u_iniX4 u_cX4_inDoubt u_dX4_inDoubt
theorem u_cX4_comes : Cond.code yX4_comes cX4_comes 4 (some .int) ∈ zU := zU_mem 971 (by decide +kernel) (by decide +kernel)
theorem u_iX4_comes : Cond.instanceMethod yX4_comes ∈ zU := zU_mem 970 (by decide +kernel) (by decide +kernel)
theorem u_vX4_comes : Cond.selects RX4 yX4_comes yX4_comes ∈ zU := zU_mem 38 (by decide +kernel) (by decide +kernel)
theorem u_dX4_comes : yX4_comes.cls = RX4 ∧ yX4_comes.cls ≠ "java/lang/invoke/MethodHandle" ∧ yX4_comes.cls ≠ "java/lang/invoke/VarHandle" ∧ (parseMethodDescriptor yX4_comes.desc).map (fun d => d.parameters.length) = some 1 := ⟨rfl, by decide +kernel, by decide +kernel, by decide +kernel⟩
theorem kX4_121 : zLkV RX4 121 RX4 yX4_comes cX4_comes 4 (some .int) 1 := zLkV_of (zU_mem 968 (by decide +kernel) (by decide +kernel)) u_iX4_comes u_vX4_comes u_iniX4 u_cX4_comes u_dX4_comes
theorem u_cX4_passes : Cond.code yX4_passes cX4_passes 4 (some .int) ∈ zU := zU_mem 979 (by decide +kernel) (by decide +kernel)
theorem u_iX4_passes : Cond.instanceMethod yX4_passes ∈ zU := zU_mem 978 (by decide +kernel) (by decide +kernel)
theorem u_vX4_passes : Cond.selects RX4 yX4_passes yX4_passes ∈ zU := zU_mem 39 (by decide +kernel) (by decide +kernel)
theorem u_dX4_passes : yX4_passes.cls = RX4 ∧ yX4_passes.cls ≠ "java/lang/invoke/MethodHandle" ∧ yX4_passes.cls ≠ "java/lang/invoke/VarHandle" ∧ (parseMethodDescriptor yX4_passes.desc).map (fun d => d.parameters.length) = some 1 := ⟨rfl, by decide +kernel, by decide +kernel, by decide +kernel⟩
theorem kX4_124 : zLkV RX4 124 RX4 yX4_passes cX4_passes 4 (some .int) 1 := zLkV_of (zU_mem 976 (by decide +kernel) (by decide +kernel)) u_iX4_passes u_vX4_passes u_iniX4 u_cX4_passes u_dX4_passes
theorem u_cX4_patienceOf : Cond.code yX4_patienceOf cX4_patienceOf 3 (some .int) ∈ zU := zU_mem 1023 (by decide +kernel) (by decide +kernel)
theorem u_iX4_patienceOf : Cond.instanceMethod yX4_patienceOf ∈ zU := zU_mem 1022 (by decide +kernel) (by decide +kernel)
theorem u_vX4_patienceOf : Cond.selects RX4 yX4_patienceOf yX4_patienceOf ∈ zU := zU_mem 43 (by decide +kernel) (by decide +kernel)
theorem u_dX4_patienceOf : yX4_patienceOf.cls = RX4 ∧ yX4_patienceOf.cls ≠ "java/lang/invoke/MethodHandle" ∧ yX4_patienceOf.cls ≠ "java/lang/invoke/VarHandle" ∧ (parseMethodDescriptor yX4_patienceOf.desc).map (fun d => d.parameters.length) = some 2 := ⟨rfl, by decide +kernel, by decide +kernel, by decide +kernel⟩
theorem kX4_127 : zLkV RX4 127 RX4 yX4_patienceOf cX4_patienceOf 3 (some .int) 2 := zLkV_of (zU_mem 1020 (by decide +kernel) (by decide +kernel)) u_iX4_patienceOf u_vX4_patienceOf u_iniX4 u_cX4_patienceOf u_dX4_patienceOf
theorem u_cX4_openDeals : Cond.code yX4_openDeals cX4_openDeals 5 (some .int) ∈ zU := zU_mem 1031 (by decide +kernel) (by decide +kernel)
theorem u_iX4_openDeals : Cond.instanceMethod yX4_openDeals ∈ zU := zU_mem 1030 (by decide +kernel) (by decide +kernel)
theorem u_vX4_openDeals : Cond.selects RX4 yX4_openDeals yX4_openDeals ∈ zU := zU_mem 44 (by decide +kernel) (by decide +kernel)
theorem u_dX4_openDeals : yX4_openDeals.cls = RX4 ∧ yX4_openDeals.cls ≠ "java/lang/invoke/MethodHandle" ∧ yX4_openDeals.cls ≠ "java/lang/invoke/VarHandle" ∧ (parseMethodDescriptor yX4_openDeals.desc).map (fun d => d.parameters.length) = some 0 := ⟨rfl, by decide +kernel, by decide +kernel, by decide +kernel⟩
theorem kX4_130 : zLkV RX4 130 RX4 yX4_openDeals cX4_openDeals 5 (some .int) 0 := zLkV_of (zU_mem 1028 (by decide +kernel) (by decide +kernel)) u_iX4_openDeals u_vX4_openDeals u_iniX4 u_cX4_openDeals u_dX4_openDeals
theorem u_cX4_helperOf : Cond.code yX4_helperOf cX4_helperOf 4 (some .int) ∈ zU := zU_mem 1043 (by decide +kernel) (by decide +kernel)
theorem u_iX4_helperOf : Cond.instanceMethod yX4_helperOf ∈ zU := zU_mem 1042 (by decide +kernel) (by decide +kernel)
theorem u_vX4_helperOf : Cond.selects RX4 yX4_helperOf yX4_helperOf ∈ zU := zU_mem 46 (by decide +kernel) (by decide +kernel)
theorem u_dX4_helperOf : yX4_helperOf.cls = RX4 ∧ yX4_helperOf.cls ≠ "java/lang/invoke/MethodHandle" ∧ yX4_helperOf.cls ≠ "java/lang/invoke/VarHandle" ∧ (parseMethodDescriptor yX4_helperOf.desc).map (fun d => d.parameters.length) = some 2 := ⟨rfl, by decide +kernel, by decide +kernel, by decide +kernel⟩
theorem kX4_134 : zLkV RX4 134 RX4 yX4_helperOf cX4_helperOf 4 (some .int) 2 := zLkV_of (zU_mem 1040 (by decide +kernel) (by decide +kernel)) u_iX4_helperOf u_vX4_helperOf u_iniX4 u_cX4_helperOf u_dX4_helperOf
theorem u_cX4_stuckDeals : Cond.code yX4_stuckDeals cX4_stuckDeals 6 (some .int) ∈ zU := zU_mem 1039 (by decide +kernel) (by decide +kernel)
theorem u_iX4_stuckDeals : Cond.instanceMethod yX4_stuckDeals ∈ zU := zU_mem 1038 (by decide +kernel) (by decide +kernel)
theorem u_vX4_stuckDeals : Cond.selects RX4 yX4_stuckDeals yX4_stuckDeals ∈ zU := zU_mem 45 (by decide +kernel) (by decide +kernel)
theorem u_dX4_stuckDeals : yX4_stuckDeals.cls = RX4 ∧ yX4_stuckDeals.cls ≠ "java/lang/invoke/MethodHandle" ∧ yX4_stuckDeals.cls ≠ "java/lang/invoke/VarHandle" ∧ (parseMethodDescriptor yX4_stuckDeals.desc).map (fun d => d.parameters.length) = some 0 := ⟨rfl, by decide +kernel, by decide +kernel, by decide +kernel⟩
theorem kX4_137 : zLkV RX4 137 RX4 yX4_stuckDeals cX4_stuckDeals 6 (some .int) 0 := zLkV_of (zU_mem 1036 (by decide +kernel) (by decide +kernel)) u_iX4_stuckDeals u_vX4_stuckDeals u_iniX4 u_cX4_stuckDeals u_dX4_stuckDeals
theorem u_cX4_sign : Cond.code yX4_sign cX4_sign 1 (some .int) ∈ zU := zU_mem 1099 (by decide +kernel) (by decide +kernel)
theorem u_iX4_sign : Cond.instanceMethod yX4_sign ∈ zU := zU_mem 1098 (by decide +kernel) (by decide +kernel)
theorem u_vX4_sign : Cond.selects RX4 yX4_sign yX4_sign ∈ zU := zU_mem 49 (by decide +kernel) (by decide +kernel)
theorem u_dX4_sign : yX4_sign.cls = RX4 ∧ yX4_sign.cls ≠ "java/lang/invoke/MethodHandle" ∧ yX4_sign.cls ≠ "java/lang/invoke/VarHandle" ∧ (parseMethodDescriptor yX4_sign.desc).map (fun d => d.parameters.length) = some 0 := ⟨rfl, by decide +kernel, by decide +kernel, by decide +kernel⟩
theorem kX4_146 : zLkV RX4 146 RX4 yX4_sign cX4_sign 1 (some .int) 0 := zLkV_of (zU_mem 1096 (by decide +kernel) (by decide +kernel)) u_iX4_sign u_vX4_sign u_iniX4 u_cX4_sign u_dX4_sign
theorem u_cX4_digit : Cond.code yX4_digit cX4_digit 3 (some .int) ∈ zU := zU_mem 1111 (by decide +kernel) (by decide +kernel)
theorem u_iX4_digit : Cond.instanceMethod yX4_digit ∈ zU := zU_mem 1110 (by decide +kernel) (by decide +kernel)
theorem u_vX4_digit : Cond.selects RX4 yX4_digit yX4_digit ∈ zU := zU_mem 52 (by decide +kernel) (by decide +kernel)
theorem u_dX4_digit : yX4_digit.cls = RX4 ∧ yX4_digit.cls ≠ "java/lang/invoke/MethodHandle" ∧ yX4_digit.cls ≠ "java/lang/invoke/VarHandle" ∧ (parseMethodDescriptor yX4_digit.desc).map (fun d => d.parameters.length) = some 1 := ⟨rfl, by decide +kernel, by decide +kernel, by decide +kernel⟩
theorem kX4_149 : zLkV RX4 149 RX4 yX4_digit cX4_digit 3 (some .int) 1 := zLkV_of (zU_mem 1108 (by decide +kernel) (by decide +kernel)) u_iX4_digit u_vX4_digit u_iniX4 u_cX4_digit u_dX4_digit
theorem u_cX4_takes : Cond.code yX4_takes cX4_takes 3 (some .boolean) ∈ zU := zU_mem 1103 (by decide +kernel) (by decide +kernel)
theorem u_iX4_takes : Cond.instanceMethod yX4_takes ∈ zU := zU_mem 1102 (by decide +kernel) (by decide +kernel)
theorem u_vX4_takes : Cond.selects RX4 yX4_takes yX4_takes ∈ zU := zU_mem 50 (by decide +kernel) (by decide +kernel)
theorem u_dX4_takes : yX4_takes.cls = RX4 ∧ yX4_takes.cls ≠ "java/lang/invoke/MethodHandle" ∧ yX4_takes.cls ≠ "java/lang/invoke/VarHandle" ∧ (parseMethodDescriptor yX4_takes.desc).map (fun d => d.parameters.length) = some 1 := ⟨rfl, by decide +kernel, by decide +kernel, by decide +kernel⟩
theorem kX4_158 : zLkV RX4 158 RX4 yX4_takes cX4_takes 3 (some .boolean) 1 := zLkV_of (zU_mem 1100 (by decide +kernel) (by decide +kernel)) u_iX4_takes u_vX4_takes u_iniX4 u_cX4_takes u_dX4_takes
theorem u_cX4_readsTicks : Cond.code yX4_readsTicks cX4_readsTicks 1 (some .boolean) ∈ zU := zU_mem 1107 (by decide +kernel) (by decide +kernel)
theorem u_iX4_readsTicks : Cond.instanceMethod yX4_readsTicks ∈ zU := zU_mem 1106 (by decide +kernel) (by decide +kernel)
theorem u_vX4_readsTicks : Cond.selects RX4 yX4_readsTicks yX4_readsTicks ∈ zU := zU_mem 51 (by decide +kernel) (by decide +kernel)
theorem u_dX4_readsTicks : yX4_readsTicks.cls = RX4 ∧ yX4_readsTicks.cls ≠ "java/lang/invoke/MethodHandle" ∧ yX4_readsTicks.cls ≠ "java/lang/invoke/VarHandle" ∧ (parseMethodDescriptor yX4_readsTicks.desc).map (fun d => d.parameters.length) = some 0 := ⟨rfl, by decide +kernel, by decide +kernel, by decide +kernel⟩
theorem kX4_161 : zLkV RX4 161 RX4 yX4_readsTicks cX4_readsTicks 1 (some .boolean) 0 := zLkV_of (zU_mem 1104 (by decide +kernel) (by decide +kernel)) u_iX4_readsTicks u_vX4_readsTicks u_iniX4 u_cX4_readsTicks u_dX4_readsTicks
theorem u_cX4_readsAction : Cond.code yX4_readsAction cX4_readsAction 1 (some .boolean) ∈ zU := zU_mem 1095 (by decide +kernel) (by decide +kernel)
theorem u_iX4_readsAction : Cond.instanceMethod yX4_readsAction ∈ zU := zU_mem 1094 (by decide +kernel) (by decide +kernel)
theorem u_vX4_readsAction : Cond.selects RX4 yX4_readsAction yX4_readsAction ∈ zU := zU_mem 48 (by decide +kernel) (by decide +kernel)
theorem u_dX4_readsAction : yX4_readsAction.cls = RX4 ∧ yX4_readsAction.cls ≠ "java/lang/invoke/MethodHandle" ∧ yX4_readsAction.cls ≠ "java/lang/invoke/VarHandle" ∧ (parseMethodDescriptor yX4_readsAction.desc).map (fun d => d.parameters.length) = some 0 := ⟨rfl, by decide +kernel, by decide +kernel, by decide +kernel⟩
theorem kX4_171 : zLkV RX4 171 RX4 yX4_readsAction cX4_readsAction 1 (some .boolean) 0 := zLkV_of (zU_mem 1092 (by decide +kernel) (by decide +kernel)) u_iX4_readsAction u_vX4_readsAction u_iniX4 u_cX4_readsAction u_dX4_readsAction
theorem u_cX4_areActions : Cond.code yX4_areActions cX4_areActions 1 (some .boolean) ∈ zU := zU_mem 1091 (by decide +kernel) (by decide +kernel)
theorem u_iX4_areActions : Cond.instanceMethod yX4_areActions ∈ zU := zU_mem 1090 (by decide +kernel) (by decide +kernel)
theorem u_vX4_areActions : Cond.selects RX4 yX4_areActions yX4_areActions ∈ zU := zU_mem 47 (by decide +kernel) (by decide +kernel)
theorem u_dX4_areActions : yX4_areActions.cls = RX4 ∧ yX4_areActions.cls ≠ "java/lang/invoke/MethodHandle" ∧ yX4_areActions.cls ≠ "java/lang/invoke/VarHandle" ∧ (parseMethodDescriptor yX4_areActions.desc).map (fun d => d.parameters.length) = some 0 := ⟨rfl, by decide +kernel, by decide +kernel, by decide +kernel⟩
theorem kX4_174 : zLkV RX4 174 RX4 yX4_areActions cX4_areActions 1 (some .boolean) 0 := zLkV_of (zU_mem 1088 (by decide +kernel) (by decide +kernel)) u_iX4_areActions u_vX4_areActions u_iniX4 u_cX4_areActions u_dX4_areActions
theorem u_cX4_can : Cond.code yX4_can cX4_can 1 (some .boolean) ∈ zU := zU_mem 1119 (by decide +kernel) (by decide +kernel)
theorem u_iX4_can : Cond.instanceMethod yX4_can ∈ zU := zU_mem 1118 (by decide +kernel) (by decide +kernel)
theorem u_vX4_can : Cond.selects RX4 yX4_can yX4_can ∈ zU := zU_mem 53 (by decide +kernel) (by decide +kernel)
theorem u_dX4_can : yX4_can.cls = RX4 ∧ yX4_can.cls ≠ "java/lang/invoke/MethodHandle" ∧ yX4_can.cls ≠ "java/lang/invoke/VarHandle" ∧ (parseMethodDescriptor yX4_can.desc).map (fun d => d.parameters.length) = some 0 := ⟨rfl, by decide +kernel, by decide +kernel, by decide +kernel⟩
theorem kX4_177 : zLkV RX4 177 RX4 yX4_can cX4_can 1 (some .boolean) 0 := zLkV_of (zU_mem 1116 (by decide +kernel) (by decide +kernel)) u_iX4_can u_vX4_can u_iniX4 u_cX4_can u_dX4_can
theorem u_cX4_does : Cond.code yX4_does cX4_does 1 none ∈ zU := zU_mem 1123 (by decide +kernel) (by decide +kernel)
theorem u_iX4_does : Cond.instanceMethod yX4_does ∈ zU := zU_mem 1122 (by decide +kernel) (by decide +kernel)
theorem u_vX4_does : Cond.selects RX4 yX4_does yX4_does ∈ zU := zU_mem 54 (by decide +kernel) (by decide +kernel)
theorem u_dX4_does : yX4_does.cls = RX4 ∧ yX4_does.cls ≠ "java/lang/invoke/MethodHandle" ∧ yX4_does.cls ≠ "java/lang/invoke/VarHandle" ∧ (parseMethodDescriptor yX4_does.desc).map (fun d => d.parameters.length) = some 0 := ⟨rfl, by decide +kernel, by decide +kernel, by decide +kernel⟩
theorem kX4_180 : zLkV RX4 180 RX4 yX4_does cX4_does 1 none 0 := zLkV_of (zU_mem 1120 (by decide +kernel) (by decide +kernel)) u_iX4_does u_vX4_does u_iniX4 u_cX4_does u_dX4_does
theorem u_cX4_mix : Cond.code yX4_mix cX4_mix 3 none ∈ zU := zU_mem 1140 (by decide +kernel) (by decide +kernel)
theorem u_iX4_mix : Cond.instanceMethod yX4_mix ∈ zU := zU_mem 1139 (by decide +kernel) (by decide +kernel)
theorem u_vX4_mix : Cond.selects RX4 yX4_mix yX4_mix ∈ zU := zU_mem 55 (by decide +kernel) (by decide +kernel)
theorem u_dX4_mix : yX4_mix.cls = RX4 ∧ yX4_mix.cls ≠ "java/lang/invoke/MethodHandle" ∧ yX4_mix.cls ≠ "java/lang/invoke/VarHandle" ∧ (parseMethodDescriptor yX4_mix.desc).map (fun d => d.parameters.length) = some 1 := ⟨rfl, by decide +kernel, by decide +kernel, by decide +kernel⟩
theorem kX4_191 : zLkV RX4 191 RX4 yX4_mix cX4_mix 3 none 1 := zLkV_of (zU_mem 1137 (by decide +kernel) (by decide +kernel)) u_iX4_mix u_vX4_mix u_iniX4 u_cX4_mix u_dX4_mix
/-- the world with the block of n rows at the cell k replaced -/
def zBk (σ : zM) (k n : Nat) (N : Nat → Nat → Int) : zM := (fun a b => if k ≤ a ∧ a < k + n then N (a - k) b else σ.1 a b, σ.2)
def zRd (σ : zM) (k : Nat) : Nat → Nat → Int := fun r j => σ.1 (k + r) j
def up2 (N : Nat → Nat → Int) (r j : Nat) (x : Int) : Nat → Nat → Int := fun a b => if a = r ∧ b = j then x else N a b
theorem zBk_rd (σ : zM) (k n : Nat) : zBk σ k n (zRd σ k) = σ := by
  obtain ⟨f, g⟩ := σ
  unfold zBk zRd
  refine congrArg (fun z => (z, g)) (funext fun a => funext fun b => ?_)
  by_cases h : k ≤ a ∧ a < k + n
  · rw [if_pos h]; show f (k + (a - k)) b = f a b; rw [Nat.add_sub_cancel' h.1]
  · rw [if_neg h]
theorem zBk_row {σ : zM} {k n r : Nat} {N : Nat → Nat → Int} (h : r < n) : (zBk σ k n N).1 (k + r) = N r := by
  funext b
  show (if k ≤ k + r ∧ k + r < k + n then N (k + r - k) b else σ.1 (k + r) b) = N r b
  rw [if_pos ⟨by omega, by omega⟩, Nat.add_sub_cancel_left]
theorem zBk_row0 {σ : zM} {k n : Nat} {N : Nat → Nat → Int} (h : 0 < n) : (zBk σ k n N).1 k = N 0 := zBk_row (r := 0) h
theorem zBk_out {σ : zM} {k n a : Nat} {N : Nat → Nat → Int} (h : ¬ (k ≤ a ∧ a < k + n)) : (zBk σ k n N).1 a = σ.1 a := by
  funext b
  show (if k ≤ a ∧ a < k + n then N (a - k) b else σ.1 a b) = σ.1 a b
  rw [if_neg h]
theorem zBk_bk {σ : zM} {k n : Nat} {N N' : Nat → Nat → Int} : zBk (zBk σ k n N) k n N' = zBk σ k n N' := by
  unfold zBk
  refine congrArg (fun z => (z, σ.2)) (funext fun a => funext fun b => ?_)
  by_cases h : k ≤ a ∧ a < k + n
  · rw [if_pos h, if_pos h]
  · rw [if_neg h, if_neg h]; show (if k ≤ a ∧ a < k + n then N (a - k) b else σ.1 a b) = σ.1 a b; rw [if_neg h]
theorem zRd_bk {σ : zM} {k n r : Nat} {N : Nat → Nat → Int} (h : r < n) (j : Nat) : zRd (zBk σ k n N) k r j = N r j := congrFun (zBk_row h) j
theorem zS_bk {σ : zM} {k n r j : Nat} {N : Nat → Nat → Int} {x : Int} (h : r < n) : zS (zBk σ k n N) (k + r) j x = zBk σ k n (up2 N r j x) := by
  unfold zS zBk up2
  refine congrArg (fun z => (z, σ.2)) (funext fun a => funext fun b => ?_)
  show (if a = k + r ∧ b = j then x else (if k ≤ a ∧ a < k + n then N (a - k) b else σ.1 a b)) = (if k ≤ a ∧ a < k + n then (if a - k = r ∧ b = j then x else N (a - k) b) else σ.1 a b)
  by_cases h1 : k ≤ a ∧ a < k + n
  · rw [if_pos h1, if_pos h1]
    by_cases h2 : a = k + r ∧ b = j
    · rw [if_pos h2, if_pos ⟨by omega, h2.2⟩]
    · rw [if_neg h2, if_neg (fun h3 => h2 ⟨by omega, h3.2⟩)]
  · rw [if_neg h1, if_neg h1, if_neg (fun h3 => h1 ⟨by omega, by omega⟩)]
theorem zS_bk0 {σ : zM} {k n j : Nat} {N : Nat → Nat → Int} {x : Int} (h : 0 < n) : zS (zBk σ k n N) k j x = zBk σ k n (up2 N 0 j x) := zS_bk (r := 0) h
section Y
variable {p : Program} {l : Launch} {e : Env} {R : Room} {s : State} {m : MethodId} {args : Array Value} {below : List Frame} {meth : Method} {c : Code} {cc : ByteArray} {nL : Nat} {own : String} {D : va_G} {G : zG} {ad : Nat → Nat} {cells slots : Nat} {Q : State → Prop}
variable {pc : Nat} {lv : List (Nat × Value)} {st : List Value} {σ : zM} {N : Nat → Nat → Int}
/-- arrays of a block -/
theorem y_iald (X : zX p s m args c cc nL own D G ad) {k n w : Nat} (r : Nat) {i : Int} (A : zArr (k + r) w) (hr : r < n) (h0 : 0 ≤ i) (h1 : i < w) (hn : w < 2147483648) (d : decode cc pc = .ok (.iaload, 1))
    (kk : zV p l e R s m args below meth c nL D G ad cells slots Q (pc + 1) lv (vI (N r i.toNat) :: st) (zBk σ k n N)) : zV p l e R s m args below meth c nL D G ad cells slots Q pc lv (vI i :: .ref (ad (k + r)) :: st) (zBk σ k n N) :=
  z_iald X A h0 h1 hn d (by rw [zBk_row hr]; exact kk)
theorem y_iast (X : zX p s m args c cc nL own D G ad) {k n w : Nat} (r : Nat) {i x : Int} (A : zArr (k + r) w) (hr : r < n) (h0 : 0 ≤ i) (h1 : i < w) (hn : w < 2147483648) (d : decode cc pc = .ok (.iastore, 1))
    (kk : zV p l e R s m args below meth c nL D G ad cells slots Q (pc + 1) lv st (zBk σ k n (up2 N r i.toNat x))) : zV p l e R s m args below meth c nL D G ad cells slots Q pc lv (vI x :: vI i :: .ref (ad (k + r)) :: st) (zBk σ k n N) :=
  z_iast X A h0 h1 hn d (by rw [zS_bk hr]; exact kk)
theorem y_gNet0 (X : zX p s m args c cc nL own D G ad) {k : Nat} (hk : zNet k) {ix : Nat} (F : zFld own ix 2 0 RX2 TX2 11) (d : decode cc pc = .ok (.getfield ix, 3))
    (kk : zV p l e R s m args below meth c nL D G ad cells slots Q (pc + 3) lv (vI (N 0 0) :: st) (zBk σ k 8 N)) : zV p l e R s m args below meth c nL D G ad cells slots Q pc lv (.ref (ad k) :: st) (zBk σ k 8 N) :=
  z_get X F (zNet_lt hk) (zNet_obj hk ad G _ _) rfl d (by rw [show (zBk σ k 8 N).1 k 0 = N 0 0 from congrFun (zBk_row0 (by decide)) 0]; exact kk)
theorem y_pNet0 (X : zX p s m args c cc nL own D G ad) {k : Nat} (hk : zNet k) {ix : Nat} {x : Int} (F : zFld own ix 2 0 RX2 TX2 11) (d : decode cc pc = .ok (.putfield ix, 3))
    (kk : zV p l e R s m args below meth c nL D G ad cells slots Q (pc + 3) lv st (zBk σ k 8 (up2 N 0 0 x))) : zV p l e R s m args below meth c nL D G ad cells slots Q pc lv (vI x :: .ref (ad k) :: st) (zBk σ k 8 N) :=
  z_putI X F tyX2 tyX2_ok nmX2 (zNet_lt hk) (zNet_obj hk ad G _ _) (by rw [zNet_obj hk]; rfl) (Nat.le_of_ble_eq_true rfl) rfl (by decide +kernel) d (by rw [zS_bk0 (by decide)]; exact kk)
theorem y_gNet1 (X : zX p s m args c cc nL own D G ad) {k : Nat} (hk : zNet k) {ix : Nat} (F : zFld own ix 2 1 RX2 TX2 11) (d : decode cc pc = .ok (.getfield ix, 3))
    (kk : zV p l e R s m args below meth c nL D G ad cells slots Q (pc + 3) lv (vI (N 0 1) :: st) (zBk σ k 8 N)) : zV p l e R s m args below meth c nL D G ad cells slots Q pc lv (.ref (ad k) :: st) (zBk σ k 8 N) :=
  z_get X F (zNet_lt hk) (zNet_obj hk ad G _ _) rfl d (by rw [show (zBk σ k 8 N).1 k 1 = N 0 1 from congrFun (zBk_row0 (by decide)) 1]; exact kk)
theorem y_pNet1 (X : zX p s m args c cc nL own D G ad) {k : Nat} (hk : zNet k) {ix : Nat} {x : Int} (F : zFld own ix 2 1 RX2 TX2 11) (d : decode cc pc = .ok (.putfield ix, 3))
    (kk : zV p l e R s m args below meth c nL D G ad cells slots Q (pc + 3) lv st (zBk σ k 8 (up2 N 0 1 x))) : zV p l e R s m args below meth c nL D G ad cells slots Q pc lv (vI x :: .ref (ad k) :: st) (zBk σ k 8 N) :=
  z_putI X F tyX2 tyX2_ok nmX2 (zNet_lt hk) (zNet_obj hk ad G _ _) (by rw [zNet_obj hk]; rfl) (Nat.le_of_ble_eq_true rfl) rfl (by decide +kernel) d (by rw [zS_bk0 (by decide)]; exact kk)
theorem y_gNet2 (X : zX p s m args c cc nL own D G ad) {k : Nat} (hk : zNet k) {ix : Nat} (F : zFld own ix 2 2 RX2 TX2 11) (d : decode cc pc = .ok (.getfield ix, 3))
    (kk : zV p l e R s m args below meth c nL D G ad cells slots Q (pc + 3) lv (vI (N 0 2) :: st) (zBk σ k 8 N)) : zV p l e R s m args below meth c nL D G ad cells slots Q pc lv (.ref (ad k) :: st) (zBk σ k 8 N) :=
  z_get X F (zNet_lt hk) (zNet_obj hk ad G _ _) rfl d (by rw [show (zBk σ k 8 N).1 k 2 = N 0 2 from congrFun (zBk_row0 (by decide)) 2]; exact kk)
theorem y_pNet2 (X : zX p s m args c cc nL own D G ad) {k : Nat} (hk : zNet k) {ix : Nat} {x : Int} (F : zFld own ix 2 2 RX2 TX2 11) (d : decode cc pc = .ok (.putfield ix, 3))
    (kk : zV p l e R s m args below meth c nL D G ad cells slots Q (pc + 3) lv st (zBk σ k 8 (up2 N 0 2 x))) : zV p l e R s m args below meth c nL D G ad cells slots Q pc lv (vI x :: .ref (ad k) :: st) (zBk σ k 8 N) :=
  z_putI X F tyX2 tyX2_ok nmX2 (zNet_lt hk) (zNet_obj hk ad G _ _) (by rw [zNet_obj hk]; rfl) (Nat.le_of_ble_eq_true rfl) rfl (by decide +kernel) d (by rw [zS_bk0 (by decide)]; exact kk)
theorem y_gNet3 (X : zX p s m args c cc nL own D G ad) {k : Nat} (hk : zNet k) {ix : Nat} (F : zFld own ix 2 3 RX2 TX2 11) (d : decode cc pc = .ok (.getfield ix, 3))
    (kk : zV p l e R s m args below meth c nL D G ad cells slots Q (pc + 3) lv (vI (N 0 3) :: st) (zBk σ k 8 N)) : zV p l e R s m args below meth c nL D G ad cells slots Q pc lv (.ref (ad k) :: st) (zBk σ k 8 N) :=
  z_get X F (zNet_lt hk) (zNet_obj hk ad G _ _) rfl d (by rw [show (zBk σ k 8 N).1 k 3 = N 0 3 from congrFun (zBk_row0 (by decide)) 3]; exact kk)
theorem y_pNet3 (X : zX p s m args c cc nL own D G ad) {k : Nat} (hk : zNet k) {ix : Nat} {x : Int} (F : zFld own ix 2 3 RX2 TX2 11) (d : decode cc pc = .ok (.putfield ix, 3))
    (kk : zV p l e R s m args below meth c nL D G ad cells slots Q (pc + 3) lv st (zBk σ k 8 (up2 N 0 3 x))) : zV p l e R s m args below meth c nL D G ad cells slots Q pc lv (vI x :: .ref (ad k) :: st) (zBk σ k 8 N) :=
  z_putI X F tyX2 tyX2_ok nmX2 (zNet_lt hk) (zNet_obj hk ad G _ _) (by rw [zNet_obj hk]; rfl) (Nat.le_of_ble_eq_true rfl) rfl (by decide +kernel) d (by rw [zS_bk0 (by decide)]; exact kk)
theorem y_gNet4 (X : zX p s m args c cc nL own D G ad) {k : Nat} (hk : zNet k) {ix : Nat} (F : zFld own ix 2 4 RX2 TX2 11) (d : decode cc pc = .ok (.getfield ix, 3))
    (kk : zV p l e R s m args below meth c nL D G ad cells slots Q (pc + 3) lv (.ref (ad (k + 1)) :: st) σ) : zV p l e R s m args below meth c nL D G ad cells slots Q pc lv (.ref (ad k) :: st) σ :=
  z_get X F (zNet_lt hk) (zNet_obj hk ad G _ _) rfl d kk
theorem y_gNet5 (X : zX p s m args c cc nL own D G ad) {k : Nat} (hk : zNet k) {ix : Nat} (F : zFld own ix 2 5 RX2 TX2 11) (d : decode cc pc = .ok (.getfield ix, 3))
    (kk : zV p l e R s m args below meth c nL D G ad cells slots Q (pc + 3) lv (.ref (ad (k + 2)) :: st) σ) : zV p l e R s m args below meth c nL D G ad cells slots Q pc lv (.ref (ad k) :: st) σ :=
  z_get X F (zNet_lt hk) (zNet_obj hk ad G _ _) rfl d kk
theorem y_gNet6 (X : zX p s m args c cc nL own D G ad) {k : Nat} (hk : zNet k) {ix : Nat} (F : zFld own ix 2 6 RX2 TX2 11) (d : decode cc pc = .ok (.getfield ix, 3))
    (kk : zV p l e R s m args below meth c nL D G ad cells slots Q (pc + 3) lv (.ref (ad (k + 3)) :: st) σ) : zV p l e R s m args below meth c nL D G ad cells slots Q pc lv (.ref (ad k) :: st) σ :=
  z_get X F (zNet_lt hk) (zNet_obj hk ad G _ _) rfl d kk
theorem y_gNet7 (X : zX p s m args c cc nL own D G ad) {k : Nat} (hk : zNet k) {ix : Nat} (F : zFld own ix 2 7 RX2 TX2 11) (d : decode cc pc = .ok (.getfield ix, 3))
    (kk : zV p l e R s m args below meth c nL D G ad cells slots Q (pc + 3) lv (.ref (ad (k + 4)) :: st) σ) : zV p l e R s m args below meth c nL D G ad cells slots Q pc lv (.ref (ad k) :: st) σ :=
  z_get X F (zNet_lt hk) (zNet_obj hk ad G _ _) rfl d kk
theorem y_gNet8 (X : zX p s m args c cc nL own D G ad) {k : Nat} (hk : zNet k) {ix : Nat} (F : zFld own ix 2 8 RX2 TX2 11) (d : decode cc pc = .ok (.getfield ix, 3))
    (kk : zV p l e R s m args below meth c nL D G ad cells slots Q (pc + 3) lv (.ref (ad (k + 5)) :: st) σ) : zV p l e R s m args below meth c nL D G ad cells slots Q pc lv (.ref (ad k) :: st) σ :=
  z_get X F (zNet_lt hk) (zNet_obj hk ad G _ _) rfl d kk
theorem y_gNet9 (X : zX p s m args c cc nL own D G ad) {k : Nat} (hk : zNet k) {ix : Nat} (F : zFld own ix 2 9 RX2 TX2 11) (d : decode cc pc = .ok (.getfield ix, 3))
    (kk : zV p l e R s m args below meth c nL D G ad cells slots Q (pc + 3) lv (.ref (ad (k + 6)) :: st) σ) : zV p l e R s m args below meth c nL D G ad cells slots Q pc lv (.ref (ad k) :: st) σ :=
  z_get X F (zNet_lt hk) (zNet_obj hk ad G _ _) rfl d kk
theorem y_gNet10 (X : zX p s m args c cc nL own D G ad) {k : Nat} (hk : zNet k) {ix : Nat} (F : zFld own ix 2 10 RX2 TX2 11) (d : decode cc pc = .ok (.getfield ix, 3))
    (kk : zV p l e R s m args below meth c nL D G ad cells slots Q (pc + 3) lv (.ref (ad (k + 7)) :: st) σ) : zV p l e R s m args below meth c nL D G ad cells slots Q pc lv (.ref (ad k) :: st) σ :=
  z_get X F (zNet_lt hk) (zNet_obj hk ad G _ _) rfl d kk
theorem y_gTxt1 (X : zX p s m args c cc nL own D G ad)  {ix : Nat} (F : zFld own ix 0 1 RX0 TX0 2) (d : decode cc pc = .ok (.getfield ix, 3))
    (kk : zV p l e R s m args below meth c nL D G ad cells slots Q (pc + 3) lv (vI (N 0 1) :: st) (zBk σ 3 2 N)) : zV p l e R s m args below meth c nL D G ad cells slots Q pc lv (.ref (ad 3) :: st) (zBk σ 3 2 N) :=
  z_get X F (by decide) rfl rfl d (by rw [show (zBk σ 3 2 N).1 3 1 = N 0 1 from congrFun (zBk_row0 (by decide)) 1]; exact kk)
theorem y_pTxt1 (X : zX p s m args c cc nL own D G ad)  {ix : Nat} {x : Int} (F : zFld own ix 0 1 RX0 TX0 2) (d : decode cc pc = .ok (.putfield ix, 3))
    (kk : zV p l e R s m args below meth c nL D G ad cells slots Q (pc + 3) lv st (zBk σ 3 2 (up2 N 0 1 x))) : zV p l e R s m args below meth c nL D G ad cells slots Q pc lv (vI x :: .ref (ad 3) :: st) (zBk σ 3 2 N) :=
  z_putI X F tyX0 tyX0_ok nmX0 (by decide) rfl rfl (Nat.le_of_ble_eq_true rfl) rfl (by decide +kernel) d (by rw [zS_bk0 (by decide)]; exact kk)
theorem y_gTxt0 (X : zX p s m args c cc nL own D G ad)  {ix : Nat} (F : zFld own ix 0 0 RX0 TX0 2) (d : decode cc pc = .ok (.getfield ix, 3))
    (kk : zV p l e R s m args below meth c nL D G ad cells slots Q (pc + 3) lv (.ref (ad 4) :: st) σ) : zV p l e R s m args below meth c nL D G ad cells slots Q pc lv (.ref (ad 3) :: st) σ :=
  z_get X F (by decide) rfl rfl d kk
theorem y_gHis1 (X : zX p s m args c cc nL own D G ad)  {ix : Nat} (F : zFld own ix 1 1 RX1 TX1 2) (d : decode cc pc = .ok (.getfield ix, 3))
    (kk : zV p l e R s m args below meth c nL D G ad cells slots Q (pc + 3) lv (vI (N 0 1) :: st) (zBk σ 1 2 N)) : zV p l e R s m args below meth c nL D G ad cells slots Q pc lv (.ref (ad 1) :: st) (zBk σ 1 2 N) :=
  z_get X F (by decide) rfl rfl d (by rw [show (zBk σ 1 2 N).1 1 1 = N 0 1 from congrFun (zBk_row0 (by decide)) 1]; exact kk)
theorem y_pHis1 (X : zX p s m args c cc nL own D G ad)  {ix : Nat} {x : Int} (F : zFld own ix 1 1 RX1 TX1 2) (d : decode cc pc = .ok (.putfield ix, 3))
    (kk : zV p l e R s m args below meth c nL D G ad cells slots Q (pc + 3) lv st (zBk σ 1 2 (up2 N 0 1 x))) : zV p l e R s m args below meth c nL D G ad cells slots Q pc lv (vI x :: .ref (ad 1) :: st) (zBk σ 1 2 N) :=
  z_putI X F tyX1 tyX1_ok nmX1 (by decide) rfl rfl (Nat.le_of_ble_eq_true rfl) rfl (by decide +kernel) d (by rw [zS_bk0 (by decide)]; exact kk)
theorem y_gHis0 (X : zX p s m args c cc nL own D G ad)  {ix : Nat} (F : zFld own ix 1 0 RX1 TX1 2) (d : decode cc pc = .ok (.getfield ix, 3))
    (kk : zV p l e R s m args below meth c nL D G ad cells slots Q (pc + 3) lv (.ref (ad 2) :: st) σ) : zV p l e R s m args below meth c nL D G ad cells slots Q pc lv (.ref (ad 1) :: st) σ :=
  z_get X F (by decide) rfl rfl d kk
theorem y_gMod0 (X : zX p s m args c cc nL own D G ad)  {ix : Nat} (F : zFld own ix 4 0 RX4 TX4 11) (d : decode cc pc = .ok (.getfield ix, 3))
    (kk : zV p l e R s m args below meth c nL D G ad cells slots Q (pc + 3) lv (vI (N 0 0) :: st) (zBk σ 5 3 N)) : zV p l e R s m args below meth c nL D G ad cells slots Q pc lv (.ref (ad 5) :: st) (zBk σ 5 3 N) :=
  z_get X F (by decide) rfl rfl d (by rw [show (zBk σ 5 3 N).1 5 0 = N 0 0 from congrFun (zBk_row0 (by decide)) 0]; exact kk)
theorem y_pMod0 (X : zX p s m args c cc nL own D G ad)  {ix : Nat} {x : Int} (F : zFld own ix 4 0 RX4 TX4 11) (d : decode cc pc = .ok (.putfield ix, 3))
    (kk : zV p l e R s m args below meth c nL D G ad cells slots Q (pc + 3) lv st (zBk σ 5 3 (up2 N 0 0 x))) : zV p l e R s m args below meth c nL D G ad cells slots Q pc lv (vI x :: .ref (ad 5) :: st) (zBk σ 5 3 N) :=
  z_putI X F tyX4 tyX4_ok nmX4 (by decide) rfl rfl (Nat.le_of_ble_eq_true rfl) rfl (by decide +kernel) d (by rw [zS_bk0 (by decide)]; exact kk)
theorem y_gMod2 (X : zX p s m args c cc nL own D G ad)  {ix : Nat} (F : zFld own ix 4 2 RX4 TX4 11) (d : decode cc pc = .ok (.getfield ix, 3))
    (kk : zV p l e R s m args below meth c nL D G ad cells slots Q (pc + 3) lv (vI (N 0 2) :: st) (zBk σ 5 3 N)) : zV p l e R s m args below meth c nL D G ad cells slots Q pc lv (.ref (ad 5) :: st) (zBk σ 5 3 N) :=
  z_get X F (by decide) rfl rfl d (by rw [show (zBk σ 5 3 N).1 5 2 = N 0 2 from congrFun (zBk_row0 (by decide)) 2]; exact kk)
theorem y_pMod2 (X : zX p s m args c cc nL own D G ad)  {ix : Nat} {x : Int} (F : zFld own ix 4 2 RX4 TX4 11) (d : decode cc pc = .ok (.putfield ix, 3))
    (kk : zV p l e R s m args below meth c nL D G ad cells slots Q (pc + 3) lv st (zBk σ 5 3 (up2 N 0 2 x))) : zV p l e R s m args below meth c nL D G ad cells slots Q pc lv (vI x :: .ref (ad 5) :: st) (zBk σ 5 3 N) :=
  z_putI X F tyX4 tyX4_ok nmX4 (by decide) rfl rfl (Nat.le_of_ble_eq_true rfl) rfl (by decide +kernel) d (by rw [zS_bk0 (by decide)]; exact kk)
theorem y_gMod4 (X : zX p s m args c cc nL own D G ad)  {ix : Nat} (F : zFld own ix 4 4 RX4 TX4 11) (d : decode cc pc = .ok (.getfield ix, 3))
    (kk : zV p l e R s m args below meth c nL D G ad cells slots Q (pc + 3) lv (vI (N 0 4) :: st) (zBk σ 5 3 N)) : zV p l e R s m args below meth c nL D G ad cells slots Q pc lv (.ref (ad 5) :: st) (zBk σ 5 3 N) :=
  z_get X F (by decide) rfl rfl d (by rw [show (zBk σ 5 3 N).1 5 4 = N 0 4 from congrFun (zBk_row0 (by decide)) 4]; exact kk)
theorem y_pMod4 (X : zX p s m args c cc nL own D G ad)  {ix : Nat} {x : Int} (F : zFld own ix 4 4 RX4 TX4 11) (d : decode cc pc = .ok (.putfield ix, 3))
    (kk : zV p l e R s m args below meth c nL D G ad cells slots Q (pc + 3) lv st (zBk σ 5 3 (up2 N 0 4 x))) : zV p l e R s m args below meth c nL D G ad cells slots Q pc lv (vI x :: .ref (ad 5) :: st) (zBk σ 5 3 N) :=
  z_putI X F tyX4 tyX4_ok nmX4 (by decide) rfl rfl (Nat.le_of_ble_eq_true rfl) rfl (by decide +kernel) d (by rw [zS_bk0 (by decide)]; exact kk)
theorem y_gMod5 (X : zX p s m args c cc nL own D G ad)  {ix : Nat} (F : zFld own ix 4 5 RX4 TX4 11) (d : decode cc pc = .ok (.getfield ix, 3))
    (kk : zV p l e R s m args below meth c nL D G ad cells slots Q (pc + 3) lv (vI (N 0 5) :: st) (zBk σ 5 3 N)) : zV p l e R s m args below meth c nL D G ad cells slots Q pc lv (.ref (ad 5) :: st) (zBk σ 5 3 N) :=
  z_get X F (by decide) rfl rfl d (by rw [show (zBk σ 5 3 N).1 5 5 = N 0 5 from congrFun (zBk_row0 (by decide)) 5]; exact kk)
theorem y_pMod5 (X : zX p s m args c cc nL own D G ad)  {ix : Nat} {x : Int} (F : zFld own ix 4 5 RX4 TX4 11) (d : decode cc pc = .ok (.putfield ix, 3))
    (kk : zV p l e R s m args below meth c nL D G ad cells slots Q (pc + 3) lv st (zBk σ 5 3 (up2 N 0 5 x))) : zV p l e R s m args below meth c nL D G ad cells slots Q pc lv (vI x :: .ref (ad 5) :: st) (zBk σ 5 3 N) :=
  z_putI X F tyX4 tyX4_ok nmX4 (by decide) rfl rfl (Nat.le_of_ble_eq_true rfl) rfl (by decide +kernel) d (by rw [zS_bk0 (by decide)]; exact kk)
theorem y_gMod6 (X : zX p s m args c cc nL own D G ad)  {ix : Nat} (F : zFld own ix 4 6 RX4 TX4 11) (d : decode cc pc = .ok (.getfield ix, 3))
    (kk : zV p l e R s m args below meth c nL D G ad cells slots Q (pc + 3) lv (vI (N 0 6) :: st) (zBk σ 5 3 N)) : zV p l e R s m args below meth c nL D G ad cells slots Q pc lv (.ref (ad 5) :: st) (zBk σ 5 3 N) :=
  z_get X F (by decide) rfl rfl d (by rw [show (zBk σ 5 3 N).1 5 6 = N 0 6 from congrFun (zBk_row0 (by decide)) 6]; exact kk)
theorem y_pMod6 (X : zX p s m args c cc nL own D G ad)  {ix : Nat} {x : Int} (F : zFld own ix 4 6 RX4 TX4 11) (d : decode cc pc = .ok (.putfield ix, 3))
    (kk : zV p l e R s m args below meth c nL D G ad cells slots Q (pc + 3) lv st (zBk σ 5 3 (up2 N 0 6 x))) : zV p l e R s m args below meth c nL D G ad cells slots Q pc lv (vI x :: .ref (ad 5) :: st) (zBk σ 5 3 N) :=
  z_putI X F tyX4 tyX4_ok nmX4 (by decide) rfl rfl (Nat.le_of_ble_eq_true rfl) rfl (by decide +kernel) d (by rw [zS_bk0 (by decide)]; exact kk)
theorem y_gMod7 (X : zX p s m args c cc nL own D G ad)  {ix : Nat} (F : zFld own ix 4 7 RX4 TX4 11) (d : decode cc pc = .ok (.getfield ix, 3))
    (kk : zV p l e R s m args below meth c nL D G ad cells slots Q (pc + 3) lv (vI (N 0 7) :: st) (zBk σ 5 3 N)) : zV p l e R s m args below meth c nL D G ad cells slots Q pc lv (.ref (ad 5) :: st) (zBk σ 5 3 N) :=
  z_get X F (by decide) rfl rfl d (by rw [show (zBk σ 5 3 N).1 5 7 = N 0 7 from congrFun (zBk_row0 (by decide)) 7]; exact kk)
theorem y_pMod7 (X : zX p s m args c cc nL own D G ad)  {ix : Nat} {x : Int} (F : zFld own ix 4 7 RX4 TX4 11) (d : decode cc pc = .ok (.putfield ix, 3))
    (kk : zV p l e R s m args below meth c nL D G ad cells slots Q (pc + 3) lv st (zBk σ 5 3 (up2 N 0 7 x))) : zV p l e R s m args below meth c nL D G ad cells slots Q pc lv (vI x :: .ref (ad 5) :: st) (zBk σ 5 3 N) :=
  z_putI X F tyX4 tyX4_ok nmX4 (by decide) rfl rfl (Nat.le_of_ble_eq_true rfl) rfl (by decide +kernel) d (by rw [zS_bk0 (by decide)]; exact kk)
theorem y_gMod8 (X : zX p s m args c cc nL own D G ad)  {ix : Nat} (F : zFld own ix 4 8 RX4 TX4 11) (d : decode cc pc = .ok (.getfield ix, 3))
    (kk : zV p l e R s m args below meth c nL D G ad cells slots Q (pc + 3) lv (vI (N 0 8) :: st) (zBk σ 5 3 N)) : zV p l e R s m args below meth c nL D G ad cells slots Q pc lv (.ref (ad 5) :: st) (zBk σ 5 3 N) :=
  z_get X F (by decide) rfl rfl d (by rw [show (zBk σ 5 3 N).1 5 8 = N 0 8 from congrFun (zBk_row0 (by decide)) 8]; exact kk)
theorem y_pMod8 (X : zX p s m args c cc nL own D G ad)  {ix : Nat} {x : Int} (F : zFld own ix 4 8 RX4 TX4 11) (d : decode cc pc = .ok (.putfield ix, 3))
    (kk : zV p l e R s m args below meth c nL D G ad cells slots Q (pc + 3) lv st (zBk σ 5 3 (up2 N 0 8 x))) : zV p l e R s m args below meth c nL D G ad cells slots Q pc lv (vI x :: .ref (ad 5) :: st) (zBk σ 5 3 N) :=
  z_putI X F tyX4 tyX4_ok nmX4 (by decide) rfl rfl (Nat.le_of_ble_eq_true rfl) rfl (by decide +kernel) d (by rw [zS_bk0 (by decide)]; exact kk)
theorem y_gMod9 (X : zX p s m args c cc nL own D G ad)  {ix : Nat} (F : zFld own ix 4 9 RX4 TX4 11) (d : decode cc pc = .ok (.getfield ix, 3))
    (kk : zV p l e R s m args below meth c nL D G ad cells slots Q (pc + 3) lv (vI (N 0 9) :: st) (zBk σ 5 3 N)) : zV p l e R s m args below meth c nL D G ad cells slots Q pc lv (.ref (ad 5) :: st) (zBk σ 5 3 N) :=
  z_get X F (by decide) rfl rfl d (by rw [show (zBk σ 5 3 N).1 5 9 = N 0 9 from congrFun (zBk_row0 (by decide)) 9]; exact kk)
theorem y_pMod9 (X : zX p s m args c cc nL own D G ad)  {ix : Nat} {x : Int} (F : zFld own ix 4 9 RX4 TX4 11) (d : decode cc pc = .ok (.putfield ix, 3))
    (kk : zV p l e R s m args below meth c nL D G ad cells slots Q (pc + 3) lv st (zBk σ 5 3 (up2 N 0 9 x))) : zV p l e R s m args below meth c nL D G ad cells slots Q pc lv (vI x :: .ref (ad 5) :: st) (zBk σ 5 3 N) :=
  z_putI X F tyX4 tyX4_ok nmX4 (by decide) rfl rfl (Nat.le_of_ble_eq_true rfl) rfl (by decide +kernel) d (by rw [zS_bk0 (by decide)]; exact kk)
theorem y_gMod1 (X : zX p s m args c cc nL own D G ad)  {ix : Nat} (F : zFld own ix 4 1 RX4 TX4 11) (d : decode cc pc = .ok (.getfield ix, 3))
    (kk : zV p l e R s m args below meth c nL D G ad cells slots Q (pc + 3) lv (.ref (ad 6) :: st) σ) : zV p l e R s m args below meth c nL D G ad cells slots Q pc lv (.ref (ad 5) :: st) σ :=
  z_get X F (by decide) rfl rfl d kk
theorem y_gMod3 (X : zX p s m args c cc nL own D G ad)  {ix : Nat} (F : zFld own ix 4 3 RX4 TX4 11) (d : decode cc pc = .ok (.getfield ix, 3))
    (kk : zV p l e R s m args below meth c nL D G ad cells slots Q (pc + 3) lv (.ref (ad 7) :: st) σ) : zV p l e R s m args below meth c nL D G ad cells slots Q pc lv (.ref (ad 5) :: st) σ :=
  z_get X F (by decide) rfl rfl d kk
theorem y_gDea0 (X : zX p s m args c cc nL own D G ad)  {ix : Nat} (F : zFld own ix 3 0 RX3 TX3 4) (d : decode cc pc = .ok (.getfield ix, 3))
    (kk : zV p l e R s m args below meth c nL D G ad cells slots Q (pc + 3) lv (.ref (ad 8) :: st) σ) : zV p l e R s m args below meth c nL D G ad cells slots Q pc lv (.ref (ad 0) :: st) σ :=
  z_get X F (by decide) rfl rfl d kk
theorem y_gDea1 (X : zX p s m args c cc nL own D G ad)  {ix : Nat} (F : zFld own ix 3 1 RX3 TX3 4) (d : decode cc pc = .ok (.getfield ix, 3))
    (kk : zV p l e R s m args below meth c nL D G ad cells slots Q (pc + 3) lv (.ref (ad 16) :: st) σ) : zV p l e R s m args below meth c nL D G ad cells slots Q pc lv (.ref (ad 0) :: st) σ :=
  z_get X F (by decide) rfl rfl d kk
theorem y_gDea2 (X : zX p s m args c cc nL own D G ad)  {ix : Nat} (F : zFld own ix 3 2 RX3 TX3 4) (d : decode cc pc = .ok (.getfield ix, 3))
    (kk : zV p l e R s m args below meth c nL D G ad cells slots Q (pc + 3) lv (.ref (ad 1) :: st) σ) : zV p l e R s m args below meth c nL D G ad cells slots Q pc lv (.ref (ad 0) :: st) σ :=
  z_get X F (by decide) rfl rfl d kk
theorem y_gDea3 (X : zX p s m args c cc nL own D G ad)  {ix : Nat} (F : zFld own ix 3 3 RX3 TX3 4) (d : decode cc pc = .ok (.getfield ix, 3))
    (kk : zV p l e R s m args below meth c nL D G ad cells slots Q (pc + 3) lv (.ref (ad 3) :: st) σ) : zV p l e R s m args below meth c nL D G ad cells slots Q pc lv (.ref (ad 0) :: st) σ :=
  z_get X F (by decide) rfl rfl d kk
end Y
