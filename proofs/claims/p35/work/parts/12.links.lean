/-! the links of the tables, by their places; blocks of the world -/
theorem zAll1 {a : Cond} (ha : a ∈ zU) : ∀ w ∈ [a], w ∈ zU := fun w h => by
  rcases List.mem_cons.mp h with rfl | h
  · exact ha
  · exact absurd h List.not_mem_nil
theorem zAllc {a : Cond} {b : List Cond} (ha : a ∈ zU) (hb : ∀ w ∈ b, w ∈ zU) : ∀ w ∈ a :: b, w ∈ zU := fun w h => by
  rcases List.mem_cons.mp h with rfl | h
  · exact ha
  · exact hb w h
theorem zLkV_of {own C : String} {idx : Nat} {y : MethodName} {bytes : ByteArray} {maxL : Nat} {ret : Option FieldType} {n : Nat} (h1 : Cond.methodLink own idx y ∈ zU) (h2 : Cond.instanceMethod y ∈ zU) (h3 : Cond.selects C y y ∈ zU) (h4 : Cond.initialized C ∈ zU) (h5 : Cond.code y bytes maxL ret ∈ zU) (h6 : y.cls = C ∧ y.cls ≠ "java/lang/invoke/MethodHandle" ∧ y.cls ≠ "java/lang/invoke/VarHandle" ∧ (parseMethodDescriptor y.desc).map (fun d => d.parameters.length) = some n) : zLkV own idx C y bytes maxL ret n :=
  ⟨zAllc h1 (zAllc h2 (zAllc h3 (zAllc h4 (zAll1 h5)))), h6⟩
theorem zLkS_of {own : String} {idx : Nat} {y : MethodName} {bytes : ByteArray} {maxL : Nat} {ret : Option FieldType} {n : Nat} (h1 : Cond.methodLink own idx y ∈ zU) (h2 : Cond.static y ∈ zU) (h4 : Cond.initialized own ∈ zU) (h5 : Cond.code y bytes maxL ret ∈ zU) (h6 : y.cls = own ∧ y.cls ≠ "java/lang/invoke/MethodHandle" ∧ y.cls ≠ "java/lang/invoke/VarHandle" ∧ (parseMethodDescriptor y.desc).map (fun d => d.parameters.length) = some n) : zLkS own idx y bytes maxL ret n :=
  ⟨zAllc h1 (zAllc h2 (zAllc h4 (zAll1 h5))), h6⟩
theorem fX3_12 : zFld RX3 12 3 0 RX3 TX3 4 := ⟨rfl, by decide, zin_u zin3 zin_g3, zU_mem 106 (by decide +kernel) (by decide +kernel)⟩
theorem fX3_16 : zFld RX3 16 3 1 RX3 TX3 4 := ⟨rfl, by decide, zin_u zin3 zin_g3, zU_mem 107 (by decide +kernel) (by decide +kernel)⟩
theorem fX3_22 : zFld RX3 22 3 2 RX3 TX3 4 := ⟨rfl, by decide, zin_u zin3 zin_g3, zU_mem 108 (by decide +kernel) (by decide +kernel)⟩
theorem fX3_29 : zFld RX3 29 3 3 RX3 TX3 4 := ⟨rfl, by decide, zin_u zin3 zin_g3, zU_mem 109 (by decide +kernel) (by decide +kernel)⟩
theorem fX0_9 : zFld RX0 9 0 0 RX0 TX0 2 := ⟨rfl, by decide, zin_u zin0 zin_g0, zU_mem 99 (by decide +kernel) (by decide +kernel)⟩
theorem fX0_15 : zFld RX0 15 0 1 RX0 TX0 2 := ⟨rfl, by decide, zin_u zin0 zin_g0, zU_mem 100 (by decide +kernel) (by decide +kernel)⟩
theorem fX1_11 : zFld RX1 11 1 0 RX1 TX1 2 := ⟨rfl, by decide, zin_u zin1 zin_g1, zU_mem 86 (by decide +kernel) (by decide +kernel)⟩
theorem fX1_17 : zFld RX1 17 1 1 RX1 TX1 2 := ⟨rfl, by decide, zin_u zin1 zin_g1, zU_mem 87 (by decide +kernel) (by decide +kernel)⟩
theorem fX2_9 : zFld RX2 9 2 0 RX2 TX2 11 := ⟨rfl, by decide, zin_u zin2 zin_g2, zU_mem 42 (by decide +kernel) (by decide +kernel)⟩
theorem fX2_15 : zFld RX2 15 2 1 RX2 TX2 11 := ⟨rfl, by decide, zin_u zin2 zin_g2, zU_mem 43 (by decide +kernel) (by decide +kernel)⟩
theorem fX2_18 : zFld RX2 18 2 2 RX2 TX2 11 := ⟨rfl, by decide, zin_u zin2 zin_g2, zU_mem 44 (by decide +kernel) (by decide +kernel)⟩
theorem fX2_21 : zFld RX2 21 2 3 RX2 TX2 11 := ⟨rfl, by decide, zin_u zin2 zin_g2, zU_mem 45 (by decide +kernel) (by decide +kernel)⟩
theorem fX2_24 : zFld RX2 24 2 4 RX2 TX2 11 := ⟨rfl, by decide, zin_u zin2 zin_g2, zU_mem 46 (by decide +kernel) (by decide +kernel)⟩
theorem fX2_28 : zFld RX2 28 2 5 RX2 TX2 11 := ⟨rfl, by decide, zin_u zin2 zin_g2, zU_mem 47 (by decide +kernel) (by decide +kernel)⟩
theorem fX2_31 : zFld RX2 31 2 6 RX2 TX2 11 := ⟨rfl, by decide, zin_u zin2 zin_g2, zU_mem 48 (by decide +kernel) (by decide +kernel)⟩
theorem fX2_34 : zFld RX2 34 2 7 RX2 TX2 11 := ⟨rfl, by decide, zin_u zin2 zin_g2, zU_mem 49 (by decide +kernel) (by decide +kernel)⟩
theorem fX2_37 : zFld RX2 37 2 8 RX2 TX2 11 := ⟨rfl, by decide, zin_u zin2 zin_g2, zU_mem 50 (by decide +kernel) (by decide +kernel)⟩
theorem fX2_40 : zFld RX2 40 2 9 RX2 TX2 11 := ⟨rfl, by decide, zin_u zin2 zin_g2, zU_mem 51 (by decide +kernel) (by decide +kernel)⟩
theorem fX2_43 : zFld RX2 43 2 10 RX2 TX2 11 := ⟨rfl, by decide, zin_u zin2 zin_g2, zU_mem 52 (by decide +kernel) (by decide +kernel)⟩
theorem u_iniX3 : Cond.initialized RX3 ∈ zU := zU_mem 15 (by decide +kernel) (by decide +kernel)
theorem u_iniX2 : Cond.initialized RX2 ∈ zU := zU_mem 16 (by decide +kernel) (by decide +kernel)
theorem u_iniX1 : Cond.initialized RX1 ∈ zU := zU_mem 17 (by decide +kernel) (by decide +kernel)
theorem u_iniX0 : Cond.initialized RX0 ∈ zU := zU_mem 18 (by decide +kernel) (by decide +kernel)
theorem u_cX3_checkSite : Cond.code yX3_checkSite cX3_checkSite 1 none ∈ zU := zU_mem 328 (by decide +kernel) (by decide +kernel)
theorem u_sX3_checkSite : Cond.static yX3_checkSite ∈ zU := zU_mem 327 (by decide +kernel) (by decide +kernel)
theorem u_dX3_checkSite : yX3_checkSite.cls = RX3 ∧ yX3_checkSite.cls ≠ "java/lang/invoke/MethodHandle" ∧ yX3_checkSite.cls ≠ "java/lang/invoke/VarHandle" ∧ (parseMethodDescriptor yX3_checkSite.desc).map (fun d => d.parameters.length) = some 1 := ⟨rfl, by decide +kernel, by decide +kernel, by decide +kernel⟩
theorem kX3_33 : zLkS RX3 33 yX3_checkSite cX3_checkSite 1 none 1 := zLkS_of (zU_mem 326 (by decide +kernel) (by decide +kernel)) u_sX3_checkSite u_iniX3 u_cX3_checkSite u_dX3_checkSite
theorem u_cJ6_bitCount_0f7a4 : Cond.code yJ6_bitCount_0f7a4 cJ6_bitCount_0f7a4 1 (some .int) ∈ zU := zU_mem 353 (by decide +kernel) (by decide +kernel)
theorem u_sJ6_bitCount_0f7a4 : Cond.static yJ6_bitCount_0f7a4 ∈ zU := zU_mem 352 (by decide +kernel) (by decide +kernel)
theorem u_dJ6_bitCount_0f7a4 : yJ6_bitCount_0f7a4.cls = RJ6 ∧ yJ6_bitCount_0f7a4.cls ≠ "java/lang/invoke/MethodHandle" ∧ yJ6_bitCount_0f7a4.cls ≠ "java/lang/invoke/VarHandle" ∧ (parseMethodDescriptor yJ6_bitCount_0f7a4.desc).map (fun d => d.parameters.length) = some 1 := ⟨rfl, by decide +kernel, by decide +kernel, by decide +kernel⟩
theorem u_cX2_canBegin : Cond.code yX2_canBegin cX2_canBegin 4 (some .boolean) ∈ zU := zU_mem 377 (by decide +kernel) (by decide +kernel)
theorem u_iX2_canBegin : Cond.instanceMethod yX2_canBegin ∈ zU := zU_mem 375 (by decide +kernel) (by decide +kernel)
theorem u_vX2_canBegin : Cond.selects RX2 yX2_canBegin yX2_canBegin ∈ zU := zU_mem 376 (by decide +kernel) (by decide +kernel)
theorem u_dX2_canBegin : yX2_canBegin.cls = RX2 ∧ yX2_canBegin.cls ≠ "java/lang/invoke/MethodHandle" ∧ yX2_canBegin.cls ≠ "java/lang/invoke/VarHandle" ∧ (parseMethodDescriptor yX2_canBegin.desc).map (fun d => d.parameters.length) = some 2 := ⟨rfl, by decide +kernel, by decide +kernel, by decide +kernel⟩
theorem kX3_52 : zLkV RX3 52 RX2 yX2_canBegin cX2_canBegin 4 (some .boolean) 2 := zLkV_of (zU_mem 374 (by decide +kernel) (by decide +kernel)) u_iX2_canBegin u_vX2_canBegin u_iniX2 u_cX2_canBegin u_dX2_canBegin
theorem u_cX1_save : Cond.code yX1_save cX1_save 3 none ∈ zU := zU_mem 382 (by decide +kernel) (by decide +kernel)
theorem u_iX1_save : Cond.instanceMethod yX1_save ∈ zU := zU_mem 380 (by decide +kernel) (by decide +kernel)
theorem u_vX1_save : Cond.selects RX1 yX1_save yX1_save ∈ zU := zU_mem 381 (by decide +kernel) (by decide +kernel)
theorem u_dX1_save : yX1_save.cls = RX1 ∧ yX1_save.cls ≠ "java/lang/invoke/MethodHandle" ∧ yX1_save.cls ≠ "java/lang/invoke/VarHandle" ∧ (parseMethodDescriptor yX1_save.desc).map (fun d => d.parameters.length) = some 1 := ⟨rfl, by decide +kernel, by decide +kernel, by decide +kernel⟩
theorem kX3_61 : zLkV RX3 61 RX1 yX1_save cX1_save 3 none 1 := zLkV_of (zU_mem 379 (by decide +kernel) (by decide +kernel)) u_iX1_save u_vX1_save u_iniX1 u_cX1_save u_dX1_save
theorem u_cX2_addDeal : Cond.code yX2_addDeal cX2_addDeal 6 (some .int) ∈ zU := zU_mem 390 (by decide +kernel) (by decide +kernel)
theorem u_iX2_addDeal : Cond.instanceMethod yX2_addDeal ∈ zU := zU_mem 388 (by decide +kernel) (by decide +kernel)
theorem u_vX2_addDeal : Cond.selects RX2 yX2_addDeal yX2_addDeal ∈ zU := zU_mem 389 (by decide +kernel) (by decide +kernel)
theorem u_dX2_addDeal : yX2_addDeal.cls = RX2 ∧ yX2_addDeal.cls ≠ "java/lang/invoke/MethodHandle" ∧ yX2_addDeal.cls ≠ "java/lang/invoke/VarHandle" ∧ (parseMethodDescriptor yX2_addDeal.desc).map (fun d => d.parameters.length) = some 3 := ⟨rfl, by decide +kernel, by decide +kernel, by decide +kernel⟩
theorem kX3_65 : zLkV RX3 65 RX2 yX2_addDeal cX2_addDeal 6 (some .int) 3 := zLkV_of (zU_mem 387 (by decide +kernel) (by decide +kernel)) u_iX2_addDeal u_vX2_addDeal u_iniX2 u_cX2_addDeal u_dX2_addDeal
theorem u_cX3_checkDealAndSite : Cond.code yX3_checkDealAndSite cX3_checkDealAndSite 3 none ∈ zU := zU_mem 408 (by decide +kernel) (by decide +kernel)
theorem u_iX3_checkDealAndSite : Cond.instanceMethod yX3_checkDealAndSite ∈ zU := zU_mem 407 (by decide +kernel) (by decide +kernel)
theorem u_vX3_checkDealAndSite : Cond.selects RX3 yX3_checkDealAndSite yX3_checkDealAndSite ∈ zU := zU_mem 6 (by decide +kernel) (by decide +kernel)
theorem u_dX3_checkDealAndSite : yX3_checkDealAndSite.cls = RX3 ∧ yX3_checkDealAndSite.cls ≠ "java/lang/invoke/MethodHandle" ∧ yX3_checkDealAndSite.cls ≠ "java/lang/invoke/VarHandle" ∧ (parseMethodDescriptor yX3_checkDealAndSite.desc).map (fun d => d.parameters.length) = some 2 := ⟨rfl, by decide +kernel, by decide +kernel, by decide +kernel⟩
theorem kX3_69 : zLkV RX3 69 RX3 yX3_checkDealAndSite cX3_checkDealAndSite 3 none 2 := zLkV_of (zU_mem 405 (by decide +kernel) (by decide +kernel)) u_iX3_checkDealAndSite u_vX3_checkDealAndSite u_iniX3 u_cX3_checkDealAndSite u_dX3_checkDealAndSite
theorem u_cX2_canVote : Cond.code yX2_canVote cX2_canVote 3 (some .boolean) ∈ zU := zU_mem 423 (by decide +kernel) (by decide +kernel)
theorem u_iX2_canVote : Cond.instanceMethod yX2_canVote ∈ zU := zU_mem 421 (by decide +kernel) (by decide +kernel)
theorem u_vX2_canVote : Cond.selects RX2 yX2_canVote yX2_canVote ∈ zU := zU_mem 422 (by decide +kernel) (by decide +kernel)
theorem u_dX2_canVote : yX2_canVote.cls = RX2 ∧ yX2_canVote.cls ≠ "java/lang/invoke/MethodHandle" ∧ yX2_canVote.cls ≠ "java/lang/invoke/VarHandle" ∧ (parseMethodDescriptor yX2_canVote.desc).map (fun d => d.parameters.length) = some 2 := ⟨rfl, by decide +kernel, by decide +kernel, by decide +kernel⟩
theorem kX3_73 : zLkV RX3 73 RX2 yX2_canVote cX2_canVote 3 (some .boolean) 2 := zLkV_of (zU_mem 420 (by decide +kernel) (by decide +kernel)) u_iX2_canVote u_vX2_canVote u_iniX2 u_cX2_canVote u_dX2_canVote
theorem u_cX2_castVote : Cond.code yX2_castVote cX2_castVote 5 (some .int) ∈ zU := zU_mem 428 (by decide +kernel) (by decide +kernel)
theorem u_iX2_castVote : Cond.instanceMethod yX2_castVote ∈ zU := zU_mem 426 (by decide +kernel) (by decide +kernel)
theorem u_vX2_castVote : Cond.selects RX2 yX2_castVote yX2_castVote ∈ zU := zU_mem 427 (by decide +kernel) (by decide +kernel)
theorem u_dX2_castVote : yX2_castVote.cls = RX2 ∧ yX2_castVote.cls ≠ "java/lang/invoke/MethodHandle" ∧ yX2_castVote.cls ≠ "java/lang/invoke/VarHandle" ∧ (parseMethodDescriptor yX2_castVote.desc).map (fun d => d.parameters.length) = some 3 := ⟨rfl, by decide +kernel, by decide +kernel, by decide +kernel⟩
theorem kX3_78 : zLkV RX3 78 RX2 yX2_castVote cX2_castVote 5 (some .int) 3 := zLkV_of (zU_mem 425 (by decide +kernel) (by decide +kernel)) u_iX2_castVote u_vX2_castVote u_iniX2 u_cX2_castVote u_dX2_castVote
theorem u_cX3_checkDeal : Cond.code yX3_checkDeal cX3_checkDeal 2 none ∈ zU := zU_mem 412 (by decide +kernel) (by decide +kernel)
theorem u_iX3_checkDeal : Cond.instanceMethod yX3_checkDeal ∈ zU := zU_mem 411 (by decide +kernel) (by decide +kernel)
theorem u_vX3_checkDeal : Cond.selects RX3 yX3_checkDeal yX3_checkDeal ∈ zU := zU_mem 7 (by decide +kernel) (by decide +kernel)
theorem u_dX3_checkDeal : yX3_checkDeal.cls = RX3 ∧ yX3_checkDeal.cls ≠ "java/lang/invoke/MethodHandle" ∧ yX3_checkDeal.cls ≠ "java/lang/invoke/VarHandle" ∧ (parseMethodDescriptor yX3_checkDeal.desc).map (fun d => d.parameters.length) = some 1 := ⟨rfl, by decide +kernel, by decide +kernel, by decide +kernel⟩
theorem kX3_82 : zLkV RX3 82 RX3 yX3_checkDeal cX3_checkDeal 2 none 1 := zLkV_of (zU_mem 409 (by decide +kernel) (by decide +kernel)) u_iX3_checkDeal u_vX3_checkDeal u_iniX3 u_cX3_checkDeal u_dX3_checkDeal
theorem u_cX2_canDecide : Cond.code yX2_canDecide cX2_canDecide 2 (some .boolean) ∈ zU := zU_mem 488 (by decide +kernel) (by decide +kernel)
theorem u_iX2_canDecide : Cond.instanceMethod yX2_canDecide ∈ zU := zU_mem 486 (by decide +kernel) (by decide +kernel)
theorem u_vX2_canDecide : Cond.selects RX2 yX2_canDecide yX2_canDecide ∈ zU := zU_mem 487 (by decide +kernel) (by decide +kernel)
theorem u_dX2_canDecide : yX2_canDecide.cls = RX2 ∧ yX2_canDecide.cls ≠ "java/lang/invoke/MethodHandle" ∧ yX2_canDecide.cls ≠ "java/lang/invoke/VarHandle" ∧ (parseMethodDescriptor yX2_canDecide.desc).map (fun d => d.parameters.length) = some 1 := ⟨rfl, by decide +kernel, by decide +kernel, by decide +kernel⟩
theorem kX3_85 : zLkV RX3 85 RX2 yX2_canDecide cX2_canDecide 2 (some .boolean) 1 := zLkV_of (zU_mem 485 (by decide +kernel) (by decide +kernel)) u_iX2_canDecide u_vX2_canDecide u_iniX2 u_cX2_canDecide u_dX2_canDecide
theorem u_cX2_makeDecision : Cond.code yX2_makeDecision cX2_makeDecision 3 (some .int) ∈ zU := zU_mem 493 (by decide +kernel) (by decide +kernel)
theorem u_iX2_makeDecision : Cond.instanceMethod yX2_makeDecision ∈ zU := zU_mem 491 (by decide +kernel) (by decide +kernel)
theorem u_vX2_makeDecision : Cond.selects RX2 yX2_makeDecision yX2_makeDecision ∈ zU := zU_mem 492 (by decide +kernel) (by decide +kernel)
theorem u_dX2_makeDecision : yX2_makeDecision.cls = RX2 ∧ yX2_makeDecision.cls ≠ "java/lang/invoke/MethodHandle" ∧ yX2_makeDecision.cls ≠ "java/lang/invoke/VarHandle" ∧ (parseMethodDescriptor yX2_makeDecision.desc).map (fun d => d.parameters.length) = some 1 := ⟨rfl, by decide +kernel, by decide +kernel, by decide +kernel⟩
theorem kX3_91 : zLkV RX3 91 RX2 yX2_makeDecision cX2_makeDecision 3 (some .int) 1 := zLkV_of (zU_mem 490 (by decide +kernel) (by decide +kernel)) u_iX2_makeDecision u_vX2_makeDecision u_iniX2 u_cX2_makeDecision u_dX2_makeDecision
theorem u_cX2_canTell : Cond.code yX2_canTell cX2_canTell 4 (some .boolean) ∈ zU := zU_mem 506 (by decide +kernel) (by decide +kernel)
theorem u_iX2_canTell : Cond.instanceMethod yX2_canTell ∈ zU := zU_mem 504 (by decide +kernel) (by decide +kernel)
theorem u_vX2_canTell : Cond.selects RX2 yX2_canTell yX2_canTell ∈ zU := zU_mem 505 (by decide +kernel) (by decide +kernel)
theorem u_dX2_canTell : yX2_canTell.cls = RX2 ∧ yX2_canTell.cls ≠ "java/lang/invoke/MethodHandle" ∧ yX2_canTell.cls ≠ "java/lang/invoke/VarHandle" ∧ (parseMethodDescriptor yX2_canTell.desc).map (fun d => d.parameters.length) = some 2 := ⟨rfl, by decide +kernel, by decide +kernel, by decide +kernel⟩
theorem kX3_94 : zLkV RX3 94 RX2 yX2_canTell cX2_canTell 4 (some .boolean) 2 := zLkV_of (zU_mem 503 (by decide +kernel) (by decide +kernel)) u_iX2_canTell u_vX2_canTell u_iniX2 u_cX2_canTell u_dX2_canTell
theorem u_cX2_tellMember : Cond.code yX2_tellMember cX2_tellMember 5 (some .int) ∈ zU := zU_mem 511 (by decide +kernel) (by decide +kernel)
theorem u_iX2_tellMember : Cond.instanceMethod yX2_tellMember ∈ zU := zU_mem 509 (by decide +kernel) (by decide +kernel)
theorem u_vX2_tellMember : Cond.selects RX2 yX2_tellMember yX2_tellMember ∈ zU := zU_mem 510 (by decide +kernel) (by decide +kernel)
theorem u_dX2_tellMember : yX2_tellMember.cls = RX2 ∧ yX2_tellMember.cls ≠ "java/lang/invoke/MethodHandle" ∧ yX2_tellMember.cls ≠ "java/lang/invoke/VarHandle" ∧ (parseMethodDescriptor yX2_tellMember.desc).map (fun d => d.parameters.length) = some 2 := ⟨rfl, by decide +kernel, by decide +kernel, by decide +kernel⟩
theorem kX3_99 : zLkV RX3 99 RX2 yX2_tellMember cX2_tellMember 5 (some .int) 2 := zLkV_of (zU_mem 508 (by decide +kernel) (by decide +kernel)) u_iX2_tellMember u_vX2_tellMember u_iniX2 u_cX2_tellMember u_dX2_tellMember
theorem u_cX2_canAsk : Cond.code yX2_canAsk cX2_canAsk 4 (some .boolean) ∈ zU := zU_mem 275 (by decide +kernel) (by decide +kernel)
theorem u_iX2_canAsk : Cond.instanceMethod yX2_canAsk ∈ zU := zU_mem 273 (by decide +kernel) (by decide +kernel)
theorem u_vX2_canAsk : Cond.selects RX2 yX2_canAsk yX2_canAsk ∈ zU := zU_mem 274 (by decide +kernel) (by decide +kernel)
theorem u_dX2_canAsk : yX2_canAsk.cls = RX2 ∧ yX2_canAsk.cls ≠ "java/lang/invoke/MethodHandle" ∧ yX2_canAsk.cls ≠ "java/lang/invoke/VarHandle" ∧ (parseMethodDescriptor yX2_canAsk.desc).map (fun d => d.parameters.length) = some 3 := ⟨rfl, by decide +kernel, by decide +kernel, by decide +kernel⟩
theorem kX3_105 : zLkV RX3 105 RX2 yX2_canAsk cX2_canAsk 4 (some .boolean) 3 := zLkV_of (zU_mem 518 (by decide +kernel) (by decide +kernel)) u_iX2_canAsk u_vX2_canAsk u_iniX2 u_cX2_canAsk u_dX2_canAsk
theorem u_cX2_putQuestion : Cond.code yX2_putQuestion cX2_putQuestion 5 (some .int) ∈ zU := zU_mem 466 (by decide +kernel) (by decide +kernel)
theorem u_iX2_putQuestion : Cond.instanceMethod yX2_putQuestion ∈ zU := zU_mem 464 (by decide +kernel) (by decide +kernel)
theorem u_vX2_putQuestion : Cond.selects RX2 yX2_putQuestion yX2_putQuestion ∈ zU := zU_mem 465 (by decide +kernel) (by decide +kernel)
theorem u_dX2_putQuestion : yX2_putQuestion.cls = RX2 ∧ yX2_putQuestion.cls ≠ "java/lang/invoke/MethodHandle" ∧ yX2_putQuestion.cls ≠ "java/lang/invoke/VarHandle" ∧ (parseMethodDescriptor yX2_putQuestion.desc).map (fun d => d.parameters.length) = some 3 := ⟨rfl, by decide +kernel, by decide +kernel, by decide +kernel⟩
theorem kX3_111 : zLkV RX3 111 RX2 yX2_putQuestion cX2_putQuestion 5 (some .int) 3 := zLkV_of (zU_mem 520 (by decide +kernel) (by decide +kernel)) u_iX2_putQuestion u_vX2_putQuestion u_iniX2 u_cX2_putQuestion u_dX2_putQuestion
theorem u_cX2_isAwake : Cond.code yX2_isAwake cX2_isAwake 2 (some .boolean) ∈ zU := zU_mem 279 (by decide +kernel) (by decide +kernel)
theorem u_iX2_isAwake : Cond.instanceMethod yX2_isAwake ∈ zU := zU_mem 277 (by decide +kernel) (by decide +kernel)
theorem u_vX2_isAwake : Cond.selects RX2 yX2_isAwake yX2_isAwake ∈ zU := zU_mem 278 (by decide +kernel) (by decide +kernel)
theorem u_dX2_isAwake : yX2_isAwake.cls = RX2 ∧ yX2_isAwake.cls ≠ "java/lang/invoke/MethodHandle" ∧ yX2_isAwake.cls ≠ "java/lang/invoke/VarHandle" ∧ (parseMethodDescriptor yX2_isAwake.desc).map (fun d => d.parameters.length) = some 1 := ⟨rfl, by decide +kernel, by decide +kernel, by decide +kernel⟩
theorem kX3_114 : zLkV RX3 114 RX2 yX2_isAwake cX2_isAwake 2 (some .boolean) 1 := zLkV_of (zU_mem 346 (by decide +kernel) (by decide +kernel)) u_iX2_isAwake u_vX2_isAwake u_iniX2 u_cX2_isAwake u_dX2_isAwake
theorem u_cX2_silence : Cond.code yX2_silence cX2_silence 4 (some .int) ∈ zU := zU_mem 529 (by decide +kernel) (by decide +kernel)
theorem u_iX2_silence : Cond.instanceMethod yX2_silence ∈ zU := zU_mem 527 (by decide +kernel) (by decide +kernel)
theorem u_vX2_silence : Cond.selects RX2 yX2_silence yX2_silence ∈ zU := zU_mem 528 (by decide +kernel) (by decide +kernel)
theorem u_dX2_silence : yX2_silence.cls = RX2 ∧ yX2_silence.cls ≠ "java/lang/invoke/MethodHandle" ∧ yX2_silence.cls ≠ "java/lang/invoke/VarHandle" ∧ (parseMethodDescriptor yX2_silence.desc).map (fun d => d.parameters.length) = some 1 := ⟨rfl, by decide +kernel, by decide +kernel, by decide +kernel⟩
theorem kX3_119 : zLkV RX3 119 RX2 yX2_silence cX2_silence 4 (some .int) 1 := zLkV_of (zU_mem 526 (by decide +kernel) (by decide +kernel)) u_iX2_silence u_vX2_silence u_iniX2 u_cX2_silence u_dX2_silence
theorem u_cX2_wake : Cond.code yX2_wake cX2_wake 4 (some .int) ∈ zU := zU_mem 538 (by decide +kernel) (by decide +kernel)
theorem u_iX2_wake : Cond.instanceMethod yX2_wake ∈ zU := zU_mem 536 (by decide +kernel) (by decide +kernel)
theorem u_vX2_wake : Cond.selects RX2 yX2_wake yX2_wake ∈ zU := zU_mem 537 (by decide +kernel) (by decide +kernel)
theorem u_dX2_wake : yX2_wake.cls = RX2 ∧ yX2_wake.cls ≠ "java/lang/invoke/MethodHandle" ∧ yX2_wake.cls ≠ "java/lang/invoke/VarHandle" ∧ (parseMethodDescriptor yX2_wake.desc).map (fun d => d.parameters.length) = some 1 := ⟨rfl, by decide +kernel, by decide +kernel, by decide +kernel⟩
theorem kX3_124 : zLkV RX3 124 RX2 yX2_wake cX2_wake 4 (some .int) 1 := zLkV_of (zU_mem 535 (by decide +kernel) (by decide +kernel)) u_iX2_wake u_vX2_wake u_iniX2 u_cX2_wake u_dX2_wake
theorem u_cX2_letPass : Cond.code yX2_letPass cX2_letPass 5 (some .int) ∈ zU := zU_mem 450 (by decide +kernel) (by decide +kernel)
theorem u_iX2_letPass : Cond.instanceMethod yX2_letPass ∈ zU := zU_mem 448 (by decide +kernel) (by decide +kernel)
theorem u_vX2_letPass : Cond.selects RX2 yX2_letPass yX2_letPass ∈ zU := zU_mem 449 (by decide +kernel) (by decide +kernel)
theorem u_dX2_letPass : yX2_letPass.cls = RX2 ∧ yX2_letPass.cls ≠ "java/lang/invoke/MethodHandle" ∧ yX2_letPass.cls ≠ "java/lang/invoke/VarHandle" ∧ (parseMethodDescriptor yX2_letPass.desc).map (fun d => d.parameters.length) = some 1 := ⟨rfl, by decide +kernel, by decide +kernel, by decide +kernel⟩
theorem kX3_129 : zLkV RX3 129 RX2 yX2_letPass cX2_letPass 5 (some .int) 1 := zLkV_of (zU_mem 447 (by decide +kernel) (by decide +kernel)) u_iX2_letPass u_vX2_letPass u_iniX2 u_cX2_letPass u_dX2_letPass
theorem u_cX2_changePatience : Cond.code yX2_changePatience cX2_changePatience 3 (some .int) ∈ zU := zU_mem 400 (by decide +kernel) (by decide +kernel)
theorem u_iX2_changePatience : Cond.instanceMethod yX2_changePatience ∈ zU := zU_mem 398 (by decide +kernel) (by decide +kernel)
theorem u_vX2_changePatience : Cond.selects RX2 yX2_changePatience yX2_changePatience ∈ zU := zU_mem 399 (by decide +kernel) (by decide +kernel)
theorem u_dX2_changePatience : yX2_changePatience.cls = RX2 ∧ yX2_changePatience.cls ≠ "java/lang/invoke/MethodHandle" ∧ yX2_changePatience.cls ≠ "java/lang/invoke/VarHandle" ∧ (parseMethodDescriptor yX2_changePatience.desc).map (fun d => d.parameters.length) = some 1 := ⟨rfl, by decide +kernel, by decide +kernel, by decide +kernel⟩
theorem kX3_134 : zLkV RX3 134 RX2 yX2_changePatience cX2_changePatience 3 (some .int) 1 := zLkV_of (zU_mem 397 (by decide +kernel) (by decide +kernel)) u_iX2_changePatience u_vX2_changePatience u_iniX2 u_cX2_changePatience u_dX2_changePatience
theorem u_cX2_dealCount : Cond.code yX2_dealCount cX2_dealCount 1 (some .int) ∈ zU := zU_mem 126 (by decide +kernel) (by decide +kernel)
theorem u_iX2_dealCount : Cond.instanceMethod yX2_dealCount ∈ zU := zU_mem 124 (by decide +kernel) (by decide +kernel)
theorem u_vX2_dealCount : Cond.selects RX2 yX2_dealCount yX2_dealCount ∈ zU := zU_mem 125 (by decide +kernel) (by decide +kernel)
theorem u_dX2_dealCount : yX2_dealCount.cls = RX2 ∧ yX2_dealCount.cls ≠ "java/lang/invoke/MethodHandle" ∧ yX2_dealCount.cls ≠ "java/lang/invoke/VarHandle" ∧ (parseMethodDescriptor yX2_dealCount.desc).map (fun d => d.parameters.length) = some 0 := ⟨rfl, by decide +kernel, by decide +kernel, by decide +kernel⟩
theorem kX3_137 : zLkV RX3 137 RX2 yX2_dealCount cX2_dealCount 1 (some .int) 0 := zLkV_of (zU_mem 123 (by decide +kernel) (by decide +kernel)) u_iX2_dealCount u_vX2_dealCount u_iniX2 u_cX2_dealCount u_dX2_dealCount
theorem u_cX2_stateOf : Cond.code yX2_stateOf cX2_stateOf 4 (some .int) ∈ zU := zU_mem 245 (by decide +kernel) (by decide +kernel)
theorem u_iX2_stateOf : Cond.instanceMethod yX2_stateOf ∈ zU := zU_mem 243 (by decide +kernel) (by decide +kernel)
theorem u_vX2_stateOf : Cond.selects RX2 yX2_stateOf yX2_stateOf ∈ zU := zU_mem 244 (by decide +kernel) (by decide +kernel)
theorem u_dX2_stateOf : yX2_stateOf.cls = RX2 ∧ yX2_stateOf.cls ≠ "java/lang/invoke/MethodHandle" ∧ yX2_stateOf.cls ≠ "java/lang/invoke/VarHandle" ∧ (parseMethodDescriptor yX2_stateOf.desc).map (fun d => d.parameters.length) = some 2 := ⟨rfl, by decide +kernel, by decide +kernel, by decide +kernel⟩
theorem kX3_141 : zLkV RX3 141 RX2 yX2_stateOf cX2_stateOf 4 (some .int) 2 := zLkV_of (zU_mem 415 (by decide +kernel) (by decide +kernel)) u_iX2_stateOf u_vX2_stateOf u_iniX2 u_cX2_stateOf u_dX2_stateOf
theorem u_cX2_decisionOf : Cond.code yX2_decisionOf cX2_decisionOf 2 (some .int) ∈ zU := zU_mem 306 (by decide +kernel) (by decide +kernel)
theorem u_iX2_decisionOf : Cond.instanceMethod yX2_decisionOf ∈ zU := zU_mem 304 (by decide +kernel) (by decide +kernel)
theorem u_vX2_decisionOf : Cond.selects RX2 yX2_decisionOf yX2_decisionOf ∈ zU := zU_mem 305 (by decide +kernel) (by decide +kernel)
theorem u_dX2_decisionOf : yX2_decisionOf.cls = RX2 ∧ yX2_decisionOf.cls ≠ "java/lang/invoke/MethodHandle" ∧ yX2_decisionOf.cls ≠ "java/lang/invoke/VarHandle" ∧ (parseMethodDescriptor yX2_decisionOf.desc).map (fun d => d.parameters.length) = some 1 := ⟨rfl, by decide +kernel, by decide +kernel, by decide +kernel⟩
theorem kX3_144 : zLkV RX3 144 RX2 yX2_decisionOf cX2_decisionOf 2 (some .int) 1 := zLkV_of (zU_mem 480 (by decide +kernel) (by decide +kernel)) u_iX2_decisionOf u_vX2_decisionOf u_iniX2 u_cX2_decisionOf u_dX2_decisionOf
theorem u_cX2_leaderOf : Cond.code yX2_leaderOf cX2_leaderOf 2 (some .int) ∈ zU := zU_mem 261 (by decide +kernel) (by decide +kernel)
theorem u_iX2_leaderOf : Cond.instanceMethod yX2_leaderOf ∈ zU := zU_mem 259 (by decide +kernel) (by decide +kernel)
theorem u_vX2_leaderOf : Cond.selects RX2 yX2_leaderOf yX2_leaderOf ∈ zU := zU_mem 260 (by decide +kernel) (by decide +kernel)
theorem u_dX2_leaderOf : yX2_leaderOf.cls = RX2 ∧ yX2_leaderOf.cls ≠ "java/lang/invoke/MethodHandle" ∧ yX2_leaderOf.cls ≠ "java/lang/invoke/VarHandle" ∧ (parseMethodDescriptor yX2_leaderOf.desc).map (fun d => d.parameters.length) = some 1 := ⟨rfl, by decide +kernel, by decide +kernel, by decide +kernel⟩
theorem kX3_147 : zLkV RX3 147 RX2 yX2_leaderOf cX2_leaderOf 2 (some .int) 1 := zLkV_of (zU_mem 475 (by decide +kernel) (by decide +kernel)) u_iX2_leaderOf u_vX2_leaderOf u_iniX2 u_cX2_leaderOf u_dX2_leaderOf
theorem u_cX2_patienceOf : Cond.code yX2_patienceOf cX2_patienceOf 3 (some .int) ∈ zU := zU_mem 310 (by decide +kernel) (by decide +kernel)
theorem u_iX2_patienceOf : Cond.instanceMethod yX2_patienceOf ∈ zU := zU_mem 308 (by decide +kernel) (by decide +kernel)
theorem u_vX2_patienceOf : Cond.selects RX2 yX2_patienceOf yX2_patienceOf ∈ zU := zU_mem 309 (by decide +kernel) (by decide +kernel)
theorem u_dX2_patienceOf : yX2_patienceOf.cls = RX2 ∧ yX2_patienceOf.cls ≠ "java/lang/invoke/MethodHandle" ∧ yX2_patienceOf.cls ≠ "java/lang/invoke/VarHandle" ∧ (parseMethodDescriptor yX2_patienceOf.desc).map (fun d => d.parameters.length) = some 2 := ⟨rfl, by decide +kernel, by decide +kernel, by decide +kernel⟩
theorem kX3_150 : zLkV RX3 150 RX2 yX2_patienceOf cX2_patienceOf 3 (some .int) 2 := zLkV_of (zU_mem 554 (by decide +kernel) (by decide +kernel)) u_iX2_patienceOf u_vX2_patienceOf u_iniX2 u_cX2_patienceOf u_dX2_patienceOf
theorem u_cX2_countOpen : Cond.code yX2_countOpen cX2_countOpen 3 (some .int) ∈ zU := zU_mem 237 (by decide +kernel) (by decide +kernel)
theorem u_iX2_countOpen : Cond.instanceMethod yX2_countOpen ∈ zU := zU_mem 235 (by decide +kernel) (by decide +kernel)
theorem u_vX2_countOpen : Cond.selects RX2 yX2_countOpen yX2_countOpen ∈ zU := zU_mem 236 (by decide +kernel) (by decide +kernel)
theorem u_dX2_countOpen : yX2_countOpen.cls = RX2 ∧ yX2_countOpen.cls ≠ "java/lang/invoke/MethodHandle" ∧ yX2_countOpen.cls ≠ "java/lang/invoke/VarHandle" ∧ (parseMethodDescriptor yX2_countOpen.desc).map (fun d => d.parameters.length) = some 0 := ⟨rfl, by decide +kernel, by decide +kernel, by decide +kernel⟩
theorem kX3_153 : zLkV RX3 153 RX2 yX2_countOpen cX2_countOpen 3 (some .int) 0 := zLkV_of (zU_mem 578 (by decide +kernel) (by decide +kernel)) u_iX2_countOpen u_vX2_countOpen u_iniX2 u_cX2_countOpen u_dX2_countOpen
theorem u_cX2_countStuck : Cond.code yX2_countStuck cX2_countStuck 3 (some .int) ∈ zU := zU_mem 249 (by decide +kernel) (by decide +kernel)
theorem u_iX2_countStuck : Cond.instanceMethod yX2_countStuck ∈ zU := zU_mem 247 (by decide +kernel) (by decide +kernel)
theorem u_vX2_countStuck : Cond.selects RX2 yX2_countStuck yX2_countStuck ∈ zU := zU_mem 248 (by decide +kernel) (by decide +kernel)
theorem u_dX2_countStuck : yX2_countStuck.cls = RX2 ∧ yX2_countStuck.cls ≠ "java/lang/invoke/MethodHandle" ∧ yX2_countStuck.cls ≠ "java/lang/invoke/VarHandle" ∧ (parseMethodDescriptor yX2_countStuck.desc).map (fun d => d.parameters.length) = some 0 := ⟨rfl, by decide +kernel, by decide +kernel, by decide +kernel⟩
theorem kX3_156 : zLkV RX3 156 RX2 yX2_countStuck cX2_countStuck 3 (some .int) 0 := zLkV_of (zU_mem 583 (by decide +kernel) (by decide +kernel)) u_iX2_countStuck u_vX2_countStuck u_iniX2 u_cX2_countStuck u_dX2_countStuck
theorem u_cX2_entriesOf : Cond.code yX2_entriesOf cX2_entriesOf 2 (some .int) ∈ zU := zU_mem 291 (by decide +kernel) (by decide +kernel)
theorem u_iX2_entriesOf : Cond.instanceMethod yX2_entriesOf ∈ zU := zU_mem 289 (by decide +kernel) (by decide +kernel)
theorem u_vX2_entriesOf : Cond.selects RX2 yX2_entriesOf yX2_entriesOf ∈ zU := zU_mem 290 (by decide +kernel) (by decide +kernel)
theorem u_dX2_entriesOf : yX2_entriesOf.cls = RX2 ∧ yX2_entriesOf.cls ≠ "java/lang/invoke/MethodHandle" ∧ yX2_entriesOf.cls ≠ "java/lang/invoke/VarHandle" ∧ (parseMethodDescriptor yX2_entriesOf.desc).map (fun d => d.parameters.length) = some 1 := ⟨rfl, by decide +kernel, by decide +kernel, by decide +kernel⟩
theorem kX3_159 : zLkV RX3 159 RX2 yX2_entriesOf cX2_entriesOf 2 (some .int) 1 := zLkV_of (zU_mem 567 (by decide +kernel) (by decide +kernel)) u_iX2_entriesOf u_vX2_entriesOf u_iniX2 u_cX2_entriesOf u_dX2_entriesOf
theorem u_cX2_entryAt : Cond.code yX2_entryAt cX2_entryAt 3 (some .int) ∈ zU := zU_mem 298 (by decide +kernel) (by decide +kernel)
theorem u_iX2_entryAt : Cond.instanceMethod yX2_entryAt ∈ zU := zU_mem 296 (by decide +kernel) (by decide +kernel)
theorem u_vX2_entryAt : Cond.selects RX2 yX2_entryAt yX2_entryAt ∈ zU := zU_mem 297 (by decide +kernel) (by decide +kernel)
theorem u_dX2_entryAt : yX2_entryAt.cls = RX2 ∧ yX2_entryAt.cls ≠ "java/lang/invoke/MethodHandle" ∧ yX2_entryAt.cls ≠ "java/lang/invoke/VarHandle" ∧ (parseMethodDescriptor yX2_entryAt.desc).map (fun d => d.parameters.length) = some 2 := ⟨rfl, by decide +kernel, by decide +kernel, by decide +kernel⟩
theorem kX3_167 : zLkV RX3 167 RX2 yX2_entryAt cX2_entryAt 3 (some .int) 2 := zLkV_of (zU_mem 573 (by decide +kernel) (by decide +kernel)) u_iX2_entryAt u_vX2_entryAt u_iniX2 u_cX2_entryAt u_dX2_entryAt
theorem u_cX2_itemsHeldBy : Cond.code yX2_itemsHeldBy cX2_itemsHeldBy 4 (some .int) ∈ zU := zU_mem 287 (by decide +kernel) (by decide +kernel)
theorem u_iX2_itemsHeldBy : Cond.instanceMethod yX2_itemsHeldBy ∈ zU := zU_mem 285 (by decide +kernel) (by decide +kernel)
theorem u_vX2_itemsHeldBy : Cond.selects RX2 yX2_itemsHeldBy yX2_itemsHeldBy ∈ zU := zU_mem 286 (by decide +kernel) (by decide +kernel)
theorem u_dX2_itemsHeldBy : yX2_itemsHeldBy.cls = RX2 ∧ yX2_itemsHeldBy.cls ≠ "java/lang/invoke/MethodHandle" ∧ yX2_itemsHeldBy.cls ≠ "java/lang/invoke/VarHandle" ∧ (parseMethodDescriptor yX2_itemsHeldBy.desc).map (fun d => d.parameters.length) = some 1 := ⟨rfl, by decide +kernel, by decide +kernel, by decide +kernel⟩
theorem kX3_170 : zLkV RX3 170 RX2 yX2_itemsHeldBy cX2_itemsHeldBy 4 (some .int) 1 := zLkV_of (zU_mem 559 (by decide +kernel) (by decide +kernel)) u_iX2_itemsHeldBy u_vX2_itemsHeldBy u_iniX2 u_cX2_itemsHeldBy u_dX2_itemsHeldBy
theorem u_cX2_countMembers : Cond.code yX2_countMembers cX2_countMembers 1 (some .int) ∈ zU := zU_mem 591 (by decide +kernel) (by decide +kernel)
theorem u_iX2_countMembers : Cond.instanceMethod yX2_countMembers ∈ zU := zU_mem 589 (by decide +kernel) (by decide +kernel)
theorem u_vX2_countMembers : Cond.selects RX2 yX2_countMembers yX2_countMembers ∈ zU := zU_mem 590 (by decide +kernel) (by decide +kernel)
theorem u_dX2_countMembers : yX2_countMembers.cls = RX2 ∧ yX2_countMembers.cls ≠ "java/lang/invoke/MethodHandle" ∧ yX2_countMembers.cls ≠ "java/lang/invoke/VarHandle" ∧ (parseMethodDescriptor yX2_countMembers.desc).map (fun d => d.parameters.length) = some 0 := ⟨rfl, by decide +kernel, by decide +kernel, by decide +kernel⟩
theorem kX3_176 : zLkV RX3 176 RX2 yX2_countMembers cX2_countMembers 1 (some .int) 0 := zLkV_of (zU_mem 588 (by decide +kernel) (by decide +kernel)) u_iX2_countMembers u_vX2_countMembers u_iniX2 u_cX2_countMembers u_dX2_countMembers
theorem u_cX2_countInState : Cond.code yX2_countInState cX2_countInState 5 (some .int) ∈ zU := zU_mem 454 (by decide +kernel) (by decide +kernel)
theorem u_iX2_countInState : Cond.instanceMethod yX2_countInState ∈ zU := zU_mem 452 (by decide +kernel) (by decide +kernel)
theorem u_vX2_countInState : Cond.selects RX2 yX2_countInState yX2_countInState ∈ zU := zU_mem 453 (by decide +kernel) (by decide +kernel)
theorem u_dX2_countInState : yX2_countInState.cls = RX2 ∧ yX2_countInState.cls ≠ "java/lang/invoke/MethodHandle" ∧ yX2_countInState.cls ≠ "java/lang/invoke/VarHandle" ∧ (parseMethodDescriptor yX2_countInState.desc).map (fun d => d.parameters.length) = some 1 := ⟨rfl, by decide +kernel, by decide +kernel, by decide +kernel⟩
theorem kX3_179 : zLkV RX3 179 RX2 yX2_countInState cX2_countInState 5 (some .int) 1 := zLkV_of (zU_mem 592 (by decide +kernel) (by decide +kernel)) u_iX2_countInState u_vX2_countInState u_iniX2 u_cX2_countInState u_dX2_countInState
theorem u_cX2_reasonAgainstYes : Cond.code yX2_reasonAgainstYes cX2_reasonAgainstYes 4 (some .int) ∈ zU := zU_mem 603 (by decide +kernel) (by decide +kernel)
theorem u_iX2_reasonAgainstYes : Cond.instanceMethod yX2_reasonAgainstYes ∈ zU := zU_mem 601 (by decide +kernel) (by decide +kernel)
theorem u_vX2_reasonAgainstYes : Cond.selects RX2 yX2_reasonAgainstYes yX2_reasonAgainstYes ∈ zU := zU_mem 602 (by decide +kernel) (by decide +kernel)
theorem u_dX2_reasonAgainstYes : yX2_reasonAgainstYes.cls = RX2 ∧ yX2_reasonAgainstYes.cls ≠ "java/lang/invoke/MethodHandle" ∧ yX2_reasonAgainstYes.cls ≠ "java/lang/invoke/VarHandle" ∧ (parseMethodDescriptor yX2_reasonAgainstYes.desc).map (fun d => d.parameters.length) = some 2 := ⟨rfl, by decide +kernel, by decide +kernel, by decide +kernel⟩
theorem kX3_182 : zLkV RX3 182 RX2 yX2_reasonAgainstYes cX2_reasonAgainstYes 4 (some .int) 2 := zLkV_of (zU_mem 600 (by decide +kernel) (by decide +kernel)) u_iX2_reasonAgainstYes u_vX2_reasonAgainstYes u_iniX2 u_cX2_reasonAgainstYes u_dX2_reasonAgainstYes
theorem u_cX2_helperFor : Cond.code yX2_helperFor cX2_helperFor 6 (some .int) ∈ zU := zU_mem 257 (by decide +kernel) (by decide +kernel)
theorem u_iX2_helperFor : Cond.instanceMethod yX2_helperFor ∈ zU := zU_mem 255 (by decide +kernel) (by decide +kernel)
theorem u_vX2_helperFor : Cond.selects RX2 yX2_helperFor yX2_helperFor ∈ zU := zU_mem 256 (by decide +kernel) (by decide +kernel)
theorem u_dX2_helperFor : yX2_helperFor.cls = RX2 ∧ yX2_helperFor.cls ≠ "java/lang/invoke/MethodHandle" ∧ yX2_helperFor.cls ≠ "java/lang/invoke/VarHandle" ∧ (parseMethodDescriptor yX2_helperFor.desc).map (fun d => d.parameters.length) = some 2 := ⟨rfl, by decide +kernel, by decide +kernel, by decide +kernel⟩
theorem kX3_185 : zLkV RX3 185 RX2 yX2_helperFor cX2_helperFor 6 (some .int) 2 := zLkV_of (zU_mem 549 (by decide +kernel) (by decide +kernel)) u_iX2_helperFor u_vX2_helperFor u_iniX2 u_cX2_helperFor u_dX2_helperFor
theorem u_cX2_copyFrom : Cond.code yX2_copyFrom cX2_copyFrom 2 none ∈ zU := zU_mem 210 (by decide +kernel) (by decide +kernel)
theorem u_iX2_copyFrom : Cond.instanceMethod yX2_copyFrom ∈ zU := zU_mem 208 (by decide +kernel) (by decide +kernel)
theorem u_vX2_copyFrom : Cond.selects RX2 yX2_copyFrom yX2_copyFrom ∈ zU := zU_mem 209 (by decide +kernel) (by decide +kernel)
theorem u_dX2_copyFrom : yX2_copyFrom.cls = RX2 ∧ yX2_copyFrom.cls ≠ "java/lang/invoke/MethodHandle" ∧ yX2_copyFrom.cls ≠ "java/lang/invoke/VarHandle" ∧ (parseMethodDescriptor yX2_copyFrom.desc).map (fun d => d.parameters.length) = some 1 := ⟨rfl, by decide +kernel, by decide +kernel, by decide +kernel⟩
theorem kX3_188 : zLkV RX3 188 RX2 yX2_copyFrom cX2_copyFrom 2 none 1 := zLkV_of (zU_mem 608 (by decide +kernel) (by decide +kernel)) u_iX2_copyFrom u_vX2_copyFrom u_iniX2 u_cX2_copyFrom u_dX2_copyFrom
theorem u_cX2_hasEnded : Cond.code yX2_hasEnded cX2_hasEnded 3 (some .boolean) ∈ zU := zU_mem 612 (by decide +kernel) (by decide +kernel)
theorem u_iX2_hasEnded : Cond.instanceMethod yX2_hasEnded ∈ zU := zU_mem 610 (by decide +kernel) (by decide +kernel)
theorem u_vX2_hasEnded : Cond.selects RX2 yX2_hasEnded yX2_hasEnded ∈ zU := zU_mem 611 (by decide +kernel) (by decide +kernel)
theorem u_dX2_hasEnded : yX2_hasEnded.cls = RX2 ∧ yX2_hasEnded.cls ≠ "java/lang/invoke/MethodHandle" ∧ yX2_hasEnded.cls ≠ "java/lang/invoke/VarHandle" ∧ (parseMethodDescriptor yX2_hasEnded.desc).map (fun d => d.parameters.length) = some 2 := ⟨rfl, by decide +kernel, by decide +kernel, by decide +kernel⟩
theorem kX3_191 : zLkV RX3 191 RX2 yX2_hasEnded cX2_hasEnded 3 (some .boolean) 2 := zLkV_of (zU_mem 609 (by decide +kernel) (by decide +kernel)) u_iX2_hasEnded u_vX2_hasEnded u_iniX2 u_cX2_hasEnded u_dX2_hasEnded
theorem u_cX2_tickDeal : Cond.code yX2_tickDeal cX2_tickDeal 4 none ∈ zU := zU_mem 458 (by decide +kernel) (by decide +kernel)
theorem u_iX2_tickDeal : Cond.instanceMethod yX2_tickDeal ∈ zU := zU_mem 456 (by decide +kernel) (by decide +kernel)
theorem u_vX2_tickDeal : Cond.selects RX2 yX2_tickDeal yX2_tickDeal ∈ zU := zU_mem 457 (by decide +kernel) (by decide +kernel)
theorem u_dX2_tickDeal : yX2_tickDeal.cls = RX2 ∧ yX2_tickDeal.cls ≠ "java/lang/invoke/MethodHandle" ∧ yX2_tickDeal.cls ≠ "java/lang/invoke/VarHandle" ∧ (parseMethodDescriptor yX2_tickDeal.desc).map (fun d => d.parameters.length) = some 1 := ⟨rfl, by decide +kernel, by decide +kernel, by decide +kernel⟩
theorem kX3_194 : zLkV RX3 194 RX2 yX2_tickDeal cX2_tickDeal 4 none 1 := zLkV_of (zU_mem 613 (by decide +kernel) (by decide +kernel)) u_iX2_tickDeal u_vX2_tickDeal u_iniX2 u_cX2_tickDeal u_dX2_tickDeal
theorem u_cX1_size : Cond.code yX1_size cX1_size 1 (some .int) ∈ zU := zU_mem 134 (by decide +kernel) (by decide +kernel)
theorem u_iX1_size : Cond.instanceMethod yX1_size ∈ zU := zU_mem 132 (by decide +kernel) (by decide +kernel)
theorem u_vX1_size : Cond.selects RX1 yX1_size yX1_size ∈ zU := zU_mem 133 (by decide +kernel) (by decide +kernel)
theorem u_dX1_size : yX1_size.cls = RX1 ∧ yX1_size.cls ≠ "java/lang/invoke/MethodHandle" ∧ yX1_size.cls ≠ "java/lang/invoke/VarHandle" ∧ (parseMethodDescriptor yX1_size.desc).map (fun d => d.parameters.length) = some 0 := ⟨rfl, by decide +kernel, by decide +kernel, by decide +kernel⟩
theorem kX3_228 : zLkV RX3 228 RX1 yX1_size cX1_size 1 (some .int) 0 := zLkV_of (zU_mem 131 (by decide +kernel) (by decide +kernel)) u_iX1_size u_vX1_size u_iniX1 u_cX1_size u_dX1_size
theorem u_cX1_restore : Cond.code yX1_restore cX1_restore 3 none ∈ zU := zU_mem 206 (by decide +kernel) (by decide +kernel)
theorem u_iX1_restore : Cond.instanceMethod yX1_restore ∈ zU := zU_mem 204 (by decide +kernel) (by decide +kernel)
theorem u_vX1_restore : Cond.selects RX1 yX1_restore yX1_restore ∈ zU := zU_mem 205 (by decide +kernel) (by decide +kernel)
theorem u_dX1_restore : yX1_restore.cls = RX1 ∧ yX1_restore.cls ≠ "java/lang/invoke/MethodHandle" ∧ yX1_restore.cls ≠ "java/lang/invoke/VarHandle" ∧ (parseMethodDescriptor yX1_restore.desc).map (fun d => d.parameters.length) = some 1 := ⟨rfl, by decide +kernel, by decide +kernel, by decide +kernel⟩
theorem kX3_231 : zLkV RX3 231 RX1 yX1_restore cX1_restore 3 none 1 := zLkV_of (zU_mem 203 (by decide +kernel) (by decide +kernel)) u_iX1_restore u_vX1_restore u_iniX1 u_cX1_restore u_dX1_restore
theorem u_cX2_hash : Cond.code yX2_hash cX2_hash 4 (some .long) ∈ zU := zU_mem 231 (by decide +kernel) (by decide +kernel)
theorem u_iX2_hash : Cond.instanceMethod yX2_hash ∈ zU := zU_mem 229 (by decide +kernel) (by decide +kernel)
theorem u_vX2_hash : Cond.selects RX2 yX2_hash yX2_hash ∈ zU := zU_mem 230 (by decide +kernel) (by decide +kernel)
theorem u_dX2_hash : yX2_hash.cls = RX2 ∧ yX2_hash.cls ≠ "java/lang/invoke/MethodHandle" ∧ yX2_hash.cls ≠ "java/lang/invoke/VarHandle" ∧ (parseMethodDescriptor yX2_hash.desc).map (fun d => d.parameters.length) = some 0 := ⟨rfl, by decide +kernel, by decide +kernel, by decide +kernel⟩
theorem kX3_234 : zLkV RX3 234 RX2 yX2_hash cX2_hash 4 (some .long) 0 := zLkV_of (zU_mem 228 (by decide +kernel) (by decide +kernel)) u_iX2_hash u_vX2_hash u_iniX2 u_cX2_hash u_dX2_hash
theorem u_cX2_hasDeal : Cond.code yX2_hasDeal cX2_hasDeal 2 (some .boolean) ∈ zU := zU_mem 265 (by decide +kernel) (by decide +kernel)
theorem u_iX2_hasDeal : Cond.instanceMethod yX2_hasDeal ∈ zU := zU_mem 263 (by decide +kernel) (by decide +kernel)
theorem u_vX2_hasDeal : Cond.selects RX2 yX2_hasDeal yX2_hasDeal ∈ zU := zU_mem 264 (by decide +kernel) (by decide +kernel)
theorem u_dX2_hasDeal : yX2_hasDeal.cls = RX2 ∧ yX2_hasDeal.cls ≠ "java/lang/invoke/MethodHandle" ∧ yX2_hasDeal.cls ≠ "java/lang/invoke/VarHandle" ∧ (parseMethodDescriptor yX2_hasDeal.desc).map (fun d => d.parameters.length) = some 1 := ⟨rfl, by decide +kernel, by decide +kernel, by decide +kernel⟩
theorem kX3_247 : zLkV RX3 247 RX2 yX2_hasDeal cX2_hasDeal 2 (some .boolean) 1 := zLkV_of (zU_mem 413 (by decide +kernel) (by decide +kernel)) u_iX2_hasDeal u_vX2_hasDeal u_iniX2 u_cX2_hasDeal u_dX2_hasDeal
theorem u_cX3_isSite : Cond.code yX3_isSite cX3_isSite 1 (some .boolean) ∈ zU := zU_mem 294 (by decide +kernel) (by decide +kernel)
theorem u_sX3_isSite : Cond.static yX3_isSite ∈ zU := zU_mem 293 (by decide +kernel) (by decide +kernel)
theorem u_dX3_isSite : yX3_isSite.cls = RX3 ∧ yX3_isSite.cls ≠ "java/lang/invoke/MethodHandle" ∧ yX3_isSite.cls ≠ "java/lang/invoke/VarHandle" ∧ (parseMethodDescriptor yX3_isSite.desc).map (fun d => d.parameters.length) = some 1 := ⟨rfl, by decide +kernel, by decide +kernel, by decide +kernel⟩
theorem kX3_252 : zLkS RX3 252 yX3_isSite cX3_isSite 1 (some .boolean) 1 := zLkS_of (zU_mem 329 (by decide +kernel) (by decide +kernel)) u_sX3_isSite u_iniX3 u_cX3_isSite u_dX3_isSite
theorem u_cX1_discardOldest : Cond.code yX1_discardOldest cX1_discardOldest 3 none ∈ zU := zU_mem 386 (by decide +kernel) (by decide +kernel)
theorem u_iX1_discardOldest : Cond.instanceMethod yX1_discardOldest ∈ zU := zU_mem 385 (by decide +kernel) (by decide +kernel)
theorem u_vX1_discardOldest : Cond.selects RX1 yX1_discardOldest yX1_discardOldest ∈ zU := zU_mem 5 (by decide +kernel) (by decide +kernel)
theorem u_dX1_discardOldest : yX1_discardOldest.cls = RX1 ∧ yX1_discardOldest.cls ≠ "java/lang/invoke/MethodHandle" ∧ yX1_discardOldest.cls ≠ "java/lang/invoke/VarHandle" ∧ (parseMethodDescriptor yX1_discardOldest.desc).map (fun d => d.parameters.length) = some 0 := ⟨rfl, by decide +kernel, by decide +kernel, by decide +kernel⟩
theorem kX1_22 : zLkV RX1 22 RX1 yX1_discardOldest cX1_discardOldest 3 none 0 := zLkV_of (zU_mem 383 (by decide +kernel) (by decide +kernel)) u_iX1_discardOldest u_vX1_discardOldest u_iniX1 u_cX1_discardOldest u_dX1_discardOldest
theorem kX1_25 : zLkV RX1 25 RX2 yX2_copyFrom cX2_copyFrom 2 none 1 := zLkV_of (zU_mem 207 (by decide +kernel) (by decide +kernel)) u_iX2_copyFrom u_vX2_copyFrom u_iniX2 u_cX2_copyFrom u_dX2_copyFrom
theorem u_cX2_copyRow : Cond.code yX2_copyRow cX2_copyRow 2 none ∈ zU := zU_mem 213 (by decide +kernel) (by decide +kernel)
theorem u_sX2_copyRow : Cond.static yX2_copyRow ∈ zU := zU_mem 212 (by decide +kernel) (by decide +kernel)
theorem u_dX2_copyRow : yX2_copyRow.cls = RX2 ∧ yX2_copyRow.cls ≠ "java/lang/invoke/MethodHandle" ∧ yX2_copyRow.cls ≠ "java/lang/invoke/VarHandle" ∧ (parseMethodDescriptor yX2_copyRow.desc).map (fun d => d.parameters.length) = some 2 := ⟨rfl, by decide +kernel, by decide +kernel, by decide +kernel⟩
theorem kX2_46 : zLkS RX2 46 yX2_copyRow cX2_copyRow 2 none 2 := zLkS_of (zU_mem 211 (by decide +kernel) (by decide +kernel)) u_sX2_copyRow u_iniX2 u_cX2_copyRow u_dX2_copyRow
theorem u_cJ9_min_7cf53 : Cond.code yJ9_min_7cf53 cJ9_min_7cf53 2 (some .int) ∈ zU := zU_mem 216 (by decide +kernel) (by decide +kernel)
theorem u_sJ9_min_7cf53 : Cond.static yJ9_min_7cf53 ∈ zU := zU_mem 215 (by decide +kernel) (by decide +kernel)
theorem u_dJ9_min_7cf53 : yJ9_min_7cf53.cls = RJ9 ∧ yJ9_min_7cf53.cls ≠ "java/lang/invoke/MethodHandle" ∧ yJ9_min_7cf53.cls ≠ "java/lang/invoke/VarHandle" ∧ (parseMethodDescriptor yJ9_min_7cf53.desc).map (fun d => d.parameters.length) = some 2 := ⟨rfl, by decide +kernel, by decide +kernel, by decide +kernel⟩
theorem kX2_62 : zLkV RX2 62 RX2 yX2_hasDeal cX2_hasDeal 2 (some .boolean) 1 := zLkV_of (zU_mem 262 (by decide +kernel) (by decide +kernel)) u_iX2_hasDeal u_vX2_hasDeal u_iniX2 u_cX2_hasDeal u_dX2_hasDeal
theorem kX2_66 : zLkV RX2 66 RX2 yX2_stateOf cX2_stateOf 4 (some .int) 2 := zLkV_of (zU_mem 242 (by decide +kernel) (by decide +kernel)) u_iX2_stateOf u_vX2_stateOf u_iniX2 u_cX2_stateOf u_dX2_stateOf
theorem u_cX2_isEnd : Cond.code yX2_isEnd cX2_isEnd 1 (some .boolean) ∈ zU := zU_mem 271 (by decide +kernel) (by decide +kernel)
theorem u_sX2_isEnd : Cond.static yX2_isEnd ∈ zU := zU_mem 270 (by decide +kernel) (by decide +kernel)
theorem u_dX2_isEnd : yX2_isEnd.cls = RX2 ∧ yX2_isEnd.cls ≠ "java/lang/invoke/MethodHandle" ∧ yX2_isEnd.cls ≠ "java/lang/invoke/VarHandle" ∧ (parseMethodDescriptor yX2_isEnd.desc).map (fun d => d.parameters.length) = some 1 := ⟨rfl, by decide +kernel, by decide +kernel, by decide +kernel⟩
theorem kX2_69 : zLkS RX2 69 yX2_isEnd cX2_isEnd 1 (some .boolean) 1 := zLkS_of (zU_mem 269 (by decide +kernel) (by decide +kernel)) u_sX2_isEnd u_iniX2 u_cX2_isEnd u_dX2_isEnd
theorem kX2_75 : zLkV RX2 75 RX2 yX2_entriesOf cX2_entriesOf 2 (some .int) 1 := zLkV_of (zU_mem 288 (by decide +kernel) (by decide +kernel)) u_iX2_entriesOf u_vX2_entriesOf u_iniX2 u_cX2_entriesOf u_dX2_entriesOf
theorem kX2_79 : zLkV RX2 79 RX2 yX2_isAwake cX2_isAwake 2 (some .boolean) 1 := zLkV_of (zU_mem 276 (by decide +kernel) (by decide +kernel)) u_iX2_isAwake u_vX2_isAwake u_iniX2 u_cX2_isAwake u_dX2_isAwake
theorem kX2_82 : zLkV RX2 82 RX2 yX2_leaderOf cX2_leaderOf 2 (some .int) 1 := zLkV_of (zU_mem 258 (by decide +kernel) (by decide +kernel)) u_iX2_leaderOf u_vX2_leaderOf u_iniX2 u_cX2_leaderOf u_dX2_leaderOf
theorem kX2_85 : zLkV RX2 85 RX2 yX2_decisionOf cX2_decisionOf 2 (some .int) 1 := zLkV_of (zU_mem 303 (by decide +kernel) (by decide +kernel)) u_iX2_decisionOf u_vX2_decisionOf u_iniX2 u_cX2_decisionOf u_dX2_decisionOf
theorem kX2_88 : zLkV RX2 88 RX2 yX2_canBegin cX2_canBegin 4 (some .boolean) 2 := zLkV_of (zU_mem 391 (by decide +kernel) (by decide +kernel)) u_iX2_canBegin u_vX2_canBegin u_iniX2 u_cX2_canBegin u_dX2_canBegin
theorem kX2_92 : zLkV RX2 92 RX2 yX2_canVote cX2_canVote 3 (some .boolean) 2 := zLkV_of (zU_mem 429 (by decide +kernel) (by decide +kernel)) u_iX2_canVote u_vX2_canVote u_iniX2 u_cX2_canVote u_dX2_canVote
theorem u_cX2_holdsForAnother : Cond.code yX2_holdsForAnother cX2_holdsForAnother 4 (some .boolean) ∈ zU := zU_mem 433 (by decide +kernel) (by decide +kernel)
theorem u_iX2_holdsForAnother : Cond.instanceMethod yX2_holdsForAnother ∈ zU := zU_mem 432 (by decide +kernel) (by decide +kernel)
theorem u_vX2_holdsForAnother : Cond.selects RX2 yX2_holdsForAnother yX2_holdsForAnother ∈ zU := zU_mem 8 (by decide +kernel) (by decide +kernel)
theorem u_dX2_holdsForAnother : yX2_holdsForAnother.cls = RX2 ∧ yX2_holdsForAnother.cls ≠ "java/lang/invoke/MethodHandle" ∧ yX2_holdsForAnother.cls ≠ "java/lang/invoke/VarHandle" ∧ (parseMethodDescriptor yX2_holdsForAnother.desc).map (fun d => d.parameters.length) = some 2 := ⟨rfl, by decide +kernel, by decide +kernel, by decide +kernel⟩
theorem kX2_95 : zLkV RX2 95 RX2 yX2_holdsForAnother cX2_holdsForAnother 4 (some .boolean) 2 := zLkV_of (zU_mem 430 (by decide +kernel) (by decide +kernel)) u_iX2_holdsForAnother u_vX2_holdsForAnother u_iniX2 u_cX2_holdsForAnother u_dX2_holdsForAnother
theorem u_cX2_enter : Cond.code yX2_enter cX2_enter 4 none ∈ zU := zU_mem 437 (by decide +kernel) (by decide +kernel)
theorem u_iX2_enter : Cond.instanceMethod yX2_enter ∈ zU := zU_mem 436 (by decide +kernel) (by decide +kernel)
theorem u_vX2_enter : Cond.selects RX2 yX2_enter yX2_enter ∈ zU := zU_mem 9 (by decide +kernel) (by decide +kernel)
theorem u_dX2_enter : yX2_enter.cls = RX2 ∧ yX2_enter.cls ≠ "java/lang/invoke/MethodHandle" ∧ yX2_enter.cls ≠ "java/lang/invoke/VarHandle" ∧ (parseMethodDescriptor yX2_enter.desc).map (fun d => d.parameters.length) = some 3 := ⟨rfl, by decide +kernel, by decide +kernel, by decide +kernel⟩
theorem kX2_98 : zLkV RX2 98 RX2 yX2_enter cX2_enter 4 none 3 := zLkV_of (zU_mem 434 (by decide +kernel) (by decide +kernel)) u_iX2_enter u_vX2_enter u_iniX2 u_cX2_enter u_dX2_enter
theorem kX2_102 : zLkV RX2 102 RX2 yX2_canDecide cX2_canDecide 2 (some .boolean) 1 := zLkV_of (zU_mem 494 (by decide +kernel) (by decide +kernel)) u_iX2_canDecide u_vX2_canDecide u_iniX2 u_cX2_canDecide u_dX2_canDecide
theorem u_cX2_areAllInDoubt : Cond.code yX2_areAllInDoubt cX2_areAllInDoubt 4 (some .boolean) ∈ zU := zU_mem 498 (by decide +kernel) (by decide +kernel)
theorem u_iX2_areAllInDoubt : Cond.instanceMethod yX2_areAllInDoubt ∈ zU := zU_mem 497 (by decide +kernel) (by decide +kernel)
theorem u_vX2_areAllInDoubt : Cond.selects RX2 yX2_areAllInDoubt yX2_areAllInDoubt ∈ zU := zU_mem 13 (by decide +kernel) (by decide +kernel)
theorem u_dX2_areAllInDoubt : yX2_areAllInDoubt.cls = RX2 ∧ yX2_areAllInDoubt.cls ≠ "java/lang/invoke/MethodHandle" ∧ yX2_areAllInDoubt.cls ≠ "java/lang/invoke/VarHandle" ∧ (parseMethodDescriptor yX2_areAllInDoubt.desc).map (fun d => d.parameters.length) = some 1 := ⟨rfl, by decide +kernel, by decide +kernel, by decide +kernel⟩
theorem kX2_105 : zLkV RX2 105 RX2 yX2_areAllInDoubt cX2_areAllInDoubt 4 (some .boolean) 1 := zLkV_of (zU_mem 495 (by decide +kernel) (by decide +kernel)) u_iX2_areAllInDoubt u_vX2_areAllInDoubt u_iniX2 u_cX2_areAllInDoubt u_dX2_areAllInDoubt
theorem u_cX2_settle : Cond.code yX2_settle cX2_settle 3 none ∈ zU := zU_mem 470 (by decide +kernel) (by decide +kernel)
theorem u_iX2_settle : Cond.instanceMethod yX2_settle ∈ zU := zU_mem 469 (by decide +kernel) (by decide +kernel)
theorem u_vX2_settle : Cond.selects RX2 yX2_settle yX2_settle ∈ zU := zU_mem 12 (by decide +kernel) (by decide +kernel)
theorem u_dX2_settle : yX2_settle.cls = RX2 ∧ yX2_settle.cls ≠ "java/lang/invoke/MethodHandle" ∧ yX2_settle.cls ≠ "java/lang/invoke/VarHandle" ∧ (parseMethodDescriptor yX2_settle.desc).map (fun d => d.parameters.length) = some 2 := ⟨rfl, by decide +kernel, by decide +kernel, by decide +kernel⟩
theorem kX2_108 : zLkV RX2 108 RX2 yX2_settle cX2_settle 3 none 2 := zLkV_of (zU_mem 467 (by decide +kernel) (by decide +kernel)) u_iX2_settle u_vX2_settle u_iniX2 u_cX2_settle u_dX2_settle
theorem kX2_112 : zLkV RX2 112 RX2 yX2_canTell cX2_canTell 4 (some .boolean) 2 := zLkV_of (zU_mem 512 (by decide +kernel) (by decide +kernel)) u_iX2_canTell u_vX2_canTell u_iniX2 u_cX2_canTell u_dX2_canTell
theorem kX2_115 : zLkV RX2 115 RX2 yX2_canAsk cX2_canAsk 4 (some .boolean) 3 := zLkV_of (zU_mem 272 (by decide +kernel) (by decide +kernel)) u_iX2_canAsk u_vX2_canAsk u_iniX2 u_cX2_canAsk u_dX2_canAsk
theorem u_cX2_write : Cond.code yX2_write cX2_write 3 none ∈ zU := zU_mem 441 (by decide +kernel) (by decide +kernel)
theorem u_iX2_write : Cond.instanceMethod yX2_write ∈ zU := zU_mem 440 (by decide +kernel) (by decide +kernel)
theorem u_vX2_write : Cond.selects RX2 yX2_write yX2_write ∈ zU := zU_mem 10 (by decide +kernel) (by decide +kernel)
theorem u_dX2_write : yX2_write.cls = RX2 ∧ yX2_write.cls ≠ "java/lang/invoke/MethodHandle" ∧ yX2_write.cls ≠ "java/lang/invoke/VarHandle" ∧ (parseMethodDescriptor yX2_write.desc).map (fun d => d.parameters.length) = some 2 := ⟨rfl, by decide +kernel, by decide +kernel, by decide +kernel⟩
theorem kX2_119 : zLkV RX2 119 RX2 yX2_write cX2_write 3 none 2 := zLkV_of (zU_mem 438 (by decide +kernel) (by decide +kernel)) u_iX2_write u_vX2_write u_iniX2 u_cX2_write u_dX2_write
theorem kX2_122 : zLkV RX2 122 RX2 yX2_countInState cX2_countInState 5 (some .int) 1 := zLkV_of (zU_mem 451 (by decide +kernel) (by decide +kernel)) u_iX2_countInState u_vX2_countInState u_iniX2 u_cX2_countInState u_dX2_countInState
theorem kX2_125 : zLkV RX2 125 RX2 yX2_tickDeal cX2_tickDeal 4 none 1 := zLkV_of (zU_mem 455 (by decide +kernel) (by decide +kernel)) u_iX2_tickDeal u_vX2_tickDeal u_iniX2 u_cX2_tickDeal u_dX2_tickDeal
theorem u_cX2_losesPatience : Cond.code yX2_losesPatience cX2_losesPatience 4 (some .boolean) ∈ zU := zU_mem 462 (by decide +kernel) (by decide +kernel)
theorem u_iX2_losesPatience : Cond.instanceMethod yX2_losesPatience ∈ zU := zU_mem 461 (by decide +kernel) (by decide +kernel)
theorem u_vX2_losesPatience : Cond.selects RX2 yX2_losesPatience yX2_losesPatience ∈ zU := zU_mem 11 (by decide +kernel) (by decide +kernel)
theorem u_dX2_losesPatience : yX2_losesPatience.cls = RX2 ∧ yX2_losesPatience.cls ≠ "java/lang/invoke/MethodHandle" ∧ yX2_losesPatience.cls ≠ "java/lang/invoke/VarHandle" ∧ (parseMethodDescriptor yX2_losesPatience.desc).map (fun d => d.parameters.length) = some 2 := ⟨rfl, by decide +kernel, by decide +kernel, by decide +kernel⟩
theorem kX2_129 : zLkV RX2 129 RX2 yX2_losesPatience cX2_losesPatience 4 (some .boolean) 2 := zLkV_of (zU_mem 459 (by decide +kernel) (by decide +kernel)) u_iX2_losesPatience u_vX2_losesPatience u_iniX2 u_cX2_losesPatience u_dX2_losesPatience
theorem kX2_132 : zLkV RX2 132 RX2 yX2_putQuestion cX2_putQuestion 5 (some .int) 3 := zLkV_of (zU_mem 463 (by decide +kernel) (by decide +kernel)) u_iX2_putQuestion u_vX2_putQuestion u_iniX2 u_cX2_putQuestion u_dX2_putQuestion
theorem u_cX2_isOpen : Cond.code yX2_isOpen cX2_isOpen 4 (some .boolean) ∈ zU := zU_mem 241 (by decide +kernel) (by decide +kernel)
theorem u_iX2_isOpen : Cond.instanceMethod yX2_isOpen ∈ zU := zU_mem 240 (by decide +kernel) (by decide +kernel)
theorem u_vX2_isOpen : Cond.selects RX2 yX2_isOpen yX2_isOpen ∈ zU := zU_mem 1 (by decide +kernel) (by decide +kernel)
theorem u_dX2_isOpen : yX2_isOpen.cls = RX2 ∧ yX2_isOpen.cls ≠ "java/lang/invoke/MethodHandle" ∧ yX2_isOpen.cls ≠ "java/lang/invoke/VarHandle" ∧ (parseMethodDescriptor yX2_isOpen.desc).map (fun d => d.parameters.length) = some 1 := ⟨rfl, by decide +kernel, by decide +kernel, by decide +kernel⟩
theorem kX2_136 : zLkV RX2 136 RX2 yX2_isOpen cX2_isOpen 4 (some .boolean) 1 := zLkV_of (zU_mem 238 (by decide +kernel) (by decide +kernel)) u_iX2_isOpen u_vX2_isOpen u_iniX2 u_cX2_isOpen u_dX2_isOpen
theorem u_cX2_isStuck : Cond.code yX2_isStuck cX2_isStuck 4 (some .boolean) ∈ zU := zU_mem 253 (by decide +kernel) (by decide +kernel)
theorem u_iX2_isStuck : Cond.instanceMethod yX2_isStuck ∈ zU := zU_mem 252 (by decide +kernel) (by decide +kernel)
theorem u_vX2_isStuck : Cond.selects RX2 yX2_isStuck yX2_isStuck ∈ zU := zU_mem 2 (by decide +kernel) (by decide +kernel)
theorem u_dX2_isStuck : yX2_isStuck.cls = RX2 ∧ yX2_isStuck.cls ≠ "java/lang/invoke/MethodHandle" ∧ yX2_isStuck.cls ≠ "java/lang/invoke/VarHandle" ∧ (parseMethodDescriptor yX2_isStuck.desc).map (fun d => d.parameters.length) = some 1 := ⟨rfl, by decide +kernel, by decide +kernel, by decide +kernel⟩
theorem kX2_139 : zLkV RX2 139 RX2 yX2_isStuck cX2_isStuck 4 (some .boolean) 1 := zLkV_of (zU_mem 250 (by decide +kernel) (by decide +kernel)) u_iX2_isStuck u_vX2_isStuck u_iniX2 u_cX2_isStuck u_dX2_isStuck
theorem kX2_142 : zLkV RX2 142 RX2 yX2_helperFor cX2_helperFor 6 (some .int) 2 := zLkV_of (zU_mem 254 (by decide +kernel) (by decide +kernel)) u_iX2_helperFor u_vX2_helperFor u_iniX2 u_cX2_helperFor u_dX2_helperFor
theorem u_cX2_isAnswer : Cond.code yX2_isAnswer cX2_isAnswer 1 (some .boolean) ∈ zU := zU_mem 268 (by decide +kernel) (by decide +kernel)
theorem u_sX2_isAnswer : Cond.static yX2_isAnswer ∈ zU := zU_mem 267 (by decide +kernel) (by decide +kernel)
theorem u_dX2_isAnswer : yX2_isAnswer.cls = RX2 ∧ yX2_isAnswer.cls ≠ "java/lang/invoke/MethodHandle" ∧ yX2_isAnswer.cls ≠ "java/lang/invoke/VarHandle" ∧ (parseMethodDescriptor yX2_isAnswer.desc).map (fun d => d.parameters.length) = some 1 := ⟨rfl, by decide +kernel, by decide +kernel, by decide +kernel⟩
theorem kX2_145 : zLkS RX2 145 yX2_isAnswer cX2_isAnswer 1 (some .boolean) 1 := zLkS_of (zU_mem 266 (by decide +kernel) (by decide +kernel)) u_sX2_isAnswer u_iniX2 u_cX2_isAnswer u_dX2_isAnswer
theorem kX2_152 : zLkV RX2 152 RX2 yX2_countOpen cX2_countOpen 3 (some .int) 0 := zLkV_of (zU_mem 234 (by decide +kernel) (by decide +kernel)) u_iX2_countOpen u_vX2_countOpen u_iniX2 u_cX2_countOpen u_dX2_countOpen
theorem kX2_156 : zLkV RX2 156 RX2 yX2_countStuck cX2_countStuck 3 (some .int) 0 := zLkV_of (zU_mem 246 (by decide +kernel) (by decide +kernel)) u_iX2_countStuck u_vX2_countStuck u_iniX2 u_cX2_countStuck u_dX2_countStuck
theorem u_cX2_hashSite : Cond.code yX2_hashSite cX2_hashSite 8 (some .long) ∈ zU := zU_mem 283 (by decide +kernel) (by decide +kernel)
theorem u_iX2_hashSite : Cond.instanceMethod yX2_hashSite ∈ zU := zU_mem 282 (by decide +kernel) (by decide +kernel)
theorem u_vX2_hashSite : Cond.selects RX2 yX2_hashSite yX2_hashSite ∈ zU := zU_mem 3 (by decide +kernel) (by decide +kernel)
theorem u_dX2_hashSite : yX2_hashSite.cls = RX2 ∧ yX2_hashSite.cls ≠ "java/lang/invoke/MethodHandle" ∧ yX2_hashSite.cls ≠ "java/lang/invoke/VarHandle" ∧ (parseMethodDescriptor yX2_hashSite.desc).map (fun d => d.parameters.length) = some 2 := ⟨rfl, by decide +kernel, by decide +kernel, by decide +kernel⟩
theorem kX2_159 : zLkV RX2 159 RX2 yX2_hashSite cX2_hashSite 8 (some .long) 2 := zLkV_of (zU_mem 280 (by decide +kernel) (by decide +kernel)) u_iX2_hashSite u_vX2_hashSite u_iniX2 u_cX2_hashSite u_dX2_hashSite
theorem u_cX2_hashDeal : Cond.code yX2_hashDeal cX2_hashDeal 7 (some .long) ∈ zU := zU_mem 302 (by decide +kernel) (by decide +kernel)
theorem u_iX2_hashDeal : Cond.instanceMethod yX2_hashDeal ∈ zU := zU_mem 301 (by decide +kernel) (by decide +kernel)
theorem u_vX2_hashDeal : Cond.selects RX2 yX2_hashDeal yX2_hashDeal ∈ zU := zU_mem 4 (by decide +kernel) (by decide +kernel)
theorem u_dX2_hashDeal : yX2_hashDeal.cls = RX2 ∧ yX2_hashDeal.cls ≠ "java/lang/invoke/MethodHandle" ∧ yX2_hashDeal.cls ≠ "java/lang/invoke/VarHandle" ∧ (parseMethodDescriptor yX2_hashDeal.desc).map (fun d => d.parameters.length) = some 2 := ⟨rfl, by decide +kernel, by decide +kernel, by decide +kernel⟩
theorem kX2_163 : zLkV RX2 163 RX2 yX2_hashDeal cX2_hashDeal 7 (some .long) 2 := zLkV_of (zU_mem 299 (by decide +kernel) (by decide +kernel)) u_iX2_hashDeal u_vX2_hashDeal u_iniX2 u_cX2_hashDeal u_dX2_hashDeal
theorem kX2_166 : zLkV RX2 166 RX2 yX2_itemsHeldBy cX2_itemsHeldBy 4 (some .int) 1 := zLkV_of (zU_mem 284 (by decide +kernel) (by decide +kernel)) u_iX2_itemsHeldBy u_vX2_itemsHeldBy u_iniX2 u_cX2_itemsHeldBy u_dX2_itemsHeldBy
theorem kX2_169 : zLkV RX2 169 RX2 yX2_entryAt cX2_entryAt 3 (some .int) 2 := zLkV_of (zU_mem 295 (by decide +kernel) (by decide +kernel)) u_iX2_entryAt u_vX2_entryAt u_iniX2 u_cX2_entryAt u_dX2_entryAt
theorem kX2_172 : zLkV RX2 172 RX2 yX2_patienceOf cX2_patienceOf 3 (some .int) 2 := zLkV_of (zU_mem 307 (by decide +kernel) (by decide +kernel)) u_iX2_patienceOf u_vX2_patienceOf u_iniX2 u_cX2_patienceOf u_dX2_patienceOf
theorem u_cX3_deals : Cond.code yX3_deals cX3_deals 1 (some .int) ∈ zU := zU_mem 122 (by decide +kernel) (by decide +kernel)
theorem u_iX3_deals : Cond.instanceMethod yX3_deals ∈ zU := zU_mem 120 (by decide +kernel) (by decide +kernel)
theorem u_vX3_deals : Cond.selects RX3 yX3_deals yX3_deals ∈ zU := zU_mem 121 (by decide +kernel) (by decide +kernel)
theorem u_dX3_deals : yX3_deals.cls = RX3 ∧ yX3_deals.cls ≠ "java/lang/invoke/MethodHandle" ∧ yX3_deals.cls ≠ "java/lang/invoke/VarHandle" ∧ (parseMethodDescriptor yX3_deals.desc).map (fun d => d.parameters.length) = some 0 := ⟨rfl, by decide +kernel, by decide +kernel, by decide +kernel⟩
theorem u_cL_up : Cond.code yL_up cL_up 2 (some .int) ∈ zU := zU_mem 317 (by decide +kernel) (by decide +kernel)
theorem u_sL_up : Cond.static yL_up ∈ zU := zU_mem 316 (by decide +kernel) (by decide +kernel)
theorem u_dL_up : yL_up.cls = RL ∧ yL_up.cls ≠ "java/lang/invoke/MethodHandle" ∧ yL_up.cls ≠ "java/lang/invoke/VarHandle" ∧ (parseMethodDescriptor yL_up.desc).map (fun d => d.parameters.length) = some 2 := ⟨rfl, by decide +kernel, by decide +kernel, by decide +kernel⟩
theorem u_cX3_isUp : Cond.code yX3_isUp cX3_isUp 2 (some .boolean) ∈ zU := zU_mem 325 (by decide +kernel) (by decide +kernel)
theorem u_iX3_isUp : Cond.instanceMethod yX3_isUp ∈ zU := zU_mem 323 (by decide +kernel) (by decide +kernel)
theorem u_vX3_isUp : Cond.selects RX3 yX3_isUp yX3_isUp ∈ zU := zU_mem 324 (by decide +kernel) (by decide +kernel)
theorem u_dX3_isUp : yX3_isUp.cls = RX3 ∧ yX3_isUp.cls ≠ "java/lang/invoke/MethodHandle" ∧ yX3_isUp.cls ≠ "java/lang/invoke/VarHandle" ∧ (parseMethodDescriptor yX3_isUp.desc).map (fun d => d.parameters.length) = some 1 := ⟨rfl, by decide +kernel, by decide +kernel, by decide +kernel⟩
theorem u_cX3_begin : Cond.code yX3_begin cX3_begin 4 (some .int) ∈ zU := zU_mem 350 (by decide +kernel) (by decide +kernel)
theorem u_iX3_begin : Cond.instanceMethod yX3_begin ∈ zU := zU_mem 348 (by decide +kernel) (by decide +kernel)
theorem u_vX3_begin : Cond.selects RX3 yX3_begin yX3_begin ∈ zU := zU_mem 349 (by decide +kernel) (by decide +kernel)
theorem u_dX3_begin : yX3_begin.cls = RX3 ∧ yX3_begin.cls ≠ "java/lang/invoke/MethodHandle" ∧ yX3_begin.cls ≠ "java/lang/invoke/VarHandle" ∧ (parseMethodDescriptor yX3_begin.desc).map (fun d => d.parameters.length) = some 3 := ⟨rfl, by decide +kernel, by decide +kernel, by decide +kernel⟩
theorem u_cX3_setPatience : Cond.code yX3_setPatience cX3_setPatience 2 (some .int) ∈ zU := zU_mem 395 (by decide +kernel) (by decide +kernel)
theorem u_iX3_setPatience : Cond.instanceMethod yX3_setPatience ∈ zU := zU_mem 393 (by decide +kernel) (by decide +kernel)
theorem u_vX3_setPatience : Cond.selects RX3 yX3_setPatience yX3_setPatience ∈ zU := zU_mem 394 (by decide +kernel) (by decide +kernel)
theorem u_dX3_setPatience : yX3_setPatience.cls = RX3 ∧ yX3_setPatience.cls ≠ "java/lang/invoke/MethodHandle" ∧ yX3_setPatience.cls ≠ "java/lang/invoke/VarHandle" ∧ (parseMethodDescriptor yX3_setPatience.desc).map (fun d => d.parameters.length) = some 1 := ⟨rfl, by decide +kernel, by decide +kernel, by decide +kernel⟩
theorem u_cX3_state : Cond.code yX3_state cX3_state 3 (some .int) ∈ zU := zU_mem 404 (by decide +kernel) (by decide +kernel)
theorem u_iX3_state : Cond.instanceMethod yX3_state ∈ zU := zU_mem 402 (by decide +kernel) (by decide +kernel)
theorem u_vX3_state : Cond.selects RX3 yX3_state yX3_state ∈ zU := zU_mem 403 (by decide +kernel) (by decide +kernel)
theorem u_dX3_state : yX3_state.cls = RX3 ∧ yX3_state.cls ≠ "java/lang/invoke/MethodHandle" ∧ yX3_state.cls ≠ "java/lang/invoke/VarHandle" ∧ (parseMethodDescriptor yX3_state.desc).map (fun d => d.parameters.length) = some 2 := ⟨rfl, by decide +kernel, by decide +kernel, by decide +kernel⟩
theorem u_cX3_vote : Cond.code yX3_vote cX3_vote 4 (some .int) ∈ zU := zU_mem 419 (by decide +kernel) (by decide +kernel)
theorem u_iX3_vote : Cond.instanceMethod yX3_vote ∈ zU := zU_mem 417 (by decide +kernel) (by decide +kernel)
theorem u_vX3_vote : Cond.selects RX3 yX3_vote yX3_vote ∈ zU := zU_mem 418 (by decide +kernel) (by decide +kernel)
theorem u_dX3_vote : yX3_vote.cls = RX3 ∧ yX3_vote.cls ≠ "java/lang/invoke/MethodHandle" ∧ yX3_vote.cls ≠ "java/lang/invoke/VarHandle" ∧ (parseMethodDescriptor yX3_vote.desc).map (fun d => d.parameters.length) = some 3 := ⟨rfl, by decide +kernel, by decide +kernel, by decide +kernel⟩
theorem u_cX3_pass : Cond.code yX3_pass cX3_pass 2 (some .int) ∈ zU := zU_mem 445 (by decide +kernel) (by decide +kernel)
theorem u_iX3_pass : Cond.instanceMethod yX3_pass ∈ zU := zU_mem 443 (by decide +kernel) (by decide +kernel)
theorem u_vX3_pass : Cond.selects RX3 yX3_pass yX3_pass ∈ zU := zU_mem 444 (by decide +kernel) (by decide +kernel)
theorem u_dX3_pass : yX3_pass.cls = RX3 ∧ yX3_pass.cls ≠ "java/lang/invoke/MethodHandle" ∧ yX3_pass.cls ≠ "java/lang/invoke/VarHandle" ∧ (parseMethodDescriptor yX3_pass.desc).map (fun d => d.parameters.length) = some 1 := ⟨rfl, by decide +kernel, by decide +kernel, by decide +kernel⟩
theorem u_cX3_leader : Cond.code yX3_leader cX3_leader 2 (some .int) ∈ zU := zU_mem 474 (by decide +kernel) (by decide +kernel)
theorem u_iX3_leader : Cond.instanceMethod yX3_leader ∈ zU := zU_mem 472 (by decide +kernel) (by decide +kernel)
theorem u_vX3_leader : Cond.selects RX3 yX3_leader yX3_leader ∈ zU := zU_mem 473 (by decide +kernel) (by decide +kernel)
theorem u_dX3_leader : yX3_leader.cls = RX3 ∧ yX3_leader.cls ≠ "java/lang/invoke/MethodHandle" ∧ yX3_leader.cls ≠ "java/lang/invoke/VarHandle" ∧ (parseMethodDescriptor yX3_leader.desc).map (fun d => d.parameters.length) = some 1 := ⟨rfl, by decide +kernel, by decide +kernel, by decide +kernel⟩
theorem u_cX3_decision : Cond.code yX3_decision cX3_decision 2 (some .int) ∈ zU := zU_mem 479 (by decide +kernel) (by decide +kernel)
theorem u_iX3_decision : Cond.instanceMethod yX3_decision ∈ zU := zU_mem 477 (by decide +kernel) (by decide +kernel)
theorem u_vX3_decision : Cond.selects RX3 yX3_decision yX3_decision ∈ zU := zU_mem 478 (by decide +kernel) (by decide +kernel)
theorem u_dX3_decision : yX3_decision.cls = RX3 ∧ yX3_decision.cls ≠ "java/lang/invoke/MethodHandle" ∧ yX3_decision.cls ≠ "java/lang/invoke/VarHandle" ∧ (parseMethodDescriptor yX3_decision.desc).map (fun d => d.parameters.length) = some 1 := ⟨rfl, by decide +kernel, by decide +kernel, by decide +kernel⟩
theorem u_cX3_decide : Cond.code yX3_decide cX3_decide 2 (some .int) ∈ zU := zU_mem 484 (by decide +kernel) (by decide +kernel)
theorem u_iX3_decide : Cond.instanceMethod yX3_decide ∈ zU := zU_mem 482 (by decide +kernel) (by decide +kernel)
theorem u_vX3_decide : Cond.selects RX3 yX3_decide yX3_decide ∈ zU := zU_mem 483 (by decide +kernel) (by decide +kernel)
theorem u_dX3_decide : yX3_decide.cls = RX3 ∧ yX3_decide.cls ≠ "java/lang/invoke/MethodHandle" ∧ yX3_decide.cls ≠ "java/lang/invoke/VarHandle" ∧ (parseMethodDescriptor yX3_decide.desc).map (fun d => d.parameters.length) = some 1 := ⟨rfl, by decide +kernel, by decide +kernel, by decide +kernel⟩
theorem u_cX3_tell : Cond.code yX3_tell cX3_tell 3 (some .int) ∈ zU := zU_mem 502 (by decide +kernel) (by decide +kernel)
theorem u_iX3_tell : Cond.instanceMethod yX3_tell ∈ zU := zU_mem 500 (by decide +kernel) (by decide +kernel)
theorem u_vX3_tell : Cond.selects RX3 yX3_tell yX3_tell ∈ zU := zU_mem 501 (by decide +kernel) (by decide +kernel)
theorem u_dX3_tell : yX3_tell.cls = RX3 ∧ yX3_tell.cls ≠ "java/lang/invoke/MethodHandle" ∧ yX3_tell.cls ≠ "java/lang/invoke/VarHandle" ∧ (parseMethodDescriptor yX3_tell.desc).map (fun d => d.parameters.length) = some 2 := ⟨rfl, by decide +kernel, by decide +kernel, by decide +kernel⟩
theorem u_cX3_ask : Cond.code yX3_ask cX3_ask 4 (some .int) ∈ zU := zU_mem 516 (by decide +kernel) (by decide +kernel)
theorem u_iX3_ask : Cond.instanceMethod yX3_ask ∈ zU := zU_mem 514 (by decide +kernel) (by decide +kernel)
theorem u_vX3_ask : Cond.selects RX3 yX3_ask yX3_ask ∈ zU := zU_mem 515 (by decide +kernel) (by decide +kernel)
theorem u_dX3_ask : yX3_ask.cls = RX3 ∧ yX3_ask.cls ≠ "java/lang/invoke/MethodHandle" ∧ yX3_ask.cls ≠ "java/lang/invoke/VarHandle" ∧ (parseMethodDescriptor yX3_ask.desc).map (fun d => d.parameters.length) = some 3 := ⟨rfl, by decide +kernel, by decide +kernel, by decide +kernel⟩
theorem u_cX3_fallSilent : Cond.code yX3_fallSilent cX3_fallSilent 2 (some .int) ∈ zU := zU_mem 524 (by decide +kernel) (by decide +kernel)
theorem u_iX3_fallSilent : Cond.instanceMethod yX3_fallSilent ∈ zU := zU_mem 522 (by decide +kernel) (by decide +kernel)
theorem u_vX3_fallSilent : Cond.selects RX3 yX3_fallSilent yX3_fallSilent ∈ zU := zU_mem 523 (by decide +kernel) (by decide +kernel)
theorem u_dX3_fallSilent : yX3_fallSilent.cls = RX3 ∧ yX3_fallSilent.cls ≠ "java/lang/invoke/MethodHandle" ∧ yX3_fallSilent.cls ≠ "java/lang/invoke/VarHandle" ∧ (parseMethodDescriptor yX3_fallSilent.desc).map (fun d => d.parameters.length) = some 1 := ⟨rfl, by decide +kernel, by decide +kernel, by decide +kernel⟩
theorem u_cX3_comeBack : Cond.code yX3_comeBack cX3_comeBack 2 (some .int) ∈ zU := zU_mem 533 (by decide +kernel) (by decide +kernel)
theorem u_iX3_comeBack : Cond.instanceMethod yX3_comeBack ∈ zU := zU_mem 531 (by decide +kernel) (by decide +kernel)
theorem u_vX3_comeBack : Cond.selects RX3 yX3_comeBack yX3_comeBack ∈ zU := zU_mem 532 (by decide +kernel) (by decide +kernel)
theorem u_dX3_comeBack : yX3_comeBack.cls = RX3 ∧ yX3_comeBack.cls ≠ "java/lang/invoke/MethodHandle" ∧ yX3_comeBack.cls ≠ "java/lang/invoke/VarHandle" ∧ (parseMethodDescriptor yX3_comeBack.desc).map (fun d => d.parameters.length) = some 1 := ⟨rfl, by decide +kernel, by decide +kernel, by decide +kernel⟩
theorem u_cX3_helper : Cond.code yX3_helper cX3_helper 3 (some .int) ∈ zU := zU_mem 548 (by decide +kernel) (by decide +kernel)
theorem u_iX3_helper : Cond.instanceMethod yX3_helper ∈ zU := zU_mem 546 (by decide +kernel) (by decide +kernel)
theorem u_vX3_helper : Cond.selects RX3 yX3_helper yX3_helper ∈ zU := zU_mem 547 (by decide +kernel) (by decide +kernel)
theorem u_dX3_helper : yX3_helper.cls = RX3 ∧ yX3_helper.cls ≠ "java/lang/invoke/MethodHandle" ∧ yX3_helper.cls ≠ "java/lang/invoke/VarHandle" ∧ (parseMethodDescriptor yX3_helper.desc).map (fun d => d.parameters.length) = some 2 := ⟨rfl, by decide +kernel, by decide +kernel, by decide +kernel⟩
theorem u_cX3_patience : Cond.code yX3_patience cX3_patience 3 (some .int) ∈ zU := zU_mem 553 (by decide +kernel) (by decide +kernel)
theorem u_iX3_patience : Cond.instanceMethod yX3_patience ∈ zU := zU_mem 551 (by decide +kernel) (by decide +kernel)
theorem u_vX3_patience : Cond.selects RX3 yX3_patience yX3_patience ∈ zU := zU_mem 552 (by decide +kernel) (by decide +kernel)
theorem u_dX3_patience : yX3_patience.cls = RX3 ∧ yX3_patience.cls ≠ "java/lang/invoke/MethodHandle" ∧ yX3_patience.cls ≠ "java/lang/invoke/VarHandle" ∧ (parseMethodDescriptor yX3_patience.desc).map (fun d => d.parameters.length) = some 2 := ⟨rfl, by decide +kernel, by decide +kernel, by decide +kernel⟩
theorem u_cX3_held : Cond.code yX3_held cX3_held 2 (some .int) ∈ zU := zU_mem 558 (by decide +kernel) (by decide +kernel)
theorem u_iX3_held : Cond.instanceMethod yX3_held ∈ zU := zU_mem 556 (by decide +kernel) (by decide +kernel)
theorem u_vX3_held : Cond.selects RX3 yX3_held yX3_held ∈ zU := zU_mem 557 (by decide +kernel) (by decide +kernel)
theorem u_dX3_held : yX3_held.cls = RX3 ∧ yX3_held.cls ≠ "java/lang/invoke/MethodHandle" ∧ yX3_held.cls ≠ "java/lang/invoke/VarHandle" ∧ (parseMethodDescriptor yX3_held.desc).map (fun d => d.parameters.length) = some 1 := ⟨rfl, by decide +kernel, by decide +kernel, by decide +kernel⟩
theorem u_cL_areEntries : Cond.code yL_areEntries cL_areEntries 9 (some .boolean) ∈ zU := zU_mem 562 (by decide +kernel) (by decide +kernel)
theorem u_sL_areEntries : Cond.static yL_areEntries ∈ zU := zU_mem 561 (by decide +kernel) (by decide +kernel)
theorem u_dL_areEntries : yL_areEntries.cls = RL ∧ yL_areEntries.cls ≠ "java/lang/invoke/MethodHandle" ∧ yL_areEntries.cls ≠ "java/lang/invoke/VarHandle" ∧ (parseMethodDescriptor yL_areEntries.desc).map (fun d => d.parameters.length) = some 2 := ⟨rfl, by decide +kernel, by decide +kernel, by decide +kernel⟩
theorem u_cX3_open : Cond.code yX3_open cX3_open 1 (some .int) ∈ zU := zU_mem 577 (by decide +kernel) (by decide +kernel)
theorem u_iX3_open : Cond.instanceMethod yX3_open ∈ zU := zU_mem 575 (by decide +kernel) (by decide +kernel)
theorem u_vX3_open : Cond.selects RX3 yX3_open yX3_open ∈ zU := zU_mem 576 (by decide +kernel) (by decide +kernel)
theorem u_dX3_open : yX3_open.cls = RX3 ∧ yX3_open.cls ≠ "java/lang/invoke/MethodHandle" ∧ yX3_open.cls ≠ "java/lang/invoke/VarHandle" ∧ (parseMethodDescriptor yX3_open.desc).map (fun d => d.parameters.length) = some 0 := ⟨rfl, by decide +kernel, by decide +kernel, by decide +kernel⟩
theorem u_cX3_stuck : Cond.code yX3_stuck cX3_stuck 1 (some .int) ∈ zU := zU_mem 582 (by decide +kernel) (by decide +kernel)
theorem u_iX3_stuck : Cond.instanceMethod yX3_stuck ∈ zU := zU_mem 580 (by decide +kernel) (by decide +kernel)
theorem u_vX3_stuck : Cond.selects RX3 yX3_stuck yX3_stuck ∈ zU := zU_mem 581 (by decide +kernel) (by decide +kernel)
theorem u_dX3_stuck : yX3_stuck.cls = RX3 ∧ yX3_stuck.cls ≠ "java/lang/invoke/MethodHandle" ∧ yX3_stuck.cls ≠ "java/lang/invoke/VarHandle" ∧ (parseMethodDescriptor yX3_stuck.desc).map (fun d => d.parameters.length) = some 0 := ⟨rfl, by decide +kernel, by decide +kernel, by decide +kernel⟩
theorem u_cX3_doubtShare : Cond.code yX3_doubtShare cX3_doubtShare 2 (some .double) ∈ zU := zU_mem 587 (by decide +kernel) (by decide +kernel)
theorem u_iX3_doubtShare : Cond.instanceMethod yX3_doubtShare ∈ zU := zU_mem 585 (by decide +kernel) (by decide +kernel)
theorem u_vX3_doubtShare : Cond.selects RX3 yX3_doubtShare yX3_doubtShare ∈ zU := zU_mem 586 (by decide +kernel) (by decide +kernel)
theorem u_dX3_doubtShare : yX3_doubtShare.cls = RX3 ∧ yX3_doubtShare.cls ≠ "java/lang/invoke/MethodHandle" ∧ yX3_doubtShare.cls ≠ "java/lang/invoke/VarHandle" ∧ (parseMethodDescriptor yX3_doubtShare.desc).map (fun d => d.parameters.length) = some 0 := ⟨rfl, by decide +kernel, by decide +kernel, by decide +kernel⟩
theorem u_cX3_logLength : Cond.code yX3_logLength cX3_logLength 2 (some .int) ∈ zU := zU_mem 566 (by decide +kernel) (by decide +kernel)
theorem u_iX3_logLength : Cond.instanceMethod yX3_logLength ∈ zU := zU_mem 564 (by decide +kernel) (by decide +kernel)
theorem u_vX3_logLength : Cond.selects RX3 yX3_logLength yX3_logLength ∈ zU := zU_mem 565 (by decide +kernel) (by decide +kernel)
theorem u_dX3_logLength : yX3_logLength.cls = RX3 ∧ yX3_logLength.cls ≠ "java/lang/invoke/MethodHandle" ∧ yX3_logLength.cls ≠ "java/lang/invoke/VarHandle" ∧ (parseMethodDescriptor yX3_logLength.desc).map (fun d => d.parameters.length) = some 1 := ⟨rfl, by decide +kernel, by decide +kernel, by decide +kernel⟩
theorem u_cX3_log : Cond.code yX3_log cX3_log 3 (some .int) ∈ zU := zU_mem 571 (by decide +kernel) (by decide +kernel)
theorem u_iX3_log : Cond.instanceMethod yX3_log ∈ zU := zU_mem 569 (by decide +kernel) (by decide +kernel)
theorem u_vX3_log : Cond.selects RX3 yX3_log yX3_log ∈ zU := zU_mem 570 (by decide +kernel) (by decide +kernel)
theorem u_dX3_log : yX3_log.cls = RX3 ∧ yX3_log.cls ≠ "java/lang/invoke/MethodHandle" ∧ yX3_log.cls ≠ "java/lang/invoke/VarHandle" ∧ (parseMethodDescriptor yX3_log.desc).map (fun d => d.parameters.length) = some 2 := ⟨rfl, by decide +kernel, by decide +kernel, by decide +kernel⟩
theorem u_cX3_digest : Cond.code yX3_digest cX3_digest 1 (some .long) ∈ zU := zU_mem 227 (by decide +kernel) (by decide +kernel)
theorem u_iX3_digest : Cond.instanceMethod yX3_digest ∈ zU := zU_mem 225 (by decide +kernel) (by decide +kernel)
theorem u_vX3_digest : Cond.selects RX3 yX3_digest yX3_digest ∈ zU := zU_mem 226 (by decide +kernel) (by decide +kernel)
theorem u_dX3_digest : yX3_digest.cls = RX3 ∧ yX3_digest.cls ≠ "java/lang/invoke/MethodHandle" ∧ yX3_digest.cls ≠ "java/lang/invoke/VarHandle" ∧ (parseMethodDescriptor yX3_digest.desc).map (fun d => d.parameters.length) = some 0 := ⟨rfl, by decide +kernel, by decide +kernel, by decide +kernel⟩
theorem u_cX3_reason : Cond.code yX3_reason cX3_reason 3 (some .int) ∈ zU := zU_mem 599 (by decide +kernel) (by decide +kernel)
theorem u_iX3_reason : Cond.instanceMethod yX3_reason ∈ zU := zU_mem 597 (by decide +kernel) (by decide +kernel)
theorem u_vX3_reason : Cond.selects RX3 yX3_reason yX3_reason ∈ zU := zU_mem 598 (by decide +kernel) (by decide +kernel)
theorem u_dX3_reason : yX3_reason.cls = RX3 ∧ yX3_reason.cls ≠ "java/lang/invoke/MethodHandle" ∧ yX3_reason.cls ≠ "java/lang/invoke/VarHandle" ∧ (parseMethodDescriptor yX3_reason.desc).map (fun d => d.parameters.length) = some 2 := ⟨rfl, by decide +kernel, by decide +kernel, by decide +kernel⟩
theorem u_cX3_ticksToEnd : Cond.code yX3_ticksToEnd cX3_ticksToEnd 4 (some .int) ∈ zU := zU_mem 607 (by decide +kernel) (by decide +kernel)
theorem u_iX3_ticksToEnd : Cond.instanceMethod yX3_ticksToEnd ∈ zU := zU_mem 605 (by decide +kernel) (by decide +kernel)
theorem u_vX3_ticksToEnd : Cond.selects RX3 yX3_ticksToEnd yX3_ticksToEnd ∈ zU := zU_mem 606 (by decide +kernel) (by decide +kernel)
theorem u_dX3_ticksToEnd : yX3_ticksToEnd.cls = RX3 ∧ yX3_ticksToEnd.cls ≠ "java/lang/invoke/MethodHandle" ∧ yX3_ticksToEnd.cls ≠ "java/lang/invoke/VarHandle" ∧ (parseMethodDescriptor yX3_ticksToEnd.desc).map (fun d => d.parameters.length) = some 2 := ⟨rfl, by decide +kernel, by decide +kernel, by decide +kernel⟩
theorem u_cX3_undo : Cond.code yX3_undo cX3_undo 1 (some .int) ∈ zU := zU_mem 130 (by decide +kernel) (by decide +kernel)
theorem u_iX3_undo : Cond.instanceMethod yX3_undo ∈ zU := zU_mem 128 (by decide +kernel) (by decide +kernel)
theorem u_vX3_undo : Cond.selects RX3 yX3_undo yX3_undo ∈ zU := zU_mem 129 (by decide +kernel) (by decide +kernel)
theorem u_dX3_undo : yX3_undo.cls = RX3 ∧ yX3_undo.cls ≠ "java/lang/invoke/MethodHandle" ∧ yX3_undo.cls ≠ "java/lang/invoke/VarHandle" ∧ (parseMethodDescriptor yX3_undo.desc).map (fun d => d.parameters.length) = some 0 := ⟨rfl, by decide +kernel, by decide +kernel, by decide +kernel⟩
theorem u_cL_holds : Cond.code yL_holds cL_holds 12 (some .boolean) ∈ zU := zU_mem 544 (by decide +kernel) (by decide +kernel)
theorem u_sL_holds : Cond.static yL_holds ∈ zU := zU_mem 543 (by decide +kernel) (by decide +kernel)
theorem u_dL_holds : yL_holds.cls = RL ∧ yL_holds.cls ≠ "java/lang/invoke/MethodHandle" ∧ yL_holds.cls ≠ "java/lang/invoke/VarHandle" ∧ (parseMethodDescriptor yL_holds.desc).map (fun d => d.parameters.length) = some 1 := ⟨rfl, by decide +kernel, by decide +kernel, by decide +kernel⟩
theorem u_cL_cell : Cond.code yL_cell cL_cell 2 (some .int) ∈ zU := zU_mem 313 (by decide +kernel) (by decide +kernel)
theorem u_sL_cell : Cond.static yL_cell ∈ zU := zU_mem 312 (by decide +kernel) (by decide +kernel)
theorem u_dL_cell : yL_cell.cls = RL ∧ yL_cell.cls ≠ "java/lang/invoke/MethodHandle" ∧ yL_cell.cls ≠ "java/lang/invoke/VarHandle" ∧ (parseMethodDescriptor yL_cell.desc).map (fun d => d.parameters.length) = some 2 := ⟨rfl, by decide +kernel, by decide +kernel, by decide +kernel⟩
theorem u_cX3_savedStates : Cond.code yX3_savedStates cX3_savedStates 1 (some .int) ∈ zU := zU_mem 223 (by decide +kernel) (by decide +kernel)
theorem u_iX3_savedStates : Cond.instanceMethod yX3_savedStates ∈ zU := zU_mem 221 (by decide +kernel) (by decide +kernel)
theorem u_vX3_savedStates : Cond.selects RX3 yX3_savedStates yX3_savedStates ∈ zU := zU_mem 222 (by decide +kernel) (by decide +kernel)
theorem u_dX3_savedStates : yX3_savedStates.cls = RX3 ∧ yX3_savedStates.cls ≠ "java/lang/invoke/MethodHandle" ∧ yX3_savedStates.cls ≠ "java/lang/invoke/VarHandle" ∧ (parseMethodDescriptor yX3_savedStates.desc).map (fun d => d.parameters.length) = some 0 := ⟨rfl, by decide +kernel, by decide +kernel, by decide +kernel⟩
theorem u_cL_act : Cond.code yL_act cL_act 12 (some .int) ∈ zU := zU_mem 321 (by decide +kernel) (by decide +kernel)
theorem u_sL_act : Cond.static yL_act ∈ zU := zU_mem 320 (by decide +kernel) (by decide +kernel)
theorem u_dL_act : yL_act.cls = RL ∧ yL_act.cls ≠ "java/lang/invoke/MethodHandle" ∧ yL_act.cls ≠ "java/lang/invoke/VarHandle" ∧ (parseMethodDescriptor yL_act.desc).map (fun d => d.parameters.length) = some 3 := ⟨rfl, by decide +kernel, by decide +kernel, by decide +kernel⟩
theorem u_cL_areKept : Cond.code yL_areKept cL_areKept 6 (some .boolean) ∈ zU := zU_mem 541 (by decide +kernel) (by decide +kernel)
theorem u_sL_areKept : Cond.static yL_areKept ∈ zU := zU_mem 540 (by decide +kernel) (by decide +kernel)
theorem u_dL_areKept : yL_areKept.cls = RL ∧ yL_areKept.cls ≠ "java/lang/invoke/MethodHandle" ∧ yL_areKept.cls ≠ "java/lang/invoke/VarHandle" ∧ (parseMethodDescriptor yL_areKept.desc).map (fun d => d.parameters.length) = some 3 := ⟨rfl, by decide +kernel, by decide +kernel, by decide +kernel⟩
theorem u_cL_isAhead : Cond.code yL_isAhead cL_isAhead 10 (some .boolean) ∈ zU := zU_mem 595 (by decide +kernel) (by decide +kernel)
theorem u_sL_isAhead : Cond.static yL_isAhead ∈ zU := zU_mem 594 (by decide +kernel) (by decide +kernel)
theorem u_dL_isAhead : yL_isAhead.cls = RL ∧ yL_isAhead.cls ≠ "java/lang/invoke/MethodHandle" ∧ yL_isAhead.cls ≠ "java/lang/invoke/VarHandle" ∧ (parseMethodDescriptor yL_isAhead.desc).map (fun d => d.parameters.length) = some 4 := ⟨rfl, by decide +kernel, by decide +kernel, by decide +kernel⟩
/-- the world with the block of n rows at the cell k replaced -/
def zBk (σ : zM) (k n : Nat) (N : Nat → Nat → Int) : zM := (fun a b => if k ≤ a ∧ a < k + n then N (a - k) b else σ.1 a b, σ.2)
def zRd (σ : zM) (k : Nat) : Nat → Nat → Int := fun r j => σ.1 (k + r) j
def up2 (N : Nat → Nat → Int) (r j : Nat) (x : Int) : Nat → Nat → Int := fun a b => if a = r ∧ b = j then x else N a b
theorem zBk_rd (σ : zM) (k n : Nat) : zBk σ k n (zRd σ k) = σ := by
  obtain ⟨f, g⟩ := σ
  unfold zBk zRd
  refine congrArg (fun z => (z, g)) (funext fun a => funext fun b => ?_)
  by_cases h : k ≤ a ∧ a < k + n
  · rw [if_pos h]; show f (k + (a - k)) b = f a b; rw [Nat.add_sub_cancel' h.1]
  · rw [if_neg h]
theorem zBk_row {σ : zM} {k n r : Nat} {N : Nat → Nat → Int} (h : r < n) : (zBk σ k n N).1 (k + r) = N r := by
  funext b
  show (if k ≤ k + r ∧ k + r < k + n then N (k + r - k) b else σ.1 (k + r) b) = N r b
  rw [if_pos ⟨by omega, by omega⟩, Nat.add_sub_cancel_left]
theorem zBk_row0 {σ : zM} {k n : Nat} {N : Nat → Nat → Int} (h : 0 < n) : (zBk σ k n N).1 k = N 0 := zBk_row (r := 0) h
theorem zBk_out {σ : zM} {k n a : Nat} {N : Nat → Nat → Int} (h : ¬ (k ≤ a ∧ a < k + n)) : (zBk σ k n N).1 a = σ.1 a := by
  funext b
  show (if k ≤ a ∧ a < k + n then N (a - k) b else σ.1 a b) = σ.1 a b
  rw [if_neg h]
theorem zBk_bk {σ : zM} {k n : Nat} {N N' : Nat → Nat → Int} : zBk (zBk σ k n N) k n N' = zBk σ k n N' := by
  unfold zBk
  refine congrArg (fun z => (z, σ.2)) (funext fun a => funext fun b => ?_)
  by_cases h : k ≤ a ∧ a < k + n
  · rw [if_pos h, if_pos h]
  · rw [if_neg h, if_neg h]; show (if k ≤ a ∧ a < k + n then N (a - k) b else σ.1 a b) = σ.1 a b; rw [if_neg h]
theorem zRd_bk {σ : zM} {k n r : Nat} {N : Nat → Nat → Int} (h : r < n) (j : Nat) : zRd (zBk σ k n N) k r j = N r j := congrFun (zBk_row h) j
theorem zS_bk {σ : zM} {k n r j : Nat} {N : Nat → Nat → Int} {x : Int} (h : r < n) : zS (zBk σ k n N) (k + r) j x = zBk σ k n (up2 N r j x) := by
  unfold zS zBk up2
  refine congrArg (fun z => (z, σ.2)) (funext fun a => funext fun b => ?_)
  show (if a = k + r ∧ b = j then x else (if k ≤ a ∧ a < k + n then N (a - k) b else σ.1 a b)) = (if k ≤ a ∧ a < k + n then (if a - k = r ∧ b = j then x else N (a - k) b) else σ.1 a b)
  by_cases h1 : k ≤ a ∧ a < k + n
  · rw [if_pos h1, if_pos h1]
    by_cases h2 : a = k + r ∧ b = j
    · rw [if_pos h2, if_pos ⟨by omega, h2.2⟩]
    · rw [if_neg h2, if_neg (fun h3 => h2 ⟨by omega, h3.2⟩)]
  · rw [if_neg h1, if_neg h1, if_neg (fun h3 => h1 ⟨by omega, by omega⟩)]
theorem zS_bk0 {σ : zM} {k n j : Nat} {N : Nat → Nat → Int} {x : Int} (h : 0 < n) : zS (zBk σ k n N) k j x = zBk σ k n (up2 N 0 j x) := zS_bk (r := 0) h
section Y
variable {p : Program} {l : Launch} {e : Env} {R : Room} {s : State} {m : MethodId} {args : Array Value} {below : List Frame} {meth : Method} {c : Code} {cc : ByteArray} {nL : Nat} {own : String} {D : va_G} {G : zG} {ad : Nat → Nat} {cells slots : Nat} {Q : State → Prop}
variable {pc : Nat} {lv : List (Nat × Value)} {st : List Value} {σ : zM} {N : Nat → Nat → Int}
/-- arrays of a block -/
theorem y_iald (X : zX p s m args c cc nL own D G ad) {k n w : Nat} (r : Nat) {i : Int} (A : zArr (k + r) w) (hr : r < n) (h0 : 0 ≤ i) (h1 : i < w) (hn : w < 2147483648) (d : decode cc pc = .ok (.iaload, 1))
    (kk : zV p l e R s m args below meth c nL D G ad cells slots Q (pc + 1) lv (vI (N r i.toNat) :: st) (zBk σ k n N)) : zV p l e R s m args below meth c nL D G ad cells slots Q pc lv (vI i :: .ref (ad (k + r)) :: st) (zBk σ k n N) :=
  z_iald X A h0 h1 hn d (by rw [zBk_row hr]; exact kk)
theorem y_iast (X : zX p s m args c cc nL own D G ad) {k n w : Nat} (r : Nat) {i x : Int} (A : zArr (k + r) w) (hr : r < n) (h0 : 0 ≤ i) (h1 : i < w) (hn : w < 2147483648) (d : decode cc pc = .ok (.iastore, 1))
    (kk : zV p l e R s m args below meth c nL D G ad cells slots Q (pc + 1) lv st (zBk σ k n (up2 N r i.toNat x))) : zV p l e R s m args below meth c nL D G ad cells slots Q pc lv (vI x :: vI i :: .ref (ad (k + r)) :: st) (zBk σ k n N) :=
  z_iast X A h0 h1 hn d (by rw [zS_bk hr]; exact kk)
theorem y_gNet0 (X : zX p s m args c cc nL own D G ad) {k : Nat} (hk : zNet k) {ix : Nat} (F : zFld own ix 2 0 RX2 TX2 11) (d : decode cc pc = .ok (.getfield ix, 3))
    (kk : zV p l e R s m args below meth c nL D G ad cells slots Q (pc + 3) lv (vI (N 0 0) :: st) (zBk σ k 8 N)) : zV p l e R s m args below meth c nL D G ad cells slots Q pc lv (.ref (ad k) :: st) (zBk σ k 8 N) :=
  z_get X F (zNet_lt hk) (zNet_obj hk ad G _ _) rfl d (by rw [show (zBk σ k 8 N).1 k 0 = N 0 0 from congrFun (zBk_row0 (by decide)) 0]; exact kk)
theorem y_pNet0 (X : zX p s m args c cc nL own D G ad) {k : Nat} (hk : zNet k) {ix : Nat} {x : Int} (F : zFld own ix 2 0 RX2 TX2 11) (d : decode cc pc = .ok (.putfield ix, 3))
    (kk : zV p l e R s m args below meth c nL D G ad cells slots Q (pc + 3) lv st (zBk σ k 8 (up2 N 0 0 x))) : zV p l e R s m args below meth c nL D G ad cells slots Q pc lv (vI x :: .ref (ad k) :: st) (zBk σ k 8 N) :=
  z_putI X F tyX2 tyX2_ok nmX2 (zNet_lt hk) (zNet_obj hk ad G _ _) (by rw [zNet_obj hk]; rfl) (Nat.le_of_ble_eq_true rfl) rfl (by decide +kernel) d (by rw [zS_bk0 (by decide)]; exact kk)
theorem y_gNet1 (X : zX p s m args c cc nL own D G ad) {k : Nat} (hk : zNet k) {ix : Nat} (F : zFld own ix 2 1 RX2 TX2 11) (d : decode cc pc = .ok (.getfield ix, 3))
    (kk : zV p l e R s m args below meth c nL D G ad cells slots Q (pc + 3) lv (vI (N 0 1) :: st) (zBk σ k 8 N)) : zV p l e R s m args below meth c nL D G ad cells slots Q pc lv (.ref (ad k) :: st) (zBk σ k 8 N) :=
  z_get X F (zNet_lt hk) (zNet_obj hk ad G _ _) rfl d (by rw [show (zBk σ k 8 N).1 k 1 = N 0 1 from congrFun (zBk_row0 (by decide)) 1]; exact kk)
theorem y_pNet1 (X : zX p s m args c cc nL own D G ad) {k : Nat} (hk : zNet k) {ix : Nat} {x : Int} (F : zFld own ix 2 1 RX2 TX2 11) (d : decode cc pc = .ok (.putfield ix, 3))
    (kk : zV p l e R s m args below meth c nL D G ad cells slots Q (pc + 3) lv st (zBk σ k 8 (up2 N 0 1 x))) : zV p l e R s m args below meth c nL D G ad cells slots Q pc lv (vI x :: .ref (ad k) :: st) (zBk σ k 8 N) :=
  z_putI X F tyX2 tyX2_ok nmX2 (zNet_lt hk) (zNet_obj hk ad G _ _) (by rw [zNet_obj hk]; rfl) (Nat.le_of_ble_eq_true rfl) rfl (by decide +kernel) d (by rw [zS_bk0 (by decide)]; exact kk)
theorem y_gNet2 (X : zX p s m args c cc nL own D G ad) {k : Nat} (hk : zNet k) {ix : Nat} (F : zFld own ix 2 2 RX2 TX2 11) (d : decode cc pc = .ok (.getfield ix, 3))
    (kk : zV p l e R s m args below meth c nL D G ad cells slots Q (pc + 3) lv (vI (N 0 2) :: st) (zBk σ k 8 N)) : zV p l e R s m args below meth c nL D G ad cells slots Q pc lv (.ref (ad k) :: st) (zBk σ k 8 N) :=
  z_get X F (zNet_lt hk) (zNet_obj hk ad G _ _) rfl d (by rw [show (zBk σ k 8 N).1 k 2 = N 0 2 from congrFun (zBk_row0 (by decide)) 2]; exact kk)
theorem y_pNet2 (X : zX p s m args c cc nL own D G ad) {k : Nat} (hk : zNet k) {ix : Nat} {x : Int} (F : zFld own ix 2 2 RX2 TX2 11) (d : decode cc pc = .ok (.putfield ix, 3))
    (kk : zV p l e R s m args below meth c nL D G ad cells slots Q (pc + 3) lv st (zBk σ k 8 (up2 N 0 2 x))) : zV p l e R s m args below meth c nL D G ad cells slots Q pc lv (vI x :: .ref (ad k) :: st) (zBk σ k 8 N) :=
  z_putI X F tyX2 tyX2_ok nmX2 (zNet_lt hk) (zNet_obj hk ad G _ _) (by rw [zNet_obj hk]; rfl) (Nat.le_of_ble_eq_true rfl) rfl (by decide +kernel) d (by rw [zS_bk0 (by decide)]; exact kk)
theorem y_gNet3 (X : zX p s m args c cc nL own D G ad) {k : Nat} (hk : zNet k) {ix : Nat} (F : zFld own ix 2 3 RX2 TX2 11) (d : decode cc pc = .ok (.getfield ix, 3))
    (kk : zV p l e R s m args below meth c nL D G ad cells slots Q (pc + 3) lv (vI (N 0 3) :: st) (zBk σ k 8 N)) : zV p l e R s m args below meth c nL D G ad cells slots Q pc lv (.ref (ad k) :: st) (zBk σ k 8 N) :=
  z_get X F (zNet_lt hk) (zNet_obj hk ad G _ _) rfl d (by rw [show (zBk σ k 8 N).1 k 3 = N 0 3 from congrFun (zBk_row0 (by decide)) 3]; exact kk)
theorem y_pNet3 (X : zX p s m args c cc nL own D G ad) {k : Nat} (hk : zNet k) {ix : Nat} {x : Int} (F : zFld own ix 2 3 RX2 TX2 11) (d : decode cc pc = .ok (.putfield ix, 3))
    (kk : zV p l e R s m args below meth c nL D G ad cells slots Q (pc + 3) lv st (zBk σ k 8 (up2 N 0 3 x))) : zV p l e R s m args below meth c nL D G ad cells slots Q pc lv (vI x :: .ref (ad k) :: st) (zBk σ k 8 N) :=
  z_putI X F tyX2 tyX2_ok nmX2 (zNet_lt hk) (zNet_obj hk ad G _ _) (by rw [zNet_obj hk]; rfl) (Nat.le_of_ble_eq_true rfl) rfl (by decide +kernel) d (by rw [zS_bk0 (by decide)]; exact kk)
theorem y_gNet4 (X : zX p s m args c cc nL own D G ad) {k : Nat} (hk : zNet k) {ix : Nat} (F : zFld own ix 2 4 RX2 TX2 11) (d : decode cc pc = .ok (.getfield ix, 3))
    (kk : zV p l e R s m args below meth c nL D G ad cells slots Q (pc + 3) lv (.ref (ad (k + 1)) :: st) σ) : zV p l e R s m args below meth c nL D G ad cells slots Q pc lv (.ref (ad k) :: st) σ :=
  z_get X F (zNet_lt hk) (zNet_obj hk ad G _ _) rfl d kk
theorem y_gNet5 (X : zX p s m args c cc nL own D G ad) {k : Nat} (hk : zNet k) {ix : Nat} (F : zFld own ix 2 5 RX2 TX2 11) (d : decode cc pc = .ok (.getfield ix, 3))
    (kk : zV p l e R s m args below meth c nL D G ad cells slots Q (pc + 3) lv (.ref (ad (k + 2)) :: st) σ) : zV p l e R s m args below meth c nL D G ad cells slots Q pc lv (.ref (ad k) :: st) σ :=
  z_get X F (zNet_lt hk) (zNet_obj hk ad G _ _) rfl d kk
theorem y_gNet6 (X : zX p s m args c cc nL own D G ad) {k : Nat} (hk : zNet k) {ix : Nat} (F : zFld own ix 2 6 RX2 TX2 11) (d : decode cc pc = .ok (.getfield ix, 3))
    (kk : zV p l e R s m args below meth c nL D G ad cells slots Q (pc + 3) lv (.ref (ad (k + 3)) :: st) σ) : zV p l e R s m args below meth c nL D G ad cells slots Q pc lv (.ref (ad k) :: st) σ :=
  z_get X F (zNet_lt hk) (zNet_obj hk ad G _ _) rfl d kk
theorem y_gNet7 (X : zX p s m args c cc nL own D G ad) {k : Nat} (hk : zNet k) {ix : Nat} (F : zFld own ix 2 7 RX2 TX2 11) (d : decode cc pc = .ok (.getfield ix, 3))
    (kk : zV p l e R s m args below meth c nL D G ad cells slots Q (pc + 3) lv (.ref (ad (k + 4)) :: st) σ) : zV p l e R s m args below meth c nL D G ad cells slots Q pc lv (.ref (ad k) :: st) σ :=
  z_get X F (zNet_lt hk) (zNet_obj hk ad G _ _) rfl d kk
theorem y_gNet8 (X : zX p s m args c cc nL own D G ad) {k : Nat} (hk : zNet k) {ix : Nat} (F : zFld own ix 2 8 RX2 TX2 11) (d : decode cc pc = .ok (.getfield ix, 3))
    (kk : zV p l e R s m args below meth c nL D G ad cells slots Q (pc + 3) lv (.ref (ad (k + 5)) :: st) σ) : zV p l e R s m args below meth c nL D G ad cells slots Q pc lv (.ref (ad k) :: st) σ :=
  z_get X F (zNet_lt hk) (zNet_obj hk ad G _ _) rfl d kk
theorem y_gNet9 (X : zX p s m args c cc nL own D G ad) {k : Nat} (hk : zNet k) {ix : Nat} (F : zFld own ix 2 9 RX2 TX2 11) (d : decode cc pc = .ok (.getfield ix, 3))
    (kk : zV p l e R s m args below meth c nL D G ad cells slots Q (pc + 3) lv (.ref (ad (k + 6)) :: st) σ) : zV p l e R s m args below meth c nL D G ad cells slots Q pc lv (.ref (ad k) :: st) σ :=
  z_get X F (zNet_lt hk) (zNet_obj hk ad G _ _) rfl d kk
theorem y_gNet10 (X : zX p s m args c cc nL own D G ad) {k : Nat} (hk : zNet k) {ix : Nat} (F : zFld own ix 2 10 RX2 TX2 11) (d : decode cc pc = .ok (.getfield ix, 3))
    (kk : zV p l e R s m args below meth c nL D G ad cells slots Q (pc + 3) lv (.ref (ad (k + 7)) :: st) σ) : zV p l e R s m args below meth c nL D G ad cells slots Q pc lv (.ref (ad k) :: st) σ :=
  z_get X F (zNet_lt hk) (zNet_obj hk ad G _ _) rfl d kk
theorem y_gTxt1 (X : zX p s m args c cc nL own D G ad)  {ix : Nat} (F : zFld own ix 0 1 RX0 TX0 2) (d : decode cc pc = .ok (.getfield ix, 3))
    (kk : zV p l e R s m args below meth c nL D G ad cells slots Q (pc + 3) lv (vI (N 0 1) :: st) (zBk σ 3 2 N)) : zV p l e R s m args below meth c nL D G ad cells slots Q pc lv (.ref (ad 3) :: st) (zBk σ 3 2 N) :=
  z_get X F (by decide) rfl rfl d (by rw [show (zBk σ 3 2 N).1 3 1 = N 0 1 from congrFun (zBk_row0 (by decide)) 1]; exact kk)
theorem y_pTxt1 (X : zX p s m args c cc nL own D G ad)  {ix : Nat} {x : Int} (F : zFld own ix 0 1 RX0 TX0 2) (d : decode cc pc = .ok (.putfield ix, 3))
    (kk : zV p l e R s m args below meth c nL D G ad cells slots Q (pc + 3) lv st (zBk σ 3 2 (up2 N 0 1 x))) : zV p l e R s m args below meth c nL D G ad cells slots Q pc lv (vI x :: .ref (ad 3) :: st) (zBk σ 3 2 N) :=
  z_putI X F tyX0 tyX0_ok nmX0 (by decide) rfl rfl (Nat.le_of_ble_eq_true rfl) rfl (by decide +kernel) d (by rw [zS_bk0 (by decide)]; exact kk)
theorem y_gTxt0 (X : zX p s m args c cc nL own D G ad)  {ix : Nat} (F : zFld own ix 0 0 RX0 TX0 2) (d : decode cc pc = .ok (.getfield ix, 3))
    (kk : zV p l e R s m args below meth c nL D G ad cells slots Q (pc + 3) lv (.ref (ad 4) :: st) σ) : zV p l e R s m args below meth c nL D G ad cells slots Q pc lv (.ref (ad 3) :: st) σ :=
  z_get X F (by decide) rfl rfl d kk
theorem y_gHis1 (X : zX p s m args c cc nL own D G ad)  {ix : Nat} (F : zFld own ix 1 1 RX1 TX1 2) (d : decode cc pc = .ok (.getfield ix, 3))
    (kk : zV p l e R s m args below meth c nL D G ad cells slots Q (pc + 3) lv (vI (N 0 1) :: st) (zBk σ 1 2 N)) : zV p l e R s m args below meth c nL D G ad cells slots Q pc lv (.ref (ad 1) :: st) (zBk σ 1 2 N) :=
  z_get X F (by decide) rfl rfl d (by rw [show (zBk σ 1 2 N).1 1 1 = N 0 1 from congrFun (zBk_row0 (by decide)) 1]; exact kk)
theorem y_pHis1 (X : zX p s m args c cc nL own D G ad)  {ix : Nat} {x : Int} (F : zFld own ix 1 1 RX1 TX1 2) (d : decode cc pc = .ok (.putfield ix, 3))
    (kk : zV p l e R s m args below meth c nL D G ad cells slots Q (pc + 3) lv st (zBk σ 1 2 (up2 N 0 1 x))) : zV p l e R s m args below meth c nL D G ad cells slots Q pc lv (vI x :: .ref (ad 1) :: st) (zBk σ 1 2 N) :=
  z_putI X F tyX1 tyX1_ok nmX1 (by decide) rfl rfl (Nat.le_of_ble_eq_true rfl) rfl (by decide +kernel) d (by rw [zS_bk0 (by decide)]; exact kk)
theorem y_gHis0 (X : zX p s m args c cc nL own D G ad)  {ix : Nat} (F : zFld own ix 1 0 RX1 TX1 2) (d : decode cc pc = .ok (.getfield ix, 3))
    (kk : zV p l e R s m args below meth c nL D G ad cells slots Q (pc + 3) lv (.ref (ad 2) :: st) σ) : zV p l e R s m args below meth c nL D G ad cells slots Q pc lv (.ref (ad 1) :: st) σ :=
  z_get X F (by decide) rfl rfl d kk
theorem y_gDea0 (X : zX p s m args c cc nL own D G ad)  {ix : Nat} (F : zFld own ix 3 0 RX3 TX3 4) (d : decode cc pc = .ok (.getfield ix, 3))
    (kk : zV p l e R s m args below meth c nL D G ad cells slots Q (pc + 3) lv (.ref (ad 8) :: st) σ) : zV p l e R s m args below meth c nL D G ad cells slots Q pc lv (.ref (ad 0) :: st) σ :=
  z_get X F (by decide) rfl rfl d kk
theorem y_gDea1 (X : zX p s m args c cc nL own D G ad)  {ix : Nat} (F : zFld own ix 3 1 RX3 TX3 4) (d : decode cc pc = .ok (.getfield ix, 3))
    (kk : zV p l e R s m args below meth c nL D G ad cells slots Q (pc + 3) lv (.ref (ad 16) :: st) σ) : zV p l e R s m args below meth c nL D G ad cells slots Q pc lv (.ref (ad 0) :: st) σ :=
  z_get X F (by decide) rfl rfl d kk
theorem y_gDea2 (X : zX p s m args c cc nL own D G ad)  {ix : Nat} (F : zFld own ix 3 2 RX3 TX3 4) (d : decode cc pc = .ok (.getfield ix, 3))
    (kk : zV p l e R s m args below meth c nL D G ad cells slots Q (pc + 3) lv (.ref (ad 1) :: st) σ) : zV p l e R s m args below meth c nL D G ad cells slots Q pc lv (.ref (ad 0) :: st) σ :=
  z_get X F (by decide) rfl rfl d kk
theorem y_gDea3 (X : zX p s m args c cc nL own D G ad)  {ix : Nat} (F : zFld own ix 3 3 RX3 TX3 4) (d : decode cc pc = .ok (.getfield ix, 3))
    (kk : zV p l e R s m args below meth c nL D G ad cells slots Q (pc + 3) lv (.ref (ad 3) :: st) σ) : zV p l e R s m args below meth c nL D G ad cells slots Q pc lv (.ref (ad 0) :: st) σ :=
  z_get X F (by decide) rfl rfl d kk
end Y
