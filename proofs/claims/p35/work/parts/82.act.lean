set_option maxHeartbeats 4000000 in
set_option maxRecDepth 100000 in
theorem c_L_act {l : Launch} {D : va_G} {G : zG} {ad : Nat → Nat} (hJ : zInj ad) (σ : zM) (fi : fI σ) (j : jN (gA σ)) {x y : Int} (hx : zB x) (hy : zB y)  : zKI l D G ad yL_act cL_act 12 (some .int) 9 [.ref (ad 0), vI x, vI y] σ (fun z σ9 => z = (pAct (gA σ) x y).1 ∧ σ9 = zBk (fSv σ) 8 8 (pAct (gA σ) x y).2) := by
  intro sz
  refine z_open hJ (by decide +kernel) (Nat.le_of_ble_eq_true rfl) ?_
  intro p e s0 m args below meth c hsz X hr hlocks
  have hn := ok_n fi.1
  refine z_sub [(0, .ref (ad 0)), (1, vI x), (2, vI y)] (zSub_cons rfl (zSub_cons rfl (zSub_cons rfl zSub_nil))) ?_
  refine z_aload_n X dL_act_0 rfl ?_
  refine z_callVI0 X (c_X3_deals hJ σ fi  ) kL_9 rfl (by decide) rfl ⟨(Nat.le_of_ble_eq_true rfl), (Nat.le_of_ble_eq_true rfl)⟩ (Nat.le_of_ble_eq_true rfl) ⟨(Nat.le_of_ble_eq_true rfl), (Nat.le_of_ble_eq_true rfl)⟩ dL_act_1 (fun z9 σ1 hz9 => ?_)
  obtain ⟨rfl, e9⟩ := hz9
  rw [e9]
  refine z_istore_n X dL_act_4 (by decide) ?_
  refine z_sub [(0, .ref (ad 0)), (1, vI x), (2, vI y), (3, vI ((gA σ) 0 0))] (zSub_cons rfl (zSub_cons rfl (zSub_cons rfl (zSub_cons rfl zSub_nil)))) ?_
  refine z_iconst X dL_act_5 ?_
  refine z_iload_n X dL_act_6 rfl ?_
  refine z_iconst X dL_act_7 ?_
  refine z_callSI2 X (c_L_up hJ σ hy ⟨by omega, ⟨by decide, by decide⟩⟩) kL_15 ⟨(Nat.le_of_ble_eq_true rfl), (Nat.le_of_ble_eq_true rfl)⟩ (Nat.le_of_ble_eq_true rfl) ⟨(Nat.le_of_ble_eq_true rfl), (Nat.le_of_ble_eq_true rfl)⟩ dL_act_8 (fun z9 σ1 hz9 => ?_)
  obtain ⟨rfl, e9⟩ := hz9
  rw [e9]
  have hu_1 := rg_up y (n := 5) (by omega)
  refine z_shl X dL_act_11 (zShl_eq 3 (pUp y 5)) ?_
  refine z_iload_n X dL_act_12 rfl ?_
  refine z_iconst X dL_act_13 ?_
  refine z_shr X dL_act_14 (zShr_eq y 3) ?_
  refine z_bipush X dL_act_15 rfl ?_
  refine z_callSI2 X (c_L_up hJ σ (zB_toInt _) ⟨by omega, ⟨by decide, by decide⟩⟩) kL_15 ⟨(Nat.le_of_ble_eq_true rfl), (Nat.le_of_ble_eq_true rfl)⟩ (Nat.le_of_ble_eq_true rfl) ⟨(Nat.le_of_ble_eq_true rfl), (Nat.le_of_ble_eq_true rfl)⟩ dL_act_17 (fun z9 σ1 hz9 => ?_)
  obtain ⟨rfl, e9⟩ := hz9
  rw [e9]
  have hu_2 := rg_up (zShr y 3) (n := 64) (by omega)
  refine z_or X dL_act_20 (zOr_eq (zShl 3 (pUp y 5)) (pUp (zShr y 3) 64)) ?_
  refine z_istore X dL_act_21 (by decide) ?_
  refine z_sub [(0, .ref (ad 0)), (1, vI x), (2, vI y), (3, vI ((gA σ) 0 0)), (4, vI (zOr (zShl 3 (pUp y 5)) (pUp (zShr y 3) 64)))] (zSub_cons rfl (zSub_cons rfl (zSub_cons rfl (zSub_cons rfl (zSub_cons rfl zSub_nil))))) ?_
  refine z_iload_n X dL_act_23 rfl ?_
  refine z_bipush X dL_act_24 rfl ?_
  refine z_shr X dL_act_26 (zShr_eq y 9) ?_
  refine z_bipush X dL_act_27 rfl ?_
  refine z_callSI2 X (c_L_up hJ σ (zB_toInt _) ⟨by omega, ⟨by decide, by decide⟩⟩) kL_15 ⟨(Nat.le_of_ble_eq_true rfl), (Nat.le_of_ble_eq_true rfl)⟩ (Nat.le_of_ble_eq_true rfl) ⟨(Nat.le_of_ble_eq_true rfl), (Nat.le_of_ble_eq_true rfl)⟩ dL_act_29 (fun z9 σ1 hz9 => ?_)
  obtain ⟨rfl, e9⟩ := hz9
  rw [e9]
  have hu_3 := rg_up (zShr y 9) (n := 6) (by omega)
  refine z_istore X dL_act_32 (by decide) ?_
  refine z_sub [(0, .ref (ad 0)), (1, vI x), (2, vI y), (3, vI ((gA σ) 0 0)), (4, vI (zOr (zShl 3 (pUp y 5)) (pUp (zShr y 3) 64))), (5, vI (pUp (zShr y 9) 6))] (zSub_cons rfl (zSub_cons rfl (zSub_cons rfl (zSub_cons rfl (zSub_cons rfl (zSub_cons rfl zSub_nil)))))) ?_
  suffices key34 : ∀ (b : Int), ((b = 0 ∨ b = 1) ∧ (b = 1 ↔ (gA σ 0 0 < 8 ∧ cUp (gA σ) (pUp (zShr y 9) 6)))) → zV p l e (zRm 9) s0 m args below meth c 12 D G ad 0 0 (zE below (zQI D G ad sz (fun z σ9 => z = (pAct (gA σ) x y).1 ∧ σ9 = zBk (fSv σ) 8 8 (pAct (gA σ) x y).2)) args s0 ad) 56 [(0, .ref (ad 0)), (1, vI x), (2, vI y), (3, vI ((gA σ) 0 0)), (4, vI (zOr (zShl 3 (pUp y 5)) (pUp (zShr y 3) 64))), (5, vI (pUp (zShr y 9) 6)), (6, vI b)] [] σ by
    refine z_iload_n X dL_act_34 rfl ?_
    refine z_bipush X dL_act_35 rfl ?_
    refine z_icmp_ge X 53 dL_act_37 (by decide) (zB_sm (ok_n fi.1)) ⟨by decide, by decide⟩ (fun c_4 => ?_) (fun c_4 => ?_)
    · refine z_iconst X dL_act_53 ?_
      refine z_istore X dL_act_54 (by decide) ?_
      refine z_sub [(0, .ref (ad 0)), (1, vI x), (2, vI y), (3, vI ((gA σ) 0 0)), (4, vI (zOr (zShl 3 (pUp y 5)) (pUp (zShr y 3) 64))), (5, vI (pUp (zShr y 9) 6)), (6, vI 0)] (zSub_cons rfl (zSub_cons rfl (zSub_cons rfl (zSub_cons rfl (zSub_cons rfl (zSub_cons rfl (zSub_cons rfl zSub_nil))))))) ?_
      refine z_sub [(0, .ref (ad 0)), (1, vI x), (2, vI y), (3, vI ((gA σ) 0 0)), (4, vI (zOr (zShl 3 (pUp y 5)) (pUp (zShr y 3) 64))), (5, vI (pUp (zShr y 9) 6)), (6, vI 0)] (zSub_cons rfl (zSub_cons rfl (zSub_cons rfl (zSub_cons rfl (zSub_cons rfl (zSub_cons rfl (zSub_cons rfl zSub_nil))))))) ?_
      exact key34 _ ⟨by decide, by grind⟩
    · refine z_aload_n X dL_act_40 rfl ?_
      refine z_iload X dL_act_41 rfl ?_
      refine z_callVI1 X (c_X3_isUp hJ σ fi (by unfold zB at *; omega) ⟨by omega, by omega⟩) kL_21 rfl (by decide) rfl ⟨(Nat.le_of_ble_eq_true rfl), (Nat.le_of_ble_eq_true rfl)⟩ (Nat.le_of_ble_eq_true rfl) ⟨(Nat.le_of_ble_eq_true rfl), (Nat.le_of_ble_eq_true rfl)⟩ dL_act_43 (fun z9 σ1 hz9 => ?_)
      obtain ⟨rfl, e9⟩ := hz9
      rw [e9]
      refine z_ifb_eq X 53 dL_act_46 (by decide) (fun c_5 => ?_) (fun c_5 => ?_)
      · refine z_iconst X dL_act_53 ?_
        refine z_istore X dL_act_54 (by decide) ?_
        refine z_sub [(0, .ref (ad 0)), (1, vI x), (2, vI y), (3, vI ((gA σ) 0 0)), (4, vI (zOr (zShl 3 (pUp y 5)) (pUp (zShr y 3) 64))), (5, vI (pUp (zShr y 9) 6)), (6, vI 0)] (zSub_cons rfl (zSub_cons rfl (zSub_cons rfl (zSub_cons rfl (zSub_cons rfl (zSub_cons rfl (zSub_cons rfl zSub_nil))))))) ?_
        refine z_sub [(0, .ref (ad 0)), (1, vI x), (2, vI y), (3, vI ((gA σ) 0 0)), (4, vI (zOr (zShl 3 (pUp y 5)) (pUp (zShr y 3) 64))), (5, vI (pUp (zShr y 9) 6)), (6, vI 0)] (zSub_cons rfl (zSub_cons rfl (zSub_cons rfl (zSub_cons rfl (zSub_cons rfl (zSub_cons rfl (zSub_cons rfl zSub_nil))))))) ?_
        exact key34 _ ⟨by decide, by grind⟩
      · refine z_iconst X dL_act_49 ?_
        refine z_goto X 54 dL_act_50 (by decide) ?_
        refine z_istore X dL_act_54 (by decide) ?_
        refine z_sub [(0, .ref (ad 0)), (1, vI x), (2, vI y), (3, vI ((gA σ) 0 0)), (4, vI (zOr (zShl 3 (pUp y 5)) (pUp (zShr y 3) 64))), (5, vI (pUp (zShr y 9) 6)), (6, vI 1)] (zSub_cons rfl (zSub_cons rfl (zSub_cons rfl (zSub_cons rfl (zSub_cons rfl (zSub_cons rfl (zSub_cons rfl zSub_nil))))))) ?_
        refine z_sub [(0, .ref (ad 0)), (1, vI x), (2, vI y), (3, vI ((gA σ) 0 0)), (4, vI (zOr (zShl 3 (pUp y 5)) (pUp (zShr y 3) 64))), (5, vI (pUp (zShr y 9) 6)), (6, vI 1)] (zSub_cons rfl (zSub_cons rfl (zSub_cons rfl (zSub_cons rfl (zSub_cons rfl (zSub_cons rfl (zSub_cons rfl zSub_nil))))))) ?_
        exact key34 _ ⟨by decide, by grind⟩
  intro b hk34
  refine z_iconst X dL_act_56 ?_
  refine z_istore X dL_act_57 (by decide) ?_
  refine z_sub [(0, .ref (ad 0)), (1, vI x), (2, vI y), (3, vI ((gA σ) 0 0)), (4, vI (zOr (zShl 3 (pUp y 5)) (pUp (zShr y 3) 64))), (5, vI (pUp (zShr y 9) 6)), (6, vI b), (7, vI 0)] (zSub_cons rfl (zSub_cons rfl (zSub_cons rfl (zSub_cons rfl (zSub_cons rfl (zSub_cons rfl (zSub_cons rfl (zSub_cons rfl zSub_nil)))))))) ?_
  refine z_sub [(0, .ref (ad 0)), (1, vI x), (2, vI y), (3, vI ((gA σ) 0 0)), (4, vI (zOr (zShl 3 (pUp y 5)) (pUp (zShr y 3) 64))), (5, vI (pUp (zShr y 9) 6)), (6, vI b), (7, vI 0)] (zSub_cons rfl (zSub_cons rfl (zSub_cons rfl (zSub_cons rfl (zSub_cons rfl (zSub_cons rfl (zSub_cons rfl (zSub_cons rfl zSub_nil)))))))) ?_
  refine zFor (S := Int) 6 (fun i b2 => ((b2 = 0 ∨ b2 = 1) ∧ (b2 = 1 ↔ ((gA σ 0 0 < 8 ∧ cUp (gA σ) (pLd y)) ∧ zAny (fun s => decide (zAnd (zShr (pMk y) s) 1 ≠ 0 ∧ ¬ cUp (gA σ) s)) i.toNat = false)))) (fun i b2 => zV p l e (zRm 9) s0 m args below meth c 12 D G ad 0 0 (zE below (zQI D G ad sz (fun z σ9 => z = (pAct (gA σ) x y).1 ∧ σ9 = zBk (fSv σ) 8 8 (pAct (gA σ) x y).2)) args s0 ad) 59 [(0, .ref (ad 0)), (1, vI x), (2, vI y), (3, vI ((gA σ) 0 0)), (4, vI (zOr (zShl 3 (pUp y 5)) (pUp (zShr y 3) 64))), (5, vI (pUp (zShr y 9) 6)), (6, vI b2), (7, vI i)] [] σ) (fun i b2 i0 i1 hv ih => ?_) b (by decide) ⟨hk34.1, hk34.2.trans ⟨fun h => ⟨h, rfl⟩, fun h => h.1⟩⟩
  refine z_iload X dL_act_59 rfl ?_
  refine z_bipush X dL_act_61 rfl ?_
  refine z_icmp_ge X 103 dL_act_63 (by decide) (by first | assumption | exact ⟨by decide, by decide⟩ | (unfold zB at *; omega)) ⟨by decide, by decide⟩ (fun c_6 => ?_) (fun c_6 => ?_)
  · have hi6 : i = 6 := by omega
    subst hi6
    have hare : b2 = 1 ↔ pAre (gA σ) y := hv.2
    have hb2 := hv.1
    refine z_sub [(0, .ref (ad 0)), (1, vI x), (2, vI y), (3, vI ((gA σ) 0 0)), (4, vI (zOr (zShl 3 (pUp y 5)) (pUp (zShr y 3) 64))), (5, vI (pUp (zShr y 9) 6)), (6, vI b2)] (zSub_cons rfl (zSub_cons rfl (zSub_cons rfl (zSub_cons rfl (zSub_cons rfl (zSub_cons rfl (zSub_cons rfl zSub_nil))))))) ?_
    refine z_iload_n X dL_act_103 rfl ?_
    refine z_bipush X dL_act_104 rfl ?_
    refine z_callSI2 X (c_L_up hJ σ hx ⟨by omega, ⟨by decide, by decide⟩⟩) kL_15 ⟨(Nat.le_of_ble_eq_true rfl), (Nat.le_of_ble_eq_true rfl)⟩ (Nat.le_of_ble_eq_true rfl) ⟨(Nat.le_of_ble_eq_true rfl), (Nat.le_of_ble_eq_true rfl)⟩ dL_act_106 (fun z9 σ1 hz9 => ?_)
    obtain ⟨rfl, e9⟩ := hz9
    rw [e9]
    have hu_7 := rg_up x (n := 20) (by omega)
    refine z_istore X dL_act_109 (by decide) ?_
    refine z_sub [(0, .ref (ad 0)), (1, vI x), (2, vI y), (3, vI ((gA σ) 0 0)), (4, vI (zOr (zShl 3 (pUp y 5)) (pUp (zShr y 3) 64))), (5, vI (pUp (zShr y 9) 6)), (6, vI b2), (7, vI (pUp x 20))] (zSub_cons rfl (zSub_cons rfl (zSub_cons rfl (zSub_cons rfl (zSub_cons rfl (zSub_cons rfl (zSub_cons rfl (zSub_cons rfl zSub_nil)))))))) ?_
    refine z_iload_n X dL_act_111 rfl ?_
    refine z_if_eq X 121 dL_act_112 (by decide) (zB_sm (ok_n fi.1)) (fun c_8 => ?_) (fun c_8 => ?_)
    · refine z_iload X dL_act_121 rfl ?_
      refine z_if_eq X 148 dL_act_123 (by decide) (by rcases hb2 with h | h <;> rw [h] <;> exact ⟨by decide, by decide⟩) (fun c_9 => ?_) (fun c_9 => ?_)
      · have har : ¬ pAre (gA σ) y := fun h => (by have := hare.mpr h; omega)
        refine z_aload_n X dL_act_148 rfl ?_
        refine z_iconst X dL_act_149 ?_
        refine z_iload_n X dL_act_150 rfl ?_
        refine z_bipush X dL_act_151 rfl ?_
        refine z_callSI2 X (c_L_up hJ σ hy ⟨by omega, ⟨by decide, by decide⟩⟩) kL_15 ⟨(Nat.le_of_ble_eq_true rfl), (Nat.le_of_ble_eq_true rfl)⟩ (Nat.le_of_ble_eq_true rfl) ⟨(Nat.le_of_ble_eq_true rfl), (Nat.le_of_ble_eq_true rfl)⟩ dL_act_153 (fun z9 σ1 hz9 => ?_)
        obtain ⟨rfl, e9⟩ := hz9
        rw [e9]
        have hu_10 := rg_up y (n := 20) (by omega)
        refine z_iadd X dL_act_156 ?_
        refine z_callVI1 X (c_X3_setPatience hJ σ fi (by first | assumption | exact ⟨by decide, by decide⟩ | (unfold zB at *; omega)) ⟨by omega, by omega⟩) kL_29 rfl (by decide) rfl ⟨(Nat.le_of_ble_eq_true rfl), (Nat.le_of_ble_eq_true rfl)⟩ (Nat.le_of_ble_eq_true rfl) ⟨(Nat.le_of_ble_eq_true rfl), (Nat.le_of_ble_eq_true rfl)⟩ dL_act_157 (fun z9 σ1 hz9 => ?_)
        obtain ⟨rfl, rfl⟩ := hz9
        have hpa : pAct (gA σ) x y = (((gA σ) 0 3), up2 (gA σ) 0 3 (1 + pUp y 20)) := by unfold pAct; rw [if_pos (show gA σ 0 0 = 0 ∨ pUp x 20 < 2 by omega)]; unfold pB; exact if_neg har
        exact z_iret X hsz hr hlocks dL_act_160 ⟨(congrArg Prod.fst hpa).symm, congrArg (zBk (fSv σ) 8 8) (congrArg Prod.snd hpa).symm⟩
      · have har : pAre (gA σ) y := hare.mp (by omega)
        refine z_aload_n X dL_act_126 rfl ?_
        refine z_iload X dL_act_127 rfl ?_
        refine z_iload X dL_act_129 rfl ?_
        refine z_bipush X dL_act_131 rfl ?_
        refine z_and X dL_act_133 (zAnd_eq (zOr (zShl 3 (pUp y 5)) (pUp (zShr y 3) 64)) 63) ?_
        refine z_iload_n X dL_act_134 rfl ?_
        refine z_bipush X dL_act_135 rfl ?_
        refine z_shr X dL_act_137 (zShr_eq y 12) ?_
        refine z_iconst X dL_act_138 ?_
        refine z_callSI2 X (c_L_up hJ σ (zB_toInt _) ⟨by omega, ⟨by decide, by decide⟩⟩) kL_15 ⟨(Nat.le_of_ble_eq_true rfl), (Nat.le_of_ble_eq_true rfl)⟩ (Nat.le_of_ble_eq_true rfl) ⟨(Nat.le_of_ble_eq_true rfl), (Nat.le_of_ble_eq_true rfl)⟩ dL_act_139 (fun z9 σ1 hz9 => ?_)
        obtain ⟨rfl, e9⟩ := hz9
        rw [e9]
        have hu_11 := rg_up (zShr y 12) (n := 3) (by omega)
        refine z_callVI3 X (c_X3_begin hJ σ fi (by unfold zB at *; omega) (zB_toInt _) (by unfold zB at *; omega) ⟨by omega, by omega⟩ ⟨(pMk_ok y).1, (pMk_ok y).2.1⟩ (pMk_ok y).2.2 ⟨by omega, by omega⟩ (pMk_can fi.1 har)) kL_25 rfl (by decide) rfl ⟨(Nat.le_of_ble_eq_true rfl), (Nat.le_of_ble_eq_true rfl)⟩ (Nat.le_of_ble_eq_true rfl) ⟨(Nat.le_of_ble_eq_true rfl), (Nat.le_of_ble_eq_true rfl)⟩ dL_act_142 (fun z9 σ1 hz9 => ?_)
        obtain ⟨rfl, rfl⟩ := hz9
        refine z_goto X 160 dL_act_145 (by decide) ?_
        have hpa : pAct (gA σ) x y = ((cAddR (gA σ) (pUp (zShr y 9) 6) (zAnd (zOr (zShl 3 (pUp y 5)) (pUp (zShr y 3) 64)) 63)), cAddN (gA σ) (pLd y) (zAnd (pMk y) 63) (pUp (zShr y 12) 3)) := by unfold pAct; rw [if_pos (show gA σ 0 0 = 0 ∨ pUp x 20 < 2 by omega)]; unfold pB; exact if_pos har
        exact z_iret X hsz hr hlocks dL_act_160 ⟨(congrArg Prod.fst hpa).symm, congrArg (zBk (fSv σ) 8 8) (congrArg Prod.snd hpa).symm⟩
    · refine z_iload X dL_act_115 rfl ?_
      refine z_iconst X dL_act_117 ?_
      refine z_icmp_ge X 161 dL_act_118 (by decide) (by unfold zB at *; omega) ⟨by decide, by decide⟩ (fun c_12 => ?_) (fun c_12 => ?_)
      · have hd0 : 0 < gA σ 0 0 := by omega
        have hn0 : ¬ (gA σ 0 0 = 0 ∨ pUp x 20 < 2) := by omega
        refine z_iload_n X dL_act_161 rfl ?_
        refine z_iload_n X dL_act_162 rfl ?_
        refine z_callSI2 X (c_L_up hJ σ hy ⟨by omega, (zB_sm (ok_n fi.1))⟩) kL_15 ⟨(Nat.le_of_ble_eq_true rfl), (Nat.le_of_ble_eq_true rfl)⟩ (Nat.le_of_ble_eq_true rfl) ⟨(Nat.le_of_ble_eq_true rfl), (Nat.le_of_ble_eq_true rfl)⟩ dL_act_163 (fun z9 σ1 hz9 => ?_)
        obtain ⟨rfl, e9⟩ := hz9
        rw [e9]
        have hu_13 := rg_up y (n := ((gA σ) 0 0)) (by omega)
        refine z_istore X dL_act_166 (by decide) ?_
        refine z_sub [(0, .ref (ad 0)), (1, vI x), (2, vI y), (3, vI ((gA σ) 0 0)), (4, vI (zOr (zShl 3 (pUp y 5)) (pUp (zShr y 3) 64))), (5, vI (pUp (zShr y 9) 6)), (6, vI b2), (7, vI (pUp x 20)), (8, vI (pUp y ((gA σ) 0 0)))] (zSub_cons rfl (zSub_cons rfl (zSub_cons rfl (zSub_cons rfl (zSub_cons rfl (zSub_cons rfl (zSub_cons rfl (zSub_cons rfl (zSub_cons rfl zSub_nil))))))))) ?_
        refine z_iload_n X dL_act_168 rfl ?_
        refine z_iconst X dL_act_169 ?_
        refine z_shr X dL_act_170 (zShr_eq y 3) ?_
        refine z_bipush X dL_act_171 rfl ?_
        refine z_callSI2 X (c_L_up hJ σ (zB_toInt _) ⟨by omega, ⟨by decide, by decide⟩⟩) kL_15 ⟨(Nat.le_of_ble_eq_true rfl), (Nat.le_of_ble_eq_true rfl)⟩ (Nat.le_of_ble_eq_true rfl) ⟨(Nat.le_of_ble_eq_true rfl), (Nat.le_of_ble_eq_true rfl)⟩ dL_act_173 (fun z9 σ1 hz9 => ?_)
        obtain ⟨rfl, e9⟩ := hz9
        rw [e9]
        have hu_14 := rg_up (zShr y 3) (n := 6) (by omega)
        refine z_istore X dL_act_176 (by decide) ?_
        refine z_sub [(0, .ref (ad 0)), (1, vI x), (2, vI y), (3, vI ((gA σ) 0 0)), (4, vI (zOr (zShl 3 (pUp y 5)) (pUp (zShr y 3) 64))), (5, vI (pUp (zShr y 9) 6)), (6, vI b2), (7, vI (pUp x 20)), (8, vI (pUp y ((gA σ) 0 0))), (9, vI (pUp (zShr y 3) 6))] (zSub_cons rfl (zSub_cons rfl (zSub_cons rfl (zSub_cons rfl (zSub_cons rfl (zSub_cons rfl (zSub_cons rfl (zSub_cons rfl (zSub_cons rfl (zSub_cons rfl zSub_nil)))))))))) ?_
        refine z_iload X dL_act_178 rfl ?_
        refine z_iconst X dL_act_180 ?_
        refine z_iadd X dL_act_181 ?_
        refine z_iload_n X dL_act_182 rfl ?_
        refine z_bipush X dL_act_183 rfl ?_
        refine z_shr X dL_act_185 (zShr_eq y 6) ?_
        refine z_iconst X dL_act_186 ?_
        refine z_callSI2 X (c_L_up hJ σ (zB_toInt _) ⟨by omega, ⟨by decide, by decide⟩⟩) kL_15 ⟨(Nat.le_of_ble_eq_true rfl), (Nat.le_of_ble_eq_true rfl)⟩ (Nat.le_of_ble_eq_true rfl) ⟨(Nat.le_of_ble_eq_true rfl), (Nat.le_of_ble_eq_true rfl)⟩ dL_act_187 (fun z9 σ1 hz9 => ?_)
        obtain ⟨rfl, e9⟩ := hz9
        rw [e9]
        have hu_15 := rg_up (zShr y 6) (n := 5) (by omega)
        refine z_iadd X dL_act_190 ?_
        refine z_bipush X dL_act_191 rfl ?_
        refine z_iremP X (by omega) (by omega) (by omega) (by omega) dL_act_193 ?_
        refine z_istore X dL_act_194 (by decide) ?_
        refine z_sub [(0, .ref (ad 0)), (1, vI x), (2, vI y), (3, vI ((gA σ) 0 0)), (4, vI (zOr (zShl 3 (pUp y 5)) (pUp (zShr y 3) 64))), (5, vI (pUp (zShr y 9) 6)), (6, vI b2), (7, vI (pUp x 20)), (8, vI (pUp y ((gA σ) 0 0))), (9, vI (pUp (zShr y 3) 6)), (10, vI ((((pUp (zShr y 3) 6) + 1) + (pUp (zShr y 6) 5)) % 6))] (zSub_cons rfl (zSub_cons rfl (zSub_cons rfl (zSub_cons rfl (zSub_cons rfl (zSub_cons rfl (zSub_cons rfl (zSub_cons rfl (zSub_cons rfl (zSub_cons rfl (zSub_cons rfl zSub_nil))))))))))) ?_
        have hdl := rg_up y (n := gA σ 0 0) hd0
        have hst := rg_up (zShr y 3) (n := 6) (by decide)
        have hdl : 0 ≤ pDl (gA σ) y ∧ pDl (gA σ) y < gA σ 0 0 := hdl
        have hst : 0 ≤ pSt y ∧ pSt y < 6 := hst
        have hot : 0 ≤ pOt y ∧ pOt y < 6 ∧ pSt y ≠ pOt y := by (have q := rg_up (zShr y 6) (n := 5) (by decide)); unfold pOt; omega
        have hlead := ld_in fi.1 (d := pDl (gA σ) y) hdl
        show zV p l e (zRm 9) s0 m args below meth c 12 D G ad 0 0 (zE below (zQI D G ad sz (fun z σ9 => z = (pAct (gA σ) x y).1 ∧ σ9 = zBk (fSv σ) 8 8 (pAct (gA σ) x y).2)) args s0 ad) 196 [(0, .ref (ad 0)), (1, vI x), (2, vI y), (3, vI ((gA σ) 0 0)), (4, vI (zOr (zShl 3 (pUp y 5)) (pUp (zShr y 3) 64))), (5, vI (pUp (zShr y 9) 6)), (6, vI b2), (7, vI (pUp x 20)), (8, vI (pDl (gA σ) y)), (9, vI (pSt y)), (10, vI (pOt y))] [] σ
        refine z_iload X dL_act_196 rfl ?_
        refine z_bipush X dL_act_198 rfl ?_
        refine z_icmp_ge X 267 dL_act_200 (by decide) (by unfold zB at *; omega) ⟨by decide, by decide⟩ (fun c_16 => ?_) (fun c_16 => ?_)
        · refine z_iload X dL_act_267 rfl ?_
          refine z_bipush X dL_act_269 rfl ?_
          refine z_icmp_ge X 318 dL_act_271 (by decide) (by unfold zB at *; omega) ⟨by decide, by decide⟩ (fun c_17 => ?_) (fun c_17 => ?_)
          · refine z_iload X dL_act_318 rfl ?_
            refine z_bipush X dL_act_320 rfl ?_
            refine z_icmp_ge X 396 dL_act_322 (by decide) (by unfold zB at *; omega) ⟨by decide, by decide⟩ (fun c_18 => ?_) (fun c_18 => ?_)
            · refine z_iload X dL_act_396 rfl ?_
              refine z_bipush X dL_act_398 rfl ?_
              refine z_icmp_ge X 452 dL_act_400 (by decide) (by unfold zB at *; omega) ⟨by decide, by decide⟩ (fun c_19 => ?_) (fun c_19 => ?_)
              · refine z_iload X dL_act_452 rfl ?_
                refine z_bipush X dL_act_454 rfl ?_
                refine z_icmp_ge X 486 dL_act_456 (by decide) (by unfold zB at *; omega) ⟨by decide, by decide⟩ (fun c_20 => ?_) (fun c_20 => ?_)
                · refine z_aload_n X dL_act_486 rfl ?_
                  refine z_iconst X dL_act_487 ?_
                  refine z_iload_n X dL_act_488 rfl ?_
                  refine z_bipush X dL_act_489 rfl ?_
                  refine z_callSI2 X (c_L_up hJ σ hy ⟨by omega, ⟨by decide, by decide⟩⟩) kL_15 ⟨(Nat.le_of_ble_eq_true rfl), (Nat.le_of_ble_eq_true rfl)⟩ (Nat.le_of_ble_eq_true rfl) ⟨(Nat.le_of_ble_eq_true rfl), (Nat.le_of_ble_eq_true rfl)⟩ dL_act_491 (fun z9 σ1 hz9 => ?_)
                  obtain ⟨rfl, e9⟩ := hz9
                  rw [e9]
                  have hu_21 := rg_up y (n := 20) (by omega)
                  refine z_iadd X dL_act_494 ?_
                  refine z_callVI1 X (c_X3_pass hJ σ fi (by first | assumption | exact ⟨by decide, by decide⟩ | (unfold zB at *; omega)) ⟨by omega, by omega⟩) kL_40 rfl (by decide) rfl ⟨(Nat.le_of_ble_eq_true rfl), (Nat.le_of_ble_eq_true rfl)⟩ (Nat.le_of_ble_eq_true rfl) ⟨(Nat.le_of_ble_eq_true rfl), (Nat.le_of_ble_eq_true rfl)⟩ dL_act_495 (fun z9 σ1 hz9 => ?_)
                  obtain ⟨rfl, rfl⟩ := hz9
                  have hpa : pAct (gA σ) x y = ((cPassR (gA σ) (1 + (pUp y 20))), cPassN (gA σ) (1 + pUp y 20)) := by unfold pAct; rw [if_neg hn0, if_neg (show ¬ pUp x 20 < 9 by omega), if_neg (show ¬ pUp x 20 < 11 by omega), if_neg (show ¬ pUp x 20 < 14 by omega), if_neg (show ¬ pUp x 20 < 16 by omega), if_neg (show ¬ pUp x 20 < 18 by omega)]
                  exact z_iret X hsz hr hlocks dL_act_498 ⟨(congrArg Prod.fst hpa).symm, congrArg (zBk (fSv σ) 8 8) (congrArg Prod.snd hpa).symm⟩
                · refine z_aload_n X dL_act_459 rfl ?_
                  refine z_iload X dL_act_460 rfl ?_
                  refine z_callVI1 X (c_X3_isUp hJ σ fi (by unfold zB pSt; omega) ⟨by omega, by omega⟩) kL_21 rfl (by decide) rfl ⟨(Nat.le_of_ble_eq_true rfl), (Nat.le_of_ble_eq_true rfl)⟩ (Nat.le_of_ble_eq_true rfl) ⟨(Nat.le_of_ble_eq_true rfl), (Nat.le_of_ble_eq_true rfl)⟩ dL_act_462 (fun z9 σ1 hz9 => ?_)
                  obtain ⟨rfl, e9⟩ := hz9
                  rw [e9]
                  refine z_ifb_eq X 477 dL_act_465 (by decide) (fun c_22 => ?_) (fun c_22 => ?_)
                  · have hcan := c_22
                    refine z_aload_n X dL_act_477 rfl ?_
                    refine z_iload X dL_act_478 rfl ?_
                    refine z_callVI1 X (c_X3_comeBack hJ σ fi (by unfold zB pSt; omega) ⟨by omega, by omega⟩ hcan) kL_61 rfl (by decide) rfl ⟨(Nat.le_of_ble_eq_true rfl), (Nat.le_of_ble_eq_true rfl)⟩ (Nat.le_of_ble_eq_true rfl) ⟨(Nat.le_of_ble_eq_true rfl), (Nat.le_of_ble_eq_true rfl)⟩ dL_act_480 (fun z9 σ1 hz9 => ?_)
                    obtain ⟨rfl, rfl⟩ := hz9
                    refine z_goto X 498 dL_act_483 (by decide) ?_
                    have hpa : pAct (gA σ) x y = ((cWkR (gA σ) (pSt y)), cWkN (gA σ) (pSt y)) := by unfold pAct; rw [if_neg hn0, if_neg (show ¬ pUp x 20 < 9 by omega), if_neg (show ¬ pUp x 20 < 11 by omega), if_neg (show ¬ pUp x 20 < 14 by omega), if_neg (show ¬ pUp x 20 < 16 by omega), if_pos (show pUp x 20 < 18 by omega)]; unfold pX; exact if_neg hcan
                    exact z_iret X hsz hr hlocks dL_act_498 ⟨(congrArg Prod.fst hpa).symm, congrArg (zBk (fSv σ) 8 8) (congrArg Prod.snd hpa).symm⟩
                  · have hcan := c_22
                    refine z_aload_n X dL_act_468 rfl ?_
                    refine z_iload X dL_act_469 rfl ?_
                    refine z_callVI1 X (c_X3_fallSilent hJ σ fi (by unfold zB pSt; omega) ⟨by omega, by omega⟩ hcan) kL_58 rfl (by decide) rfl ⟨(Nat.le_of_ble_eq_true rfl), (Nat.le_of_ble_eq_true rfl)⟩ (Nat.le_of_ble_eq_true rfl) ⟨(Nat.le_of_ble_eq_true rfl), (Nat.le_of_ble_eq_true rfl)⟩ dL_act_471 (fun z9 σ1 hz9 => ?_)
                    obtain ⟨rfl, rfl⟩ := hz9
                    refine z_goto X 498 dL_act_474 (by decide) ?_
                    have hpa : pAct (gA σ) x y = ((cSilR (gA σ) (pSt y)), cSilN (gA σ) (pSt y)) := by unfold pAct; rw [if_neg hn0, if_neg (show ¬ pUp x 20 < 9 by omega), if_neg (show ¬ pUp x 20 < 11 by omega), if_neg (show ¬ pUp x 20 < 14 by omega), if_neg (show ¬ pUp x 20 < 16 by omega), if_pos (show pUp x 20 < 18 by omega)]; unfold pX; exact if_pos hcan
                    exact z_iret X hsz hr hlocks dL_act_498 ⟨(congrArg Prod.fst hpa).symm, congrArg (zBk (fSv σ) 8 8) (congrArg Prod.snd hpa).symm⟩
              · refine z_aload_n X dL_act_403 rfl ?_
                refine z_iload X dL_act_404 rfl ?_
                refine z_iload X dL_act_406 rfl ?_
                refine z_callVI2 X (c_X3_state hJ σ fi (by unfold zB pDl; omega) (by unfold zB pSt; omega) ⟨by omega, by omega⟩ ⟨by omega, by omega⟩) kL_33 rfl (by decide) rfl ⟨(Nat.le_of_ble_eq_true rfl), (Nat.le_of_ble_eq_true rfl)⟩ (Nat.le_of_ble_eq_true rfl) ⟨(Nat.le_of_ble_eq_true rfl), (Nat.le_of_ble_eq_true rfl)⟩ dL_act_408 (fun z9 σ1 hz9 => ?_)
                obtain ⟨rfl, e9⟩ := hz9
                rw [e9]
                refine z_iconst X dL_act_411 ?_
                refine z_icmp_ne X 446 dL_act_412 (by decide) (zB_sm (rg_st fi.1 _ _)) ⟨by decide, by decide⟩ (fun c_23 => ?_) (fun c_23 => ?_)
                · have hc6 : ¬ (cSt (gA σ) (pDl (gA σ) y) (pSt y) = 1 ∧ cUp (gA σ) (pSt y) ∧ cUp (gA σ) (pOt y)) := by grind
                  refine z_aload_n X dL_act_446 rfl ?_
                  refine z_iconst X dL_act_447 ?_
                  refine z_callVI1 X (c_X3_pass hJ σ fi ⟨by decide, by decide⟩ ⟨by omega, by omega⟩) kL_40 rfl (by decide) rfl ⟨(Nat.le_of_ble_eq_true rfl), (Nat.le_of_ble_eq_true rfl)⟩ (Nat.le_of_ble_eq_true rfl) ⟨(Nat.le_of_ble_eq_true rfl), (Nat.le_of_ble_eq_true rfl)⟩ dL_act_448 (fun z9 σ1 hz9 => ?_)
                  obtain ⟨rfl, rfl⟩ := hz9
                  have hpa : pAct (gA σ) x y = ((cPassR (gA σ) 2), cPassN (gA σ) 2) := by unfold pAct; rw [if_neg hn0, if_neg (show ¬ pUp x 20 < 9 by omega), if_neg (show ¬ pUp x 20 < 11 by omega), if_neg (show ¬ pUp x 20 < 14 by omega), if_pos (show pUp x 20 < 16 by omega)]; unfold pK; exact if_neg hc6
                  exact z_iret X hsz hr hlocks dL_act_451 ⟨(congrArg Prod.fst hpa).symm, congrArg (zBk (fSv σ) 8 8) (congrArg Prod.snd hpa).symm⟩
                · refine z_aload_n X dL_act_415 rfl ?_
                  refine z_iload X dL_act_416 rfl ?_
                  refine z_callVI1 X (c_X3_isUp hJ σ fi (by unfold zB pSt; omega) ⟨by omega, by omega⟩) kL_21 rfl (by decide) rfl ⟨(Nat.le_of_ble_eq_true rfl), (Nat.le_of_ble_eq_true rfl)⟩ (Nat.le_of_ble_eq_true rfl) ⟨(Nat.le_of_ble_eq_true rfl), (Nat.le_of_ble_eq_true rfl)⟩ dL_act_418 (fun z9 σ1 hz9 => ?_)
                  obtain ⟨rfl, e9⟩ := hz9
                  rw [e9]
                  refine z_ifb_eq X 446 dL_act_421 (by decide) (fun c_24 => ?_) (fun c_24 => ?_)
                  · have hc6 : ¬ (cSt (gA σ) (pDl (gA σ) y) (pSt y) = 1 ∧ cUp (gA σ) (pSt y) ∧ cUp (gA σ) (pOt y)) := by grind
                    refine z_aload_n X dL_act_446 rfl ?_
                    refine z_iconst X dL_act_447 ?_
                    refine z_callVI1 X (c_X3_pass hJ σ fi ⟨by decide, by decide⟩ ⟨by omega, by omega⟩) kL_40 rfl (by decide) rfl ⟨(Nat.le_of_ble_eq_true rfl), (Nat.le_of_ble_eq_true rfl)⟩ (Nat.le_of_ble_eq_true rfl) ⟨(Nat.le_of_ble_eq_true rfl), (Nat.le_of_ble_eq_true rfl)⟩ dL_act_448 (fun z9 σ1 hz9 => ?_)
                    obtain ⟨rfl, rfl⟩ := hz9
                    have hpa : pAct (gA σ) x y = ((cPassR (gA σ) 2), cPassN (gA σ) 2) := by unfold pAct; rw [if_neg hn0, if_neg (show ¬ pUp x 20 < 9 by omega), if_neg (show ¬ pUp x 20 < 11 by omega), if_neg (show ¬ pUp x 20 < 14 by omega), if_pos (show pUp x 20 < 16 by omega)]; unfold pK; exact if_neg hc6
                    exact z_iret X hsz hr hlocks dL_act_451 ⟨(congrArg Prod.fst hpa).symm, congrArg (zBk (fSv σ) 8 8) (congrArg Prod.snd hpa).symm⟩
                  · refine z_aload_n X dL_act_424 rfl ?_
                    refine z_iload X dL_act_425 rfl ?_
                    refine z_callVI1 X (c_X3_isUp hJ σ fi (by have := hot; unfold zB; omega) ⟨by omega, by omega⟩) kL_21 rfl (by decide) rfl ⟨(Nat.le_of_ble_eq_true rfl), (Nat.le_of_ble_eq_true rfl)⟩ (Nat.le_of_ble_eq_true rfl) ⟨(Nat.le_of_ble_eq_true rfl), (Nat.le_of_ble_eq_true rfl)⟩ dL_act_427 (fun z9 σ1 hz9 => ?_)
                    obtain ⟨rfl, e9⟩ := hz9
                    rw [e9]
                    refine z_ifb_eq X 446 dL_act_430 (by decide) (fun c_25 => ?_) (fun c_25 => ?_)
                    · have hc6 : ¬ (cSt (gA σ) (pDl (gA σ) y) (pSt y) = 1 ∧ cUp (gA σ) (pSt y) ∧ cUp (gA σ) (pOt y)) := by grind
                      refine z_aload_n X dL_act_446 rfl ?_
                      refine z_iconst X dL_act_447 ?_
                      refine z_callVI1 X (c_X3_pass hJ σ fi ⟨by decide, by decide⟩ ⟨by omega, by omega⟩) kL_40 rfl (by decide) rfl ⟨(Nat.le_of_ble_eq_true rfl), (Nat.le_of_ble_eq_true rfl)⟩ (Nat.le_of_ble_eq_true rfl) ⟨(Nat.le_of_ble_eq_true rfl), (Nat.le_of_ble_eq_true rfl)⟩ dL_act_448 (fun z9 σ1 hz9 => ?_)
                      obtain ⟨rfl, rfl⟩ := hz9
                      have hpa : pAct (gA σ) x y = ((cPassR (gA σ) 2), cPassN (gA σ) 2) := by unfold pAct; rw [if_neg hn0, if_neg (show ¬ pUp x 20 < 9 by omega), if_neg (show ¬ pUp x 20 < 11 by omega), if_neg (show ¬ pUp x 20 < 14 by omega), if_pos (show pUp x 20 < 16 by omega)]; unfold pK; exact if_neg hc6
                      exact z_iret X hsz hr hlocks dL_act_451 ⟨(congrArg Prod.fst hpa).symm, congrArg (zBk (fSv σ) 8 8) (congrArg Prod.snd hpa).symm⟩
                    · have hc6 : cSt (gA σ) (pDl (gA σ) y) (pSt y) = 1 ∧ cUp (gA σ) (pSt y) ∧ cUp (gA σ) (pOt y) := ⟨c_23, c_24, c_25⟩
                      have hcan : cCanAsk (gA σ) (pDl (gA σ) y) (pSt y) (pOt y) := ⟨hot.2.2, hc6.2.1, hc6.2.2, hc6.1⟩
                      refine z_aload_n X dL_act_433 rfl ?_
                      refine z_iload X dL_act_434 rfl ?_
                      refine z_iload X dL_act_436 rfl ?_
                      refine z_iload X dL_act_438 rfl ?_
                      refine z_callVI3 X (c_X3_ask hJ σ fi (by unfold zB pDl; omega) (by unfold zB pSt; omega) (by have := hot; unfold zB; omega) ⟨by omega, by omega⟩ ⟨by omega, by omega⟩ ⟨by omega, by omega⟩ hcan) kL_55 rfl (by decide) rfl ⟨(Nat.le_of_ble_eq_true rfl), (Nat.le_of_ble_eq_true rfl)⟩ (Nat.le_of_ble_eq_true rfl) ⟨(Nat.le_of_ble_eq_true rfl), (Nat.le_of_ble_eq_true rfl)⟩ dL_act_440 (fun z9 σ1 hz9 => ?_)
                      obtain ⟨rfl, rfl⟩ := hz9
                      refine z_goto X 451 dL_act_443 (by decide) ?_
                      have hpa : pAct (gA σ) x y = ((cAskR (gA σ) (pDl (gA σ) y) (pSt y) (pOt y)), cAskN (gA σ) (pDl (gA σ) y) (pSt y) (pOt y)) := by unfold pAct; rw [if_neg hn0, if_neg (show ¬ pUp x 20 < 9 by omega), if_neg (show ¬ pUp x 20 < 11 by omega), if_neg (show ¬ pUp x 20 < 14 by omega), if_pos (show pUp x 20 < 16 by omega)]; unfold pK; exact if_pos hc6
                      exact z_iret X hsz hr hlocks dL_act_451 ⟨(congrArg Prod.fst hpa).symm, congrArg (zBk (fSv σ) 8 8) (congrArg Prod.snd hpa).symm⟩
            · suffices key325 : ∀ (b5 : Int), ((b5 = 0 ∨ b5 = 1) ∧ (b5 = 1 ↔ (0 ≤ cSt (gA σ) (pDl (gA σ) y) (pSt y) ∧ cUp (gA σ) (pSt y) ∧ cUp (gA σ) (cLead (gA σ) (pDl (gA σ) y)) ∧ 0 < cDec (gA σ) (pDl (gA σ) y)))) → zV p l e (zRm 9) s0 m args below meth c 12 D G ad 0 0 (zE below (zQI D G ad sz (fun z σ9 => z = (pAct (gA σ) x y).1 ∧ σ9 = zBk (fSv σ) 8 8 (pAct (gA σ) x y).2)) args s0 ad) 372 [(0, .ref (ad 0)), (1, vI x), (2, vI y), (3, vI ((gA σ) 0 0)), (4, vI (zOr (zShl 3 (pUp y 5)) (pUp (zShr y 3) 64))), (5, vI (pUp (zShr y 9) 6)), (6, vI b2), (7, vI (pUp x 20)), (8, vI (pDl (gA σ) y)), (9, vI (pSt y)), (10, vI (pOt y))] [vI b5] σ by
                refine z_aload_n X dL_act_325 rfl ?_
                refine z_iload X dL_act_326 rfl ?_
                refine z_iload X dL_act_328 rfl ?_
                refine z_callVI2 X (c_X3_state hJ σ fi (by unfold zB pDl; omega) (by unfold zB pSt; omega) ⟨by omega, by omega⟩ ⟨by omega, by omega⟩) kL_33 rfl (by decide) rfl ⟨(Nat.le_of_ble_eq_true rfl), (Nat.le_of_ble_eq_true rfl)⟩ (Nat.le_of_ble_eq_true rfl) ⟨(Nat.le_of_ble_eq_true rfl), (Nat.le_of_ble_eq_true rfl)⟩ dL_act_330 (fun z9 σ1 hz9 => ?_)
                obtain ⟨rfl, e9⟩ := hz9
                rw [e9]
                refine z_if_lt X 371 dL_act_333 (by decide) (zB_sm (rg_st fi.1 _ _)) (fun c_26 => ?_) (fun c_26 => ?_)
                · refine z_iconst X dL_act_371 ?_
                  refine z_sub [(0, .ref (ad 0)), (1, vI x), (2, vI y), (3, vI ((gA σ) 0 0)), (4, vI (zOr (zShl 3 (pUp y 5)) (pUp (zShr y 3) 64))), (5, vI (pUp (zShr y 9) 6)), (6, vI b2), (7, vI (pUp x 20)), (8, vI (pDl (gA σ) y)), (9, vI (pSt y)), (10, vI (pOt y))] (zSub_cons rfl (zSub_cons rfl (zSub_cons rfl (zSub_cons rfl (zSub_cons rfl (zSub_cons rfl (zSub_cons rfl (zSub_cons rfl (zSub_cons rfl (zSub_cons rfl (zSub_cons rfl zSub_nil))))))))))) ?_
                  exact key325 _ ⟨by decide, by grind⟩
                · refine z_aload_n X dL_act_336 rfl ?_
                  refine z_iload X dL_act_337 rfl ?_
                  refine z_callVI1 X (c_X3_isUp hJ σ fi (by unfold zB pSt; omega) ⟨by omega, by omega⟩) kL_21 rfl (by decide) rfl ⟨(Nat.le_of_ble_eq_true rfl), (Nat.le_of_ble_eq_true rfl)⟩ (Nat.le_of_ble_eq_true rfl) ⟨(Nat.le_of_ble_eq_true rfl), (Nat.le_of_ble_eq_true rfl)⟩ dL_act_339 (fun z9 σ1 hz9 => ?_)
                  obtain ⟨rfl, e9⟩ := hz9
                  rw [e9]
                  refine z_ifb_eq X 371 dL_act_342 (by decide) (fun c_27 => ?_) (fun c_27 => ?_)
                  · refine z_iconst X dL_act_371 ?_
                    refine z_sub [(0, .ref (ad 0)), (1, vI x), (2, vI y), (3, vI ((gA σ) 0 0)), (4, vI (zOr (zShl 3 (pUp y 5)) (pUp (zShr y 3) 64))), (5, vI (pUp (zShr y 9) 6)), (6, vI b2), (7, vI (pUp x 20)), (8, vI (pDl (gA σ) y)), (9, vI (pSt y)), (10, vI (pOt y))] (zSub_cons rfl (zSub_cons rfl (zSub_cons rfl (zSub_cons rfl (zSub_cons rfl (zSub_cons rfl (zSub_cons rfl (zSub_cons rfl (zSub_cons rfl (zSub_cons rfl (zSub_cons rfl zSub_nil))))))))))) ?_
                    exact key325 _ ⟨by decide, by grind⟩
                  · refine z_aload_n X dL_act_345 rfl ?_
                    refine z_aload_n X dL_act_346 rfl ?_
                    refine z_iload X dL_act_347 rfl ?_
                    refine z_callVI1 X (c_X3_leader hJ σ fi (by unfold zB pDl; omega) ⟨by omega, by omega⟩) kL_43 rfl (by decide) rfl ⟨(Nat.le_of_ble_eq_true rfl), (Nat.le_of_ble_eq_true rfl)⟩ (Nat.le_of_ble_eq_true rfl) ⟨(Nat.le_of_ble_eq_true rfl), (Nat.le_of_ble_eq_true rfl)⟩ dL_act_349 (fun z9 σ1 hz9 => ?_)
                    obtain ⟨rfl, e9⟩ := hz9
                    rw [e9]
                    refine z_callVI1 X (c_X3_isUp hJ σ fi (zB_sm (rg_ld fi.1 _)) ⟨by omega, by omega⟩) kL_21 rfl (by decide) rfl ⟨(Nat.le_of_ble_eq_true rfl), (Nat.le_of_ble_eq_true rfl)⟩ (Nat.le_of_ble_eq_true rfl) ⟨(Nat.le_of_ble_eq_true rfl), (Nat.le_of_ble_eq_true rfl)⟩ dL_act_352 (fun z9 σ1 hz9 => ?_)
                    obtain ⟨rfl, e9⟩ := hz9
                    rw [e9]
                    refine z_ifb_eq X 371 dL_act_355 (by decide) (fun c_28 => ?_) (fun c_28 => ?_)
                    · refine z_iconst X dL_act_371 ?_
                      refine z_sub [(0, .ref (ad 0)), (1, vI x), (2, vI y), (3, vI ((gA σ) 0 0)), (4, vI (zOr (zShl 3 (pUp y 5)) (pUp (zShr y 3) 64))), (5, vI (pUp (zShr y 9) 6)), (6, vI b2), (7, vI (pUp x 20)), (8, vI (pDl (gA σ) y)), (9, vI (pSt y)), (10, vI (pOt y))] (zSub_cons rfl (zSub_cons rfl (zSub_cons rfl (zSub_cons rfl (zSub_cons rfl (zSub_cons rfl (zSub_cons rfl (zSub_cons rfl (zSub_cons rfl (zSub_cons rfl (zSub_cons rfl zSub_nil))))))))))) ?_
                      exact key325 _ ⟨by decide, by grind⟩
                    · refine z_aload_n X dL_act_358 rfl ?_
                      refine z_iload X dL_act_359 rfl ?_
                      refine z_callVI1 X (c_X3_decision hJ σ fi (by unfold zB pDl; omega) ⟨by omega, by omega⟩) kL_46 rfl (by decide) rfl ⟨(Nat.le_of_ble_eq_true rfl), (Nat.le_of_ble_eq_true rfl)⟩ (Nat.le_of_ble_eq_true rfl) ⟨(Nat.le_of_ble_eq_true rfl), (Nat.le_of_ble_eq_true rfl)⟩ dL_act_361 (fun z9 σ1 hz9 => ?_)
                      obtain ⟨rfl, e9⟩ := hz9
                      rw [e9]
                      refine z_if_le X 371 dL_act_364 (by decide) (zB_sm (rg_dc fi.1 _)) (fun c_29 => ?_) (fun c_29 => ?_)
                      · refine z_iconst X dL_act_371 ?_
                        refine z_sub [(0, .ref (ad 0)), (1, vI x), (2, vI y), (3, vI ((gA σ) 0 0)), (4, vI (zOr (zShl 3 (pUp y 5)) (pUp (zShr y 3) 64))), (5, vI (pUp (zShr y 9) 6)), (6, vI b2), (7, vI (pUp x 20)), (8, vI (pDl (gA σ) y)), (9, vI (pSt y)), (10, vI (pOt y))] (zSub_cons rfl (zSub_cons rfl (zSub_cons rfl (zSub_cons rfl (zSub_cons rfl (zSub_cons rfl (zSub_cons rfl (zSub_cons rfl (zSub_cons rfl (zSub_cons rfl (zSub_cons rfl zSub_nil))))))))))) ?_
                        exact key325 _ ⟨by decide, by grind⟩
                      · refine z_iconst X dL_act_367 ?_
                        refine z_goto X 372 dL_act_368 (by decide) ?_
                        refine z_sub [(0, .ref (ad 0)), (1, vI x), (2, vI y), (3, vI ((gA σ) 0 0)), (4, vI (zOr (zShl 3 (pUp y 5)) (pUp (zShr y 3) 64))), (5, vI (pUp (zShr y 9) 6)), (6, vI b2), (7, vI (pUp x 20)), (8, vI (pDl (gA σ) y)), (9, vI (pSt y)), (10, vI (pOt y))] (zSub_cons rfl (zSub_cons rfl (zSub_cons rfl (zSub_cons rfl (zSub_cons rfl (zSub_cons rfl (zSub_cons rfl (zSub_cons rfl (zSub_cons rfl (zSub_cons rfl (zSub_cons rfl zSub_nil))))))))))) ?_
                        exact key325 _ ⟨by decide, by grind⟩
              intro b5 hk325
              refine z_istore X dL_act_372 (by decide) ?_
              refine z_sub [(0, .ref (ad 0)), (1, vI x), (2, vI y), (3, vI ((gA σ) 0 0)), (4, vI (zOr (zShl 3 (pUp y 5)) (pUp (zShr y 3) 64))), (5, vI (pUp (zShr y 9) 6)), (6, vI b2), (7, vI (pUp x 20)), (8, vI (pDl (gA σ) y)), (9, vI (pSt y)), (10, vI (pOt y)), (11, vI b5)] (zSub_cons rfl (zSub_cons rfl (zSub_cons rfl (zSub_cons rfl (zSub_cons rfl (zSub_cons rfl (zSub_cons rfl (zSub_cons rfl (zSub_cons rfl (zSub_cons rfl (zSub_cons rfl (zSub_cons rfl zSub_nil)))))))))))) ?_
              refine z_iload X dL_act_374 rfl ?_
              refine z_if_eq X 390 dL_act_376 (by decide) (by rcases hk325.1 with h | h <;> rw [h] <;> exact ⟨by decide, by decide⟩) (fun c_30 => ?_) (fun c_30 => ?_)
              · have hc5 : ¬ (0 ≤ cSt (gA σ) (pDl (gA σ) y) (pSt y) ∧ cUp (gA σ) (pSt y) ∧ cUp (gA σ) (cLead (gA σ) (pDl (gA σ) y)) ∧ 0 < cDec (gA σ) (pDl (gA σ) y)) := fun h => (by have := hk325.2.mpr h; omega)
                refine z_aload_n X dL_act_390 rfl ?_
                refine z_iconst X dL_act_391 ?_
                refine z_callVI1 X (c_X3_pass hJ σ fi ⟨by decide, by decide⟩ ⟨by omega, by omega⟩) kL_40 rfl (by decide) rfl ⟨(Nat.le_of_ble_eq_true rfl), (Nat.le_of_ble_eq_true rfl)⟩ (Nat.le_of_ble_eq_true rfl) ⟨(Nat.le_of_ble_eq_true rfl), (Nat.le_of_ble_eq_true rfl)⟩ dL_act_392 (fun z9 σ1 hz9 => ?_)
                obtain ⟨rfl, rfl⟩ := hz9
                have hpa : pAct (gA σ) x y = ((cPassR (gA σ) 1), cPassN (gA σ) 1) := by unfold pAct; rw [if_neg hn0, if_neg (show ¬ pUp x 20 < 9 by omega), if_neg (show ¬ pUp x 20 < 11 by omega), if_pos (show pUp x 20 < 14 by omega)]; unfold pT; exact if_neg hc5
                exact z_iret X hsz hr hlocks dL_act_395 ⟨(congrArg Prod.fst hpa).symm, congrArg (zBk (fSv σ) 8 8) (congrArg Prod.snd hpa).symm⟩
              · have hc5 := hk325.2.mp (by omega)
                have hcan : cCanTell (gA σ) (pDl (gA σ) y) (pSt y) := ⟨hc5.2.1, hc5.2.2.1, (by have := hc5.1; omega), (by have q1 := hc5.2.2.2; have q2 := rg_dc fi.1 (pDl (gA σ) y); have q3 := (j.2.2.1 (pDl (gA σ) y) (pSt y)).1; show _ ∨ _; omega)⟩
                refine z_aload_n X dL_act_379 rfl ?_
                refine z_iload X dL_act_380 rfl ?_
                refine z_iload X dL_act_382 rfl ?_
                refine z_callVI2 X (c_X3_tell hJ σ fi (by unfold zB pDl; omega) (by unfold zB pSt; omega) ⟨by omega, by omega⟩ ⟨by omega, by omega⟩ hcan) kL_52 rfl (by decide) rfl ⟨(Nat.le_of_ble_eq_true rfl), (Nat.le_of_ble_eq_true rfl)⟩ (Nat.le_of_ble_eq_true rfl) ⟨(Nat.le_of_ble_eq_true rfl), (Nat.le_of_ble_eq_true rfl)⟩ dL_act_384 (fun z9 σ1 hz9 => ?_)
                obtain ⟨rfl, rfl⟩ := hz9
                refine z_goto X 395 dL_act_387 (by decide) ?_
                have hpa : pAct (gA σ) x y = ((cTellR (gA σ) (pDl (gA σ) y) (pSt y)), cTellN (gA σ) (pDl (gA σ) y) (pSt y)) := by unfold pAct; rw [if_neg hn0, if_neg (show ¬ pUp x 20 < 9 by omega), if_neg (show ¬ pUp x 20 < 11 by omega), if_pos (show pUp x 20 < 14 by omega)]; unfold pT; exact if_pos hc5
                exact z_iret X hsz hr hlocks dL_act_395 ⟨(congrArg Prod.fst hpa).symm, congrArg (zBk (fSv σ) 8 8) (congrArg Prod.snd hpa).symm⟩
          · refine z_aload_n X dL_act_274 rfl ?_
            refine z_aload_n X dL_act_275 rfl ?_
            refine z_iload X dL_act_276 rfl ?_
            refine z_callVI1 X (c_X3_leader hJ σ fi (by unfold zB pDl; omega) ⟨by omega, by omega⟩) kL_43 rfl (by decide) rfl ⟨(Nat.le_of_ble_eq_true rfl), (Nat.le_of_ble_eq_true rfl)⟩ (Nat.le_of_ble_eq_true rfl) ⟨(Nat.le_of_ble_eq_true rfl), (Nat.le_of_ble_eq_true rfl)⟩ dL_act_278 (fun z9 σ1 hz9 => ?_)
            obtain ⟨rfl, e9⟩ := hz9
            rw [e9]
            refine z_callVI1 X (c_X3_isUp hJ σ fi (zB_sm (rg_ld fi.1 _)) ⟨by omega, by omega⟩) kL_21 rfl (by decide) rfl ⟨(Nat.le_of_ble_eq_true rfl), (Nat.le_of_ble_eq_true rfl)⟩ (Nat.le_of_ble_eq_true rfl) ⟨(Nat.le_of_ble_eq_true rfl), (Nat.le_of_ble_eq_true rfl)⟩ dL_act_281 (fun z9 σ1 hz9 => ?_)
            obtain ⟨rfl, e9⟩ := hz9
            rw [e9]
            refine z_ifb_eq X 305 dL_act_284 (by decide) (fun c_31 => ?_) (fun c_31 => ?_)
            · have hcn : ¬ (cUp (gA σ) (cLead (gA σ) (pDl (gA σ) y)) ∧ cDec (gA σ) (pDl (gA σ) y) = 0) := by grind
              refine z_aload_n X dL_act_305 rfl ?_
              refine z_iconst X dL_act_306 ?_
              refine z_iload_n X dL_act_307 rfl ?_
              refine z_bipush X dL_act_308 rfl ?_
              refine z_callSI2 X (c_L_up hJ σ hy ⟨by omega, ⟨by decide, by decide⟩⟩) kL_15 ⟨(Nat.le_of_ble_eq_true rfl), (Nat.le_of_ble_eq_true rfl)⟩ (Nat.le_of_ble_eq_true rfl) ⟨(Nat.le_of_ble_eq_true rfl), (Nat.le_of_ble_eq_true rfl)⟩ dL_act_310 (fun z9 σ1 hz9 => ?_)
              obtain ⟨rfl, e9⟩ := hz9
              rw [e9]
              have hu_32 := rg_up y (n := 20) (by omega)
              refine z_iadd X dL_act_313 ?_
              refine z_callVI1 X (c_X3_setPatience hJ σ fi (by first | assumption | exact ⟨by decide, by decide⟩ | (unfold zB at *; omega)) ⟨by omega, by omega⟩) kL_29 rfl (by decide) rfl ⟨(Nat.le_of_ble_eq_true rfl), (Nat.le_of_ble_eq_true rfl)⟩ (Nat.le_of_ble_eq_true rfl) ⟨(Nat.le_of_ble_eq_true rfl), (Nat.le_of_ble_eq_true rfl)⟩ dL_act_314 (fun z9 σ1 hz9 => ?_)
              obtain ⟨rfl, rfl⟩ := hz9
              have hpa : pAct (gA σ) x y = (((gA σ) 0 3), up2 (gA σ) 0 3 (1 + pUp y 20)) := by unfold pAct; rw [if_neg hn0, if_neg (show ¬ pUp x 20 < 9 by omega), if_pos (show pUp x 20 < 11 by omega)]; unfold pD; exact if_neg hcn
              exact z_iret X hsz hr hlocks dL_act_317 ⟨(congrArg Prod.fst hpa).symm, congrArg (zBk (fSv σ) 8 8) (congrArg Prod.snd hpa).symm⟩
            · refine z_aload_n X dL_act_287 rfl ?_
              refine z_iload X dL_act_288 rfl ?_
              refine z_callVI1 X (c_X3_decision hJ σ fi (by unfold zB pDl; omega) ⟨by omega, by omega⟩) kL_46 rfl (by decide) rfl ⟨(Nat.le_of_ble_eq_true rfl), (Nat.le_of_ble_eq_true rfl)⟩ (Nat.le_of_ble_eq_true rfl) ⟨(Nat.le_of_ble_eq_true rfl), (Nat.le_of_ble_eq_true rfl)⟩ dL_act_290 (fun z9 σ1 hz9 => ?_)
              obtain ⟨rfl, e9⟩ := hz9
              rw [e9]
              refine z_if_ne X 305 dL_act_293 (by decide) (zB_sm (rg_dc fi.1 _)) (fun c_33 => ?_) (fun c_33 => ?_)
              · have hcn : ¬ (cUp (gA σ) (cLead (gA σ) (pDl (gA σ) y)) ∧ cDec (gA σ) (pDl (gA σ) y) = 0) := by grind
                refine z_aload_n X dL_act_305 rfl ?_
                refine z_iconst X dL_act_306 ?_
                refine z_iload_n X dL_act_307 rfl ?_
                refine z_bipush X dL_act_308 rfl ?_
                refine z_callSI2 X (c_L_up hJ σ hy ⟨by omega, ⟨by decide, by decide⟩⟩) kL_15 ⟨(Nat.le_of_ble_eq_true rfl), (Nat.le_of_ble_eq_true rfl)⟩ (Nat.le_of_ble_eq_true rfl) ⟨(Nat.le_of_ble_eq_true rfl), (Nat.le_of_ble_eq_true rfl)⟩ dL_act_310 (fun z9 σ1 hz9 => ?_)
                obtain ⟨rfl, e9⟩ := hz9
                rw [e9]
                have hu_34 := rg_up y (n := 20) (by omega)
                refine z_iadd X dL_act_313 ?_
                refine z_callVI1 X (c_X3_setPatience hJ σ fi (by first | assumption | exact ⟨by decide, by decide⟩ | (unfold zB at *; omega)) ⟨by omega, by omega⟩) kL_29 rfl (by decide) rfl ⟨(Nat.le_of_ble_eq_true rfl), (Nat.le_of_ble_eq_true rfl)⟩ (Nat.le_of_ble_eq_true rfl) ⟨(Nat.le_of_ble_eq_true rfl), (Nat.le_of_ble_eq_true rfl)⟩ dL_act_314 (fun z9 σ1 hz9 => ?_)
                obtain ⟨rfl, rfl⟩ := hz9
                have hpa : pAct (gA σ) x y = (((gA σ) 0 3), up2 (gA σ) 0 3 (1 + pUp y 20)) := by unfold pAct; rw [if_neg hn0, if_neg (show ¬ pUp x 20 < 9 by omega), if_pos (show pUp x 20 < 11 by omega)]; unfold pD; exact if_neg hcn
                exact z_iret X hsz hr hlocks dL_act_317 ⟨(congrArg Prod.fst hpa).symm, congrArg (zBk (fSv σ) 8 8) (congrArg Prod.snd hpa).symm⟩
              · have hcan : cCanDecide (gA σ) (pDl (gA σ) y) := ⟨c_31, c_33⟩
                refine z_aload_n X dL_act_296 rfl ?_
                refine z_iload X dL_act_297 rfl ?_
                refine z_callVI1 X (c_X3_decide hJ σ fi (by unfold zB pDl; omega) ⟨by omega, by omega⟩ hcan) kL_49 rfl (by decide) rfl ⟨(Nat.le_of_ble_eq_true rfl), (Nat.le_of_ble_eq_true rfl)⟩ (Nat.le_of_ble_eq_true rfl) ⟨(Nat.le_of_ble_eq_true rfl), (Nat.le_of_ble_eq_true rfl)⟩ dL_act_299 (fun z9 σ1 hz9 => ?_)
                obtain ⟨rfl, rfl⟩ := hz9
                refine z_goto X 317 dL_act_302 (by decide) ?_
                have hpa : pAct (gA σ) x y = ((cDecideR (gA σ) (pDl (gA σ) y)), cDecideN (gA σ) (pDl (gA σ) y)) := by unfold pAct; rw [if_neg hn0, if_neg (show ¬ pUp x 20 < 9 by omega), if_pos (show pUp x 20 < 11 by omega)]; unfold pD; exact if_pos hcan
                exact z_iret X hsz hr hlocks dL_act_317 ⟨(congrArg Prod.fst hpa).symm, congrArg (zBk (fSv σ) 8 8) (congrArg Prod.snd hpa).symm⟩
        · suffices key203 : ∀ (b4 : Int), ((b4 = 0 ∨ b4 = 1) ∧ (b4 = 1 ↔ (cUp (gA σ) (pSt y) ∧ cSt (gA σ) (pDl (gA σ) y) (pSt y) = 0))) → zV p l e (zRm 9) s0 m args below meth c 12 D G ad 0 0 (zE below (zQI D G ad sz (fun z σ9 => z = (pAct (gA σ) x y).1 ∧ σ9 = zBk (fSv σ) 8 8 (pAct (gA σ) x y).2)) args s0 ad) 228 [(0, .ref (ad 0)), (1, vI x), (2, vI y), (3, vI ((gA σ) 0 0)), (4, vI (zOr (zShl 3 (pUp y 5)) (pUp (zShr y 3) 64))), (5, vI (pUp (zShr y 9) 6)), (6, vI b2), (7, vI (pUp x 20)), (8, vI (pDl (gA σ) y)), (9, vI (pSt y)), (10, vI (pOt y))] [vI b4] σ by
            refine z_aload_n X dL_act_203 rfl ?_
            refine z_iload X dL_act_204 rfl ?_
            refine z_callVI1 X (c_X3_isUp hJ σ fi (by unfold zB pSt; omega) ⟨by omega, by omega⟩) kL_21 rfl (by decide) rfl ⟨(Nat.le_of_ble_eq_true rfl), (Nat.le_of_ble_eq_true rfl)⟩ (Nat.le_of_ble_eq_true rfl) ⟨(Nat.le_of_ble_eq_true rfl), (Nat.le_of_ble_eq_true rfl)⟩ dL_act_206 (fun z9 σ1 hz9 => ?_)
            obtain ⟨rfl, e9⟩ := hz9
            rw [e9]
            refine z_ifb_eq X 227 dL_act_209 (by decide) (fun c_35 => ?_) (fun c_35 => ?_)
            · refine z_iconst X dL_act_227 ?_
              refine z_sub [(0, .ref (ad 0)), (1, vI x), (2, vI y), (3, vI ((gA σ) 0 0)), (4, vI (zOr (zShl 3 (pUp y 5)) (pUp (zShr y 3) 64))), (5, vI (pUp (zShr y 9) 6)), (6, vI b2), (7, vI (pUp x 20)), (8, vI (pDl (gA σ) y)), (9, vI (pSt y)), (10, vI (pOt y))] (zSub_cons rfl (zSub_cons rfl (zSub_cons rfl (zSub_cons rfl (zSub_cons rfl (zSub_cons rfl (zSub_cons rfl (zSub_cons rfl (zSub_cons rfl (zSub_cons rfl (zSub_cons rfl zSub_nil))))))))))) ?_
              exact key203 _ ⟨by decide, by grind⟩
            · refine z_aload_n X dL_act_212 rfl ?_
              refine z_iload X dL_act_213 rfl ?_
              refine z_iload X dL_act_215 rfl ?_
              refine z_callVI2 X (c_X3_state hJ σ fi (by unfold zB pDl; omega) (by unfold zB pSt; omega) ⟨by omega, by omega⟩ ⟨by omega, by omega⟩) kL_33 rfl (by decide) rfl ⟨(Nat.le_of_ble_eq_true rfl), (Nat.le_of_ble_eq_true rfl)⟩ (Nat.le_of_ble_eq_true rfl) ⟨(Nat.le_of_ble_eq_true rfl), (Nat.le_of_ble_eq_true rfl)⟩ dL_act_217 (fun z9 σ1 hz9 => ?_)
              obtain ⟨rfl, e9⟩ := hz9
              rw [e9]
              refine z_if_ne X 227 dL_act_220 (by decide) (zB_sm (rg_st fi.1 _ _)) (fun c_36 => ?_) (fun c_36 => ?_)
              · refine z_iconst X dL_act_227 ?_
                refine z_sub [(0, .ref (ad 0)), (1, vI x), (2, vI y), (3, vI ((gA σ) 0 0)), (4, vI (zOr (zShl 3 (pUp y 5)) (pUp (zShr y 3) 64))), (5, vI (pUp (zShr y 9) 6)), (6, vI b2), (7, vI (pUp x 20)), (8, vI (pDl (gA σ) y)), (9, vI (pSt y)), (10, vI (pOt y))] (zSub_cons rfl (zSub_cons rfl (zSub_cons rfl (zSub_cons rfl (zSub_cons rfl (zSub_cons rfl (zSub_cons rfl (zSub_cons rfl (zSub_cons rfl (zSub_cons rfl (zSub_cons rfl zSub_nil))))))))))) ?_
                exact key203 _ ⟨by decide, by grind⟩
              · refine z_iconst X dL_act_223 ?_
                refine z_goto X 228 dL_act_224 (by decide) ?_
                refine z_sub [(0, .ref (ad 0)), (1, vI x), (2, vI y), (3, vI ((gA σ) 0 0)), (4, vI (zOr (zShl 3 (pUp y 5)) (pUp (zShr y 3) 64))), (5, vI (pUp (zShr y 9) 6)), (6, vI b2), (7, vI (pUp x 20)), (8, vI (pDl (gA σ) y)), (9, vI (pSt y)), (10, vI (pOt y))] (zSub_cons rfl (zSub_cons rfl (zSub_cons rfl (zSub_cons rfl (zSub_cons rfl (zSub_cons rfl (zSub_cons rfl (zSub_cons rfl (zSub_cons rfl (zSub_cons rfl (zSub_cons rfl zSub_nil))))))))))) ?_
                exact key203 _ ⟨by decide, by grind⟩
          intro b4 hk203
          refine z_istore X dL_act_228 (by decide) ?_
          refine z_sub [(0, .ref (ad 0)), (1, vI x), (2, vI y), (3, vI ((gA σ) 0 0)), (4, vI (zOr (zShl 3 (pUp y 5)) (pUp (zShr y 3) 64))), (5, vI (pUp (zShr y 9) 6)), (6, vI b2), (7, vI (pUp x 20)), (8, vI (pDl (gA σ) y)), (9, vI (pSt y)), (10, vI (pOt y)), (11, vI b4)] (zSub_cons rfl (zSub_cons rfl (zSub_cons rfl (zSub_cons rfl (zSub_cons rfl (zSub_cons rfl (zSub_cons rfl (zSub_cons rfl (zSub_cons rfl (zSub_cons rfl (zSub_cons rfl (zSub_cons rfl zSub_nil)))))))))))) ?_
          refine z_iload X dL_act_230 rfl ?_
          refine z_if_eq X 261 dL_act_232 (by decide) (by rcases hk203.1 with h | h <;> rw [h] <;> exact ⟨by decide, by decide⟩) (fun c_37 => ?_) (fun c_37 => ?_)
          · have hc4 : ¬ (cUp (gA σ) (pSt y) ∧ cSt (gA σ) (pDl (gA σ) y) (pSt y) = 0) := fun h => (by have := hk203.2.mpr h; omega)
            refine z_aload_n X dL_act_261 rfl ?_
            refine z_iconst X dL_act_262 ?_
            refine z_callVI1 X (c_X3_pass hJ σ fi ⟨by decide, by decide⟩ ⟨by omega, by omega⟩) kL_40 rfl (by decide) rfl ⟨(Nat.le_of_ble_eq_true rfl), (Nat.le_of_ble_eq_true rfl)⟩ (Nat.le_of_ble_eq_true rfl) ⟨(Nat.le_of_ble_eq_true rfl), (Nat.le_of_ble_eq_true rfl)⟩ dL_act_263 (fun z9 σ1 hz9 => ?_)
            obtain ⟨rfl, rfl⟩ := hz9
            have hpa : pAct (gA σ) x y = ((cPassR (gA σ) 1), cPassN (gA σ) 1) := by unfold pAct; rw [if_neg hn0, if_pos (show pUp x 20 < 9 by omega)]; unfold pV; exact if_neg hc4
            exact z_iret X hsz hr hlocks dL_act_266 ⟨(congrArg Prod.fst hpa).symm, congrArg (zBk (fSv σ) 8 8) (congrArg Prod.snd hpa).symm⟩
          · have hc4 := hk203.2.mp (by omega)
            have hcan : cCanVote (gA σ) (pDl (gA σ) y) (pSt y) := hc4
            refine z_aload_n X dL_act_235 rfl ?_
            refine z_iload X dL_act_236 rfl ?_
            refine z_iload X dL_act_238 rfl ?_
            suffices key240 : zV p l e (zRm 9) s0 m args below meth c 12 D G ad 0 0 (zE below (zQI D G ad sz (fun z σ9 => z = (pAct (gA σ) x y).1 ∧ σ9 = zBk (fSv σ) 8 8 (pAct (gA σ) x y).2)) args s0 ad) 255 [(0, .ref (ad 0)), (1, vI x), (2, vI y), (3, vI ((gA σ) 0 0)), (4, vI (zOr (zShl 3 (pUp y 5)) (pUp (zShr y 3) 64))), (5, vI (pUp (zShr y 9) 6)), (6, vI b2), (7, vI (pUp x 20)), (8, vI (pDl (gA σ) y)), (9, vI (pSt y)), (10, vI (pOt y)), (11, vI b4)] [vI (pYs y), vI (pSt y), vI (pDl (gA σ) y), .ref (ad 0)] σ by
              refine z_iload_n X dL_act_240 rfl ?_
              refine z_bipush X dL_act_241 rfl ?_
              refine z_shr X dL_act_243 (zShr_eq y 9) ?_
              refine z_bipush X dL_act_244 rfl ?_
              refine z_and X dL_act_246 (zAnd_eq (zShr y 9) 7) ?_
              refine z_if_le X 254 dL_act_247 (by decide) (zB_toInt _) (fun c_38 => ?_) (fun c_38 => ?_)
              · refine z_iconst X dL_act_254 ?_
                refine z_sub [(0, .ref (ad 0)), (1, vI x), (2, vI y), (3, vI ((gA σ) 0 0)), (4, vI (zOr (zShl 3 (pUp y 5)) (pUp (zShr y 3) 64))), (5, vI (pUp (zShr y 9) 6)), (6, vI b2), (7, vI (pUp x 20)), (8, vI (pDl (gA σ) y)), (9, vI (pSt y)), (10, vI (pOt y)), (11, vI b4)] (zSub_cons rfl (zSub_cons rfl (zSub_cons rfl (zSub_cons rfl (zSub_cons rfl (zSub_cons rfl (zSub_cons rfl (zSub_cons rfl (zSub_cons rfl (zSub_cons rfl (zSub_cons rfl (zSub_cons rfl zSub_nil)))))))))))) ?_
                have e9 : pYs y = 0 := if_neg (by omega)
                rw [e9] at key240
                exact key240
              · refine z_iconst X dL_act_250 ?_
                refine z_goto X 255 dL_act_251 (by decide) ?_
                refine z_sub [(0, .ref (ad 0)), (1, vI x), (2, vI y), (3, vI ((gA σ) 0 0)), (4, vI (zOr (zShl 3 (pUp y 5)) (pUp (zShr y 3) 64))), (5, vI (pUp (zShr y 9) 6)), (6, vI b2), (7, vI (pUp x 20)), (8, vI (pDl (gA σ) y)), (9, vI (pSt y)), (10, vI (pOt y)), (11, vI b4)] (zSub_cons rfl (zSub_cons rfl (zSub_cons rfl (zSub_cons rfl (zSub_cons rfl (zSub_cons rfl (zSub_cons rfl (zSub_cons rfl (zSub_cons rfl (zSub_cons rfl (zSub_cons rfl (zSub_cons rfl zSub_nil)))))))))))) ?_
                have e9 : pYs y = 1 := if_pos c_38
                rw [e9] at key240
                exact key240
            refine z_callVI3 X (c_X3_vote hJ σ fi (by unfold zB pDl; omega) (by unfold zB pSt; omega) (by unfold pYs; exact zB_ite) ⟨by omega, by omega⟩ ⟨by omega, by omega⟩ hcan) kL_36 rfl (by decide) rfl ⟨(Nat.le_of_ble_eq_true rfl), (Nat.le_of_ble_eq_true rfl)⟩ (Nat.le_of_ble_eq_true rfl) ⟨(Nat.le_of_ble_eq_true rfl), (Nat.le_of_ble_eq_true rfl)⟩ dL_act_255 (fun z9 σ1 hz9 => ?_)
            obtain ⟨rfl, rfl⟩ := hz9
            refine z_goto X 266 dL_act_258 (by decide) ?_
            have hpa : pAct (gA σ) x y = ((cVoteR (gA σ) (pDl (gA σ) y) (pSt y) (pYs y)), cVoteN (gA σ) (pDl (gA σ) y) (pSt y) (pYs y)) := by unfold pAct; rw [if_neg hn0, if_pos (show pUp x 20 < 9 by omega)]; unfold pV; exact if_pos hc4
            exact z_iret X hsz hr hlocks dL_act_266 ⟨(congrArg Prod.fst hpa).symm, congrArg (zBk (fSv σ) 8 8) (congrArg Prod.snd hpa).symm⟩
      · refine z_iload X dL_act_121 rfl ?_
        refine z_if_eq X 148 dL_act_123 (by decide) (by rcases hb2 with h | h <;> rw [h] <;> exact ⟨by decide, by decide⟩) (fun c_39 => ?_) (fun c_39 => ?_)
        · have har : ¬ pAre (gA σ) y := fun h => (by have := hare.mpr h; omega)
          refine z_aload_n X dL_act_148 rfl ?_
          refine z_iconst X dL_act_149 ?_
          refine z_iload_n X dL_act_150 rfl ?_
          refine z_bipush X dL_act_151 rfl ?_
          refine z_callSI2 X (c_L_up hJ σ hy ⟨by omega, ⟨by decide, by decide⟩⟩) kL_15 ⟨(Nat.le_of_ble_eq_true rfl), (Nat.le_of_ble_eq_true rfl)⟩ (Nat.le_of_ble_eq_true rfl) ⟨(Nat.le_of_ble_eq_true rfl), (Nat.le_of_ble_eq_true rfl)⟩ dL_act_153 (fun z9 σ1 hz9 => ?_)
          obtain ⟨rfl, e9⟩ := hz9
          rw [e9]
          have hu_40 := rg_up y (n := 20) (by omega)
          refine z_iadd X dL_act_156 ?_
          refine z_callVI1 X (c_X3_setPatience hJ σ fi (by first | assumption | exact ⟨by decide, by decide⟩ | (unfold zB at *; omega)) ⟨by omega, by omega⟩) kL_29 rfl (by decide) rfl ⟨(Nat.le_of_ble_eq_true rfl), (Nat.le_of_ble_eq_true rfl)⟩ (Nat.le_of_ble_eq_true rfl) ⟨(Nat.le_of_ble_eq_true rfl), (Nat.le_of_ble_eq_true rfl)⟩ dL_act_157 (fun z9 σ1 hz9 => ?_)
          obtain ⟨rfl, rfl⟩ := hz9
          have hpa : pAct (gA σ) x y = (((gA σ) 0 3), up2 (gA σ) 0 3 (1 + pUp y 20)) := by unfold pAct; rw [if_pos (show gA σ 0 0 = 0 ∨ pUp x 20 < 2 by omega)]; unfold pB; exact if_neg har
          exact z_iret X hsz hr hlocks dL_act_160 ⟨(congrArg Prod.fst hpa).symm, congrArg (zBk (fSv σ) 8 8) (congrArg Prod.snd hpa).symm⟩
        · have har : pAre (gA σ) y := hare.mp (by omega)
          refine z_aload_n X dL_act_126 rfl ?_
          refine z_iload X dL_act_127 rfl ?_
          refine z_iload X dL_act_129 rfl ?_
          refine z_bipush X dL_act_131 rfl ?_
          refine z_and X dL_act_133 (zAnd_eq (zOr (zShl 3 (pUp y 5)) (pUp (zShr y 3) 64)) 63) ?_
          refine z_iload_n X dL_act_134 rfl ?_
          refine z_bipush X dL_act_135 rfl ?_
          refine z_shr X dL_act_137 (zShr_eq y 12) ?_
          refine z_iconst X dL_act_138 ?_
          refine z_callSI2 X (c_L_up hJ σ (zB_toInt _) ⟨by omega, ⟨by decide, by decide⟩⟩) kL_15 ⟨(Nat.le_of_ble_eq_true rfl), (Nat.le_of_ble_eq_true rfl)⟩ (Nat.le_of_ble_eq_true rfl) ⟨(Nat.le_of_ble_eq_true rfl), (Nat.le_of_ble_eq_true rfl)⟩ dL_act_139 (fun z9 σ1 hz9 => ?_)
          obtain ⟨rfl, e9⟩ := hz9
          rw [e9]
          have hu_41 := rg_up (zShr y 12) (n := 3) (by omega)
          refine z_callVI3 X (c_X3_begin hJ σ fi (by unfold zB at *; omega) (zB_toInt _) (by unfold zB at *; omega) ⟨by omega, by omega⟩ ⟨(pMk_ok y).1, (pMk_ok y).2.1⟩ (pMk_ok y).2.2 ⟨by omega, by omega⟩ (pMk_can fi.1 har)) kL_25 rfl (by decide) rfl ⟨(Nat.le_of_ble_eq_true rfl), (Nat.le_of_ble_eq_true rfl)⟩ (Nat.le_of_ble_eq_true rfl) ⟨(Nat.le_of_ble_eq_true rfl), (Nat.le_of_ble_eq_true rfl)⟩ dL_act_142 (fun z9 σ1 hz9 => ?_)
          obtain ⟨rfl, rfl⟩ := hz9
          refine z_goto X 160 dL_act_145 (by decide) ?_
          have hpa : pAct (gA σ) x y = ((cAddR (gA σ) (pUp (zShr y 9) 6) (zAnd (zOr (zShl 3 (pUp y 5)) (pUp (zShr y 3) 64)) 63)), cAddN (gA σ) (pLd y) (zAnd (pMk y) 63) (pUp (zShr y 12) 3)) := by unfold pAct; rw [if_pos (show gA σ 0 0 = 0 ∨ pUp x 20 < 2 by omega)]; unfold pB; exact if_pos har
          exact z_iret X hsz hr hlocks dL_act_160 ⟨(congrArg Prod.fst hpa).symm, congrArg (zBk (fSv σ) 8 8) (congrArg Prod.snd hpa).symm⟩
  · suffices key66 : ∀ (b3 : Int), ((b3 = 0 ∨ b3 = 1) ∧ (b3 = 1 ↔ (b2 = 1 ∧ ¬ (zAnd (zShr (zOr (zShl 3 (pUp y 5)) (pUp (zShr y 3) 64)) i) 1 ≠ 0 ∧ ¬ cUp (gA σ) i)))) → zV p l e (zRm 9) s0 m args below meth c 12 D G ad 0 0 (zE below (zQI D G ad sz (fun z σ9 => z = (pAct (gA σ) x y).1 ∧ σ9 = zBk (fSv σ) 8 8 (pAct (gA σ) x y).2)) args s0 ad) 95 [(0, .ref (ad 0)), (1, vI x), (2, vI y), (3, vI ((gA σ) 0 0)), (4, vI (zOr (zShl 3 (pUp y 5)) (pUp (zShr y 3) 64))), (5, vI (pUp (zShr y 9) 6)), (6, vI b2), (7, vI i)] [vI b3] σ by
      refine z_iload X dL_act_66 rfl ?_
      refine z_if_eq X 94 dL_act_68 (by decide) (by rcases hv.1 with h | h <;> rw [h] <;> exact ⟨by decide, by decide⟩) (fun c_42 => ?_) (fun c_42 => ?_)
      · refine z_iconst X dL_act_94 ?_
        refine z_sub [(0, .ref (ad 0)), (1, vI x), (2, vI y), (3, vI ((gA σ) 0 0)), (4, vI (zOr (zShl 3 (pUp y 5)) (pUp (zShr y 3) 64))), (5, vI (pUp (zShr y 9) 6)), (6, vI b2), (7, vI i)] (zSub_cons rfl (zSub_cons rfl (zSub_cons rfl (zSub_cons rfl (zSub_cons rfl (zSub_cons rfl (zSub_cons rfl (zSub_cons rfl zSub_nil)))))))) ?_
        exact key66 _ ⟨by decide, by grind⟩
      · refine z_iload X dL_act_71 rfl ?_
        refine z_iload X dL_act_73 rfl ?_
        refine z_shr X dL_act_75 (zShr_eq (zOr (zShl 3 (pUp y 5)) (pUp (zShr y 3) 64)) i) ?_
        refine z_iconst X dL_act_76 ?_
        refine z_and X dL_act_77 (zAnd_eq (zShr (zOr (zShl 3 (pUp y 5)) (pUp (zShr y 3) 64)) i) 1) ?_
        refine z_if_eq X 90 dL_act_78 (by decide) (zB_toInt _) (fun c_43 => ?_) (fun c_43 => ?_)
        · refine z_iconst X dL_act_90 ?_
          refine z_goto X 95 dL_act_91 (by decide) ?_
          refine z_sub [(0, .ref (ad 0)), (1, vI x), (2, vI y), (3, vI ((gA σ) 0 0)), (4, vI (zOr (zShl 3 (pUp y 5)) (pUp (zShr y 3) 64))), (5, vI (pUp (zShr y 9) 6)), (6, vI b2), (7, vI i)] (zSub_cons rfl (zSub_cons rfl (zSub_cons rfl (zSub_cons rfl (zSub_cons rfl (zSub_cons rfl (zSub_cons rfl (zSub_cons rfl zSub_nil)))))))) ?_
          exact key66 _ ⟨by decide, by grind⟩
        · refine z_aload_n X dL_act_81 rfl ?_
          refine z_iload X dL_act_82 rfl ?_
          refine z_callVI1 X (c_X3_isUp hJ σ fi (by first | assumption | exact ⟨by decide, by decide⟩ | (unfold zB at *; omega)) ⟨by omega, by omega⟩) kL_21 rfl (by decide) rfl ⟨(Nat.le_of_ble_eq_true rfl), (Nat.le_of_ble_eq_true rfl)⟩ (Nat.le_of_ble_eq_true rfl) ⟨(Nat.le_of_ble_eq_true rfl), (Nat.le_of_ble_eq_true rfl)⟩ dL_act_84 (fun z9 σ1 hz9 => ?_)
          obtain ⟨rfl, e9⟩ := hz9
          rw [e9]
          refine z_ifb_eq X 94 dL_act_87 (by decide) (fun c_44 => ?_) (fun c_44 => ?_)
          · refine z_iconst X dL_act_94 ?_
            refine z_sub [(0, .ref (ad 0)), (1, vI x), (2, vI y), (3, vI ((gA σ) 0 0)), (4, vI (zOr (zShl 3 (pUp y 5)) (pUp (zShr y 3) 64))), (5, vI (pUp (zShr y 9) 6)), (6, vI b2), (7, vI i)] (zSub_cons rfl (zSub_cons rfl (zSub_cons rfl (zSub_cons rfl (zSub_cons rfl (zSub_cons rfl (zSub_cons rfl (zSub_cons rfl zSub_nil)))))))) ?_
            exact key66 _ ⟨by decide, by grind⟩
          · refine z_iconst X dL_act_90 ?_
            refine z_goto X 95 dL_act_91 (by decide) ?_
            refine z_sub [(0, .ref (ad 0)), (1, vI x), (2, vI y), (3, vI ((gA σ) 0 0)), (4, vI (zOr (zShl 3 (pUp y 5)) (pUp (zShr y 3) 64))), (5, vI (pUp (zShr y 9) 6)), (6, vI b2), (7, vI i)] (zSub_cons rfl (zSub_cons rfl (zSub_cons rfl (zSub_cons rfl (zSub_cons rfl (zSub_cons rfl (zSub_cons rfl (zSub_cons rfl zSub_nil)))))))) ?_
            exact key66 _ ⟨by decide, by grind⟩
    intro b3 hk66
    refine z_istore X dL_act_95 (by decide) ?_
    refine z_sub [(0, .ref (ad 0)), (1, vI x), (2, vI y), (3, vI ((gA σ) 0 0)), (4, vI (zOr (zShl 3 (pUp y 5)) (pUp (zShr y 3) 64))), (5, vI (pUp (zShr y 9) 6)), (6, vI b3), (7, vI i)] (zSub_cons rfl (zSub_cons rfl (zSub_cons rfl (zSub_cons rfl (zSub_cons rfl (zSub_cons rfl (zSub_cons rfl (zSub_cons rfl zSub_nil)))))))) ?_
    refine z_iinc X dL_act_97 rfl (by decide) ?_
    refine z_sub [(0, .ref (ad 0)), (1, vI x), (2, vI y), (3, vI ((gA σ) 0 0)), (4, vI (zOr (zShl 3 (pUp y 5)) (pUp (zShr y 3) 64))), (5, vI (pUp (zShr y 9) 6)), (6, vI b3), (7, vI (i + 1))] (zSub_cons rfl (zSub_cons rfl (zSub_cons rfl (zSub_cons rfl (zSub_cons rfl (zSub_cons rfl (zSub_cons rfl (zSub_cons rfl zSub_nil)))))))) ?_
    refine z_goto X 59 dL_act_100 (by decide) ?_
    exact ih (by omega) b3 (act_inv i0 hv hk66)
