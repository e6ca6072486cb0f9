set_option maxHeartbeats 4000000 in
set_option maxRecDepth 100000 in
theorem c_L_isAhead {l : Launch} {D : va_G} {G : zG} {ad : Nat → Nat} (hJ : zInj ad) (σ : zM) (fi : fI σ) (j : jN (gA σ)) {d s o : Int} (hd : zB d) (hs : zB s) (ho : zB o) (hD : cHas (gA σ) d) (hS : 0 ≤ s ∧ s ≤ 5) (hO : 0 ≤ o ∧ o ≤ 5)  : zKI l D G ad yL_isAhead cL_isAhead 10 (some .boolean) 9 [.ref (ad 0), vI d, vI s, vI o] σ (fun z σ9 => z = 1 ∧ eQ σ σ9) := by
  intro sz
  refine z_open hJ (by decide +kernel) (Nat.le_of_ble_eq_true rfl) ?_
  intro p e s0 m args below meth c hsz X hr hlocks
  have hn := ok_n fi.1
  have q0 := eQ_rf fi
  refine z_sub [(0, .ref (ad 0)), (1, vI d), (2, vI s), (3, vI o)] (zSub_cons rfl (zSub_cons rfl (zSub_cons rfl (zSub_cons rfl zSub_nil)))) ?_
  refine z_aload_n X dL_isAhead_0 rfl ?_
  refine z_callVL0 X (c_X3_digest hJ σ q0.2.1  ) kL_93 rfl (by decide) rfl ⟨(Nat.le_of_ble_eq_true rfl), (Nat.le_of_ble_eq_true rfl)⟩ (Nat.le_of_ble_eq_true rfl) ⟨(Nat.le_of_ble_eq_true rfl), (Nat.le_of_ble_eq_true rfl)⟩ dL_isAhead_1 (fun z9 σ1 hz9 => ?_)
  obtain ⟨rfl, e9⟩ := hz9
  rw [e9]
  refine z_lstore X dL_isAhead_4 (by decide) ?_
  refine z_sub [(0, .ref (ad 0)), (1, vI d), (2, vI s), (3, vI o), (4, .long (cHash (gA σ)))] (zSub_cons rfl (zSub_cons rfl (zSub_cons rfl (zSub_cons rfl (zSub_cons rfl zSub_nil))))) ?_
  refine z_aload_n X dL_isAhead_6 rfl ?_
  refine z_iload_n X dL_isAhead_7 rfl ?_
  refine z_iload_n X dL_isAhead_8 rfl ?_
  refine z_callVI2 X (c_X3_reason hJ σ q0.2.1 hd hs (by rw [q0.1]; exact hD) hS) kL_97 rfl (by decide) rfl ⟨(Nat.le_of_ble_eq_true rfl), (Nat.le_of_ble_eq_true rfl)⟩ (Nat.le_of_ble_eq_true rfl) ⟨(Nat.le_of_ble_eq_true rfl), (Nat.le_of_ble_eq_true rfl)⟩ dL_isAhead_9 (fun z9 σ1 hz9 => ?_)
  obtain ⟨rfl, e9⟩ := hz9
  rw [e9]
  refine z_istore X dL_isAhead_12 (by decide) ?_
  refine z_sub [(0, .ref (ad 0)), (1, vI d), (2, vI s), (3, vI o), (4, .long (cHash (gA σ))), (6, vI (cReas (gA σ) d s))] (zSub_cons rfl (zSub_cons rfl (zSub_cons rfl (zSub_cons rfl (zSub_cons rfl (zSub_cons rfl zSub_nil)))))) ?_
  refine z_aload_n X dL_isAhead_14 rfl ?_
  refine z_iload_n X dL_isAhead_15 rfl ?_
  refine z_iload_n X dL_isAhead_16 rfl ?_
  refine z_callVI2 X (c_X3_helper hJ σ q0.2.1 hd hs (by rw [q0.1]; exact hD) hS) kL_64 rfl (by decide) rfl ⟨(Nat.le_of_ble_eq_true rfl), (Nat.le_of_ble_eq_true rfl)⟩ (Nat.le_of_ble_eq_true rfl) ⟨(Nat.le_of_ble_eq_true rfl), (Nat.le_of_ble_eq_true rfl)⟩ dL_isAhead_17 (fun z9 σ1 hz9 => ?_)
  obtain ⟨rfl, e9⟩ := hz9
  rw [e9]
  refine z_istore X dL_isAhead_20 (by decide) ?_
  refine z_sub [(0, .ref (ad 0)), (1, vI d), (2, vI s), (3, vI o), (4, .long (cHash (gA σ))), (6, vI (cReas (gA σ) d s)), (7, vI (cHelp (gA σ) d s))] (zSub_cons rfl (zSub_cons rfl (zSub_cons rfl (zSub_cons rfl (zSub_cons rfl (zSub_cons rfl (zSub_cons rfl zSub_nil))))))) ?_
  refine z_aload_n X dL_isAhead_22 rfl ?_
  refine z_iload_n X dL_isAhead_23 rfl ?_
  refine z_iload_n X dL_isAhead_24 rfl ?_
  refine z_callVI2 X (c_X3_ticksToEnd hJ σ q0.2.1 hd hs (by rw [q0.1]; exact hD) hS) kL_100 rfl (by decide) rfl ⟨(Nat.le_of_ble_eq_true rfl), (Nat.le_of_ble_eq_true rfl)⟩ (Nat.le_of_ble_eq_true rfl) ⟨(Nat.le_of_ble_eq_true rfl), (Nat.le_of_ble_eq_true rfl)⟩ dL_isAhead_25 (fun z9 σ1 hz9 => ?_)
  obtain ⟨rfl, W, rfl⟩ := hz9
  have q1 : eQ σ (zBk σ 16 8 W) := eQ_fc fi W
  generalize zBk σ 16 8 W = τ at q1 ⊢
  refine z_istore X dL_isAhead_28 (by decide) ?_
  refine z_sub [(0, .ref (ad 0)), (1, vI d), (2, vI s), (3, vI o), (4, .long (cHash (gA σ))), (6, vI (cReas (gA σ) d s)), (7, vI (cHelp (gA σ) d s)), (8, vI (cTte (gA σ) d s))] (zSub_cons rfl (zSub_cons rfl (zSub_cons rfl (zSub_cons rfl (zSub_cons rfl (zSub_cons rfl (zSub_cons rfl (zSub_cons rfl zSub_nil)))))))) ?_
  have hr1 := reas_1 (A := gA σ) d s
  have hrs := rg_st fi.1 d s
  have ht1 := tte_0 fi.1 d s
  suffices key30 : zV p l e (zRm 9) s0 m args below meth c 10 D G ad 0 0 (zE below (zQI D G ad sz (fun z σ9 => z = 1 ∧ eQ σ σ9)) args s0 ad) 86 [(0, .ref (ad 0)), (1, vI d), (2, vI s), (3, vI o), (4, .long (cHash (gA σ))), (6, vI (cReas (gA σ) d s)), (7, vI (cHelp (gA σ) d s)), (8, vI (cTte (gA σ) d s))] [] τ by
    refine z_iload X dL_isAhead_30 rfl ?_
    refine z_iconst X dL_isAhead_32 ?_
    refine z_icmp_ne X 40 dL_isAhead_33 (by decide) (zB_sm (rg_reas _ _ _)) ⟨by decide, by decide⟩ (fun c_1 => ?_) (fun c_1 => ?_)
    · refine z_iconst X dL_isAhead_40 ?_
      refine z_aload_n X dL_isAhead_41 rfl ?_
      refine z_iload_n X dL_isAhead_42 rfl ?_
      refine z_iload_n X dL_isAhead_43 rfl ?_
      refine z_callVI2 X (c_X3_state hJ τ q1.2.1 hd hs (by rw [q1.1]; exact hD) hS) kL_33 rfl (by decide) rfl ⟨(Nat.le_of_ble_eq_true rfl), (Nat.le_of_ble_eq_true rfl)⟩ (Nat.le_of_ble_eq_true rfl) ⟨(Nat.le_of_ble_eq_true rfl), (Nat.le_of_ble_eq_true rfl)⟩ dL_isAhead_44 (fun z9 σ1 hz9 => ?_)
      obtain ⟨rfl, e9⟩ := hz9
      rw [e9]
      rw [q1.1]
      refine z_if_ge X 54 dL_isAhead_47 (by decide) (zB_sm (rg_st fi.1 _ _)) (fun c_2 => ?_) (fun c_2 => ?_)
      · refine z_iconst X dL_isAhead_54 ?_
        refine z_icmp_ne X 90 dL_isAhead_55 (by decide) ⟨by decide, by decide⟩ ⟨by decide, by decide⟩ (fun h9 => absurd h9 (by decide)) (fun _ => ?_)
        refine z_iload X dL_isAhead_58 rfl ?_
        refine z_if_ne X 67 dL_isAhead_60 (by decide) (zB_sm (tte_rg _ _ _)) (fun c_3 => ?_) (fun c_3 => ?_)
        · refine z_iconst X dL_isAhead_67 ?_
          refine z_aload_n X dL_isAhead_68 rfl ?_
          refine z_iload_n X dL_isAhead_69 rfl ?_
          refine z_iload_n X dL_isAhead_70 rfl ?_
          refine z_callVI2 X (c_X3_state hJ τ q1.2.1 hd hs (by rw [q1.1]; exact hD) hS) kL_33 rfl (by decide) rfl ⟨(Nat.le_of_ble_eq_true rfl), (Nat.le_of_ble_eq_true rfl)⟩ (Nat.le_of_ble_eq_true rfl) ⟨(Nat.le_of_ble_eq_true rfl), (Nat.le_of_ble_eq_true rfl)⟩ dL_isAhead_71 (fun z9 σ1 hz9 => ?_)
          obtain ⟨rfl, e9⟩ := hz9
          rw [e9]
          rw [q1.1]
          refine z_iconst X dL_isAhead_74 ?_
          refine z_icmp_le X 82 dL_isAhead_75 (by decide) (zB_sm (rg_st fi.1 _ _)) ⟨by decide, by decide⟩ (fun c_4 => ?_) (fun c_4 => ?_)
          · refine z_iconst X dL_isAhead_82 ?_
            refine z_icmp_ne X 90 dL_isAhead_83 (by decide) ⟨by decide, by decide⟩ ⟨by decide, by decide⟩ (fun h9 => absurd h9 (by decide)) (fun _ => ?_)
            refine z_sub [(0, .ref (ad 0)), (1, vI d), (2, vI s), (3, vI o), (4, .long (cHash (gA σ))), (6, vI (cReas (gA σ) d s)), (7, vI (cHelp (gA σ) d s)), (8, vI (cTte (gA σ) d s))] (zSub_cons rfl (zSub_cons rfl (zSub_cons rfl (zSub_cons rfl (zSub_cons rfl (zSub_cons rfl (zSub_cons rfl (zSub_cons rfl zSub_nil)))))))) ?_
            exact key30
          · refine z_iconst X dL_isAhead_78 ?_
            refine z_goto X 83 dL_isAhead_79 (by decide) ?_
            refine z_icmp_ne X 90 dL_isAhead_83 (by decide) ⟨by decide, by decide⟩ ⟨by decide, by decide⟩ (fun _ => ?_) (fun h9 => absurd h9 (by decide))
            exfalso
            omega
        · refine z_iconst X dL_isAhead_63 ?_
          refine z_goto X 68 dL_isAhead_64 (by decide) ?_
          refine z_aload_n X dL_isAhead_68 rfl ?_
          refine z_iload_n X dL_isAhead_69 rfl ?_
          refine z_iload_n X dL_isAhead_70 rfl ?_
          refine z_callVI2 X (c_X3_state hJ τ q1.2.1 hd hs (by rw [q1.1]; exact hD) hS) kL_33 rfl (by decide) rfl ⟨(Nat.le_of_ble_eq_true rfl), (Nat.le_of_ble_eq_true rfl)⟩ (Nat.le_of_ble_eq_true rfl) ⟨(Nat.le_of_ble_eq_true rfl), (Nat.le_of_ble_eq_true rfl)⟩ dL_isAhead_71 (fun z9 σ1 hz9 => ?_)
          obtain ⟨rfl, e9⟩ := hz9
          rw [e9]
          rw [q1.1]
          refine z_iconst X dL_isAhead_74 ?_
          refine z_icmp_le X 82 dL_isAhead_75 (by decide) (zB_sm (rg_st fi.1 _ _)) ⟨by decide, by decide⟩ (fun c_5 => ?_) (fun c_5 => ?_)
          · refine z_iconst X dL_isAhead_82 ?_
            refine z_icmp_ne X 90 dL_isAhead_83 (by decide) ⟨by decide, by decide⟩ ⟨by decide, by decide⟩ (fun _ => ?_) (fun h9 => absurd h9 (by decide))
            exfalso
            omega
          · refine z_iconst X dL_isAhead_78 ?_
            refine z_goto X 83 dL_isAhead_79 (by decide) ?_
            refine z_icmp_ne X 90 dL_isAhead_83 (by decide) ⟨by decide, by decide⟩ ⟨by decide, by decide⟩ (fun h9 => absurd h9 (by decide)) (fun _ => ?_)
            refine z_sub [(0, .ref (ad 0)), (1, vI d), (2, vI s), (3, vI o), (4, .long (cHash (gA σ))), (6, vI (cReas (gA σ) d s)), (7, vI (cHelp (gA σ) d s)), (8, vI (cTte (gA σ) d s))] (zSub_cons rfl (zSub_cons rfl (zSub_cons rfl (zSub_cons rfl (zSub_cons rfl (zSub_cons rfl (zSub_cons rfl (zSub_cons rfl zSub_nil)))))))) ?_
            exact key30
      · refine z_iconst X dL_isAhead_50 ?_
        refine z_goto X 55 dL_isAhead_51 (by decide) ?_
        refine z_icmp_ne X 90 dL_isAhead_55 (by decide) ⟨by decide, by decide⟩ ⟨by decide, by decide⟩ (fun _ => ?_) (fun h9 => absurd h9 (by decide))
        exfalso
        omega
    · refine z_iconst X dL_isAhead_36 ?_
      refine z_goto X 41 dL_isAhead_37 (by decide) ?_
      refine z_aload_n X dL_isAhead_41 rfl ?_
      refine z_iload_n X dL_isAhead_42 rfl ?_
      refine z_iload_n X dL_isAhead_43 rfl ?_
      refine z_callVI2 X (c_X3_state hJ τ q1.2.1 hd hs (by rw [q1.1]; exact hD) hS) kL_33 rfl (by decide) rfl ⟨(Nat.le_of_ble_eq_true rfl), (Nat.le_of_ble_eq_true rfl)⟩ (Nat.le_of_ble_eq_true rfl) ⟨(Nat.le_of_ble_eq_true rfl), (Nat.le_of_ble_eq_true rfl)⟩ dL_isAhead_44 (fun z9 σ1 hz9 => ?_)
      obtain ⟨rfl, e9⟩ := hz9
      rw [e9]
      rw [q1.1]
      refine z_if_ge X 54 dL_isAhead_47 (by decide) (zB_sm (rg_st fi.1 _ _)) (fun c_6 => ?_) (fun c_6 => ?_)
      · refine z_iconst X dL_isAhead_54 ?_
        refine z_icmp_ne X 90 dL_isAhead_55 (by decide) ⟨by decide, by decide⟩ ⟨by decide, by decide⟩ (fun _ => ?_) (fun h9 => absurd h9 (by decide))
        exfalso
        omega
      · refine z_iconst X dL_isAhead_50 ?_
        refine z_goto X 55 dL_isAhead_51 (by decide) ?_
        refine z_icmp_ne X 90 dL_isAhead_55 (by decide) ⟨by decide, by decide⟩ ⟨by decide, by decide⟩ (fun h9 => absurd h9 (by decide)) (fun _ => ?_)
        refine z_iload X dL_isAhead_58 rfl ?_
        refine z_if_ne X 67 dL_isAhead_60 (by decide) (zB_sm (tte_rg _ _ _)) (fun c_7 => ?_) (fun c_7 => ?_)
        · refine z_iconst X dL_isAhead_67 ?_
          refine z_aload_n X dL_isAhead_68 rfl ?_
          refine z_iload_n X dL_isAhead_69 rfl ?_
          refine z_iload_n X dL_isAhead_70 rfl ?_
          refine z_callVI2 X (c_X3_state hJ τ q1.2.1 hd hs (by rw [q1.1]; exact hD) hS) kL_33 rfl (by decide) rfl ⟨(Nat.le_of_ble_eq_true rfl), (Nat.le_of_ble_eq_true rfl)⟩ (Nat.le_of_ble_eq_true rfl) ⟨(Nat.le_of_ble_eq_true rfl), (Nat.le_of_ble_eq_true rfl)⟩ dL_isAhead_71 (fun z9 σ1 hz9 => ?_)
          obtain ⟨rfl, e9⟩ := hz9
          rw [e9]
          rw [q1.1]
          refine z_iconst X dL_isAhead_74 ?_
          refine z_icmp_le X 82 dL_isAhead_75 (by decide) (zB_sm (rg_st fi.1 _ _)) ⟨by decide, by decide⟩ (fun c_8 => ?_) (fun c_8 => ?_)
          · refine z_iconst X dL_isAhead_82 ?_
            refine z_icmp_ne X 90 dL_isAhead_83 (by decide) ⟨by decide, by decide⟩ ⟨by decide, by decide⟩ (fun h9 => absurd h9 (by decide)) (fun _ => ?_)
            refine z_sub [(0, .ref (ad 0)), (1, vI d), (2, vI s), (3, vI o), (4, .long (cHash (gA σ))), (6, vI (cReas (gA σ) d s)), (7, vI (cHelp (gA σ) d s)), (8, vI (cTte (gA σ) d s))] (zSub_cons rfl (zSub_cons rfl (zSub_cons rfl (zSub_cons rfl (zSub_cons rfl (zSub_cons rfl (zSub_cons rfl (zSub_cons rfl zSub_nil)))))))) ?_
            exact key30
          · refine z_iconst X dL_isAhead_78 ?_
            refine z_goto X 83 dL_isAhead_79 (by decide) ?_
            refine z_icmp_ne X 90 dL_isAhead_83 (by decide) ⟨by decide, by decide⟩ ⟨by decide, by decide⟩ (fun _ => ?_) (fun h9 => absurd h9 (by decide))
            exfalso
            omega
        · refine z_iconst X dL_isAhead_63 ?_
          refine z_goto X 68 dL_isAhead_64 (by decide) ?_
          refine z_aload_n X dL_isAhead_68 rfl ?_
          refine z_iload_n X dL_isAhead_69 rfl ?_
          refine z_iload_n X dL_isAhead_70 rfl ?_
          refine z_callVI2 X (c_X3_state hJ τ q1.2.1 hd hs (by rw [q1.1]; exact hD) hS) kL_33 rfl (by decide) rfl ⟨(Nat.le_of_ble_eq_true rfl), (Nat.le_of_ble_eq_true rfl)⟩ (Nat.le_of_ble_eq_true rfl) ⟨(Nat.le_of_ble_eq_true rfl), (Nat.le_of_ble_eq_true rfl)⟩ dL_isAhead_71 (fun z9 σ1 hz9 => ?_)
          obtain ⟨rfl, e9⟩ := hz9
          rw [e9]
          rw [q1.1]
          refine z_iconst X dL_isAhead_74 ?_
          refine z_icmp_le X 82 dL_isAhead_75 (by decide) (zB_sm (rg_st fi.1 _ _)) ⟨by decide, by decide⟩ (fun c_9 => ?_) (fun c_9 => ?_)
          · refine z_iconst X dL_isAhead_82 ?_
            refine z_icmp_ne X 90 dL_isAhead_83 (by decide) ⟨by decide, by decide⟩ ⟨by decide, by decide⟩ (fun _ => ?_) (fun h9 => absurd h9 (by decide))
            exfalso
            omega
          · refine z_iconst X dL_isAhead_78 ?_
            refine z_goto X 83 dL_isAhead_79 (by decide) ?_
            refine z_icmp_ne X 90 dL_isAhead_83 (by decide) ⟨by decide, by decide⟩ ⟨by decide, by decide⟩ (fun h9 => absurd h9 (by decide)) (fun _ => ?_)
            refine z_sub [(0, .ref (ad 0)), (1, vI d), (2, vI s), (3, vI o), (4, .long (cHash (gA σ))), (6, vI (cReas (gA σ) d s)), (7, vI (cHelp (gA σ) d s)), (8, vI (cTte (gA σ) d s))] (zSub_cons rfl (zSub_cons rfl (zSub_cons rfl (zSub_cons rfl (zSub_cons rfl (zSub_cons rfl (zSub_cons rfl (zSub_cons rfl zSub_nil)))))))) ?_
            exact key30
  refine z_iconst X dL_isAhead_86 ?_
  refine z_goto X 91 dL_isAhead_87 (by decide) ?_
  refine z_istore X dL_isAhead_91 (by decide) ?_
  refine z_sub [(0, .ref (ad 0)), (1, vI d), (2, vI s), (3, vI o), (4, .long (cHash (gA σ))), (6, vI (cReas (gA σ) d s)), (7, vI (cHelp (gA σ) d s)), (8, vI (cTte (gA σ) d s)), (9, vI 1)] (zSub_cons rfl (zSub_cons rfl (zSub_cons rfl (zSub_cons rfl (zSub_cons rfl (zSub_cons rfl (zSub_cons rfl (zSub_cons rfl (zSub_cons rfl zSub_nil))))))))) ?_
  refine z_iload X dL_isAhead_93 rfl ?_
  refine z_if_eq X 158 dL_isAhead_95 (by decide) ⟨by decide, by decide⟩ (fun h9 => absurd h9 (by decide)) (fun _ => ?_)
  suffices key98 : ∀ τ98 : zM, eQ σ τ98 → zV p l e (zRm 9) s0 m args below meth c 10 D G ad 0 0 (zE below (zQI D G ad sz (fun z σ9 => z = 1 ∧ eQ σ σ9)) args s0 ad) 158 [(0, .ref (ad 0)), (1, vI d), (2, vI s), (3, vI o), (4, .long (cHash (gA σ))), (6, vI (cReas (gA σ) d s)), (7, vI (cHelp (gA σ) d s)), (8, vI (cTte (gA σ) d s)), (9, vI 1)] [] τ98 by
    refine z_aload_n X dL_isAhead_98 rfl ?_
    refine z_iload_n X dL_isAhead_99 rfl ?_
    refine z_iload_n X dL_isAhead_100 rfl ?_
    refine z_callVI2 X (c_X3_state hJ τ q1.2.1 hd hs (by rw [q1.1]; exact hD) hS) kL_33 rfl (by decide) rfl ⟨(Nat.le_of_ble_eq_true rfl), (Nat.le_of_ble_eq_true rfl)⟩ (Nat.le_of_ble_eq_true rfl) ⟨(Nat.le_of_ble_eq_true rfl), (Nat.le_of_ble_eq_true rfl)⟩ dL_isAhead_101 (fun z9 σ1 hz9 => ?_)
    obtain ⟨rfl, e9⟩ := hz9
    rw [e9]
    rw [q1.1]
    refine z_if_ne X 158 dL_isAhead_104 (by decide) (zB_sm (rg_st fi.1 _ _)) (fun c_10 => ?_) (fun c_10 => ?_)
    · refine z_sub [(0, .ref (ad 0)), (1, vI d), (2, vI s), (3, vI o), (4, .long (cHash (gA σ))), (6, vI (cReas (gA σ) d s)), (7, vI (cHelp (gA σ) d s)), (8, vI (cTte (gA σ) d s)), (9, vI 1)] (zSub_cons rfl (zSub_cons rfl (zSub_cons rfl (zSub_cons rfl (zSub_cons rfl (zSub_cons rfl (zSub_cons rfl (zSub_cons rfl (zSub_cons rfl zSub_nil))))))))) ?_
      exact key98 _ q1
    · refine z_aload_n X dL_isAhead_107 rfl ?_
      refine z_iload_n X dL_isAhead_108 rfl ?_
      refine z_callVI1 X (c_X3_isUp hJ τ q1.2.1 hs ⟨by omega, by omega⟩) kL_21 rfl (by decide) rfl ⟨(Nat.le_of_ble_eq_true rfl), (Nat.le_of_ble_eq_true rfl)⟩ (Nat.le_of_ble_eq_true rfl) ⟨(Nat.le_of_ble_eq_true rfl), (Nat.le_of_ble_eq_true rfl)⟩ dL_isAhead_109 (fun z9 σ1 hz9 => ?_)
      obtain ⟨rfl, e9⟩ := hz9
      rw [e9]
      rw [q1.1]
      refine z_ifb_eq X 158 dL_isAhead_112 (by decide) (fun c_11 => ?_) (fun c_11 => ?_)
      · refine z_sub [(0, .ref (ad 0)), (1, vI d), (2, vI s), (3, vI o), (4, .long (cHash (gA σ))), (6, vI (cReas (gA σ) d s)), (7, vI (cHelp (gA σ) d s)), (8, vI (cTte (gA σ) d s)), (9, vI 1)] (zSub_cons rfl (zSub_cons rfl (zSub_cons rfl (zSub_cons rfl (zSub_cons rfl (zSub_cons rfl (zSub_cons rfl (zSub_cons rfl (zSub_cons rfl zSub_nil))))))))) ?_
        exact key98 _ q1
      · have hcv : cCanVote (gA σ) d s := ⟨c_11, c_10⟩
        have hv1 := reas_0 c_10 c_11
        refine z_aload_n X dL_isAhead_115 rfl ?_
        refine z_iload_n X dL_isAhead_116 rfl ?_
        refine z_iload_n X dL_isAhead_117 rfl ?_
        refine z_iconst X dL_isAhead_118 ?_
        refine z_callVI3 X (c_X3_vote hJ τ q1.2.1 hd hs ⟨by decide, by decide⟩ (by rw [q1.1]; exact hD) hS (by rw [q1.1]; exact hcv)) kL_36 rfl (by decide) rfl ⟨(Nat.le_of_ble_eq_true rfl), (Nat.le_of_ble_eq_true rfl)⟩ (Nat.le_of_ble_eq_true rfl) ⟨(Nat.le_of_ble_eq_true rfl), (Nat.le_of_ble_eq_true rfl)⟩ dL_isAhead_119 (fun z9 σ1 hz9 => ?_)
        obtain ⟨rfl, rfl⟩ := hz9
        rw [q1.1]
        have m_12 := un_ok q1.2.1 (cVoteN (gA σ) d s 1)
        have m_12f := d1_fI q1.2.1 (M := cVoteN (gA σ) d s 1) (jS_vote j _ _ _).1.1
        have m_12c : 0 < gH (zBk (fSv τ) 8 8 (cVoteN (gA σ) d s 1)) 0 1 := by rw [d1_c q1.2.1]; have := (hk_pre q1.2.1.2.1).2.1; omega
        have m_12b : gH (zBk (fSv τ) 8 8 (cVoteN (gA σ) d s 1)) 0 1 ≤ 6 := (hk_c m_12f.2.1).2
        refine z_iconst X dL_isAhead_122 ?_
        refine z_icmp_ne X 130 dL_isAhead_123 (by decide) (rg_vR (gA σ) _ _ _) ⟨by decide, by decide⟩ (fun c_13 => ?_) (fun c_13 => ?_)
        · refine z_iconst X dL_isAhead_130 ?_
          refine z_iload X dL_isAhead_131 rfl ?_
          refine z_if_ne X 140 dL_isAhead_133 (by decide) (zB_sm (rg_reas _ _ _)) (fun c_14 => ?_) (fun c_14 => ?_)
          · refine z_iconst X dL_isAhead_140 ?_
            refine z_icmp_ne X 155 dL_isAhead_141 (by decide) ⟨by decide, by decide⟩ ⟨by decide, by decide⟩ (fun h9 => absurd h9 (by decide)) (fun _ => ?_)
            refine z_aload_n X dL_isAhead_144 rfl ?_
            refine z_callVI0 X (c_X3_undo hJ (zBk (fSv τ) 8 8 (cVoteN (gA σ) d s 1)) m_12f m_12c) kL_103 rfl (by decide) rfl ⟨(Nat.le_of_ble_eq_true rfl), (Nat.le_of_ble_eq_true rfl)⟩ (Nat.le_of_ble_eq_true rfl) ⟨(Nat.le_of_ble_eq_true rfl), (Nat.le_of_ble_eq_true rfl)⟩ dL_isAhead_145 (fun z9 σ1 hz9 => ?_)
            obtain ⟨rfl, rfl⟩ := hz9
            have q9_15 := eQ_tr q1 m_12.1
            refine z_if_lt X 155 dL_isAhead_148 (by decide) (by unfold zB; omega) (fun c_16 => (by exfalso; omega)) (fun c_16 => ?_)
            refine z_iconst X dL_isAhead_151 ?_
            refine z_goto X 156 dL_isAhead_152 (by decide) ?_
            refine z_istore X dL_isAhead_156 (by decide) ?_
            refine z_sub [(0, .ref (ad 0)), (1, vI d), (2, vI s), (3, vI o), (4, .long (cHash (gA σ))), (6, vI (cReas (gA σ) d s)), (7, vI (cHelp (gA σ) d s)), (8, vI (cTte (gA σ) d s)), (9, vI 1)] (zSub_cons rfl (zSub_cons rfl (zSub_cons rfl (zSub_cons rfl (zSub_cons rfl (zSub_cons rfl (zSub_cons rfl (zSub_cons rfl (zSub_cons rfl zSub_nil))))))))) ?_
            refine z_sub [(0, .ref (ad 0)), (1, vI d), (2, vI s), (3, vI o), (4, .long (cHash (gA σ))), (6, vI (cReas (gA σ) d s)), (7, vI (cHelp (gA σ) d s)), (8, vI (cTte (gA σ) d s)), (9, vI 1)] (zSub_cons rfl (zSub_cons rfl (zSub_cons rfl (zSub_cons rfl (zSub_cons rfl (zSub_cons rfl (zSub_cons rfl (zSub_cons rfl (zSub_cons rfl zSub_nil))))))))) ?_
            exact key98 _ q9_15
          · refine z_iconst X dL_isAhead_136 ?_
            refine z_goto X 141 dL_isAhead_137 (by decide) ?_
            refine z_icmp_ne X 155 dL_isAhead_141 (by decide) ⟨by decide, by decide⟩ ⟨by decide, by decide⟩ (fun _ => ?_) (fun h9 => absurd h9 (by decide))
            exfalso
            omega
        · refine z_iconst X dL_isAhead_126 ?_
          refine z_goto X 131 dL_isAhead_127 (by decide) ?_
          refine z_iload X dL_isAhead_131 rfl ?_
          refine z_if_ne X 140 dL_isAhead_133 (by decide) (zB_sm (rg_reas _ _ _)) (fun c_17 => ?_) (fun c_17 => ?_)
          · refine z_iconst X dL_isAhead_140 ?_
            refine z_icmp_ne X 155 dL_isAhead_141 (by decide) ⟨by decide, by decide⟩ ⟨by decide, by decide⟩ (fun _ => ?_) (fun h9 => absurd h9 (by decide))
            exfalso
            omega
          · refine z_iconst X dL_isAhead_136 ?_
            refine z_goto X 141 dL_isAhead_137 (by decide) ?_
            refine z_icmp_ne X 155 dL_isAhead_141 (by decide) ⟨by decide, by decide⟩ ⟨by decide, by decide⟩ (fun h9 => absurd h9 (by decide)) (fun _ => ?_)
            refine z_aload_n X dL_isAhead_144 rfl ?_
            refine z_callVI0 X (c_X3_undo hJ (zBk (fSv τ) 8 8 (cVoteN (gA σ) d s 1)) m_12f m_12c) kL_103 rfl (by decide) rfl ⟨(Nat.le_of_ble_eq_true rfl), (Nat.le_of_ble_eq_true rfl)⟩ (Nat.le_of_ble_eq_true rfl) ⟨(Nat.le_of_ble_eq_true rfl), (Nat.le_of_ble_eq_true rfl)⟩ dL_isAhead_145 (fun z9 σ1 hz9 => ?_)
            obtain ⟨rfl, rfl⟩ := hz9
            have q9_18 := eQ_tr q1 m_12.1
            refine z_if_lt X 155 dL_isAhead_148 (by decide) (by unfold zB; omega) (fun c_19 => (by exfalso; omega)) (fun c_19 => ?_)
            refine z_iconst X dL_isAhead_151 ?_
            refine z_goto X 156 dL_isAhead_152 (by decide) ?_
            refine z_istore X dL_isAhead_156 (by decide) ?_
            refine z_sub [(0, .ref (ad 0)), (1, vI d), (2, vI s), (3, vI o), (4, .long (cHash (gA σ))), (6, vI (cReas (gA σ) d s)), (7, vI (cHelp (gA σ) d s)), (8, vI (cTte (gA σ) d s)), (9, vI 1)] (zSub_cons rfl (zSub_cons rfl (zSub_cons rfl (zSub_cons rfl (zSub_cons rfl (zSub_cons rfl (zSub_cons rfl (zSub_cons rfl (zSub_cons rfl zSub_nil))))))))) ?_
            refine z_sub [(0, .ref (ad 0)), (1, vI d), (2, vI s), (3, vI o), (4, .long (cHash (gA σ))), (6, vI (cReas (gA σ) d s)), (7, vI (cHelp (gA σ) d s)), (8, vI (cTte (gA σ) d s)), (9, vI 1)] (zSub_cons rfl (zSub_cons rfl (zSub_cons rfl (zSub_cons rfl (zSub_cons rfl (zSub_cons rfl (zSub_cons rfl (zSub_cons rfl (zSub_cons rfl zSub_nil))))))))) ?_
            exact key98 _ q9_18
  intro τ98 q98
  refine z_iload X dL_isAhead_158 rfl ?_
  refine z_if_eq X 194 dL_isAhead_160 (by decide) ⟨by decide, by decide⟩ (fun h9 => absurd h9 (by decide)) (fun _ => ?_)
  suffices key163 : ∀ τ163 : zM, eQ σ τ163 → zV p l e (zRm 9) s0 m args below meth c 10 D G ad 0 0 (zE below (zQI D G ad sz (fun z σ9 => z = 1 ∧ eQ σ σ9)) args s0 ad) 194 [(0, .ref (ad 0)), (1, vI d), (2, vI s), (3, vI o), (4, .long (cHash (gA σ))), (6, vI (cReas (gA σ) d s)), (7, vI (cHelp (gA σ) d s)), (8, vI (cTte (gA σ) d s)), (9, vI 1)] [] τ163 by
    refine z_iload X dL_isAhead_163 rfl ?_
    refine z_if_lt X 194 dL_isAhead_165 (by decide) (zB_sm (rg_help _ _ _)) (fun c_20 => ?_) (fun c_20 => ?_)
    · refine z_sub [(0, .ref (ad 0)), (1, vI d), (2, vI s), (3, vI o), (4, .long (cHash (gA σ))), (6, vI (cReas (gA σ) d s)), (7, vI (cHelp (gA σ) d s)), (8, vI (cTte (gA σ) d s)), (9, vI 1)] (zSub_cons rfl (zSub_cons rfl (zSub_cons rfl (zSub_cons rfl (zSub_cons rfl (zSub_cons rfl (zSub_cons rfl (zSub_cons rfl (zSub_cons rfl zSub_nil))))))))) ?_
      exact key163 _ q98
    · have hho := help_ok c_20
      have hca := hho.2
      have hO9 : 0 ≤ cHelp (gA σ) d s ∧ cHelp (gA σ) d s ≤ 5 := ⟨hca.2.2.1.1, by have := hca.2.2.1.2.1; omega⟩
      have hak := ask_st j hca hho.1
      refine z_aload_n X dL_isAhead_168 rfl ?_
      refine z_iload_n X dL_isAhead_169 rfl ?_
      refine z_iload_n X dL_isAhead_170 rfl ?_
      refine z_iload X dL_isAhead_171 rfl ?_
      refine z_callVI3 X (c_X3_ask hJ τ98 q98.2.1 hd hs (zB_sm (rg_help _ _ _)) (by rw [q98.1]; exact hD) hS hO9 (by rw [q98.1]; exact hca)) kL_55 rfl (by decide) rfl ⟨(Nat.le_of_ble_eq_true rfl), (Nat.le_of_ble_eq_true rfl)⟩ (Nat.le_of_ble_eq_true rfl) ⟨(Nat.le_of_ble_eq_true rfl), (Nat.le_of_ble_eq_true rfl)⟩ dL_isAhead_173 (fun z9 σ1 hz9 => ?_)
      obtain ⟨rfl, rfl⟩ := hz9
      rw [q98.1]
      have m_21 := un_ok q98.2.1 (cAskN (gA σ) d s (cHelp (gA σ) d s))
      have m_21f := d1_fI q98.2.1 (M := cAskN (gA σ) d s (cHelp (gA σ) d s)) (jS_ask j _ _ _).1.1
      have m_21c : 0 < gH (zBk (fSv τ98) 8 8 (cAskN (gA σ) d s (cHelp (gA σ) d s))) 0 1 := by rw [d1_c q98.2.1]; have := (hk_pre q98.2.1.2.1).2.1; omega
      have m_21b : gH (zBk (fSv τ98) 8 8 (cAskN (gA σ) d s (cHelp (gA σ) d s))) 0 1 ≤ 6 := (hk_c m_21f.2.1).2
      refine z_iconst X dL_isAhead_176 ?_
      refine z_icmp_le X 191 dL_isAhead_177 (by decide) (rg_aR j hca) ⟨by decide, by decide⟩ (fun c_22 => (by exfalso; omega)) (fun c_22 => ?_)
      refine z_aload_n X dL_isAhead_180 rfl ?_
      refine z_callVI0 X (c_X3_undo hJ (zBk (fSv τ98) 8 8 (cAskN (gA σ) d s (cHelp (gA σ) d s))) m_21f m_21c) kL_103 rfl (by decide) rfl ⟨(Nat.le_of_ble_eq_true rfl), (Nat.le_of_ble_eq_true rfl)⟩ (Nat.le_of_ble_eq_true rfl) ⟨(Nat.le_of_ble_eq_true rfl), (Nat.le_of_ble_eq_true rfl)⟩ dL_isAhead_181 (fun z9 σ1 hz9 => ?_)
      obtain ⟨rfl, rfl⟩ := hz9
      have q9_23 := eQ_tr q98 m_21.1
      refine z_if_lt X 191 dL_isAhead_184 (by decide) (by unfold zB; omega) (fun c_24 => (by exfalso; omega)) (fun c_24 => ?_)
      refine z_iconst X dL_isAhead_187 ?_
      refine z_goto X 192 dL_isAhead_188 (by decide) ?_
      refine z_istore X dL_isAhead_192 (by decide) ?_
      refine z_sub [(0, .ref (ad 0)), (1, vI d), (2, vI s), (3, vI o), (4, .long (cHash (gA σ))), (6, vI (cReas (gA σ) d s)), (7, vI (cHelp (gA σ) d s)), (8, vI (cTte (gA σ) d s)), (9, vI 1)] (zSub_cons rfl (zSub_cons rfl (zSub_cons rfl (zSub_cons rfl (zSub_cons rfl (zSub_cons rfl (zSub_cons rfl (zSub_cons rfl (zSub_cons rfl zSub_nil))))))))) ?_
      refine z_sub [(0, .ref (ad 0)), (1, vI d), (2, vI s), (3, vI o), (4, .long (cHash (gA σ))), (6, vI (cReas (gA σ) d s)), (7, vI (cHelp (gA σ) d s)), (8, vI (cTte (gA σ) d s)), (9, vI 1)] (zSub_cons rfl (zSub_cons rfl (zSub_cons rfl (zSub_cons rfl (zSub_cons rfl (zSub_cons rfl (zSub_cons rfl (zSub_cons rfl (zSub_cons rfl zSub_nil))))))))) ?_
      exact key163 _ q9_23
  intro τ163 q163
  refine z_iload X dL_isAhead_194 rfl ?_
  refine z_if_eq X 266 dL_isAhead_196 (by decide) ⟨by decide, by decide⟩ (fun h9 => absurd h9 (by decide)) (fun _ => ?_)
  suffices key199 : ∀ τ199 : zM, eQ σ τ199 → zV p l e (zRm 9) s0 m args below meth c 10 D G ad 0 0 (zE below (zQI D G ad sz (fun z σ9 => z = 1 ∧ eQ σ σ9)) args s0 ad) 266 [(0, .ref (ad 0)), (1, vI d), (2, vI s), (3, vI o), (4, .long (cHash (gA σ))), (6, vI (cReas (gA σ) d s)), (7, vI (cHelp (gA σ) d s)), (8, vI (cTte (gA σ) d s)), (9, vI 1)] [] τ199 by
    refine z_aload_n X dL_isAhead_199 rfl ?_
    refine z_iload_n X dL_isAhead_200 rfl ?_
    refine z_iload_n X dL_isAhead_201 rfl ?_
    refine z_callVI2 X (c_X3_state hJ τ163 q163.2.1 hd hs (by rw [q163.1]; exact hD) hS) kL_33 rfl (by decide) rfl ⟨(Nat.le_of_ble_eq_true rfl), (Nat.le_of_ble_eq_true rfl)⟩ (Nat.le_of_ble_eq_true rfl) ⟨(Nat.le_of_ble_eq_true rfl), (Nat.le_of_ble_eq_true rfl)⟩ dL_isAhead_202 (fun z9 σ1 hz9 => ?_)
    obtain ⟨rfl, e9⟩ := hz9
    rw [e9]
    rw [q163.1]
    refine z_iconst X dL_isAhead_205 ?_
    refine z_icmp_ne X 266 dL_isAhead_206 (by decide) (zB_sm (rg_st fi.1 _ _)) ⟨by decide, by decide⟩ (fun c_25 => ?_) (fun c_25 => ?_)
    · refine z_sub [(0, .ref (ad 0)), (1, vI d), (2, vI s), (3, vI o), (4, .long (cHash (gA σ))), (6, vI (cReas (gA σ) d s)), (7, vI (cHelp (gA σ) d s)), (8, vI (cTte (gA σ) d s)), (9, vI 1)] (zSub_cons rfl (zSub_cons rfl (zSub_cons rfl (zSub_cons rfl (zSub_cons rfl (zSub_cons rfl (zSub_cons rfl (zSub_cons rfl (zSub_cons rfl zSub_nil))))))))) ?_
      exact key199 _ q163
    · refine z_aload_n X dL_isAhead_209 rfl ?_
      refine z_iload_n X dL_isAhead_210 rfl ?_
      refine z_callVI1 X (c_X3_isUp hJ τ163 q163.2.1 hs ⟨by omega, by omega⟩) kL_21 rfl (by decide) rfl ⟨(Nat.le_of_ble_eq_true rfl), (Nat.le_of_ble_eq_true rfl)⟩ (Nat.le_of_ble_eq_true rfl) ⟨(Nat.le_of_ble_eq_true rfl), (Nat.le_of_ble_eq_true rfl)⟩ dL_isAhead_211 (fun z9 σ1 hz9 => ?_)
      obtain ⟨rfl, e9⟩ := hz9
      rw [e9]
      rw [q163.1]
      refine z_ifb_eq X 266 dL_isAhead_214 (by decide) (fun c_26 => ?_) (fun c_26 => ?_)
      · refine z_sub [(0, .ref (ad 0)), (1, vI d), (2, vI s), (3, vI o), (4, .long (cHash (gA σ))), (6, vI (cReas (gA σ) d s)), (7, vI (cHelp (gA σ) d s)), (8, vI (cTte (gA σ) d s)), (9, vI 1)] (zSub_cons rfl (zSub_cons rfl (zSub_cons rfl (zSub_cons rfl (zSub_cons rfl (zSub_cons rfl (zSub_cons rfl (zSub_cons rfl (zSub_cons rfl zSub_nil))))))))) ?_
        exact key199 _ q163
      · refine z_aload_n X dL_isAhead_217 rfl ?_
        refine z_iload_n X dL_isAhead_218 rfl ?_
        refine z_callVI1 X (c_X3_isUp hJ τ163 q163.2.1 ho ⟨by omega, by omega⟩) kL_21 rfl (by decide) rfl ⟨(Nat.le_of_ble_eq_true rfl), (Nat.le_of_ble_eq_true rfl)⟩ (Nat.le_of_ble_eq_true rfl) ⟨(Nat.le_of_ble_eq_true rfl), (Nat.le_of_ble_eq_true rfl)⟩ dL_isAhead_219 (fun z9 σ1 hz9 => ?_)
        obtain ⟨rfl, e9⟩ := hz9
        rw [e9]
        rw [q163.1]
        refine z_ifb_eq X 266 dL_isAhead_222 (by decide) (fun c_27 => ?_) (fun c_27 => ?_)
        · refine z_sub [(0, .ref (ad 0)), (1, vI d), (2, vI s), (3, vI o), (4, .long (cHash (gA σ))), (6, vI (cReas (gA σ) d s)), (7, vI (cHelp (gA σ) d s)), (8, vI (cTte (gA σ) d s)), (9, vI 1)] (zSub_cons rfl (zSub_cons rfl (zSub_cons rfl (zSub_cons rfl (zSub_cons rfl (zSub_cons rfl (zSub_cons rfl (zSub_cons rfl (zSub_cons rfl zSub_nil))))))))) ?_
          exact key199 _ q163
        · refine z_iload_n X dL_isAhead_225 rfl ?_
          refine z_iload_n X dL_isAhead_226 rfl ?_
          refine z_icmp_eq X 266 dL_isAhead_227 (by decide) ho hs (fun c_28 => ?_) (fun c_28 => ?_)
          · refine z_sub [(0, .ref (ad 0)), (1, vI d), (2, vI s), (3, vI o), (4, .long (cHash (gA σ))), (6, vI (cReas (gA σ) d s)), (7, vI (cHelp (gA σ) d s)), (8, vI (cTte (gA σ) d s)), (9, vI 1)] (zSub_cons rfl (zSub_cons rfl (zSub_cons rfl (zSub_cons rfl (zSub_cons rfl (zSub_cons rfl (zSub_cons rfl (zSub_cons rfl (zSub_cons rfl zSub_nil))))))))) ?_
            exact key199 _ q163
          · refine z_iload X dL_isAhead_230 rfl ?_
            refine z_if_lt X 241 dL_isAhead_232 (by decide) (zB_sm (rg_help _ _ _)) (fun c_29 => ?_) (fun c_29 => ?_)
            · have hca : cCanAsk (gA σ) d s o := ⟨fun y => c_28 y.symm, c_26, c_27, c_25⟩
              have hO9 : 0 ≤ o ∧ o ≤ 5 := hO
              have hno := ask_no hca (help_no hca (by omega))
              refine z_aload_n X dL_isAhead_241 rfl ?_
              refine z_iload_n X dL_isAhead_242 rfl ?_
              refine z_iload_n X dL_isAhead_243 rfl ?_
              refine z_iload_n X dL_isAhead_244 rfl ?_
              refine z_callVI3 X (c_X3_ask hJ τ163 q163.2.1 hd hs ho (by rw [q163.1]; exact hD) hS hO9 (by rw [q163.1]; exact hca)) kL_55 rfl (by decide) rfl ⟨(Nat.le_of_ble_eq_true rfl), (Nat.le_of_ble_eq_true rfl)⟩ (Nat.le_of_ble_eq_true rfl) ⟨(Nat.le_of_ble_eq_true rfl), (Nat.le_of_ble_eq_true rfl)⟩ dL_isAhead_245 (fun z9 σ1 hz9 => ?_)
              obtain ⟨rfl, rfl⟩ := hz9
              rw [q163.1]
              have m_30 := un_ok q163.2.1 (cAskN (gA σ) d s o)
              have m_30f := d1_fI q163.2.1 (M := cAskN (gA σ) d s o) (jS_ask j _ _ _).1.1
              have m_30c : 0 < gH (zBk (fSv τ163) 8 8 (cAskN (gA σ) d s o)) 0 1 := by rw [d1_c q163.2.1]; have := (hk_pre q163.2.1.2.1).2.1; omega
              have m_30b : gH (zBk (fSv τ163) 8 8 (cAskN (gA σ) d s o)) 0 1 ≤ 6 := (hk_c m_30f.2.1).2
              refine z_iconst X dL_isAhead_248 ?_
              refine z_icmp_ne X 263 dL_isAhead_249 (by decide) (rg_aR j hca) ⟨by decide, by decide⟩ (fun c_31 => (by exfalso; exact c_31 hno)) (fun c_31 => ?_)
              refine z_aload_n X dL_isAhead_252 rfl ?_
              refine z_callVI0 X (c_X3_undo hJ (zBk (fSv τ163) 8 8 (cAskN (gA σ) d s o)) m_30f m_30c) kL_103 rfl (by decide) rfl ⟨(Nat.le_of_ble_eq_true rfl), (Nat.le_of_ble_eq_true rfl)⟩ (Nat.le_of_ble_eq_true rfl) ⟨(Nat.le_of_ble_eq_true rfl), (Nat.le_of_ble_eq_true rfl)⟩ dL_isAhead_253 (fun z9 σ1 hz9 => ?_)
              obtain ⟨rfl, rfl⟩ := hz9
              have q9_32 := eQ_tr q163 m_30.1
              refine z_if_lt X 263 dL_isAhead_256 (by decide) (by unfold zB; omega) (fun c_33 => (by exfalso; omega)) (fun c_33 => ?_)
              refine z_iconst X dL_isAhead_259 ?_
              refine z_goto X 264 dL_isAhead_260 (by decide) ?_
              refine z_istore X dL_isAhead_264 (by decide) ?_
              refine z_sub [(0, .ref (ad 0)), (1, vI d), (2, vI s), (3, vI o), (4, .long (cHash (gA σ))), (6, vI (cReas (gA σ) d s)), (7, vI (cHelp (gA σ) d s)), (8, vI (cTte (gA σ) d s)), (9, vI 1)] (zSub_cons rfl (zSub_cons rfl (zSub_cons rfl (zSub_cons rfl (zSub_cons rfl (zSub_cons rfl (zSub_cons rfl (zSub_cons rfl (zSub_cons rfl zSub_nil))))))))) ?_
              refine z_sub [(0, .ref (ad 0)), (1, vI d), (2, vI s), (3, vI o), (4, .long (cHash (gA σ))), (6, vI (cReas (gA σ) d s)), (7, vI (cHelp (gA σ) d s)), (8, vI (cTte (gA σ) d s)), (9, vI 1)] (zSub_cons rfl (zSub_cons rfl (zSub_cons rfl (zSub_cons rfl (zSub_cons rfl (zSub_cons rfl (zSub_cons rfl (zSub_cons rfl (zSub_cons rfl zSub_nil))))))))) ?_
              exact key199 _ q9_32
            · refine z_iload_n X dL_isAhead_235 rfl ?_
              refine z_iload X dL_isAhead_236 rfl ?_
              refine z_icmp_ge X 266 dL_isAhead_238 (by decide) ho (zB_sm (rg_help _ _ _)) (fun c_34 => ?_) (fun c_34 => ?_)
              · refine z_sub [(0, .ref (ad 0)), (1, vI d), (2, vI s), (3, vI o), (4, .long (cHash (gA σ))), (6, vI (cReas (gA σ) d s)), (7, vI (cHelp (gA σ) d s)), (8, vI (cTte (gA σ) d s)), (9, vI 1)] (zSub_cons rfl (zSub_cons rfl (zSub_cons rfl (zSub_cons rfl (zSub_cons rfl (zSub_cons rfl (zSub_cons rfl (zSub_cons rfl (zSub_cons rfl zSub_nil))))))))) ?_
                exact key199 _ q163
              · have hca : cCanAsk (gA σ) d s o := ⟨fun y => c_28 y.symm, c_26, c_27, c_25⟩
                have hO9 : 0 ≤ o ∧ o ≤ 5 := hO
                have hno := ask_no hca (help_no hca (by omega))
                refine z_aload_n X dL_isAhead_241 rfl ?_
                refine z_iload_n X dL_isAhead_242 rfl ?_
                refine z_iload_n X dL_isAhead_243 rfl ?_
                refine z_iload_n X dL_isAhead_244 rfl ?_
                refine z_callVI3 X (c_X3_ask hJ τ163 q163.2.1 hd hs ho (by rw [q163.1]; exact hD) hS hO9 (by rw [q163.1]; exact hca)) kL_55 rfl (by decide) rfl ⟨(Nat.le_of_ble_eq_true rfl), (Nat.le_of_ble_eq_true rfl)⟩ (Nat.le_of_ble_eq_true rfl) ⟨(Nat.le_of_ble_eq_true rfl), (Nat.le_of_ble_eq_true rfl)⟩ dL_isAhead_245 (fun z9 σ1 hz9 => ?_)
                obtain ⟨rfl, rfl⟩ := hz9
                rw [q163.1]
                have m_35 := un_ok q163.2.1 (cAskN (gA σ) d s o)
                have m_35f := d1_fI q163.2.1 (M := cAskN (gA σ) d s o) (jS_ask j _ _ _).1.1
                have m_35c : 0 < gH (zBk (fSv τ163) 8 8 (cAskN (gA σ) d s o)) 0 1 := by rw [d1_c q163.2.1]; have := (hk_pre q163.2.1.2.1).2.1; omega
                have m_35b : gH (zBk (fSv τ163) 8 8 (cAskN (gA σ) d s o)) 0 1 ≤ 6 := (hk_c m_35f.2.1).2
                refine z_iconst X dL_isAhead_248 ?_
                refine z_icmp_ne X 263 dL_isAhead_249 (by decide) (rg_aR j hca) ⟨by decide, by decide⟩ (fun c_36 => (by exfalso; exact c_36 hno)) (fun c_36 => ?_)
                refine z_aload_n X dL_isAhead_252 rfl ?_
                refine z_callVI0 X (c_X3_undo hJ (zBk (fSv τ163) 8 8 (cAskN (gA σ) d s o)) m_35f m_35c) kL_103 rfl (by decide) rfl ⟨(Nat.le_of_ble_eq_true rfl), (Nat.le_of_ble_eq_true rfl)⟩ (Nat.le_of_ble_eq_true rfl) ⟨(Nat.le_of_ble_eq_true rfl), (Nat.le_of_ble_eq_true rfl)⟩ dL_isAhead_253 (fun z9 σ1 hz9 => ?_)
                obtain ⟨rfl, rfl⟩ := hz9
                have q9_37 := eQ_tr q163 m_35.1
                refine z_if_lt X 263 dL_isAhead_256 (by decide) (by unfold zB; omega) (fun c_38 => (by exfalso; omega)) (fun c_38 => ?_)
                refine z_iconst X dL_isAhead_259 ?_
                refine z_goto X 264 dL_isAhead_260 (by decide) ?_
                refine z_istore X dL_isAhead_264 (by decide) ?_
                refine z_sub [(0, .ref (ad 0)), (1, vI d), (2, vI s), (3, vI o), (4, .long (cHash (gA σ))), (6, vI (cReas (gA σ) d s)), (7, vI (cHelp (gA σ) d s)), (8, vI (cTte (gA σ) d s)), (9, vI 1)] (zSub_cons rfl (zSub_cons rfl (zSub_cons rfl (zSub_cons rfl (zSub_cons rfl (zSub_cons rfl (zSub_cons rfl (zSub_cons rfl (zSub_cons rfl zSub_nil))))))))) ?_
                refine z_sub [(0, .ref (ad 0)), (1, vI d), (2, vI s), (3, vI o), (4, .long (cHash (gA σ))), (6, vI (cReas (gA σ) d s)), (7, vI (cHelp (gA σ) d s)), (8, vI (cTte (gA σ) d s)), (9, vI 1)] (zSub_cons rfl (zSub_cons rfl (zSub_cons rfl (zSub_cons rfl (zSub_cons rfl (zSub_cons rfl (zSub_cons rfl (zSub_cons rfl (zSub_cons rfl zSub_nil))))))))) ?_
                exact key199 _ q9_37
  intro τ199 q199
  refine z_iload X dL_isAhead_266 rfl ?_
  refine z_if_eq X 351 dL_isAhead_268 (by decide) ⟨by decide, by decide⟩ (fun h9 => absurd h9 (by decide)) (fun _ => ?_)
  suffices key271 : ∀ τ271 : zM, eQ σ τ271 → zV p l e (zRm 9) s0 m args below meth c 10 D G ad 0 0 (zE below (zQI D G ad sz (fun z σ9 => z = 1 ∧ eQ σ σ9)) args s0 ad) 351 [(0, .ref (ad 0)), (1, vI d), (2, vI s), (3, vI o), (4, .long (cHash (gA σ))), (6, vI (cReas (gA σ) d s)), (7, vI (cHelp (gA σ) d s)), (8, vI (cTte (gA σ) d s)), (9, vI 1)] [] τ271 by
    refine z_iload X dL_isAhead_271 rfl ?_
    refine z_if_le X 351 dL_isAhead_273 (by decide) (zB_sm (tte_rg _ _ _)) (fun c_39 => ?_) (fun c_39 => ?_)
    · refine z_sub [(0, .ref (ad 0)), (1, vI d), (2, vI s), (3, vI o), (4, .long (cHash (gA σ))), (6, vI (cReas (gA σ) d s)), (7, vI (cHelp (gA σ) d s)), (8, vI (cTte (gA σ) d s)), (9, vI 1)] (zSub_cons rfl (zSub_cons rfl (zSub_cons rfl (zSub_cons rfl (zSub_cons rfl (zSub_cons rfl (zSub_cons rfl (zSub_cons rfl (zSub_cons rfl zSub_nil))))))))) ?_
      exact key271 _ q199
    · refine z_iload X dL_isAhead_276 rfl ?_
      refine z_bipush X dL_isAhead_278 rfl ?_
      refine z_icmp_gt X 351 dL_isAhead_280 (by decide) (zB_sm (tte_rg _ _ _)) ⟨by decide, by decide⟩ (fun c_40 => ?_) (fun c_40 => ?_)
      · refine z_sub [(0, .ref (ad 0)), (1, vI d), (2, vI s), (3, vI o), (4, .long (cHash (gA σ))), (6, vI (cReas (gA σ) d s)), (7, vI (cHelp (gA σ) d s)), (8, vI (cTte (gA σ) d s)), (9, vI 1)] (zSub_cons rfl (zSub_cons rfl (zSub_cons rfl (zSub_cons rfl (zSub_cons rfl (zSub_cons rfl (zSub_cons rfl (zSub_cons rfl (zSub_cons rfl zSub_nil))))))))) ?_
        exact key271 _ q199
      · have htt := tte_t j hD (s := s) (by omega)
        have ht0 : cSt (gA σ) d s < 2 := by (have q := tte_0 fi.1 d s); omega
        suffices key283 : ∀ τ283 : zM, eQ σ τ283 → zV p l e (zRm 9) s0 m args below meth c 10 D G ad 0 0 (zE below (zQI D G ad sz (fun z σ9 => z = 1 ∧ eQ σ σ9)) args s0 ad) 317 [(0, .ref (ad 0)), (1, vI d), (2, vI s), (3, vI o), (4, .long (cHash (gA σ))), (6, vI (cReas (gA σ) d s)), (7, vI (cHelp (gA σ) d s)), (8, vI (cTte (gA σ) d s)), (9, vI 1)] [] τ283 by
          refine z_iload X dL_isAhead_283 rfl ?_
          refine z_iconst X dL_isAhead_285 ?_
          refine z_icmp_eq X 317 dL_isAhead_286 (by decide) (zB_sm (tte_rg _ _ _)) ⟨by decide, by decide⟩ (fun c_41 => ?_) (fun c_41 => ?_)
          · refine z_sub [(0, .ref (ad 0)), (1, vI d), (2, vI s), (3, vI o), (4, .long (cHash (gA σ))), (6, vI (cReas (gA σ) d s)), (7, vI (cHelp (gA σ) d s)), (8, vI (cTte (gA σ) d s)), (9, vI 1)] (zSub_cons rfl (zSub_cons rfl (zSub_cons rfl (zSub_cons rfl (zSub_cons rfl (zSub_cons rfl (zSub_cons rfl (zSub_cons rfl (zSub_cons rfl zSub_nil))))))))) ?_
            exact key283 _ q199
          · refine z_aload_n X dL_isAhead_289 rfl ?_
            refine z_iload X dL_isAhead_290 rfl ?_
            refine z_iconst X dL_isAhead_292 ?_
            refine z_isub X dL_isAhead_293 ?_
            refine z_callVI1 X (c_X3_pass hJ τ199 q199.2.1 (by first | assumption | exact ⟨by decide, by decide⟩ | (unfold zB at *; omega)) ⟨by omega, by omega⟩) kL_40 rfl (by decide) rfl ⟨(Nat.le_of_ble_eq_true rfl), (Nat.le_of_ble_eq_true rfl)⟩ (Nat.le_of_ble_eq_true rfl) ⟨(Nat.le_of_ble_eq_true rfl), (Nat.le_of_ble_eq_true rfl)⟩ dL_isAhead_294 (fun z9 σ1 hz9 => ?_)
            obtain ⟨rfl, rfl⟩ := hz9
            rw [q199.1]
            have m_42 := un_ok q199.2.1 (cPassN (gA σ) ((cTte (gA σ) d s) - 1))
            have m_42f := d1_fI q199.2.1 (M := cPassN (gA σ) ((cTte (gA σ) d s) - 1)) (jS_pass j _).1.1
            have m_42c : 0 < gH (zBk (fSv τ199) 8 8 (cPassN (gA σ) ((cTte (gA σ) d s) - 1))) 0 1 := by rw [d1_c q199.2.1]; have := (hk_pre q199.2.1.2.1).2.1; omega
            have m_42b : gH (zBk (fSv τ199) 8 8 (cPassN (gA σ) ((cTte (gA σ) d s) - 1))) 0 1 ≤ 6 := (hk_c m_42f.2.1).2
            refine z_if_lt X 348 dL_isAhead_297 (by decide) (zB_sm (pass_nn j _)) (fun c_43 => (by exfalso; (have q := (pass_nn j (cTte (gA σ) d s - 1)).1); omega)) (fun c_43 => ?_)
            refine z_aload_n X dL_isAhead_300 rfl ?_
            refine z_iload_n X dL_isAhead_301 rfl ?_
            refine z_iload_n X dL_isAhead_302 rfl ?_
            refine z_callVI2 X (c_X3_state hJ (zBk (fSv τ199) 8 8 (cPassN (gA σ) ((cTte (gA σ) d s) - 1))) m_42f hd hs (hD_of m_42f (jS_pass j (cTte (gA σ) d s - 1)) hD) hS) kL_33 rfl (by decide) rfl ⟨(Nat.le_of_ble_eq_true rfl), (Nat.le_of_ble_eq_true rfl)⟩ (Nat.le_of_ble_eq_true rfl) ⟨(Nat.le_of_ble_eq_true rfl), (Nat.le_of_ble_eq_true rfl)⟩ dL_isAhead_303 (fun z9 σ1 hz9 => ?_)
            obtain ⟨rfl, rfl⟩ := hz9
            rw [st_tr]
            refine z_iconst X dL_isAhead_306 ?_
            refine z_icmp_ge X 348 dL_isAhead_307 (by decide) (zB_sm (rg_st ((jS_pass j (cTte (gA σ) d s - 1))).1.1 _ _)) ⟨by decide, by decide⟩ (fun c_44 => (by exfalso; omega)) (fun c_44 => ?_)
            refine z_aload_n X dL_isAhead_310 rfl ?_
            refine z_callVI0 X (c_X3_undo hJ (zBk (fSv τ199) 8 8 (cPassN (gA σ) ((cTte (gA σ) d s) - 1))) m_42f m_42c) kL_103 rfl (by decide) rfl ⟨(Nat.le_of_ble_eq_true rfl), (Nat.le_of_ble_eq_true rfl)⟩ (Nat.le_of_ble_eq_true rfl) ⟨(Nat.le_of_ble_eq_true rfl), (Nat.le_of_ble_eq_true rfl)⟩ dL_isAhead_311 (fun z9 σ1 hz9 => ?_)
            obtain ⟨rfl, rfl⟩ := hz9
            have q9_45 := eQ_tr q199 m_42.1
            refine z_if_lt X 348 dL_isAhead_314 (by decide) (by unfold zB; omega) (fun c_46 => (by exfalso; omega)) (fun c_46 => ?_)
            refine z_sub [(0, .ref (ad 0)), (1, vI d), (2, vI s), (3, vI o), (4, .long (cHash (gA σ))), (6, vI (cReas (gA σ) d s)), (7, vI (cHelp (gA σ) d s)), (8, vI (cTte (gA σ) d s)), (9, vI 1)] (zSub_cons rfl (zSub_cons rfl (zSub_cons rfl (zSub_cons rfl (zSub_cons rfl (zSub_cons rfl (zSub_cons rfl (zSub_cons rfl (zSub_cons rfl zSub_nil))))))))) ?_
            exact key283 _ q9_45
        intro τ283 q283
        have hcl := cnt_lt j (jS_pass j (cTte (gA σ) d s)) hD ⟨hS.1, by omega⟩ ht0 htt.1
        have hp1 : 1 ≤ cPassR (gA σ) (cTte (gA σ) d s) := by unfold cPassR; omega
        refine z_aload_n X dL_isAhead_317 rfl ?_
        refine z_iload X dL_isAhead_318 rfl ?_
        refine z_callVI1 X (c_X3_pass hJ τ283 q283.2.1 (zB_sm (tte_rg _ _ _)) ⟨by omega, by omega⟩) kL_40 rfl (by decide) rfl ⟨(Nat.le_of_ble_eq_true rfl), (Nat.le_of_ble_eq_true rfl)⟩ (Nat.le_of_ble_eq_true rfl) ⟨(Nat.le_of_ble_eq_true rfl), (Nat.le_of_ble_eq_true rfl)⟩ dL_isAhead_320 (fun z9 σ1 hz9 => ?_)
        obtain ⟨rfl, rfl⟩ := hz9
        rw [q283.1]
        have m_47 := un_ok q283.2.1 (cPassN (gA σ) (cTte (gA σ) d s))
        have m_47f := d1_fI q283.2.1 (M := cPassN (gA σ) (cTte (gA σ) d s)) (jS_pass j _).1.1
        have m_47c : 0 < gH (zBk (fSv τ283) 8 8 (cPassN (gA σ) (cTte (gA σ) d s))) 0 1 := by rw [d1_c q283.2.1]; have := (hk_pre q283.2.1.2.1).2.1; omega
        have m_47b : gH (zBk (fSv τ283) 8 8 (cPassN (gA σ) (cTte (gA σ) d s))) 0 1 ≤ 6 := (hk_c m_47f.2.1).2
        refine z_iconst X dL_isAhead_323 ?_
        refine z_icmp_lt X 348 dL_isAhead_324 (by decide) (zB_sm (pass_nn j _)) ⟨by decide, by decide⟩ (fun c_48 => (by exfalso; omega)) (fun c_48 => ?_)
        refine z_aload_n X dL_isAhead_327 rfl ?_
        refine z_iload_n X dL_isAhead_328 rfl ?_
        refine z_iload_n X dL_isAhead_329 rfl ?_
        refine z_callVI2 X (c_X3_state hJ (zBk (fSv τ283) 8 8 (cPassN (gA σ) (cTte (gA σ) d s))) m_47f hd hs (hD_of m_47f (jS_pass j (cTte (gA σ) d s)) hD) hS) kL_33 rfl (by decide) rfl ⟨(Nat.le_of_ble_eq_true rfl), (Nat.le_of_ble_eq_true rfl)⟩ (Nat.le_of_ble_eq_true rfl) ⟨(Nat.le_of_ble_eq_true rfl), (Nat.le_of_ble_eq_true rfl)⟩ dL_isAhead_330 (fun z9 σ1 hz9 => ?_)
        obtain ⟨rfl, rfl⟩ := hz9
        rw [st_tr]
        refine z_iconst X dL_isAhead_333 ?_
        refine z_icmp_le X 348 dL_isAhead_334 (by decide) (zB_sm (rg_st ((jS_pass j (cTte (gA σ) d s))).1.1 _ _)) ⟨by decide, by decide⟩ (fun c_49 => (by exfalso; omega)) (fun c_49 => ?_)
        refine z_aload_n X dL_isAhead_337 rfl ?_
        refine z_callVI0 X (c_X3_undo hJ (zBk (fSv τ283) 8 8 (cPassN (gA σ) (cTte (gA σ) d s))) m_47f m_47c) kL_103 rfl (by decide) rfl ⟨(Nat.le_of_ble_eq_true rfl), (Nat.le_of_ble_eq_true rfl)⟩ (Nat.le_of_ble_eq_true rfl) ⟨(Nat.le_of_ble_eq_true rfl), (Nat.le_of_ble_eq_true rfl)⟩ dL_isAhead_338 (fun z9 σ1 hz9 => ?_)
        obtain ⟨rfl, rfl⟩ := hz9
        have q9_50 := eQ_tr q283 m_47.1
        refine z_if_lt X 348 dL_isAhead_341 (by decide) (by unfold zB; omega) (fun c_51 => (by exfalso; omega)) (fun c_51 => ?_)
        refine z_iconst X dL_isAhead_344 ?_
        refine z_goto X 349 dL_isAhead_345 (by decide) ?_
        refine z_istore X dL_isAhead_349 (by decide) ?_
        refine z_sub [(0, .ref (ad 0)), (1, vI d), (2, vI s), (3, vI o), (4, .long (cHash (gA σ))), (6, vI (cReas (gA σ) d s)), (7, vI (cHelp (gA σ) d s)), (8, vI (cTte (gA σ) d s)), (9, vI 1)] (zSub_cons rfl (zSub_cons rfl (zSub_cons rfl (zSub_cons rfl (zSub_cons rfl (zSub_cons rfl (zSub_cons rfl (zSub_cons rfl (zSub_cons rfl zSub_nil))))))))) ?_
        refine z_sub [(0, .ref (ad 0)), (1, vI d), (2, vI s), (3, vI o), (4, .long (cHash (gA σ))), (6, vI (cReas (gA σ) d s)), (7, vI (cHelp (gA σ) d s)), (8, vI (cTte (gA σ) d s)), (9, vI 1)] (zSub_cons rfl (zSub_cons rfl (zSub_cons rfl (zSub_cons rfl (zSub_cons rfl (zSub_cons rfl (zSub_cons rfl (zSub_cons rfl (zSub_cons rfl zSub_nil))))))))) ?_
        exact key271 _ q9_50
  intro τ271 q271
  refine z_iload X dL_isAhead_351 rfl ?_
  refine z_if_eq X 370 dL_isAhead_353 (by decide) ⟨by decide, by decide⟩ (fun h9 => absurd h9 (by decide)) (fun _ => ?_)
  refine z_aload_n X dL_isAhead_356 rfl ?_
  refine z_callVL0 X (c_X3_digest hJ τ271 q271.2.1  ) kL_93 rfl (by decide) rfl ⟨(Nat.le_of_ble_eq_true rfl), (Nat.le_of_ble_eq_true rfl)⟩ (Nat.le_of_ble_eq_true rfl) ⟨(Nat.le_of_ble_eq_true rfl), (Nat.le_of_ble_eq_true rfl)⟩ dL_isAhead_357 (fun z9 σ1 hz9 => ?_)
  obtain ⟨rfl, e9⟩ := hz9
  rw [e9]
  rw [q271.1]
  refine z_lload X dL_isAhead_360 rfl ?_
  refine z_lcmp_same X dL_isAhead_362 rfl ?_
  refine z_if_ne X 370 dL_isAhead_363 (by decide) ⟨by decide, by decide⟩ (fun h9 => absurd h9 (by decide)) (fun _ => ?_)
  refine z_iconst X dL_isAhead_366 ?_
  refine z_goto X 371 dL_isAhead_367 (by decide) ?_
  exact z_zret X hsz hr hlocks dL_isAhead_371 (Or.inr rfl) ⟨rfl, q271⟩
