/-! THE LAW'S LOOP -/
theorem jS_8 {M : zNt} (j : jN M) : jS M (fun r i => if r < 8 then M r i else 0) :=
  jS_cg j (cOk_cg (fun r hr => by funext i; exact if_pos hr) j.1) rfl (fun _ => rfl) (fun _ => rfl) (fun _ => rfl) (fun _ => rfl) (fun _ => rfl) (fun _ => rfl)
/-- the law's rows tell the states and the decisions -/
def lR (σ : zM) : Prop := (∀ k : Nat, (k : Int) < 6 * gA σ 0 0 → σ.1 5 k = cSt (gA σ) ((k : Int) / 6) ((k : Int) % 6)) ∧ (∀ k : Nat, 6 * gA σ 0 0 ≤ (k : Int) → σ.1 5 k = 0) ∧ (∀ d : Nat, (d : Int) < gA σ 0 0 → σ.1 6 d = cDec (gA σ) d) ∧ ∀ d : Nat, gA σ 0 0 ≤ (d : Int) → σ.1 6 d = 0
def lI (σ : zM) : Prop := fI σ ∧ jN (gA σ) ∧ lR σ
theorem kOk_of {σ τ : zM} (h : lI σ) (hk : kR (gA σ) (gA τ)) (h5 : τ.1 5 = σ.1 5) (h6 : τ.1 6 = σ.1 6) : kOk τ (gA τ) := by
  obtain ⟨fi, j, l1, l2, l3, l4⟩ := h
  have hn := ok_n j.1
  unfold kOk
  rw [h5, h6]
  refine ⟨fun k k0 k1 => ?_, fun d d0 d1 => ?_, fun k hk9 => ?_, fun d hd => ?_⟩
  · by_cases z : k < 6 * gA σ 0 0
    · have e := l1 k.toNat (by omega)
      rw [Int.toNat_of_nonneg k0] at e
      rw [e]
      by_cases y : cSt (gA σ) (k / 6) (k % 6) < 2
      · exact Or.inl y
      · exact Or.inr ((hk.2.1 (k / 6) (k % 6) ⟨by omega, by omega⟩).1 (by omega))
    · rw [l2 k.toNat (by omega)]; exact Or.inl (by decide)
  · by_cases z : d < gA σ 0 0
    · have e := l3 d.toNat (by omega)
      rw [Int.toNat_of_nonneg d0] at e
      rw [e]
      by_cases y : cDec (gA σ) d = 0
      · exact Or.inl y
      · exact Or.inr (hk.2.2.1 d ⟨d0, z⟩ y)
    · rw [l4 d.toNat (by omega)]; exact Or.inl rfl
  · by_cases z : (k : Int) < 6 * gA σ 0 0
    · rw [l1 k z]; exact zB_sm (rg_st j.1 _ _)
    · rw [l2 k (by omega)]; exact ⟨by decide, by decide⟩
  · by_cases z : (d : Int) < gA σ 0 0
    · rw [l3 d z]; exact zB_sm (rg_dc j.1 _)
    · rw [l4 d (by omega)]; exact ⟨by decide, by decide⟩
/-- behind areKept, and behind isAhead -/
theorem lI_kept {σ τ ρ : zM} (h : lI σ) (fi : fI τ) (j : jN (gA τ)) (hk : kR (gA σ) (gA τ)) (h5 : τ.1 5 = σ.1 5) (h6 : τ.1 6 = σ.1 6) (q : eQ (kR6 (kE τ (gA τ) (6 * gA τ 0 0)) (gA τ) (gA τ 0 0)) ρ) : lI ρ := by
  obtain ⟨-, -, l1, l2, l3, l4⟩ := h
  have eA : gA ρ = gA τ := by rw [q.1, gA_kR, gA_kE]
  have e5 : ∀ k, ρ.1 5 k = if (k : Int) < 6 * gA τ 0 0 then cSt (gA τ) ((k : Int) / 6) ((k : Int) % 6) else σ.1 5 k := fun k => by
    rw [q.2.2.1, kR6_o (by decide), ← h5]
    show (if (5 : Nat) = 5 ∧ (k : Int) < 6 * gA τ 0 0 then cSt (gA τ) ((k : Int) / 6) ((k : Int) % 6) else τ.1 5 k) = _
    by_cases z : (k : Int) < 6 * gA τ 0 0
    · rw [if_pos ⟨rfl, z⟩, if_pos z]
    · rw [if_neg (fun y => z y.2), if_neg z]
  have e6 : ∀ d : Nat, ρ.1 6 d = if (d : Int) < gA τ 0 0 then cDec (gA τ) d else σ.1 6 d := fun d => by
    rw [q.2.2.2, ← h6]
    show (if (6 : Nat) = 6 ∧ (d : Int) < gA τ 0 0 then cDec (gA τ) d else (kE τ (gA τ) (6 * gA τ 0 0)).1 6 d) = _
    rw [kE_o (by decide)]
    by_cases z : (d : Int) < gA τ 0 0
    · rw [if_pos ⟨rfl, z⟩, if_pos z]
    · rw [if_neg (fun y => z y.2), if_neg z]
  have h0 := hk.1
  refine ⟨q.2.1, by rw [eA]; exact j, ?_⟩
  unfold lR
  rw [eA]
  refine ⟨fun k z => by rw [e5, if_pos z], fun k z => by rw [e5, if_neg (by omega)]; exact l2 k (by omega), fun d z => by rw [e6, if_pos z], fun d z => by rw [e6, if_neg (by omega)]; exact l4 d (by omega)⟩
theorem lI_0 : lI sg0 := ⟨g0_fI, g0_jN, by
  have n0 : gA sg0 0 0 = 0 := by decide +kernel
  unfold lR
  rw [n0]
  exact ⟨fun k z => by omega, fun k _ => rfl, fun d z => by omega, fun d _ => rfl⟩⟩
set_option maxHeartbeats 4000000 in
set_option maxRecDepth 100000 in
theorem lw_loop {p : Program} {l : Launch} {e : Env} {s : State} {m : MethodId} {args : Array Value} {below : List Frame} {meth : Method} {c : Code} {D : va_G} {G : zG} {ad : Nat → Nat} {Q : State → Prop} {b L : Nat} {xs : Nat → Int32} (X : zX p s m args c cL_law 15 RL D G ad) (hJ : zInj ad) (hX : va_X b L xs s s.heap) (hbl : b < s.heap.size) (hbA : ¬ zA ad s.heap.size b) (hL : L ≤ 260)
    (hend : ∀ (σ : zM) (k n : Nat), k ≤ 600130 → n ≤ 7301080 → zV p l e room_1 s m args below meth c 15 D G ad k n Q 284 [] [vI 1] σ) (σ0 : zM) (h0 : lI σ0) : zV p l e room_1 s m args below meth c 15 D G ad 77 2426 Q 27 [(0, .ref b), (1, .ref (ad 0)), (2, .ref (ad 5)), (3, .ref (ad 6)), (4, vI 1), (5, vI 0)] [] σ0 := by
  refine zFor (S := zM) 60 (fun i σ => lI σ) (fun i σ => zV p l e room_1 s m args below meth c 15 D G ad (77 + 6 * i.toNat) (2426 + 48 * i.toNat) Q 27 [(0, .ref b), (1, .ref (ad 0)), (2, .ref (ad 5)), (3, .ref (ad 6)), (4, vI 1), (5, vI i)] [] σ) (fun i σ i0 i1 hI ih => ?_) σ0 (by decide) h0
  refine z_iload X dL_law_27 rfl ?_
  refine z_bipush X dL_law_29 rfl ?_
  refine z_icmp_ge X 282 dL_law_31 (by decide) (by first | assumption | exact ⟨by decide, by decide⟩ | (unfold zB at *; omega)) ⟨by decide, by decide⟩ (fun c_1 => ?_) (fun c_1 => ?_)
  · refine z_iload X dL_law_282 rfl ?_
    refine z_sub [] zSub_nil ?_
    exact hend σ _ _ (by omega) (by omega)
  · refine z_iload X dL_law_34 rfl ?_
    refine z_if_eq X 282 dL_law_36 (by decide) ⟨by decide, by decide⟩ (fun h9 => absurd h9 (by decide)) (fun _ => ?_)
    refine z_aload_n X dL_law_39 rfl ?_
    refine z_iconst X dL_law_40 ?_
    refine z_iload X dL_law_41 rfl ?_
    refine z_imul X dL_law_43 ?_
    refine z_callCell X (c_L_cell hL ⟨by omega, by omega⟩) kL_111 hX hbl hbA ⟨(Nat.le_of_ble_eq_true rfl), (Nat.le_of_ble_eq_true rfl)⟩ (Nat.le_of_ble_eq_true rfl) ⟨by show 77 + 6 * i.toNat ≤ 600130; omega, by show 2426 + 48 * i.toNat ≤ 7301080; omega⟩ dL_law_44 (fun x hx => ?_)
    refine z_istore X dL_law_47 (by decide) ?_
    refine z_sub [(0, .ref b), (1, .ref (ad 0)), (2, .ref (ad 5)), (3, .ref (ad 6)), (4, vI 1), (5, vI i), (6, vI x)] (zSub_cons rfl (zSub_cons rfl (zSub_cons rfl (zSub_cons rfl (zSub_cons rfl (zSub_cons rfl (zSub_cons rfl zSub_nil))))))) ?_
    refine z_aload_n X dL_law_49 rfl ?_
    refine z_iconst X dL_law_50 ?_
    refine z_iload X dL_law_51 rfl ?_
    refine z_imul X dL_law_53 ?_
    refine z_iconst X dL_law_54 ?_
    refine z_iadd X dL_law_55 ?_
    refine z_callCell X (c_L_cell hL ⟨by omega, by omega⟩) kL_111 hX hbl hbA ⟨(Nat.le_of_ble_eq_true rfl), (Nat.le_of_ble_eq_true rfl)⟩ (Nat.le_of_ble_eq_true rfl) ⟨by show 77 + 6 * i.toNat ≤ 600130; omega, by show 2426 + 48 * i.toNat ≤ 7301080; omega⟩ dL_law_56 (fun y hy => ?_)
    refine z_istore X dL_law_59 (by decide) ?_
    refine z_sub [(0, .ref b), (1, .ref (ad 0)), (2, .ref (ad 5)), (3, .ref (ad 6)), (4, vI 1), (5, vI i), (6, vI x), (7, vI y)] (zSub_cons rfl (zSub_cons rfl (zSub_cons rfl (zSub_cons rfl (zSub_cons rfl (zSub_cons rfl (zSub_cons rfl (zSub_cons rfl zSub_nil)))))))) ?_
    refine z_aload_n X dL_law_61 rfl ?_
    refine z_callVL0 X (c_X3_digest hJ σ hI.1 ) kL_93 rfl (by decide) rfl ⟨(Nat.le_of_ble_eq_true rfl), (Nat.le_of_ble_eq_true rfl)⟩ (Nat.le_of_ble_eq_true rfl) ⟨by show 77 + 6 * i.toNat ≤ 600130; omega, by show 2426 + 48 * i.toNat ≤ 7301080; omega⟩ dL_law_62 (fun z9 σ1 hz9 => ?_)
    obtain ⟨rfl, e9⟩ := hz9
    rw [e9]
    refine z_lstore X dL_law_65 (by decide) ?_
    refine z_sub [(0, .ref b), (1, .ref (ad 0)), (2, .ref (ad 5)), (3, .ref (ad 6)), (4, vI 1), (5, vI i), (6, vI x), (7, vI y), (8, .long (cHash (gA σ)))] (zSub_cons rfl (zSub_cons rfl (zSub_cons rfl (zSub_cons rfl (zSub_cons rfl (zSub_cons rfl (zSub_cons rfl (zSub_cons rfl (zSub_cons rfl zSub_nil))))))))) ?_
    refine z_aload_n X dL_law_67 rfl ?_
    refine z_callVI0 X (c_X3_savedStates hJ σ hI.1 ) kL_115 rfl (by decide) rfl ⟨(Nat.le_of_ble_eq_true rfl), (Nat.le_of_ble_eq_true rfl)⟩ (Nat.le_of_ble_eq_true rfl) ⟨by show 77 + 6 * i.toNat ≤ 600130; omega, by show 2426 + 48 * i.toNat ≤ 7301080; omega⟩ dL_law_68 (fun z9 σ1 hz9 => ?_)
    obtain ⟨rfl, e9⟩ := hz9
    rw [e9]
    refine z_istore X dL_law_71 (by decide) ?_
    refine z_sub [(0, .ref b), (1, .ref (ad 0)), (2, .ref (ad 5)), (3, .ref (ad 6)), (4, vI 1), (5, vI i), (6, vI x), (7, vI y), (8, .long (cHash (gA σ))), (10, vI ((gH σ) 0 1))] (zSub_cons rfl (zSub_cons rfl (zSub_cons rfl (zSub_cons rfl (zSub_cons rfl (zSub_cons rfl (zSub_cons rfl (zSub_cons rfl (zSub_cons rfl (zSub_cons rfl zSub_nil)))))))))) ?_
    refine z_aload_n X dL_law_73 rfl ?_
    refine z_iload X dL_law_74 rfl ?_
    refine z_iload X dL_law_76 rfl ?_
    refine z_callSI3 X (c_L_act hJ σ hI.1 hI.2.1 hx hy) kL_118 ⟨(Nat.le_of_ble_eq_true rfl), (Nat.le_of_ble_eq_true rfl)⟩ (Nat.le_of_ble_eq_true rfl) ⟨by show 77 + 6 * i.toNat ≤ 600130; omega, by show 2426 + 48 * i.toNat ≤ 7301080; omega⟩ dL_law_78 (fun z9 σ1 hz9 => ?_)
    obtain ⟨rfl, rfl⟩ := hz9
    have ao := act_ok hI.2.1 x y
    have f1 := d1_fI hI.1 (M := (pAct (gA σ) x y).2) ao.2.1.1
    have n1 := d1_n hI.1 (pAct (gA σ) x y).2
    have c1 : 0 < gH (zBk (fSv σ) 8 8 (pAct (gA σ) x y).2) 0 1 := by rw [d1_c hI.1]; have := (hk_pre hI.1.2.1).2.1; omega
    have b1 := hk_c f1.2.1
    refine z_istore X dL_law_81 (by decide) ?_
    refine z_sub [(0, .ref b), (1, .ref (ad 0)), (2, .ref (ad 5)), (3, .ref (ad 6)), (4, vI 1), (5, vI i), (6, vI x), (7, vI y), (8, .long (cHash (gA σ))), (10, vI ((gH σ) 0 1)), (11, vI ((pAct (gA σ) x y).1))] (zSub_cons rfl (zSub_cons rfl (zSub_cons rfl (zSub_cons rfl (zSub_cons rfl (zSub_cons rfl (zSub_cons rfl (zSub_cons rfl (zSub_cons rfl (zSub_cons rfl (zSub_cons rfl zSub_nil))))))))))) ?_
    refine z_iload X dL_law_83 rfl ?_
    refine z_if_lt X 115 dL_law_85 (by decide) (zB_sm ao.1) (fun c_2 => (by exfalso; (have q := ao.1.1); omega)) (fun c_2 => ?_)
    refine z_aload_n X dL_law_88 rfl ?_
    refine z_callVI0 X (c_X3_savedStates hJ (zBk (fSv σ) 8 8 (pAct (gA σ) x y).2) f1 ) kL_115 rfl (by decide) rfl ⟨(Nat.le_of_ble_eq_true rfl), (Nat.le_of_ble_eq_true rfl)⟩ (Nat.le_of_ble_eq_true rfl) ⟨by show 77 + 6 * i.toNat ≤ 600130; omega, by show 2426 + 48 * i.toNat ≤ 7301080; omega⟩ dL_law_89 (fun z9 σ1 hz9 => ?_)
    obtain ⟨rfl, e9⟩ := hz9
    rw [e9]
    suffices key92 : zV p l e room_1 s m args below meth c 15 D G ad (77 + 6 * i.toNat) (2426 + 48 * i.toNat) Q 111 [(0, .ref b), (1, .ref (ad 0)), (2, .ref (ad 5)), (3, .ref (ad 6)), (4, vI 1), (5, vI i), (6, vI x), (7, vI y), (8, .long (cHash (gA σ))), (10, vI ((gH σ) 0 1)), (11, vI ((pAct (gA σ) x y).1))] [] (zBk (fSv σ) 8 8 (pAct (gA σ) x y).2) by
      have m1 : (gH σ 0 1 < 6 → gH (zBk (fSv σ) 8 8 (pAct (gA σ) x y).2) 0 1 = gH σ 0 1 + 1) ∧ (6 ≤ gH σ 0 1 → gH (zBk (fSv σ) 8 8 (pAct (gA σ) x y).2) 0 1 = 6) := ⟨fun z => by rw [n1, if_pos z], fun z => by rw [n1, if_neg (by omega)]⟩
      refine z_iload X dL_law_92 rfl ?_
      refine z_bipush X dL_law_94 rfl ?_
      refine z_icmp_ge X 106 dL_law_96 (by decide) (zB_sm (hk_c hI.1.2.1)) ⟨by decide, by decide⟩ (fun c_3 => ?_) (fun c_3 => ?_)
      · refine z_bipush X dL_law_106 rfl ?_
        refine z_icmp_ne X 115 dL_law_108 (by decide) (zB_sm (hk_c f1.2.1)) ⟨by decide, by decide⟩ (fun c_4 => (by exfalso; omega)) (fun c_4 => ?_)
        refine z_sub [(0, .ref b), (1, .ref (ad 0)), (2, .ref (ad 5)), (3, .ref (ad 6)), (4, vI 1), (5, vI i), (6, vI x), (7, vI y), (8, .long (cHash (gA σ))), (10, vI ((gH σ) 0 1)), (11, vI ((pAct (gA σ) x y).1))] (zSub_cons rfl (zSub_cons rfl (zSub_cons rfl (zSub_cons rfl (zSub_cons rfl (zSub_cons rfl (zSub_cons rfl (zSub_cons rfl (zSub_cons rfl (zSub_cons rfl (zSub_cons rfl zSub_nil))))))))))) ?_
        exact key92
      · refine z_iload X dL_law_99 rfl ?_
        refine z_iconst X dL_law_101 ?_
        refine z_iadd X dL_law_102 ?_
        refine z_goto X 108 dL_law_103 (by decide) ?_
        refine z_icmp_ne X 115 dL_law_108 (by decide) (zB_sm (hk_c f1.2.1)) (by first | assumption | exact ⟨by decide, by decide⟩ | (unfold zB at *; omega)) (fun c_5 => (by exfalso; omega)) (fun c_5 => ?_)
        refine z_sub [(0, .ref b), (1, .ref (ad 0)), (2, .ref (ad 5)), (3, .ref (ad 6)), (4, vI 1), (5, vI i), (6, vI x), (7, vI y), (8, .long (cHash (gA σ))), (10, vI ((gH σ) 0 1)), (11, vI ((pAct (gA σ) x y).1))] (zSub_cons rfl (zSub_cons rfl (zSub_cons rfl (zSub_cons rfl (zSub_cons rfl (zSub_cons rfl (zSub_cons rfl (zSub_cons rfl (zSub_cons rfl (zSub_cons rfl (zSub_cons rfl zSub_nil))))))))))) ?_
        exact key92
    refine z_iconst X dL_law_111 ?_
    refine z_goto X 116 dL_law_112 (by decide) ?_
    refine z_istore X dL_law_116 (by decide) ?_
    refine z_sub [(0, .ref b), (1, .ref (ad 0)), (2, .ref (ad 5)), (3, .ref (ad 6)), (4, vI 1), (5, vI i), (6, vI x), (7, vI y), (8, .long (cHash (gA σ))), (10, vI ((gH σ) 0 1)), (11, vI ((pAct (gA σ) x y).1))] (zSub_cons rfl (zSub_cons rfl (zSub_cons rfl (zSub_cons rfl (zSub_cons rfl (zSub_cons rfl (zSub_cons rfl (zSub_cons rfl (zSub_cons rfl (zSub_cons rfl (zSub_cons rfl zSub_nil))))))))))) ?_
    refine z_iload X dL_law_118 rfl ?_
    refine z_if_eq X 196 dL_law_120 (by decide) ⟨by decide, by decide⟩ (fun h9 => absurd h9 (by decide)) (fun _ => ?_)
    suffices key123 : ∀ τ : zM, eQ (zBk (fSv σ) 8 8 (pAct (gA σ) x y).2) τ → zV p l e room_1 s m args below meth c 15 D G ad (77 + 6 * i.toNat) (2426 + 48 * i.toNat) Q 196 [(0, .ref b), (1, .ref (ad 0)), (2, .ref (ad 5)), (3, .ref (ad 6)), (4, vI 1), (5, vI i), (6, vI x), (7, vI y)] [] τ by
      refine z_iload X dL_law_123 rfl ?_
      refine z_bipush X dL_law_125 rfl ?_
      refine z_shr X dL_law_127 (zShr_eq x 8) ?_
      refine z_iconst X dL_law_128 ?_
      refine z_and X dL_law_129 (zAnd_eq (zShr x 8) 3) ?_
      refine z_if_ne X 196 dL_law_130 (by decide) (zB_toInt _) (fun c_6 => ?_) (fun c_6 => ?_)
      · refine z_sub [(0, .ref b), (1, .ref (ad 0)), (2, .ref (ad 5)), (3, .ref (ad 6)), (4, vI 1), (5, vI i), (6, vI x), (7, vI y)] (zSub_cons rfl (zSub_cons rfl (zSub_cons rfl (zSub_cons rfl (zSub_cons rfl (zSub_cons rfl (zSub_cons rfl (zSub_cons rfl zSub_nil)))))))) ?_
        exact key123 _ (eQ_rf f1)
      · refine z_aload_n X dL_law_133 rfl ?_
        refine z_callVL0 X (c_X3_digest hJ (zBk (fSv σ) 8 8 (pAct (gA σ) x y).2) f1 ) kL_93 rfl (by decide) rfl ⟨(Nat.le_of_ble_eq_true rfl), (Nat.le_of_ble_eq_true rfl)⟩ (Nat.le_of_ble_eq_true rfl) ⟨by show 77 + 6 * i.toNat ≤ 600130; omega, by show 2426 + 48 * i.toNat ≤ 7301080; omega⟩ dL_law_134 (fun z9 σ1 hz9 => ?_)
        obtain ⟨rfl, e9⟩ := hz9
        rw [e9]
        refine z_lstore X dL_law_137 (by decide) ?_
        refine z_sub [(0, .ref b), (1, .ref (ad 0)), (2, .ref (ad 5)), (3, .ref (ad 6)), (4, vI 1), (5, vI i), (6, vI x), (7, vI y), (8, .long (cHash (gA σ))), (10, vI ((gH σ) 0 1)), (11, vI ((pAct (gA σ) x y).1)), (12, .long (cHash (gA (zBk (fSv σ) 8 8 (pAct (gA σ) x y).2))))] (zSub_cons rfl (zSub_cons rfl (zSub_cons rfl (zSub_cons rfl (zSub_cons rfl (zSub_cons rfl (zSub_cons rfl (zSub_cons rfl (zSub_cons rfl (zSub_cons rfl (zSub_cons rfl (zSub_cons rfl zSub_nil)))))))))))) ?_
        refine z_aload_n X dL_law_139 rfl ?_
        refine z_callVI0 X (c_X3_savedStates hJ (zBk (fSv σ) 8 8 (pAct (gA σ) x y).2) f1 ) kL_115 rfl (by decide) rfl ⟨(Nat.le_of_ble_eq_true rfl), (Nat.le_of_ble_eq_true rfl)⟩ (Nat.le_of_ble_eq_true rfl) ⟨by show 77 + 6 * i.toNat ≤ 600130; omega, by show 2426 + 48 * i.toNat ≤ 7301080; omega⟩ dL_law_140 (fun z9 σ1 hz9 => ?_)
        obtain ⟨rfl, e9⟩ := hz9
        rw [e9]
        refine z_iconst X dL_law_143 ?_
        refine z_isub X dL_law_144 ?_
        refine z_istore X dL_law_145 (by decide) ?_
        refine z_sub [(0, .ref b), (1, .ref (ad 0)), (2, .ref (ad 5)), (3, .ref (ad 6)), (4, vI 1), (5, vI i), (6, vI x), (7, vI y), (8, .long (cHash (gA σ))), (10, vI ((gH σ) 0 1)), (11, vI ((pAct (gA σ) x y).1)), (12, .long (cHash (gA (zBk (fSv σ) 8 8 (pAct (gA σ) x y).2)))), (14, vI (((gH (zBk (fSv σ) 8 8 (pAct (gA σ) x y).2)) 0 1) - 1))] (zSub_cons rfl (zSub_cons rfl (zSub_cons rfl (zSub_cons rfl (zSub_cons rfl (zSub_cons rfl (zSub_cons rfl (zSub_cons rfl (zSub_cons rfl (zSub_cons rfl (zSub_cons rfl (zSub_cons rfl (zSub_cons rfl zSub_nil))))))))))))) ?_
        refine z_aload_n X dL_law_147 rfl ?_
        refine z_callVI0 X (c_X3_undo hJ (zBk (fSv σ) 8 8 (pAct (gA σ) x y).2) f1 c1) kL_103 rfl (by decide) rfl ⟨(Nat.le_of_ble_eq_true rfl), (Nat.le_of_ble_eq_true rfl)⟩ (Nat.le_of_ble_eq_true rfl) ⟨by show 77 + 6 * i.toNat ≤ 600130; omega, by show 2426 + 48 * i.toNat ≤ 7301080; omega⟩ dL_law_148 (fun z9 σ1 hz9 => ?_)
        obtain ⟨rfl, rfl⟩ := hz9
        have u1 := (un_ok hI.1 (pAct (gA σ) x y).2).1
        refine z_iload X dL_law_151 rfl ?_
        refine z_icmp_ne X 193 dL_law_153 (by decide) (by unfold zB; omega) (by first | assumption | exact ⟨by decide, by decide⟩ | (unfold zB at *; omega)) (fun c_7 => (by exfalso; exact c_7 rfl)) (fun c_7 => ?_)
        refine z_aload_n X dL_law_156 rfl ?_
        refine z_callVL0 X (c_X3_digest hJ (fUn (zBk (fSv σ) 8 8 (pAct (gA σ) x y).2)) u1.2.1 ) kL_93 rfl (by decide) rfl ⟨(Nat.le_of_ble_eq_true rfl), (Nat.le_of_ble_eq_true rfl)⟩ (Nat.le_of_ble_eq_true rfl) ⟨by show 77 + 6 * i.toNat ≤ 600130; omega, by show 2426 + 48 * i.toNat ≤ 7301080; omega⟩ dL_law_157 (fun z9 σ1 hz9 => ?_)
        obtain ⟨rfl, e9⟩ := hz9
        rw [e9]
        rw [u1.1]
        refine z_lload X dL_law_160 rfl ?_
        refine z_lcmp_same X dL_law_162 rfl ?_
        refine z_if_ne X 193 dL_law_163 (by decide) ⟨by decide, by decide⟩ (fun h9 => absurd h9 (by decide)) (fun _ => ?_)
        refine z_aload_n X dL_law_166 rfl ?_
        refine z_iload X dL_law_167 rfl ?_
        refine z_iload X dL_law_169 rfl ?_
        refine z_callSI3 X (c_L_act hJ (fUn (zBk (fSv σ) 8 8 (pAct (gA σ) x y).2)) u1.2.1 (by rw [u1.1]; exact hI.2.1) hx hy) kL_118 ⟨(Nat.le_of_ble_eq_true rfl), (Nat.le_of_ble_eq_true rfl)⟩ (Nat.le_of_ble_eq_true rfl) ⟨by show 77 + 6 * i.toNat ≤ 600130; omega, by show 2426 + 48 * i.toNat ≤ 7301080; omega⟩ dL_law_171 (fun z9 σ1 hz9 => ?_)
        obtain ⟨rfl, rfl⟩ := hz9
        rw [u1.1]
        have f3 := d1_fI u1.2.1 (M := (pAct (gA σ) x y).2) ao.2.1.1
        have a3 : gA (zBk (fSv (fUn (zBk (fSv σ) 8 8 (pAct (gA σ) x y).2))) 8 8 (pAct (gA σ) x y).2) = gA (zBk (fSv σ) 8 8 (pAct (gA σ) x y).2) := by rw [d1_A, d1_A]
        have q3 : eQ (zBk (fSv σ) 8 8 (pAct (gA σ) x y).2) (zBk (fSv (fUn (zBk (fSv σ) 8 8 (pAct (gA σ) x y).2))) 8 8 (pAct (gA σ) x y).2) := ⟨a3, f3, by rw [d1_row u1.2.1 _ (Or.inl rfl), d1_row hI.1 _ (Or.inl rfl), u1.2.2.1], by rw [d1_row u1.2.1 _ (Or.inr rfl), d1_row hI.1 _ (Or.inr rfl), u1.2.2.2]⟩
        refine z_iload X dL_law_174 rfl ?_
        refine z_icmp_ne X 193 dL_law_176 (by decide) (zB_sm ao.1) (zB_sm ao.1) (fun c_8 => (by exfalso; exact c_8 rfl)) (fun c_8 => ?_)
        refine z_aload_n X dL_law_179 rfl ?_
        refine z_callVL0 X (c_X3_digest hJ (zBk (fSv (fUn (zBk (fSv σ) 8 8 (pAct (gA σ) x y).2))) 8 8 (pAct (gA σ) x y).2) f3 ) kL_93 rfl (by decide) rfl ⟨(Nat.le_of_ble_eq_true rfl), (Nat.le_of_ble_eq_true rfl)⟩ (Nat.le_of_ble_eq_true rfl) ⟨by show 77 + 6 * i.toNat ≤ 600130; omega, by show 2426 + 48 * i.toNat ≤ 7301080; omega⟩ dL_law_180 (fun z9 σ1 hz9 => ?_)
        obtain ⟨rfl, e9⟩ := hz9
        rw [e9]
        rw [a3]
        refine z_lload X dL_law_183 rfl ?_
        refine z_lcmp_same X dL_law_185 rfl ?_
        refine z_if_ne X 193 dL_law_186 (by decide) ⟨by decide, by decide⟩ (fun h9 => absurd h9 (by decide)) (fun _ => ?_)
        refine z_iconst X dL_law_189 ?_
        refine z_goto X 194 dL_law_190 (by decide) ?_
        refine z_istore X dL_law_194 (by decide) ?_
        refine z_sub [(0, .ref b), (1, .ref (ad 0)), (2, .ref (ad 5)), (3, .ref (ad 6)), (4, vI 1), (5, vI i), (6, vI x), (7, vI y), (8, .long (cHash (gA σ))), (10, vI ((gH σ) 0 1)), (11, vI ((pAct (gA σ) x y).1)), (12, .long (cHash (gA (zBk (fSv σ) 8 8 (pAct (gA σ) x y).2)))), (14, vI (((gH (zBk (fSv σ) 8 8 (pAct (gA σ) x y).2)) 0 1) - 1))] (zSub_cons rfl (zSub_cons rfl (zSub_cons rfl (zSub_cons rfl (zSub_cons rfl (zSub_cons rfl (zSub_cons rfl (zSub_cons rfl (zSub_cons rfl (zSub_cons rfl (zSub_cons rfl (zSub_cons rfl (zSub_cons rfl zSub_nil))))))))))))) ?_
        refine z_sub [(0, .ref b), (1, .ref (ad 0)), (2, .ref (ad 5)), (3, .ref (ad 6)), (4, vI 1), (5, vI i), (6, vI x), (7, vI y)] (zSub_cons rfl (zSub_cons rfl (zSub_cons rfl (zSub_cons rfl (zSub_cons rfl (zSub_cons rfl (zSub_cons rfl (zSub_cons rfl zSub_nil)))))))) ?_
        exact key123 _ q3
    intro τ qt
    have e8 := d1_A σ (pAct (gA σ) x y).2
    have js := jS_8 ao.2.1
    have jt : jN (gA τ) := by rw [qt.1, e8]; exact js.1
    have kt0 : kR (gA σ) (gA τ) := by rw [qt.1, e8]; exact kR_tr ao.2.2 js.2.1
    have r5 : τ.1 5 = σ.1 5 := qt.2.2.1.trans (d1_row hI.1 _ (Or.inl rfl))
    have r6 : τ.1 6 = σ.1 6 := qt.2.2.2.trans (d1_row hI.1 _ (Or.inr rfl))
    have kt := kOk_of hI kt0 r5 r6
    refine z_iload X dL_law_196 rfl ?_
    refine z_if_eq X 273 dL_law_198 (by decide) ⟨by decide, by decide⟩ (fun h9 => absurd h9 (by decide)) (fun _ => ?_)
    refine z_aload_n X dL_law_201 rfl ?_
    refine z_callSC X (c_L_holds hJ τ qt.2.1 jt) kL_107 rfl rfl ⟨(Nat.le_of_ble_eq_true rfl), (Nat.le_of_ble_eq_true rfl)⟩ (Nat.le_of_ble_eq_true rfl) ⟨by show 77 + 6 * i.toNat + 6 ≤ 600130; omega, by show 2426 + 48 * i.toNat + 48 ≤ 7301080; omega⟩ dL_law_202 (fun z9 σ1 hz9 => ?_)
    obtain ⟨rfl, e9⟩ := hz9
    rw [e9]
    refine z_if_eq X 273 dL_law_205 (by decide) ⟨by decide, by decide⟩ (fun h9 => absurd h9 (by decide)) (fun _ => ?_)
    refine z_aload_n X dL_law_208 rfl ?_
    refine z_aload_n X dL_law_209 rfl ?_
    refine z_aload_n X dL_law_210 rfl ?_
    refine z_callSI3 X (c_L_areKept hJ τ qt.2.1 kt) kL_122 ⟨(Nat.le_of_ble_eq_true rfl), (Nat.le_of_ble_eq_true rfl)⟩ (Nat.le_of_ble_eq_true rfl) ⟨by show 77 + 6 * i.toNat + 6 ≤ 600130; omega, by show 2426 + 48 * i.toNat + 48 ≤ 7301080; omega⟩ dL_law_211 (fun z9 κ hz9 => ?_)
    obtain ⟨rfl, e9⟩ := hz9
    have qk : eQ (kR6 (kE τ (gA τ) (6 * gA τ 0 0)) (gA τ) (gA τ 0 0)) κ := by rw [e9]; exact eQ_rf (fI_kR (fI_kE qt.2.1 _ _) _ _)
    clear e9
    have ek : gA κ = gA τ := by rw [qk.1, gA_kR, gA_kE]
    have jk : jN (gA κ) := by rw [ek]; exact jt
    have hnk := ok_n jk.1
    refine z_if_eq X 273 dL_law_214 (by decide) ⟨by decide, by decide⟩ (fun h9 => absurd h9 (by decide)) (fun _ => ?_)
    suffices key217 : ∀ ρ : zM, eQ (kR6 (kE τ (gA τ) (6 * gA τ 0 0)) (gA τ) (gA τ 0 0)) ρ → zV p l e room_1 s m args below meth c 15 D G ad (77 + 6 * i.toNat + 6) (2426 + 48 * i.toNat + 48) Q 269 [(0, .ref b), (1, .ref (ad 0)), (2, .ref (ad 5)), (3, .ref (ad 6)), (4, vI 1), (5, vI i)] [] ρ by
      refine z_iload X dL_law_217 rfl ?_
      refine z_iconst X dL_law_219 ?_
      refine z_iremP X (by omega) (by omega) (by omega) (by omega) dL_law_220 ?_
      refine z_iconst X dL_law_221 ?_
      refine z_icmp_ne X 269 dL_law_222 (by decide) (by first | assumption | exact ⟨by decide, by decide⟩ | (unfold zB at *; omega)) ⟨by decide, by decide⟩ (fun c_9 => ?_) (fun c_9 => ?_)
      · refine z_sub [(0, .ref b), (1, .ref (ad 0)), (2, .ref (ad 5)), (3, .ref (ad 6)), (4, vI 1), (5, vI i)] (zSub_cons rfl (zSub_cons rfl (zSub_cons rfl (zSub_cons rfl (zSub_cons rfl (zSub_cons rfl zSub_nil)))))) ?_
        exact key217 _ qk
      · refine z_aload_n X dL_law_225 rfl ?_
        refine z_callVI0 X (c_X3_deals hJ κ qk.2.1 ) kL_9 rfl (by decide) rfl ⟨(Nat.le_of_ble_eq_true rfl), (Nat.le_of_ble_eq_true rfl)⟩ (Nat.le_of_ble_eq_true rfl) ⟨by show 77 + 6 * i.toNat + 6 ≤ 600130; omega, by show 2426 + 48 * i.toNat + 48 ≤ 7301080; omega⟩ dL_law_226 (fun z9 σ1 hz9 => ?_)
        obtain ⟨rfl, e9⟩ := hz9
        rw [e9]
        refine z_if_eq X 269 dL_law_229 (by decide) (zB_sm hnk) (fun c_10 => ?_) (fun c_10 => ?_)
        · refine z_sub [(0, .ref b), (1, .ref (ad 0)), (2, .ref (ad 5)), (3, .ref (ad 6)), (4, vI 1), (5, vI i)] (zSub_cons rfl (zSub_cons rfl (zSub_cons rfl (zSub_cons rfl (zSub_cons rfl (zSub_cons rfl zSub_nil)))))) ?_
          exact key217 _ qk
        · refine z_aload_n X dL_law_232 rfl ?_
          refine z_iload X dL_law_233 rfl ?_
          refine z_iconst X dL_law_235 ?_
          refine z_shr X dL_law_236 (zShr_eq x 5) ?_
          refine z_aload_n X dL_law_237 rfl ?_
          refine z_callVI0 X (c_X3_deals hJ κ qk.2.1 ) kL_9 rfl (by decide) rfl ⟨(Nat.le_of_ble_eq_true rfl), (Nat.le_of_ble_eq_true rfl)⟩ (Nat.le_of_ble_eq_true rfl) ⟨by show 77 + 6 * i.toNat + 6 ≤ 600130; omega, by show 2426 + 48 * i.toNat + 48 ≤ 7301080; omega⟩ dL_law_238 (fun z9 σ1 hz9 => ?_)
          obtain ⟨rfl, e9⟩ := hz9
          rw [e9]
          refine z_callSI2 X (c_L_up hJ κ (zB_toInt _) ⟨by omega, (zB_sm hnk)⟩) kL_15 ⟨(Nat.le_of_ble_eq_true rfl), (Nat.le_of_ble_eq_true rfl)⟩ (Nat.le_of_ble_eq_true rfl) ⟨by show 77 + 6 * i.toNat + 6 ≤ 600130; omega, by show 2426 + 48 * i.toNat + 48 ≤ 7301080; omega⟩ dL_law_241 (fun z9 σ9 hz9 => ?_)
          obtain ⟨rfl, e9⟩ := hz9
          rw [e9]
          have hu_11 := rg_up (zShr x 5) (n := ((gA κ) 0 0)) (by omega)
          refine z_iload X dL_law_244 rfl ?_
          refine z_bipush X dL_law_246 rfl ?_
          refine z_shr X dL_law_248 (zShr_eq x 7) ?_
          refine z_bipush X dL_law_249 rfl ?_
          refine z_callSI2 X (c_L_up hJ κ (zB_toInt _) ⟨by omega, ⟨by decide, by decide⟩⟩) kL_15 ⟨(Nat.le_of_ble_eq_true rfl), (Nat.le_of_ble_eq_true rfl)⟩ (Nat.le_of_ble_eq_true rfl) ⟨by show 77 + 6 * i.toNat + 6 ≤ 600130; omega, by show 2426 + 48 * i.toNat + 48 ≤ 7301080; omega⟩ dL_law_251 (fun z9 σ9 hz9 => ?_)
          obtain ⟨rfl, e9⟩ := hz9
          rw [e9]
          have hu_12 := rg_up (zShr x 7) (n := 6) (by omega)
          refine z_iload X dL_law_254 rfl ?_
          refine z_iconst X dL_law_256 ?_
          refine z_shr X dL_law_257 (zShr_eq y 5) ?_
          refine z_bipush X dL_law_258 rfl ?_
          refine z_callSI2 X (c_L_up hJ κ (zB_toInt _) ⟨by omega, ⟨by decide, by decide⟩⟩) kL_15 ⟨(Nat.le_of_ble_eq_true rfl), (Nat.le_of_ble_eq_true rfl)⟩ (Nat.le_of_ble_eq_true rfl) ⟨by show 77 + 6 * i.toNat + 6 ≤ 600130; omega, by show 2426 + 48 * i.toNat + 48 ≤ 7301080; omega⟩ dL_law_260 (fun z9 σ9 hz9 => ?_)
          obtain ⟨rfl, e9⟩ := hz9
          rw [e9]
          have hu_13 := rg_up (zShr y 5) (n := 6) (by omega)
          refine z_callSI4 X (c_L_isAhead hJ κ qk.2.1 jk (by unfold zB at *; omega) (by unfold zB at *; omega) (by unfold zB at *; omega) ⟨by omega, by omega⟩ ⟨by omega, by omega⟩ ⟨by omega, by omega⟩) kL_126 ⟨(Nat.le_of_ble_eq_true rfl), (Nat.le_of_ble_eq_true rfl)⟩ (Nat.le_of_ble_eq_true rfl) ⟨by show 77 + 6 * i.toNat + 6 ≤ 600130; omega, by show 2426 + 48 * i.toNat + 48 ≤ 7301080; omega⟩ dL_law_263 (fun z9 σ2 hz9 => ?_)
          obtain ⟨rfl, qa⟩ := hz9
          refine z_if_eq X 273 dL_law_266 (by decide) ⟨by decide, by decide⟩ (fun h9 => absurd h9 (by decide)) (fun _ => ?_)
          refine z_sub [(0, .ref b), (1, .ref (ad 0)), (2, .ref (ad 5)), (3, .ref (ad 6)), (4, vI 1), (5, vI i)] (zSub_cons rfl (zSub_cons rfl (zSub_cons rfl (zSub_cons rfl (zSub_cons rfl (zSub_cons rfl zSub_nil)))))) ?_
          exact key217 _ (eQ_tr qk qa)
    intro ρ qr
    have hI2 := lI_kept hI qt.2.1 jt kt0 r5 r6 qr
    refine z_iconst X dL_law_269 ?_
    refine z_goto X 274 dL_law_270 (by decide) ?_
    refine z_istore X dL_law_274 (by decide) ?_
    refine z_sub [(0, .ref b), (1, .ref (ad 0)), (2, .ref (ad 5)), (3, .ref (ad 6)), (4, vI 1), (5, vI i)] (zSub_cons rfl (zSub_cons rfl (zSub_cons rfl (zSub_cons rfl (zSub_cons rfl (zSub_cons rfl zSub_nil)))))) ?_
    refine z_iinc X dL_law_276 rfl (by decide) ?_
    refine z_sub [(0, .ref b), (1, .ref (ad 0)), (2, .ref (ad 5)), (3, .ref (ad 6)), (4, vI 1), (5, vI (i + 1))] (zSub_cons rfl (zSub_cons rfl (zSub_cons rfl (zSub_cons rfl (zSub_cons rfl (zSub_cons rfl zSub_nil)))))) ?_
    refine z_goto X 27 dL_law_279 (by decide) ?_
    rw [show 77 + 6 * i.toNat + 6 = 77 + 6 * (i + 1).toNat by omega, show 2426 + 48 * i.toNat + 48 = 2426 + 48 * (i + 1).toNat by omega]
    exact ih (by omega) ρ hI2
