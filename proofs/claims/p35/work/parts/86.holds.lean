set_option maxHeartbeats 4000000 in
set_option maxRecDepth 100000 in
theorem c_L_holds {l : Launch} {D : va_G} {G : zG} {ad : Nat → Nat} (hJ : zInj ad) (σ : zM) (fi : fI σ) (j : jN (gA σ))  : zKC l D G ad yL_holds cL_holds 12 (some .boolean) 10 6 48 [.ref (ad 0)] σ (fun z σ9 => z = 1 ∧ σ9 = σ) := by
  intro sz
  refine z_openC hJ (by decide +kernel) (Nat.le_of_ble_eq_true rfl) ?_
  intro p e s0 m args below meth c hsz X hr hlocks
  have hn := ok_n fi.1
  refine z_sub [(0, .ref (ad 0))] (zSub_cons rfl zSub_nil) ?_
  refine z_iconst X dL_holds_0 ?_
  refine z_istore_n X dL_holds_1 (by decide) ?_
  refine z_sub [(0, .ref (ad 0)), (1, vI 0)] (zSub_cons rfl (zSub_cons rfl zSub_nil)) ?_
  refine z_iconst X dL_holds_2 ?_
  refine z_istore_n X dL_holds_3 (by decide) ?_
  refine z_sub [(0, .ref (ad 0)), (1, vI 0), (2, vI 0)] (zSub_cons rfl (zSub_cons rfl (zSub_cons rfl zSub_nil))) ?_
  refine z_iconst X dL_holds_4 ?_
  refine z_istore_n X dL_holds_5 (by decide) ?_
  refine z_sub [(0, .ref (ad 0)), (1, vI 0), (2, vI 0), (3, vI 0)] (zSub_cons rfl (zSub_cons rfl (zSub_cons rfl (zSub_cons rfl zSub_nil)))) ?_
  refine z_iconst X dL_holds_6 ?_
  refine z_istore X dL_holds_7 (by decide) ?_
  refine z_sub [(0, .ref (ad 0)), (1, vI 0), (2, vI 0), (3, vI 0), (4, vI 0)] (zSub_cons rfl (zSub_cons rfl (zSub_cons rfl (zSub_cons rfl (zSub_cons rfl zSub_nil))))) ?_
  refine z_iconst X dL_holds_9 ?_
  refine z_istore X dL_holds_10 (by decide) ?_
  refine z_sub [(0, .ref (ad 0)), (1, vI 0), (2, vI 0), (3, vI 0), (4, vI 0), (5, vI 1)] (zSub_cons rfl (zSub_cons rfl (zSub_cons rfl (zSub_cons rfl (zSub_cons rfl (zSub_cons rfl zSub_nil)))))) ?_
  refine z_iconst X dL_holds_12 ?_
  refine z_istore X dL_holds_13 (by decide) ?_
  refine z_sub [(0, .ref (ad 0)), (1, vI 0), (2, vI 0), (3, vI 0), (4, vI 0), (5, vI 1), (6, vI 0)] (zSub_cons rfl (zSub_cons rfl (zSub_cons rfl (zSub_cons rfl (zSub_cons rfl (zSub_cons rfl (zSub_cons rfl zSub_nil))))))) ?_
  refine z_sub [(0, .ref (ad 0)), (1, vI 0), (2, vI 0), (3, vI 0), (4, vI 0), (5, vI 1), (6, vI 0)] (zSub_cons rfl (zSub_cons rfl (zSub_cons rfl (zSub_cons rfl (zSub_cons rfl (zSub_cons rfl (zSub_cons rfl zSub_nil))))))) ?_
  refine zFor (S := Unit) (gA σ 0 0) (fun i _ => True) (fun i _ => zV p l e (iRm 10 6 48) s0 m args below meth c 12 D G ad 0 0 (zEC below (zQI D G ad sz (fun z σ9 => z = 1 ∧ σ9 = σ)) args s0 ad 6 48) 15 [(0, .ref (ad 0)), (1, vI (uO (gA σ) i)), (2, vI (uM (gA σ) i)), (3, vI (uD (gA σ) i)), (4, vI (uU (gA σ) i)), (5, vI 1), (6, vI i)] [] σ) (fun i _ i0 i1 _ ih => ?_) () hn.1 trivial
  refine z_iload X dL_holds_15 rfl ?_
  refine z_aload_n X dL_holds_17 rfl ?_
  refine z_callVI0 X (c_X3_deals hJ σ fi  ) kL_9 rfl (by decide) rfl ⟨(Nat.le_of_ble_eq_true rfl), (Nat.le_of_ble_eq_true rfl)⟩ (Nat.le_of_ble_eq_true rfl) ⟨Nat.zero_le _, Nat.zero_le _⟩ dL_holds_18 (fun z9 σ1 hz9 => ?_)
  obtain ⟨rfl, e9⟩ := hz9
  rw [e9]
  refine z_icmp_ge X 407 dL_holds_21 (by decide) (by first | assumption | exact ⟨by decide, by decide⟩ | (unfold zB at *; omega)) (zB_sm (ok_n fi.1)) (fun c_1 => ?_) (fun c_1 => ?_)
  · have hin : i = gA σ 0 0 := by omega
    subst hin
    refine z_sub [(0, .ref (ad 0)), (1, vI (uO (gA σ) (gA σ 0 0))), (2, vI (uM (gA σ) (gA σ 0 0))), (3, vI (uD (gA σ) (gA σ 0 0))), (4, vI (uU (gA σ) (gA σ 0 0))), (5, vI 1)] (zSub_cons rfl (zSub_cons rfl (zSub_cons rfl (zSub_cons rfl (zSub_cons rfl (zSub_cons rfl zSub_nil)))))) ?_
    refine z_iconst X dL_holds_407 ?_
    refine z_istore X dL_holds_408 (by decide) ?_
    refine z_sub [(0, .ref (ad 0)), (1, vI (uO (gA σ) (gA σ 0 0))), (2, vI (uM (gA σ) (gA σ 0 0))), (3, vI (uD (gA σ) (gA σ 0 0))), (4, vI (uU (gA σ) (gA σ 0 0))), (5, vI 1), (6, vI 0)] (zSub_cons rfl (zSub_cons rfl (zSub_cons rfl (zSub_cons rfl (zSub_cons rfl (zSub_cons rfl (zSub_cons rfl zSub_nil))))))) ?_
    refine z_sub [(0, .ref (ad 0)), (1, vI (uO (gA σ) (gA σ 0 0))), (2, vI (uM (gA σ) (gA σ 0 0))), (3, vI (uD (gA σ) (gA σ 0 0))), (4, vI (uU (gA σ) (gA σ 0 0))), (5, vI 1), (6, vI 0)] (zSub_cons rfl (zSub_cons rfl (zSub_cons rfl (zSub_cons rfl (zSub_cons rfl (zSub_cons rfl (zSub_cons rfl zSub_nil))))))) ?_
    refine zFor (S := Unit) 6 (fun u _ => True) (fun u _ => zV p l e (iRm 10 6 48) s0 m args below meth c 12 D G ad u.toNat (8 * u.toNat) (zEC below (zQI D G ad sz (fun z σ9 => z = 1 ∧ σ9 = σ)) args s0 ad 6 48) 410 [(0, .ref (ad 0)), (1, vI (uO (gA σ) (gA σ 0 0))), (2, vI (uM (gA σ) (gA σ 0 0))), (3, vI (uD (gA σ) (gA σ 0 0))), (4, vI (uU (gA σ) (gA σ 0 0))), (5, vI 1), (6, vI u)] [] σ) (fun u _ u0 u1 _ ihu => ?_) () (by decide) trivial
    refine z_iload X dL_holds_410 rfl ?_
    refine z_bipush X dL_holds_412 rfl ?_
    refine z_icmp_ge X 529 dL_holds_414 (by decide) (by first | assumption | exact ⟨by decide, by decide⟩ | (unfold zB at *; omega)) ⟨by decide, by decide⟩ (fun c_2 => ?_) (fun c_2 => ?_)
    · have hu6 : u = 6 := by omega
      subst hu6
      refine z_sub [(0, .ref (ad 0)), (1, vI (uO (gA σ) (gA σ 0 0))), (2, vI (uM (gA σ) (gA σ 0 0))), (3, vI (uD (gA σ) (gA σ 0 0))), (4, vI (uU (gA σ) (gA σ 0 0))), (5, vI 1)] (zSub_cons rfl (zSub_cons rfl (zSub_cons rfl (zSub_cons rfl (zSub_cons rfl (zSub_cons rfl zSub_nil)))))) ?_
      refine z_iload X dL_holds_529 rfl ?_
      refine z_if_eq X 582 dL_holds_531 (by decide) ⟨by decide, by decide⟩ (fun h9 => absurd h9 (by decide)) (fun _ => ?_)
      refine z_aload_n X dL_holds_534 rfl ?_
      refine z_callVI0 X (c_X3_open hJ σ fi  ) kL_77 rfl (by decide) rfl ⟨(Nat.le_of_ble_eq_true rfl), (Nat.le_of_ble_eq_true rfl)⟩ (Nat.le_of_ble_eq_true rfl) ⟨(Nat.le_of_ble_eq_true rfl), (Nat.le_of_ble_eq_true rfl)⟩ dL_holds_535 (fun z9 σ1 hz9 => ?_)
      obtain ⟨rfl, e9⟩ := hz9
      rw [e9]
      refine z_iload_n X dL_holds_538 rfl ?_
      refine z_icmp_ne X 582 dL_holds_539 (by decide) (show zB (uO (gA σ) ((gA σ) 0 0)) from (by have := uO_b (gA σ) ((gA σ) 0 0); unfold zB; omega)) (by have := uO_b (gA σ) (gA σ 0 0); unfold zB; omega) (fun c_3 => (by exfalso; exact c_3 rfl)) (fun c_3 => ?_)
      refine z_aload_n X dL_holds_542 rfl ?_
      refine z_callVI0 X (c_X3_stuck hJ σ fi  ) kL_80 rfl (by decide) rfl ⟨(Nat.le_of_ble_eq_true rfl), (Nat.le_of_ble_eq_true rfl)⟩ (Nat.le_of_ble_eq_true rfl) ⟨(Nat.le_of_ble_eq_true rfl), (Nat.le_of_ble_eq_true rfl)⟩ dL_holds_543 (fun z9 σ1 hz9 => ?_)
      obtain ⟨rfl, e9⟩ := hz9
      rw [e9]
      refine z_iload X dL_holds_546 rfl ?_
      refine z_icmp_ne X 582 dL_holds_548 (by decide) (show zB (uU (gA σ) ((gA σ) 0 0)) from (by have := uU_b (gA σ) ((gA σ) 0 0); unfold zB; omega)) (by have := uU_b (gA σ) (gA σ 0 0); unfold zB; omega) (fun c_4 => (by exfalso; exact c_4 rfl)) (fun c_4 => ?_)
      refine z_iload X dL_holds_551 rfl ?_
      refine z_iload_n X dL_holds_553 rfl ?_
      refine z_icmp_gt X 582 dL_holds_554 (by decide) (by have := uU_b (gA σ) (gA σ 0 0); unfold zB; omega) (by have := uO_b (gA σ) (gA σ 0 0); unfold zB; omega) (fun c_5 => (by exfalso; (have q := stuck_le (gA σ) (gA σ 0 0)); omega)) (fun c_5 => ?_)
      refine z_aload_n X dL_holds_557 rfl ?_
      refine z_callVD0 X (c_X3_doubtShare hJ σ fi  ) kL_83 rfl (by decide) rfl ⟨(Nat.le_of_ble_eq_true rfl), (Nat.le_of_ble_eq_true rfl)⟩ (Nat.le_of_ble_eq_true rfl) ⟨(Nat.le_of_ble_eq_true rfl), (Nat.le_of_ble_eq_true rfl)⟩ dL_holds_558 (fun z9 σ1 hz9 => ?_)
      obtain ⟨rfl, e9⟩ := hz9
      rw [e9]
      refine z_iload_n X dL_holds_561 rfl ?_
      refine z_if_ne X 569 dL_holds_562 (by decide) (by rw [← mems_eq _ hn.1]; exact rg_mems fi.1) (fun c_6 => ?_) (fun c_6 => ?_)
      · have hnz : uM (gA σ) (gA σ 0 0) ≠ 0 ∧ zB (uM (gA σ) (gA σ 0 0)) := ⟨c_6, by rw [← mems_eq _ hn.1]; exact rg_mems fi.1⟩
        refine z_iload_n X dL_holds_569 rfl ?_
        refine z_i2d X dL_holds_570 ?_
        refine z_iload_n X dL_holds_571 rfl ?_
        refine z_i2d X dL_holds_572 ?_
        refine z_ddiv X (zDdiv hnz) dL_holds_573 ?_
        refine z_dcmp X (v := 0) dL_holds_574 (share_1 fi.1 c_6) ?_
        refine z_if_ne X 582 dL_holds_575 (by decide) ⟨by decide, by decide⟩ (fun h9 => absurd h9 (by decide)) (fun _ => ?_)
        refine z_iconst X dL_holds_578 ?_
        refine z_goto X 583 dL_holds_579 (by decide) ?_
        exact z_zretC X hsz hr hlocks dL_holds_583 (Or.inr rfl) ⟨rfl, rfl⟩
      · refine z_dconst0 X dL_holds_565 ?_
        refine z_goto X 574 dL_holds_566 (by decide) ?_
        refine z_dcmp X (v := 0) dL_holds_574 (share_0 hn.1 c_6) ?_
        refine z_if_ne X 582 dL_holds_575 (by decide) ⟨by decide, by decide⟩ (fun h9 => absurd h9 (by decide)) (fun _ => ?_)
        refine z_iconst X dL_holds_578 ?_
        refine z_goto X 583 dL_holds_579 (by decide) ?_
        exact z_zretC X hsz hr hlocks dL_holds_583 (Or.inr rfl) ⟨rfl, rfl⟩
    · refine z_iconst X dL_holds_417 ?_
      refine z_istore X dL_holds_418 (by decide) ?_
      refine z_sub [(0, .ref (ad 0)), (1, vI (uO (gA σ) (gA σ 0 0))), (2, vI (uM (gA σ) (gA σ 0 0))), (3, vI (uD (gA σ) (gA σ 0 0))), (4, vI (uU (gA σ) (gA σ 0 0))), (5, vI 1), (6, vI u), (7, vI 0)] (zSub_cons rfl (zSub_cons rfl (zSub_cons rfl (zSub_cons rfl (zSub_cons rfl (zSub_cons rfl (zSub_cons rfl (zSub_cons rfl zSub_nil)))))))) ?_
      refine z_iconst X dL_holds_420 ?_
      refine z_istore X dL_holds_421 (by decide) ?_
      refine z_sub [(0, .ref (ad 0)), (1, vI (uO (gA σ) (gA σ 0 0))), (2, vI (uM (gA σ) (gA σ 0 0))), (3, vI (uD (gA σ) (gA σ 0 0))), (4, vI (uU (gA σ) (gA σ 0 0))), (5, vI 1), (6, vI u), (7, vI 0), (8, vI 0)] (zSub_cons rfl (zSub_cons rfl (zSub_cons rfl (zSub_cons rfl (zSub_cons rfl (zSub_cons rfl (zSub_cons rfl (zSub_cons rfl (zSub_cons rfl zSub_nil))))))))) ?_
      refine z_sub [(0, .ref (ad 0)), (1, vI (uO (gA σ) (gA σ 0 0))), (2, vI (uM (gA σ) (gA σ 0 0))), (3, vI (uD (gA σ) (gA σ 0 0))), (4, vI (uU (gA σ) (gA σ 0 0))), (5, vI 1), (6, vI u), (7, vI 0), (8, vI 0)] (zSub_cons rfl (zSub_cons rfl (zSub_cons rfl (zSub_cons rfl (zSub_cons rfl (zSub_cons rfl (zSub_cons rfl (zSub_cons rfl (zSub_cons rfl zSub_nil))))))))) ?_
      refine zFor (S := Unit) (gA σ 0 0) (fun v _ => True) (fun v _ => zV p l e (iRm 10 6 48) s0 m args below meth c 12 D G ad u.toNat (8 * u.toNat) (zEC below (zQI D G ad sz (fun z σ9 => z = 1 ∧ σ9 = σ)) args s0 ad 6 48) 423 [(0, .ref (ad 0)), (1, vI (uO (gA σ) (gA σ 0 0))), (2, vI (uM (gA σ) (gA σ 0 0))), (3, vI (uD (gA σ) (gA σ 0 0))), (4, vI (uU (gA σ) (gA σ 0 0))), (5, vI 1), (6, vI u), (7, vI (uH (gA σ) u v)), (8, vI v)] [] σ) (fun v _ v0 v1 _ ihv => ?_) () hn.1 trivial
      refine z_iload X dL_holds_423 rfl ?_
      refine z_aload_n X dL_holds_425 rfl ?_
      refine z_callVI0 X (c_X3_deals hJ σ fi  ) kL_9 rfl (by decide) rfl ⟨(Nat.le_of_ble_eq_true rfl), (Nat.le_of_ble_eq_true rfl)⟩ (Nat.le_of_ble_eq_true rfl) ⟨by show u.toNat ≤ 6; omega, by show 8 * u.toNat ≤ 48; omega⟩ dL_holds_426 (fun z9 σ1 hz9 => ?_)
      obtain ⟨rfl, e9⟩ := hz9
      rw [e9]
      refine z_icmp_ge X 460 dL_holds_429 (by decide) (by first | assumption | exact ⟨by decide, by decide⟩ | (unfold zB at *; omega)) (zB_sm (ok_n fi.1)) (fun c_7 => ?_) (fun c_7 => ?_)
      · have hvn : v = gA σ 0 0 := by omega
        subst hvn
        refine z_sub [(0, .ref (ad 0)), (1, vI (uO (gA σ) (gA σ 0 0))), (2, vI (uM (gA σ) (gA σ 0 0))), (3, vI (uD (gA σ) (gA σ 0 0))), (4, vI (uU (gA σ) (gA σ 0 0))), (5, vI 1), (6, vI u), (7, vI (uH (gA σ) u (gA σ 0 0)))] (zSub_cons rfl (zSub_cons rfl (zSub_cons rfl (zSub_cons rfl (zSub_cons rfl (zSub_cons rfl (zSub_cons rfl (zSub_cons rfl zSub_nil)))))))) ?_
        refine z_iconst X dL_holds_460 ?_
        refine z_istore X dL_holds_461 (by decide) ?_
        refine z_sub [(0, .ref (ad 0)), (1, vI (uO (gA σ) (gA σ 0 0))), (2, vI (uM (gA σ) (gA σ 0 0))), (3, vI (uD (gA σ) (gA σ 0 0))), (4, vI (uU (gA σ) (gA σ 0 0))), (5, vI 1), (6, vI u), (7, vI (uH (gA σ) u (gA σ 0 0))), (8, vI 0)] (zSub_cons rfl (zSub_cons rfl (zSub_cons rfl (zSub_cons rfl (zSub_cons rfl (zSub_cons rfl (zSub_cons rfl (zSub_cons rfl (zSub_cons rfl zSub_nil))))))))) ?_
        refine z_iconst X dL_holds_463 ?_
        refine z_istore X dL_holds_464 (by decide) ?_
        refine z_sub [(0, .ref (ad 0)), (1, vI (uO (gA σ) (gA σ 0 0))), (2, vI (uM (gA σ) (gA σ 0 0))), (3, vI (uD (gA σ) (gA σ 0 0))), (4, vI (uU (gA σ) (gA σ 0 0))), (5, vI 1), (6, vI u), (7, vI (uH (gA σ) u (gA σ 0 0))), (8, vI 0), (9, vI 0)] (zSub_cons rfl (zSub_cons rfl (zSub_cons rfl (zSub_cons rfl (zSub_cons rfl (zSub_cons rfl (zSub_cons rfl (zSub_cons rfl (zSub_cons rfl (zSub_cons rfl zSub_nil)))))))))) ?_
        refine z_sub [(0, .ref (ad 0)), (1, vI (uO (gA σ) (gA σ 0 0))), (2, vI (uM (gA σ) (gA σ 0 0))), (3, vI (uD (gA σ) (gA σ 0 0))), (4, vI (uU (gA σ) (gA σ 0 0))), (5, vI 1), (6, vI u), (7, vI (uH (gA σ) u (gA σ 0 0))), (8, vI 0), (9, vI 0)] (zSub_cons rfl (zSub_cons rfl (zSub_cons rfl (zSub_cons rfl (zSub_cons rfl (zSub_cons rfl (zSub_cons rfl (zSub_cons rfl (zSub_cons rfl (zSub_cons rfl zSub_nil)))))))))) ?_
        refine zFor (S := Unit) 10 (fun w _ => True) (fun w _ => zV p l e (iRm 10 6 48) s0 m args below meth c 12 D G ad u.toNat (8 * u.toNat) (zEC below (zQI D G ad sz (fun z σ9 => z = 1 ∧ σ9 = σ)) args s0 ad 6 48) 466 [(0, .ref (ad 0)), (1, vI (uO (gA σ) (gA σ 0 0))), (2, vI (uM (gA σ) (gA σ 0 0))), (3, vI (uD (gA σ) (gA σ 0 0))), (4, vI (uU (gA σ) (gA σ 0 0))), (5, vI 1), (6, vI u), (7, vI (uH (gA σ) u (gA σ 0 0))), (8, vI (mBits (cHeld (gA σ) u (gA σ 0 0).toNat) w.toNat)), (9, vI w)] [] σ) (fun w _ w0 w1 _ ihw => ?_) () (by decide) trivial
        refine z_iload X dL_holds_466 rfl ?_
        refine z_bipush X dL_holds_468 rfl ?_
        refine z_icmp_ge X 495 dL_holds_470 (by decide) (by first | assumption | exact ⟨by decide, by decide⟩ | (unfold zB at *; omega)) ⟨by decide, by decide⟩ (fun c_8 => ?_) (fun c_8 => ?_)
        · have hw10 : w = 10 := by omega
          subst hw10
          have hbits : mBits (cHeld (gA σ) u (gA σ 0 0).toNat) (10 : Int).toNat = uH (gA σ) u (gA σ 0 0) := held_bits j u
          refine z_sub [(0, .ref (ad 0)), (1, vI (uO (gA σ) (gA σ 0 0))), (2, vI (uM (gA σ) (gA σ 0 0))), (3, vI (uD (gA σ) (gA σ 0 0))), (4, vI (uU (gA σ) (gA σ 0 0))), (5, vI 1), (6, vI u), (7, vI (uH (gA σ) u (gA σ 0 0))), (8, vI (mBits (cHeld (gA σ) u (gA σ 0 0).toNat) (10 : Int).toNat))] (zSub_cons rfl (zSub_cons rfl (zSub_cons rfl (zSub_cons rfl (zSub_cons rfl (zSub_cons rfl (zSub_cons rfl (zSub_cons rfl (zSub_cons rfl zSub_nil))))))))) ?_
          refine z_iload X dL_holds_495 rfl ?_
          refine z_if_eq X 520 dL_holds_497 (by decide) ⟨by decide, by decide⟩ (fun h9 => absurd h9 (by decide)) (fun _ => ?_)
          refine z_iload X dL_holds_500 rfl ?_
          refine z_iload X dL_holds_502 rfl ?_
          refine z_icmp_ne X 520 dL_holds_504 (by decide) (by rw [hbits]; have := uH_b (gA σ) u (gA σ 0 0); unfold zB; omega) (by have := uH_b (gA σ) u (gA σ 0 0); unfold zB; omega) (fun c_9 => (by exfalso; exact c_9 hbits)) (fun c_9 => ?_)
          refine z_aload_n X dL_holds_507 rfl ?_
          refine z_iload X dL_holds_508 rfl ?_
          refine z_callSC X (c_L_areEntries hJ σ fi j (by first | assumption | exact ⟨by decide, by decide⟩ | (unfold zB at *; omega)) ⟨u0, by omega⟩) kL_73 rfl rfl ⟨(Nat.le_of_ble_eq_true rfl), (Nat.le_of_ble_eq_true rfl)⟩ (Nat.le_of_ble_eq_true rfl) ⟨by show u.toNat + 1 ≤ 6; omega, by show 8 * u.toNat + 8 ≤ 48; omega⟩ dL_holds_510 (fun z9 σ1 hz9 => ?_)
          obtain ⟨rfl, e9⟩ := hz9
          rw [e9]
          refine z_if_eq X 520 dL_holds_513 (by decide) ⟨by decide, by decide⟩ (fun h9 => absurd h9 (by decide)) (fun _ => ?_)
          refine z_iconst X dL_holds_516 ?_
          refine z_goto X 521 dL_holds_517 (by decide) ?_
          refine z_istore X dL_holds_521 (by decide) ?_
          refine z_sub [(0, .ref (ad 0)), (1, vI (uO (gA σ) (gA σ 0 0))), (2, vI (uM (gA σ) (gA σ 0 0))), (3, vI (uD (gA σ) (gA σ 0 0))), (4, vI (uU (gA σ) (gA σ 0 0))), (5, vI 1), (6, vI u), (7, vI (uH (gA σ) u (gA σ 0 0))), (8, vI (mBits (cHeld (gA σ) u (gA σ 0 0).toNat) (10 : Int).toNat))] (zSub_cons rfl (zSub_cons rfl (zSub_cons rfl (zSub_cons rfl (zSub_cons rfl (zSub_cons rfl (zSub_cons rfl (zSub_cons rfl (zSub_cons rfl zSub_nil))))))))) ?_
          refine z_iinc X dL_holds_523 rfl (by decide) ?_
          refine z_sub [(0, .ref (ad 0)), (1, vI (uO (gA σ) (gA σ 0 0))), (2, vI (uM (gA σ) (gA σ 0 0))), (3, vI (uD (gA σ) (gA σ 0 0))), (4, vI (uU (gA σ) (gA σ 0 0))), (5, vI 1), (6, vI (u + 1))] (zSub_cons rfl (zSub_cons rfl (zSub_cons rfl (zSub_cons rfl (zSub_cons rfl (zSub_cons rfl (zSub_cons rfl zSub_nil))))))) ?_
          refine z_goto X 410 dL_holds_526 (by decide) ?_
          rw [show u.toNat + 1 = (u + 1).toNat by omega, show 8 * u.toNat + 8 = 8 * (u + 1).toNat by omega]
          exact ihu (by omega) () trivial
        · refine z_iload X dL_holds_473 rfl ?_
          refine z_aload_n X dL_holds_475 rfl ?_
          refine z_iload X dL_holds_476 rfl ?_
          refine z_callVI1 X (c_X3_held hJ σ fi (by first | assumption | exact ⟨by decide, by decide⟩ | (unfold zB at *; omega)) ⟨by omega, by omega⟩) kL_70 rfl (by decide) rfl ⟨(Nat.le_of_ble_eq_true rfl), (Nat.le_of_ble_eq_true rfl)⟩ (Nat.le_of_ble_eq_true rfl) ⟨by show u.toNat ≤ 6; omega, by show 8 * u.toNat ≤ 48; omega⟩ dL_holds_478 (fun z9 σ1 hz9 => ?_)
          obtain ⟨rfl, e9⟩ := hz9
          rw [e9]
          refine z_iload X dL_holds_481 rfl ?_
          refine z_shr X dL_holds_483 (zShr_eq (cHeld (gA σ) u ((gA σ) 0 0).toNat) w) ?_
          refine z_iconst X dL_holds_484 ?_
          refine z_and X dL_holds_485 (zAnd_eq (zShr (cHeld (gA σ) u ((gA σ) 0 0).toNat) w) 1) ?_
          refine z_iadd X dL_holds_486 ?_
          refine z_istore X dL_holds_487 (by decide) ?_
          refine z_sub [(0, .ref (ad 0)), (1, vI (uO (gA σ) (gA σ 0 0))), (2, vI (uM (gA σ) (gA σ 0 0))), (3, vI (uD (gA σ) (gA σ 0 0))), (4, vI (uU (gA σ) (gA σ 0 0))), (5, vI 1), (6, vI u), (7, vI (uH (gA σ) u (gA σ 0 0))), (8, vI ((mBits (cHeld (gA σ) u (gA σ 0 0).toNat) w.toNat) + (zAnd (zShr (cHeld (gA σ) u ((gA σ) 0 0).toNat) w) 1))), (9, vI w)] (zSub_cons rfl (zSub_cons rfl (zSub_cons rfl (zSub_cons rfl (zSub_cons rfl (zSub_cons rfl (zSub_cons rfl (zSub_cons rfl (zSub_cons rfl (zSub_cons rfl zSub_nil)))))))))) ?_
          refine z_iinc X dL_holds_489 rfl (by decide) ?_
          refine z_sub [(0, .ref (ad 0)), (1, vI (uO (gA σ) (gA σ 0 0))), (2, vI (uM (gA σ) (gA σ 0 0))), (3, vI (uD (gA σ) (gA σ 0 0))), (4, vI (uU (gA σ) (gA σ 0 0))), (5, vI 1), (6, vI u), (7, vI (uH (gA σ) u (gA σ 0 0))), (8, vI ((mBits (cHeld (gA σ) u (gA σ 0 0).toNat) w.toNat) + (zAnd (zShr (cHeld (gA σ) u ((gA σ) 0 0).toNat) w) 1))), (9, vI (w + 1))] (zSub_cons rfl (zSub_cons rfl (zSub_cons rfl (zSub_cons rfl (zSub_cons rfl (zSub_cons rfl (zSub_cons rfl (zSub_cons rfl (zSub_cons rfl (zSub_cons rfl zSub_nil)))))))))) ?_
          refine z_goto X 466 dL_holds_492 (by decide) ?_
          rw [← mBits_step w0]
          exact ihw (by omega) () trivial
      · suffices key432 : ∀ v9 : Int, v9 = uH (gA σ) u (v + 1) → zV p l e (iRm 10 6 48) s0 m args below meth c 12 D G ad u.toNat (8 * u.toNat) (zEC below (zQI D G ad sz (fun z σ9 => z = 1 ∧ σ9 = σ)) args s0 ad 6 48) 452 [(0, .ref (ad 0)), (1, vI (uO (gA σ) (gA σ 0 0))), (2, vI (uM (gA σ) (gA σ 0 0))), (3, vI (uD (gA σ) (gA σ 0 0))), (4, vI (uU (gA σ) (gA σ 0 0))), (5, vI 1), (6, vI u), (7, vI (uH (gA σ) u v)), (8, vI v)] [vI v9] σ by
          refine z_iload X dL_holds_432 rfl ?_
          refine z_aload_n X dL_holds_434 rfl ?_
          refine z_iload X dL_holds_435 rfl ?_
          refine z_iload X dL_holds_437 rfl ?_
          refine z_callVI2 X (c_X3_state hJ σ fi (by first | assumption | exact ⟨by decide, by decide⟩ | (unfold zB at *; omega)) (by first | assumption | exact ⟨by decide, by decide⟩ | (unfold zB at *; omega)) ⟨by omega, by omega⟩ ⟨by omega, by omega⟩) kL_33 rfl (by decide) rfl ⟨(Nat.le_of_ble_eq_true rfl), (Nat.le_of_ble_eq_true rfl)⟩ (Nat.le_of_ble_eq_true rfl) ⟨by show u.toNat ≤ 6; omega, by show 8 * u.toNat ≤ 48; omega⟩ dL_holds_439 (fun z9 σ1 hz9 => ?_)
          obtain ⟨rfl, e9⟩ := hz9
          rw [e9]
          refine z_iconst X dL_holds_442 ?_
          refine z_icmp_ne X 450 dL_holds_443 (by decide) (zB_sm (rg_st fi.1 _ _)) ⟨by decide, by decide⟩ (fun c_10 => ?_) (fun c_10 => ?_)
          · refine z_iconst X dL_holds_450 ?_
            refine z_iadd X dL_holds_451 ?_
            refine z_sub [(0, .ref (ad 0)), (1, vI (uO (gA σ) (gA σ 0 0))), (2, vI (uM (gA σ) (gA σ 0 0))), (3, vI (uD (gA σ) (gA σ 0 0))), (4, vI (uU (gA σ) (gA σ 0 0))), (5, vI 1), (6, vI u), (7, vI (uH (gA σ) u v)), (8, vI v)] (zSub_cons rfl (zSub_cons rfl (zSub_cons rfl (zSub_cons rfl (zSub_cons rfl (zSub_cons rfl (zSub_cons rfl (zSub_cons rfl (zSub_cons rfl zSub_nil))))))))) ?_
            exact key432 _ (by rw [uH_s v0]; split <;> omega)
          · refine z_iconst X dL_holds_446 ?_
            refine z_goto X 451 dL_holds_447 (by decide) ?_
            refine z_iadd X dL_holds_451 ?_
            refine z_sub [(0, .ref (ad 0)), (1, vI (uO (gA σ) (gA σ 0 0))), (2, vI (uM (gA σ) (gA σ 0 0))), (3, vI (uD (gA σ) (gA σ 0 0))), (4, vI (uU (gA σ) (gA σ 0 0))), (5, vI 1), (6, vI u), (7, vI (uH (gA σ) u v)), (8, vI v)] (zSub_cons rfl (zSub_cons rfl (zSub_cons rfl (zSub_cons rfl (zSub_cons rfl (zSub_cons rfl (zSub_cons rfl (zSub_cons rfl (zSub_cons rfl zSub_nil))))))))) ?_
            exact key432 _ (by rw [uH_s v0]; split <;> omega)
        intro v9 hv9
        subst hv9
        refine z_istore X dL_holds_452 (by decide) ?_
        refine z_sub [(0, .ref (ad 0)), (1, vI (uO (gA σ) (gA σ 0 0))), (2, vI (uM (gA σ) (gA σ 0 0))), (3, vI (uD (gA σ) (gA σ 0 0))), (4, vI (uU (gA σ) (gA σ 0 0))), (5, vI 1), (6, vI u), (7, vI (uH (gA σ) u (v + 1))), (8, vI v)] (zSub_cons rfl (zSub_cons rfl (zSub_cons rfl (zSub_cons rfl (zSub_cons rfl (zSub_cons rfl (zSub_cons rfl (zSub_cons rfl (zSub_cons rfl zSub_nil))))))))) ?_
        refine z_iinc X dL_holds_454 rfl (by decide) ?_
        refine z_sub [(0, .ref (ad 0)), (1, vI (uO (gA σ) (gA σ 0 0))), (2, vI (uM (gA σ) (gA σ 0 0))), (3, vI (uD (gA σ) (gA σ 0 0))), (4, vI (uU (gA σ) (gA σ 0 0))), (5, vI 1), (6, vI u), (7, vI (uH (gA σ) u (v + 1))), (8, vI (v + 1))] (zSub_cons rfl (zSub_cons rfl (zSub_cons rfl (zSub_cons rfl (zSub_cons rfl (zSub_cons rfl (zSub_cons rfl (zSub_cons rfl (zSub_cons rfl zSub_nil))))))))) ?_
        refine z_goto X 423 dL_holds_457 (by decide) ?_
        exact ihv (by omega) () trivial
  · refine z_iconst X dL_holds_24 ?_
    refine z_istore X dL_holds_25 (by decide) ?_
    refine z_sub [(0, .ref (ad 0)), (1, vI (uO (gA σ) i)), (2, vI (uM (gA σ) i)), (3, vI (uD (gA σ) i)), (4, vI (uU (gA σ) i)), (5, vI 1), (6, vI i), (7, vI 0)] (zSub_cons rfl (zSub_cons rfl (zSub_cons rfl (zSub_cons rfl (zSub_cons rfl (zSub_cons rfl (zSub_cons rfl (zSub_cons rfl zSub_nil)))))))) ?_
    refine z_iconst X dL_holds_27 ?_
    refine z_istore X dL_holds_28 (by decide) ?_
    refine z_sub [(0, .ref (ad 0)), (1, vI (uO (gA σ) i)), (2, vI (uM (gA σ) i)), (3, vI (uD (gA σ) i)), (4, vI (uU (gA σ) i)), (5, vI 1), (6, vI i), (7, vI 0), (8, vI 0)] (zSub_cons rfl (zSub_cons rfl (zSub_cons rfl (zSub_cons rfl (zSub_cons rfl (zSub_cons rfl (zSub_cons rfl (zSub_cons rfl (zSub_cons rfl zSub_nil))))))))) ?_
    refine z_iconst X dL_holds_30 ?_
    refine z_istore X dL_holds_31 (by decide) ?_
    refine z_sub [(0, .ref (ad 0)), (1, vI (uO (gA σ) i)), (2, vI (uM (gA σ) i)), (3, vI (uD (gA σ) i)), (4, vI (uU (gA σ) i)), (5, vI 1), (6, vI i), (7, vI 0), (8, vI 0), (9, vI 0)] (zSub_cons rfl (zSub_cons rfl (zSub_cons rfl (zSub_cons rfl (zSub_cons rfl (zSub_cons rfl (zSub_cons rfl (zSub_cons rfl (zSub_cons rfl (zSub_cons rfl zSub_nil)))))))))) ?_
    refine z_iconst X dL_holds_33 ?_
    refine z_istore X dL_holds_34 (by decide) ?_
    refine z_sub [(0, .ref (ad 0)), (1, vI (uO (gA σ) i)), (2, vI (uM (gA σ) i)), (3, vI (uD (gA σ) i)), (4, vI (uU (gA σ) i)), (5, vI 1), (6, vI i), (7, vI 0), (8, vI 0), (9, vI 0), (10, vI 0)] (zSub_cons rfl (zSub_cons rfl (zSub_cons rfl (zSub_cons rfl (zSub_cons rfl (zSub_cons rfl (zSub_cons rfl (zSub_cons rfl (zSub_cons rfl (zSub_cons rfl (zSub_cons rfl zSub_nil))))))))))) ?_
    refine z_sub [(0, .ref (ad 0)), (1, vI (uO (gA σ) i)), (2, vI (uM (gA σ) i)), (3, vI (uD (gA σ) i)), (4, vI (uU (gA σ) i)), (5, vI 1), (6, vI i), (7, vI 0), (8, vI 0), (9, vI 0), (10, vI 0)] (zSub_cons rfl (zSub_cons rfl (zSub_cons rfl (zSub_cons rfl (zSub_cons rfl (zSub_cons rfl (zSub_cons rfl (zSub_cons rfl (zSub_cons rfl (zSub_cons rfl (zSub_cons rfl zSub_nil))))))))))) ?_
    refine zFor (S := Unit) 6 (fun k _ => True) (fun k _ => zV p l e (iRm 10 6 48) s0 m args below meth c 12 D G ad 0 0 (zEC below (zQI D G ad sz (fun z σ9 => z = 1 ∧ σ9 = σ)) args s0 ad 6 48) 36 [(0, .ref (ad 0)), (1, vI (uO (gA σ) i)), (2, vI (uMk (gA σ) i k)), (3, vI (uDk (gA σ) i k)), (4, vI (uU (gA σ) i)), (5, vI 1), (6, vI i), (7, vI (uS (gA σ) i k)), (8, vI (uL (gA σ) i k)), (9, vI (uP (gA σ) i k)), (10, vI k)] [] σ) (fun k _ k0 k1 _ ihk => ?_) () (by decide) trivial
    refine z_iload X dL_holds_36 rfl ?_
    refine z_bipush X dL_holds_38 rfl ?_
    refine z_icmp_ge X 292 dL_holds_40 (by decide) (by first | assumption | exact ⟨by decide, by decide⟩ | (unfold zB at *; omega)) ⟨by decide, by decide⟩ (fun c_11 => ?_) (fun c_11 => ?_)
    · have hk6 : k = 6 := by omega
      subst hk6
      have hse := uS_end j (i := i) ⟨i0, by omega⟩
      have hso := uS_open (gA σ) i
      have hsu := uU_iff (gA σ) i
      refine z_sub [(0, .ref (ad 0)), (1, vI (uO (gA σ) i)), (2, vI (uMk (gA σ) i 6)), (3, vI (uDk (gA σ) i 6)), (4, vI (uU (gA σ) i)), (5, vI 1), (6, vI i), (7, vI (uS (gA σ) i 6)), (8, vI (uL (gA σ) i 6)), (9, vI (uP (gA σ) i 6)), (10, vI 6)] (zSub_cons rfl (zSub_cons rfl (zSub_cons rfl (zSub_cons rfl (zSub_cons rfl (zSub_cons rfl (zSub_cons rfl (zSub_cons rfl (zSub_cons rfl (zSub_cons rfl (zSub_cons rfl zSub_nil))))))))))) ?_
      refine z_aload_n X dL_holds_292 rfl ?_
      refine z_iload X dL_holds_293 rfl ?_
      refine z_callVI1 X (c_X3_decision hJ σ fi (by first | assumption | exact ⟨by decide, by decide⟩ | (unfold zB at *; omega)) ⟨by omega, by omega⟩) kL_46 rfl (by decide) rfl ⟨(Nat.le_of_ble_eq_true rfl), (Nat.le_of_ble_eq_true rfl)⟩ (Nat.le_of_ble_eq_true rfl) ⟨Nat.zero_le _, Nat.zero_le _⟩ dL_holds_295 (fun z9 σ1 hz9 => ?_)
      obtain ⟨rfl, e9⟩ := hz9
      rw [e9]
      refine z_istore X dL_holds_298 (by decide) ?_
      refine z_sub [(0, .ref (ad 0)), (1, vI (uO (gA σ) i)), (2, vI (uMk (gA σ) i 6)), (3, vI (uDk (gA σ) i 6)), (4, vI (uU (gA σ) i)), (5, vI 1), (6, vI i), (7, vI (uS (gA σ) i 6)), (8, vI (uL (gA σ) i 6)), (9, vI (uP (gA σ) i 6)), (10, vI (cDec (gA σ) i))] (zSub_cons rfl (zSub_cons rfl (zSub_cons rfl (zSub_cons rfl (zSub_cons rfl (zSub_cons rfl (zSub_cons rfl (zSub_cons rfl (zSub_cons rfl (zSub_cons rfl (zSub_cons rfl zSub_nil))))))))))) ?_
      suffices key300 : ∀ v9 : Int, v9 = uO (gA σ) (i + 1) → zV p l e (iRm 10 6 48) s0 m args below meth c 12 D G ad 0 0 (zEC below (zQI D G ad sz (fun z σ9 => z = 1 ∧ σ9 = σ)) args s0 ad 6 48) 314 [(0, .ref (ad 0)), (1, vI (uO (gA σ) i)), (2, vI (uMk (gA σ) i 6)), (3, vI (uDk (gA σ) i 6)), (4, vI (uU (gA σ) i)), (5, vI 1), (6, vI i), (7, vI (uS (gA σ) i 6)), (8, vI (uL (gA σ) i 6)), (9, vI (uP (gA σ) i 6)), (10, vI (cDec (gA σ) i))] [vI v9] σ by
        refine z_iload_n X dL_holds_300 rfl ?_
        refine z_iload X dL_holds_301 rfl ?_
        refine z_iconst X dL_holds_303 ?_
        refine z_and X dL_holds_304 (zAnd_eq (uS (gA σ) i 6) 3) ?_
        refine z_if_ne X 312 dL_holds_305 (by decide) (zB_toInt _) (fun c_12 => ?_) (fun c_12 => ?_)
        · refine z_iconst X dL_holds_312 ?_
          refine z_iadd X dL_holds_313 ?_
          refine z_sub [(0, .ref (ad 0)), (1, vI (uO (gA σ) i)), (2, vI (uMk (gA σ) i 6)), (3, vI (uDk (gA σ) i 6)), (4, vI (uU (gA σ) i)), (5, vI 1), (6, vI i), (7, vI (uS (gA σ) i 6)), (8, vI (uL (gA σ) i 6)), (9, vI (uP (gA σ) i 6)), (10, vI (cDec (gA σ) i))] (zSub_cons rfl (zSub_cons rfl (zSub_cons rfl (zSub_cons rfl (zSub_cons rfl (zSub_cons rfl (zSub_cons rfl (zSub_cons rfl (zSub_cons rfl (zSub_cons rfl (zSub_cons rfl zSub_nil))))))))))) ?_
          exact key300 _ (by rw [uO_s i0, if_pos (Decidable.not_not.mp (fun y => c_12 (hso.mpr y)))])
        · refine z_iconst X dL_holds_308 ?_
          refine z_goto X 313 dL_holds_309 (by decide) ?_
          refine z_iadd X dL_holds_313 ?_
          refine z_sub [(0, .ref (ad 0)), (1, vI (uO (gA σ) i)), (2, vI (uMk (gA σ) i 6)), (3, vI (uDk (gA σ) i 6)), (4, vI (uU (gA σ) i)), (5, vI 1), (6, vI i), (7, vI (uS (gA σ) i 6)), (8, vI (uL (gA σ) i 6)), (9, vI (uP (gA σ) i 6)), (10, vI (cDec (gA σ) i))] (zSub_cons rfl (zSub_cons rfl (zSub_cons rfl (zSub_cons rfl (zSub_cons rfl (zSub_cons rfl (zSub_cons rfl (zSub_cons rfl (zSub_cons rfl (zSub_cons rfl (zSub_cons rfl zSub_nil))))))))))) ?_
          exact key300 _ (by rw [uO_s i0, if_neg (hso.mp c_12)])
      intro v9 hv9
      subst hv9
      refine z_istore_n X dL_holds_314 (by decide) ?_
      refine z_sub [(0, .ref (ad 0)), (1, vI (uO (gA σ) (i + 1))), (2, vI (uMk (gA σ) i 6)), (3, vI (uDk (gA σ) i 6)), (4, vI (uU (gA σ) i)), (5, vI 1), (6, vI i), (7, vI (uS (gA σ) i 6)), (8, vI (uL (gA σ) i 6)), (9, vI (uP (gA σ) i 6)), (10, vI (cDec (gA σ) i))] (zSub_cons rfl (zSub_cons rfl (zSub_cons rfl (zSub_cons rfl (zSub_cons rfl (zSub_cons rfl (zSub_cons rfl (zSub_cons rfl (zSub_cons rfl (zSub_cons rfl (zSub_cons rfl zSub_nil))))))))))) ?_
      suffices key315 : ∀ v9 : Int, v9 = uU (gA σ) (i + 1) → zV p l e (iRm 10 6 48) s0 m args below meth c 12 D G ad 0 0 (zEC below (zQI D G ad sz (fun z σ9 => z = 1 ∧ σ9 = σ)) args s0 ad 6 48) 333 [(0, .ref (ad 0)), (1, vI (uO (gA σ) (i + 1))), (2, vI (uMk (gA σ) i 6)), (3, vI (uDk (gA σ) i 6)), (4, vI (uU (gA σ) i)), (5, vI 1), (6, vI i), (7, vI (uS (gA σ) i 6)), (8, vI (uL (gA σ) i 6)), (9, vI (uP (gA σ) i 6)), (10, vI (cDec (gA σ) i))] [vI v9] σ by
        refine z_iload X dL_holds_315 rfl ?_
        refine z_iload X dL_holds_317 rfl ?_
        refine z_if_eq X 331 dL_holds_319 (by decide) (by rcases uL_01 (gA σ) i 6 with h | h <;> rw [h] <;> exact ⟨by decide, by decide⟩) (fun c_13 => ?_) (fun c_13 => ?_)
        · refine z_iconst X dL_holds_331 ?_
          refine z_iadd X dL_holds_332 ?_
          refine z_sub [(0, .ref (ad 0)), (1, vI (uO (gA σ) (i + 1))), (2, vI (uMk (gA σ) i 6)), (3, vI (uDk (gA σ) i 6)), (4, vI (uU (gA σ) i)), (5, vI 1), (6, vI i), (7, vI (uS (gA σ) i 6)), (8, vI (uL (gA σ) i 6)), (9, vI (uP (gA σ) i 6)), (10, vI (cDec (gA σ) i))] (zSub_cons rfl (zSub_cons rfl (zSub_cons rfl (zSub_cons rfl (zSub_cons rfl (zSub_cons rfl (zSub_cons rfl (zSub_cons rfl (zSub_cons rfl (zSub_cons rfl (zSub_cons rfl zSub_nil))))))))))) ?_
          exact key315 _ (by rw [uU_s i0, if_neg (fun q => (hsu.mp q).1 c_13)])
        · refine z_iload X dL_holds_322 rfl ?_
          refine z_if_ne X 331 dL_holds_324 (by decide) (by rcases uP_01 (gA σ) i 6 with h | h <;> rw [h] <;> exact ⟨by decide, by decide⟩) (fun c_14 => ?_) (fun c_14 => ?_)
          · refine z_iconst X dL_holds_331 ?_
            refine z_iadd X dL_holds_332 ?_
            refine z_sub [(0, .ref (ad 0)), (1, vI (uO (gA σ) (i + 1))), (2, vI (uMk (gA σ) i 6)), (3, vI (uDk (gA σ) i 6)), (4, vI (uU (gA σ) i)), (5, vI 1), (6, vI i), (7, vI (uS (gA σ) i 6)), (8, vI (uL (gA σ) i 6)), (9, vI (uP (gA σ) i 6)), (10, vI (cDec (gA σ) i))] (zSub_cons rfl (zSub_cons rfl (zSub_cons rfl (zSub_cons rfl (zSub_cons rfl (zSub_cons rfl (zSub_cons rfl (zSub_cons rfl (zSub_cons rfl (zSub_cons rfl (zSub_cons rfl zSub_nil))))))))))) ?_
            exact key315 _ (by rw [uU_s i0, if_neg (fun q => c_14 (hsu.mp q).2)])
          · refine z_iconst X dL_holds_327 ?_
            refine z_goto X 332 dL_holds_328 (by decide) ?_
            refine z_iadd X dL_holds_332 ?_
            refine z_sub [(0, .ref (ad 0)), (1, vI (uO (gA σ) (i + 1))), (2, vI (uMk (gA σ) i 6)), (3, vI (uDk (gA σ) i 6)), (4, vI (uU (gA σ) i)), (5, vI 1), (6, vI i), (7, vI (uS (gA σ) i 6)), (8, vI (uL (gA σ) i 6)), (9, vI (uP (gA σ) i 6)), (10, vI (cDec (gA σ) i))] (zSub_cons rfl (zSub_cons rfl (zSub_cons rfl (zSub_cons rfl (zSub_cons rfl (zSub_cons rfl (zSub_cons rfl (zSub_cons rfl (zSub_cons rfl (zSub_cons rfl (zSub_cons rfl zSub_nil))))))))))) ?_
            exact key315 _ (by rw [uU_s i0, if_pos (hsu.mpr ⟨c_13, c_14⟩)])
      intro v9 hv9
      subst hv9
      refine z_istore X dL_holds_333 (by decide) ?_
      refine z_sub [(0, .ref (ad 0)), (1, vI (uO (gA σ) (i + 1))), (2, vI (uMk (gA σ) i 6)), (3, vI (uDk (gA σ) i 6)), (4, vI (uU (gA σ) (i + 1))), (5, vI 1), (6, vI i), (7, vI (uS (gA σ) i 6)), (8, vI (uL (gA σ) i 6)), (9, vI (uP (gA σ) i 6)), (10, vI (cDec (gA σ) i))] (zSub_cons rfl (zSub_cons rfl (zSub_cons rfl (zSub_cons rfl (zSub_cons rfl (zSub_cons rfl (zSub_cons rfl (zSub_cons rfl (zSub_cons rfl (zSub_cons rfl (zSub_cons rfl zSub_nil))))))))))) ?_
      refine z_iload X dL_holds_335 rfl ?_
      refine z_if_eq X 398 dL_holds_337 (by decide) ⟨by decide, by decide⟩ (fun h9 => absurd h9 (by decide)) (fun _ => ?_)
      suffices key340 : zV p l e (iRm 10 6 48) s0 m args below meth c 12 D G ad 0 0 (zEC below (zQI D G ad sz (fun z σ9 => z = 1 ∧ σ9 = σ)) args s0 ad 6 48) 394 [(0, .ref (ad 0)), (1, vI (uO (gA σ) (i + 1))), (2, vI (uMk (gA σ) i 6)), (3, vI (uDk (gA σ) i 6)), (4, vI (uU (gA σ) (i + 1))), (5, vI 1), (6, vI i), (7, vI (uS (gA σ) i 6)), (8, vI (uL (gA σ) i 6)), (9, vI (uP (gA σ) i 6)), (10, vI (cDec (gA σ) i))] [] σ by
        refine z_iload X dL_holds_340 rfl ?_
        refine z_bipush X dL_holds_342 rfl ?_
        refine z_and X dL_holds_344 (zAnd_eq (uS (gA σ) i 6) 12) ?_
        refine z_bipush X dL_holds_345 rfl ?_
        refine z_icmp_eq X 398 dL_holds_347 (by decide) (zB_toInt _) ⟨by decide, by decide⟩ (fun c_15 => (by exfalso; exact hse.1 c_15)) (fun c_15 => ?_)
        refine z_iload X dL_holds_350 rfl ?_
        refine z_iconst X dL_holds_352 ?_
        refine z_icmp_ne X 364 dL_holds_353 (by decide) (zB_sm (rg_dc fi.1 _)) ⟨by decide, by decide⟩ (fun c_16 => ?_) (fun c_16 => ?_)
        · refine z_iload X dL_holds_364 rfl ?_
          refine z_iconst X dL_holds_366 ?_
          refine z_and X dL_holds_367 (zAnd_eq (uS (gA σ) i 6) 4) ?_
          refine z_if_eq X 377 dL_holds_368 (by decide) (zB_toInt _) (fun c_17 => ?_) (fun c_17 => ?_)
          · refine z_iload X dL_holds_377 rfl ?_
            refine z_if_eq X 394 dL_holds_379 (by decide) (zB_sm (rg_dc fi.1 _)) (fun c_18 => ?_) (fun c_18 => ?_)
            · refine z_sub [(0, .ref (ad 0)), (1, vI (uO (gA σ) (i + 1))), (2, vI (uMk (gA σ) i 6)), (3, vI (uDk (gA σ) i 6)), (4, vI (uU (gA σ) (i + 1))), (5, vI 1), (6, vI i), (7, vI (uS (gA σ) i 6)), (8, vI (uL (gA σ) i 6)), (9, vI (uP (gA σ) i 6)), (10, vI (cDec (gA σ) i))] (zSub_cons rfl (zSub_cons rfl (zSub_cons rfl (zSub_cons rfl (zSub_cons rfl (zSub_cons rfl (zSub_cons rfl (zSub_cons rfl (zSub_cons rfl (zSub_cons rfl (zSub_cons rfl zSub_nil))))))))))) ?_
              exact key340
            · refine z_iload X dL_holds_382 rfl ?_
              refine z_iconst X dL_holds_384 ?_
              refine z_icmp_eq X 394 dL_holds_385 (by decide) (zB_sm (rg_dc fi.1 _)) ⟨by decide, by decide⟩ (fun c_19 => ?_) (fun c_19 => ?_)
              · refine z_sub [(0, .ref (ad 0)), (1, vI (uO (gA σ) (i + 1))), (2, vI (uMk (gA σ) i 6)), (3, vI (uDk (gA σ) i 6)), (4, vI (uU (gA σ) (i + 1))), (5, vI 1), (6, vI i), (7, vI (uS (gA σ) i 6)), (8, vI (uL (gA σ) i 6)), (9, vI (uP (gA σ) i 6)), (10, vI (cDec (gA σ) i))] (zSub_cons rfl (zSub_cons rfl (zSub_cons rfl (zSub_cons rfl (zSub_cons rfl (zSub_cons rfl (zSub_cons rfl (zSub_cons rfl (zSub_cons rfl (zSub_cons rfl (zSub_cons rfl zSub_nil))))))))))) ?_
                exact key340
              · refine z_iload X dL_holds_388 rfl ?_
                refine z_iconst X dL_holds_390 ?_
                refine z_icmp_ne X 398 dL_holds_391 (by decide) (zB_sm (rg_dc fi.1 _)) ⟨by decide, by decide⟩ (fun c_20 => (by exfalso; omega)) (fun c_20 => ?_)
                refine z_sub [(0, .ref (ad 0)), (1, vI (uO (gA σ) (i + 1))), (2, vI (uMk (gA σ) i 6)), (3, vI (uDk (gA σ) i 6)), (4, vI (uU (gA σ) (i + 1))), (5, vI 1), (6, vI i), (7, vI (uS (gA σ) i 6)), (8, vI (uL (gA σ) i 6)), (9, vI (uP (gA σ) i 6)), (10, vI (cDec (gA σ) i))] (zSub_cons rfl (zSub_cons rfl (zSub_cons rfl (zSub_cons rfl (zSub_cons rfl (zSub_cons rfl (zSub_cons rfl (zSub_cons rfl (zSub_cons rfl (zSub_cons rfl (zSub_cons rfl zSub_nil))))))))))) ?_
                exact key340
          · refine z_iload X dL_holds_371 rfl ?_
            refine z_iconst X dL_holds_373 ?_
            refine z_icmp_ne X 398 dL_holds_374 (by decide) (zB_sm (rg_dc fi.1 _)) ⟨by decide, by decide⟩ (fun c_21 => (by exfalso; (have q := hse.2.2.1 (by omega)); omega)) (fun c_21 => ?_)
            refine z_iload X dL_holds_377 rfl ?_
            refine z_if_eq X 394 dL_holds_379 (by decide) (zB_sm (rg_dc fi.1 _)) (fun c_22 => ?_) (fun c_22 => ?_)
            · refine z_sub [(0, .ref (ad 0)), (1, vI (uO (gA σ) (i + 1))), (2, vI (uMk (gA σ) i 6)), (3, vI (uDk (gA σ) i 6)), (4, vI (uU (gA σ) (i + 1))), (5, vI 1), (6, vI i), (7, vI (uS (gA σ) i 6)), (8, vI (uL (gA σ) i 6)), (9, vI (uP (gA σ) i 6)), (10, vI (cDec (gA σ) i))] (zSub_cons rfl (zSub_cons rfl (zSub_cons rfl (zSub_cons rfl (zSub_cons rfl (zSub_cons rfl (zSub_cons rfl (zSub_cons rfl (zSub_cons rfl (zSub_cons rfl (zSub_cons rfl zSub_nil))))))))))) ?_
              exact key340
            · refine z_iload X dL_holds_382 rfl ?_
              refine z_iconst X dL_holds_384 ?_
              refine z_icmp_eq X 394 dL_holds_385 (by decide) (zB_sm (rg_dc fi.1 _)) ⟨by decide, by decide⟩ (fun c_23 => ?_) (fun c_23 => ?_)
              · refine z_sub [(0, .ref (ad 0)), (1, vI (uO (gA σ) (i + 1))), (2, vI (uMk (gA σ) i 6)), (3, vI (uDk (gA σ) i 6)), (4, vI (uU (gA σ) (i + 1))), (5, vI 1), (6, vI i), (7, vI (uS (gA σ) i 6)), (8, vI (uL (gA σ) i 6)), (9, vI (uP (gA σ) i 6)), (10, vI (cDec (gA σ) i))] (zSub_cons rfl (zSub_cons rfl (zSub_cons rfl (zSub_cons rfl (zSub_cons rfl (zSub_cons rfl (zSub_cons rfl (zSub_cons rfl (zSub_cons rfl (zSub_cons rfl (zSub_cons rfl zSub_nil))))))))))) ?_
                exact key340
              · refine z_iload X dL_holds_388 rfl ?_
                refine z_iconst X dL_holds_390 ?_
                refine z_icmp_ne X 398 dL_holds_391 (by decide) (zB_sm (rg_dc fi.1 _)) ⟨by decide, by decide⟩ (fun c_24 => (by exfalso; omega)) (fun c_24 => ?_)
                refine z_sub [(0, .ref (ad 0)), (1, vI (uO (gA σ) (i + 1))), (2, vI (uMk (gA σ) i 6)), (3, vI (uDk (gA σ) i 6)), (4, vI (uU (gA σ) (i + 1))), (5, vI 1), (6, vI i), (7, vI (uS (gA σ) i 6)), (8, vI (uL (gA σ) i 6)), (9, vI (uP (gA σ) i 6)), (10, vI (cDec (gA σ) i))] (zSub_cons rfl (zSub_cons rfl (zSub_cons rfl (zSub_cons rfl (zSub_cons rfl (zSub_cons rfl (zSub_cons rfl (zSub_cons rfl (zSub_cons rfl (zSub_cons rfl (zSub_cons rfl zSub_nil))))))))))) ?_
                exact key340
        · refine z_iload X dL_holds_356 rfl ?_
          refine z_bipush X dL_holds_358 rfl ?_
          refine z_and X dL_holds_360 (zAnd_eq (uS (gA σ) i 6) 9) ?_
          refine z_if_ne X 398 dL_holds_361 (by decide) (zB_toInt _) (fun c_25 => (by exfalso; exact c_25 (hse.2.1 (by omega)))) (fun c_25 => ?_)
          refine z_iload X dL_holds_364 rfl ?_
          refine z_iconst X dL_holds_366 ?_
          refine z_and X dL_holds_367 (zAnd_eq (uS (gA σ) i 6) 4) ?_
          refine z_if_eq X 377 dL_holds_368 (by decide) (zB_toInt _) (fun c_26 => ?_) (fun c_26 => ?_)
          · refine z_iload X dL_holds_377 rfl ?_
            refine z_if_eq X 394 dL_holds_379 (by decide) (zB_sm (rg_dc fi.1 _)) (fun c_27 => ?_) (fun c_27 => ?_)
            · refine z_sub [(0, .ref (ad 0)), (1, vI (uO (gA σ) (i + 1))), (2, vI (uMk (gA σ) i 6)), (3, vI (uDk (gA σ) i 6)), (4, vI (uU (gA σ) (i + 1))), (5, vI 1), (6, vI i), (7, vI (uS (gA σ) i 6)), (8, vI (uL (gA σ) i 6)), (9, vI (uP (gA σ) i 6)), (10, vI (cDec (gA σ) i))] (zSub_cons rfl (zSub_cons rfl (zSub_cons rfl (zSub_cons rfl (zSub_cons rfl (zSub_cons rfl (zSub_cons rfl (zSub_cons rfl (zSub_cons rfl (zSub_cons rfl (zSub_cons rfl zSub_nil))))))))))) ?_
              exact key340
            · refine z_iload X dL_holds_382 rfl ?_
              refine z_iconst X dL_holds_384 ?_
              refine z_icmp_eq X 394 dL_holds_385 (by decide) (zB_sm (rg_dc fi.1 _)) ⟨by decide, by decide⟩ (fun c_28 => ?_) (fun c_28 => ?_)
              · refine z_sub [(0, .ref (ad 0)), (1, vI (uO (gA σ) (i + 1))), (2, vI (uMk (gA σ) i 6)), (3, vI (uDk (gA σ) i 6)), (4, vI (uU (gA σ) (i + 1))), (5, vI 1), (6, vI i), (7, vI (uS (gA σ) i 6)), (8, vI (uL (gA σ) i 6)), (9, vI (uP (gA σ) i 6)), (10, vI (cDec (gA σ) i))] (zSub_cons rfl (zSub_cons rfl (zSub_cons rfl (zSub_cons rfl (zSub_cons rfl (zSub_cons rfl (zSub_cons rfl (zSub_cons rfl (zSub_cons rfl (zSub_cons rfl (zSub_cons rfl zSub_nil))))))))))) ?_
                exact key340
              · refine z_iload X dL_holds_388 rfl ?_
                refine z_iconst X dL_holds_390 ?_
                refine z_icmp_ne X 398 dL_holds_391 (by decide) (zB_sm (rg_dc fi.1 _)) ⟨by decide, by decide⟩ (fun c_29 => (by exfalso; omega)) (fun c_29 => ?_)
                refine z_sub [(0, .ref (ad 0)), (1, vI (uO (gA σ) (i + 1))), (2, vI (uMk (gA σ) i 6)), (3, vI (uDk (gA σ) i 6)), (4, vI (uU (gA σ) (i + 1))), (5, vI 1), (6, vI i), (7, vI (uS (gA σ) i 6)), (8, vI (uL (gA σ) i 6)), (9, vI (uP (gA σ) i 6)), (10, vI (cDec (gA σ) i))] (zSub_cons rfl (zSub_cons rfl (zSub_cons rfl (zSub_cons rfl (zSub_cons rfl (zSub_cons rfl (zSub_cons rfl (zSub_cons rfl (zSub_cons rfl (zSub_cons rfl (zSub_cons rfl zSub_nil))))))))))) ?_
                exact key340
          · refine z_iload X dL_holds_371 rfl ?_
            refine z_iconst X dL_holds_373 ?_
            refine z_icmp_ne X 398 dL_holds_374 (by decide) (zB_sm (rg_dc fi.1 _)) ⟨by decide, by decide⟩ (fun c_30 => (by exfalso; (have q := hse.2.2.1 (by omega)); omega)) (fun c_30 => ?_)
            refine z_iload X dL_holds_377 rfl ?_
            refine z_if_eq X 394 dL_holds_379 (by decide) (zB_sm (rg_dc fi.1 _)) (fun c_31 => ?_) (fun c_31 => ?_)
            · refine z_sub [(0, .ref (ad 0)), (1, vI (uO (gA σ) (i + 1))), (2, vI (uMk (gA σ) i 6)), (3, vI (uDk (gA σ) i 6)), (4, vI (uU (gA σ) (i + 1))), (5, vI 1), (6, vI i), (7, vI (uS (gA σ) i 6)), (8, vI (uL (gA σ) i 6)), (9, vI (uP (gA σ) i 6)), (10, vI (cDec (gA σ) i))] (zSub_cons rfl (zSub_cons rfl (zSub_cons rfl (zSub_cons rfl (zSub_cons rfl (zSub_cons rfl (zSub_cons rfl (zSub_cons rfl (zSub_cons rfl (zSub_cons rfl (zSub_cons rfl zSub_nil))))))))))) ?_
              exact key340
            · refine z_iload X dL_holds_382 rfl ?_
              refine z_iconst X dL_holds_384 ?_
              refine z_icmp_eq X 394 dL_holds_385 (by decide) (zB_sm (rg_dc fi.1 _)) ⟨by decide, by decide⟩ (fun c_32 => ?_) (fun c_32 => ?_)
              · refine z_sub [(0, .ref (ad 0)), (1, vI (uO (gA σ) (i + 1))), (2, vI (uMk (gA σ) i 6)), (3, vI (uDk (gA σ) i 6)), (4, vI (uU (gA σ) (i + 1))), (5, vI 1), (6, vI i), (7, vI (uS (gA σ) i 6)), (8, vI (uL (gA σ) i 6)), (9, vI (uP (gA σ) i 6)), (10, vI (cDec (gA σ) i))] (zSub_cons rfl (zSub_cons rfl (zSub_cons rfl (zSub_cons rfl (zSub_cons rfl (zSub_cons rfl (zSub_cons rfl (zSub_cons rfl (zSub_cons rfl (zSub_cons rfl (zSub_cons rfl zSub_nil))))))))))) ?_
                exact key340
              · refine z_iload X dL_holds_388 rfl ?_
                refine z_iconst X dL_holds_390 ?_
                refine z_icmp_ne X 398 dL_holds_391 (by decide) (zB_sm (rg_dc fi.1 _)) ⟨by decide, by decide⟩ (fun c_33 => (by exfalso; omega)) (fun c_33 => ?_)
                refine z_sub [(0, .ref (ad 0)), (1, vI (uO (gA σ) (i + 1))), (2, vI (uMk (gA σ) i 6)), (3, vI (uDk (gA σ) i 6)), (4, vI (uU (gA σ) (i + 1))), (5, vI 1), (6, vI i), (7, vI (uS (gA σ) i 6)), (8, vI (uL (gA σ) i 6)), (9, vI (uP (gA σ) i 6)), (10, vI (cDec (gA σ) i))] (zSub_cons rfl (zSub_cons rfl (zSub_cons rfl (zSub_cons rfl (zSub_cons rfl (zSub_cons rfl (zSub_cons rfl (zSub_cons rfl (zSub_cons rfl (zSub_cons rfl (zSub_cons rfl zSub_nil))))))))))) ?_
                exact key340
      refine z_iconst X dL_holds_394 ?_
      refine z_goto X 399 dL_holds_395 (by decide) ?_
      refine z_istore X dL_holds_399 (by decide) ?_
      refine z_sub [(0, .ref (ad 0)), (1, vI (uO (gA σ) (i + 1))), (2, vI (uMk (gA σ) i 6)), (3, vI (uDk (gA σ) i 6)), (4, vI (uU (gA σ) (i + 1))), (5, vI 1), (6, vI i), (7, vI (uS (gA σ) i 6)), (8, vI (uL (gA σ) i 6)), (9, vI (uP (gA σ) i 6)), (10, vI (cDec (gA σ) i))] (zSub_cons rfl (zSub_cons rfl (zSub_cons rfl (zSub_cons rfl (zSub_cons rfl (zSub_cons rfl (zSub_cons rfl (zSub_cons rfl (zSub_cons rfl (zSub_cons rfl (zSub_cons rfl zSub_nil))))))))))) ?_
      refine z_iinc X dL_holds_401 rfl (by decide) ?_
      refine z_sub [(0, .ref (ad 0)), (1, vI (uO (gA σ) (i + 1))), (2, vI (uMk (gA σ) i 6)), (3, vI (uDk (gA σ) i 6)), (4, vI (uU (gA σ) (i + 1))), (5, vI 1), (6, vI (i + 1))] (zSub_cons rfl (zSub_cons rfl (zSub_cons rfl (zSub_cons rfl (zSub_cons rfl (zSub_cons rfl (zSub_cons rfl zSub_nil))))))) ?_
      refine z_goto X 15 dL_holds_404 (by decide) ?_
      rw [uM_s i0, uD_s i0]
      exact ih (by omega) () trivial
    · refine z_aload_n X dL_holds_43 rfl ?_
      refine z_iload X dL_holds_44 rfl ?_
      refine z_iload X dL_holds_46 rfl ?_
      refine z_callVI2 X (c_X3_state hJ σ fi (by first | assumption | exact ⟨by decide, by decide⟩ | (unfold zB at *; omega)) (by first | assumption | exact ⟨by decide, by decide⟩ | (unfold zB at *; omega)) ⟨by omega, by omega⟩ ⟨by omega, by omega⟩) kL_33 rfl (by decide) rfl ⟨(Nat.le_of_ble_eq_true rfl), (Nat.le_of_ble_eq_true rfl)⟩ (Nat.le_of_ble_eq_true rfl) ⟨Nat.zero_le _, Nat.zero_le _⟩ dL_holds_48 (fun z9 σ1 hz9 => ?_)
      obtain ⟨rfl, e9⟩ := hz9
      rw [e9]
      refine z_istore X dL_holds_51 (by decide) ?_
      refine z_sub [(0, .ref (ad 0)), (1, vI (uO (gA σ) i)), (2, vI (uMk (gA σ) i k)), (3, vI (uDk (gA σ) i k)), (4, vI (uU (gA σ) i)), (5, vI 1), (6, vI i), (7, vI (uS (gA σ) i k)), (8, vI (uL (gA σ) i k)), (9, vI (uP (gA σ) i k)), (10, vI k), (11, vI (cSt (gA σ) i k))] (zSub_cons rfl (zSub_cons rfl (zSub_cons rfl (zSub_cons rfl (zSub_cons rfl (zSub_cons rfl (zSub_cons rfl (zSub_cons rfl (zSub_cons rfl (zSub_cons rfl (zSub_cons rfl (zSub_cons rfl zSub_nil)))))))))))) ?_
      suffices key53 : ∀ v9 : Int, v9 = uS (gA σ) i (k + 1) → zV p l e (iRm 10 6 48) s0 m args below meth c 12 D G ad 0 0 (zEC below (zQI D G ad sz (fun z σ9 => z = 1 ∧ σ9 = σ)) args s0 ad 6 48) 69 [(0, .ref (ad 0)), (1, vI (uO (gA σ) i)), (2, vI (uMk (gA σ) i k)), (3, vI (uDk (gA σ) i k)), (4, vI (uU (gA σ) i)), (5, vI 1), (6, vI i), (7, vI (uS (gA σ) i k)), (8, vI (uL (gA σ) i k)), (9, vI (uP (gA σ) i k)), (10, vI k), (11, vI (cSt (gA σ) i k))] [vI v9] σ by
        refine z_iload X dL_holds_53 rfl ?_
        refine z_iload X dL_holds_55 rfl ?_
        refine z_if_ge X 64 dL_holds_57 (by decide) (zB_sm (rg_st fi.1 _ _)) (fun c_34 => ?_) (fun c_34 => ?_)
        · refine z_iconst X dL_holds_64 ?_
          refine z_iload X dL_holds_65 rfl ?_
          refine z_shl X dL_holds_67 (zShl_eq 1 (cSt (gA σ) i k)) ?_
          refine z_or X dL_holds_68 (zOr_eq (uS (gA σ) i k) (zShl 1 (cSt (gA σ) i k))) ?_
          refine z_sub [(0, .ref (ad 0)), (1, vI (uO (gA σ) i)), (2, vI (uMk (gA σ) i k)), (3, vI (uDk (gA σ) i k)), (4, vI (uU (gA σ) i)), (5, vI 1), (6, vI i), (7, vI (uS (gA σ) i k)), (8, vI (uL (gA σ) i k)), (9, vI (uP (gA σ) i k)), (10, vI k), (11, vI (cSt (gA σ) i k))] (zSub_cons rfl (zSub_cons rfl (zSub_cons rfl (zSub_cons rfl (zSub_cons rfl (zSub_cons rfl (zSub_cons rfl (zSub_cons rfl (zSub_cons rfl (zSub_cons rfl (zSub_cons rfl (zSub_cons rfl zSub_nil)))))))))))) ?_
          exact key53 _ (uS_p k0 c_34 (rg_st fi.1 _ _).2)
        · refine z_iconst X dL_holds_60 ?_
          refine z_goto X 68 dL_holds_61 (by decide) ?_
          refine z_or X dL_holds_68 (zOr_eq (uS (gA σ) i k) 0) ?_
          refine z_sub [(0, .ref (ad 0)), (1, vI (uO (gA σ) i)), (2, vI (uMk (gA σ) i k)), (3, vI (uDk (gA σ) i k)), (4, vI (uU (gA σ) i)), (5, vI 1), (6, vI i), (7, vI (uS (gA σ) i k)), (8, vI (uL (gA σ) i k)), (9, vI (uP (gA σ) i k)), (10, vI k), (11, vI (cSt (gA σ) i k))] (zSub_cons rfl (zSub_cons rfl (zSub_cons rfl (zSub_cons rfl (zSub_cons rfl (zSub_cons rfl (zSub_cons rfl (zSub_cons rfl (zSub_cons rfl (zSub_cons rfl (zSub_cons rfl (zSub_cons rfl zSub_nil)))))))))))) ?_
          exact key53 _ (uS_n k0 c_34)
      intro v9 hv9
      subst hv9
      refine z_istore X dL_holds_69 (by decide) ?_
      refine z_sub [(0, .ref (ad 0)), (1, vI (uO (gA σ) i)), (2, vI (uMk (gA σ) i k)), (3, vI (uDk (gA σ) i k)), (4, vI (uU (gA σ) i)), (5, vI 1), (6, vI i), (7, vI (uS (gA σ) i (k + 1))), (8, vI (uL (gA σ) i k)), (9, vI (uP (gA σ) i k)), (10, vI k), (11, vI (cSt (gA σ) i k))] (zSub_cons rfl (zSub_cons rfl (zSub_cons rfl (zSub_cons rfl (zSub_cons rfl (zSub_cons rfl (zSub_cons rfl (zSub_cons rfl (zSub_cons rfl (zSub_cons rfl (zSub_cons rfl (zSub_cons rfl zSub_nil)))))))))))) ?_
      suffices key71 : ∀ v9 : Int, v9 = uMk (gA σ) i (k + 1) → zV p l e (iRm 10 6 48) s0 m args below meth c 12 D G ad 0 0 (zEC below (zQI D G ad sz (fun z σ9 => z = 1 ∧ σ9 = σ)) args s0 ad 6 48) 83 [(0, .ref (ad 0)), (1, vI (uO (gA σ) i)), (2, vI (uMk (gA σ) i k)), (3, vI (uDk (gA σ) i k)), (4, vI (uU (gA σ) i)), (5, vI 1), (6, vI i), (7, vI (uS (gA σ) i (k + 1))), (8, vI (uL (gA σ) i k)), (9, vI (uP (gA σ) i k)), (10, vI k), (11, vI (cSt (gA σ) i k))] [vI v9] σ by
        refine z_iload_n X dL_holds_71 rfl ?_
        refine z_iload X dL_holds_72 rfl ?_
        refine z_if_ge X 81 dL_holds_74 (by decide) (zB_sm (rg_st fi.1 _ _)) (fun c_35 => ?_) (fun c_35 => ?_)
        · refine z_iconst X dL_holds_81 ?_
          refine z_iadd X dL_holds_82 ?_
          refine z_sub [(0, .ref (ad 0)), (1, vI (uO (gA σ) i)), (2, vI (uMk (gA σ) i k)), (3, vI (uDk (gA σ) i k)), (4, vI (uU (gA σ) i)), (5, vI 1), (6, vI i), (7, vI (uS (gA σ) i (k + 1))), (8, vI (uL (gA σ) i k)), (9, vI (uP (gA σ) i k)), (10, vI k), (11, vI (cSt (gA σ) i k))] (zSub_cons rfl (zSub_cons rfl (zSub_cons rfl (zSub_cons rfl (zSub_cons rfl (zSub_cons rfl (zSub_cons rfl (zSub_cons rfl (zSub_cons rfl (zSub_cons rfl (zSub_cons rfl (zSub_cons rfl zSub_nil)))))))))))) ?_
          exact key71 _ (by have hr := rg_st fi.1 i k; rw [uMk_s k0]; split <;> omega)
        · refine z_iconst X dL_holds_77 ?_
          refine z_goto X 82 dL_holds_78 (by decide) ?_
          refine z_iadd X dL_holds_82 ?_
          refine z_sub [(0, .ref (ad 0)), (1, vI (uO (gA σ) i)), (2, vI (uMk (gA σ) i k)), (3, vI (uDk (gA σ) i k)), (4, vI (uU (gA σ) i)), (5, vI 1), (6, vI i), (7, vI (uS (gA σ) i (k + 1))), (8, vI (uL (gA σ) i k)), (9, vI (uP (gA σ) i k)), (10, vI k), (11, vI (cSt (gA σ) i k))] (zSub_cons rfl (zSub_cons rfl (zSub_cons rfl (zSub_cons rfl (zSub_cons rfl (zSub_cons rfl (zSub_cons rfl (zSub_cons rfl (zSub_cons rfl (zSub_cons rfl (zSub_cons rfl (zSub_cons rfl zSub_nil)))))))))))) ?_
          exact key71 _ (by have hr := rg_st fi.1 i k; rw [uMk_s k0]; split <;> omega)
      intro v9 hv9
      subst hv9
      refine z_istore_n X dL_holds_83 (by decide) ?_
      refine z_sub [(0, .ref (ad 0)), (1, vI (uO (gA σ) i)), (2, vI (uMk (gA σ) i (k + 1))), (3, vI (uDk (gA σ) i k)), (4, vI (uU (gA σ) i)), (5, vI 1), (6, vI i), (7, vI (uS (gA σ) i (k + 1))), (8, vI (uL (gA σ) i k)), (9, vI (uP (gA σ) i k)), (10, vI k), (11, vI (cSt (gA σ) i k))] (zSub_cons rfl (zSub_cons rfl (zSub_cons rfl (zSub_cons rfl (zSub_cons rfl (zSub_cons rfl (zSub_cons rfl (zSub_cons rfl (zSub_cons rfl (zSub_cons rfl (zSub_cons rfl (zSub_cons rfl zSub_nil)))))))))))) ?_
      suffices key84 : ∀ v9 : Int, v9 = uDk (gA σ) i (k + 1) → zV p l e (iRm 10 6 48) s0 m args below meth c 12 D G ad 0 0 (zEC below (zQI D G ad sz (fun z σ9 => z = 1 ∧ σ9 = σ)) args s0 ad 6 48) 97 [(0, .ref (ad 0)), (1, vI (uO (gA σ) i)), (2, vI (uMk (gA σ) i (k + 1))), (3, vI (uDk (gA σ) i k)), (4, vI (uU (gA σ) i)), (5, vI 1), (6, vI i), (7, vI (uS (gA σ) i (k + 1))), (8, vI (uL (gA σ) i k)), (9, vI (uP (gA σ) i k)), (10, vI k), (11, vI (cSt (gA σ) i k))] [vI v9] σ by
        refine z_iload_n X dL_holds_84 rfl ?_
        refine z_iload X dL_holds_85 rfl ?_
        refine z_iconst X dL_holds_87 ?_
        refine z_icmp_ne X 95 dL_holds_88 (by decide) (zB_sm (rg_st fi.1 _ _)) ⟨by decide, by decide⟩ (fun c_36 => ?_) (fun c_36 => ?_)
        · refine z_iconst X dL_holds_95 ?_
          refine z_iadd X dL_holds_96 ?_
          refine z_sub [(0, .ref (ad 0)), (1, vI (uO (gA σ) i)), (2, vI (uMk (gA σ) i (k + 1))), (3, vI (uDk (gA σ) i k)), (4, vI (uU (gA σ) i)), (5, vI 1), (6, vI i), (7, vI (uS (gA σ) i (k + 1))), (8, vI (uL (gA σ) i k)), (9, vI (uP (gA σ) i k)), (10, vI k), (11, vI (cSt (gA σ) i k))] (zSub_cons rfl (zSub_cons rfl (zSub_cons rfl (zSub_cons rfl (zSub_cons rfl (zSub_cons rfl (zSub_cons rfl (zSub_cons rfl (zSub_cons rfl (zSub_cons rfl (zSub_cons rfl (zSub_cons rfl zSub_nil)))))))))))) ?_
          exact key84 _ (by rw [uDk_s k0]; split <;> omega)
        · refine z_iconst X dL_holds_91 ?_
          refine z_goto X 96 dL_holds_92 (by decide) ?_
          refine z_iadd X dL_holds_96 ?_
          refine z_sub [(0, .ref (ad 0)), (1, vI (uO (gA σ) i)), (2, vI (uMk (gA σ) i (k + 1))), (3, vI (uDk (gA σ) i k)), (4, vI (uU (gA σ) i)), (5, vI 1), (6, vI i), (7, vI (uS (gA σ) i (k + 1))), (8, vI (uL (gA σ) i k)), (9, vI (uP (gA σ) i k)), (10, vI k), (11, vI (cSt (gA σ) i k))] (zSub_cons rfl (zSub_cons rfl (zSub_cons rfl (zSub_cons rfl (zSub_cons rfl (zSub_cons rfl (zSub_cons rfl (zSub_cons rfl (zSub_cons rfl (zSub_cons rfl (zSub_cons rfl (zSub_cons rfl zSub_nil)))))))))))) ?_
          exact key84 _ (by rw [uDk_s k0]; split <;> omega)
      intro v9 hv9
      subst hv9
      refine z_istore_n X dL_holds_97 (by decide) ?_
      refine z_sub [(0, .ref (ad 0)), (1, vI (uO (gA σ) i)), (2, vI (uMk (gA σ) i (k + 1))), (3, vI (uDk (gA σ) i (k + 1))), (4, vI (uU (gA σ) i)), (5, vI 1), (6, vI i), (7, vI (uS (gA σ) i (k + 1))), (8, vI (uL (gA σ) i k)), (9, vI (uP (gA σ) i k)), (10, vI k), (11, vI (cSt (gA σ) i k))] (zSub_cons rfl (zSub_cons rfl (zSub_cons rfl (zSub_cons rfl (zSub_cons rfl (zSub_cons rfl (zSub_cons rfl (zSub_cons rfl (zSub_cons rfl (zSub_cons rfl (zSub_cons rfl (zSub_cons rfl zSub_nil)))))))))))) ?_
      suffices key98 : ∀ v9 : Int, v9 = uL (gA σ) i (k + 1) → zV p l e (iRm 10 6 48) s0 m args below meth c 12 D G ad 0 0 (zEC below (zQI D G ad sz (fun z σ9 => z = 1 ∧ σ9 = σ)) args s0 ad 6 48) 123 [(0, .ref (ad 0)), (1, vI (uO (gA σ) i)), (2, vI (uMk (gA σ) i (k + 1))), (3, vI (uDk (gA σ) i (k + 1))), (4, vI (uU (gA σ) i)), (5, vI 1), (6, vI i), (7, vI (uS (gA σ) i (k + 1))), (8, vI (uL (gA σ) i k)), (9, vI (uP (gA σ) i k)), (10, vI k), (11, vI (cSt (gA σ) i k))] [vI v9] σ by
        refine z_iload X dL_holds_98 rfl ?_
        refine z_if_ne X 118 dL_holds_100 (by decide) (by rcases uL_01 (gA σ) i k with h | h <;> rw [h] <;> exact ⟨by decide, by decide⟩) (fun c_37 => ?_) (fun c_37 => ?_)
        · refine z_iconst X dL_holds_118 ?_
          refine z_goto X 123 dL_holds_119 (by decide) ?_
          refine z_sub [(0, .ref (ad 0)), (1, vI (uO (gA σ) i)), (2, vI (uMk (gA σ) i (k + 1))), (3, vI (uDk (gA σ) i (k + 1))), (4, vI (uU (gA σ) i)), (5, vI 1), (6, vI i), (7, vI (uS (gA σ) i (k + 1))), (8, vI (uL (gA σ) i k)), (9, vI (uP (gA σ) i k)), (10, vI k), (11, vI (cSt (gA σ) i k))] (zSub_cons rfl (zSub_cons rfl (zSub_cons rfl (zSub_cons rfl (zSub_cons rfl (zSub_cons rfl (zSub_cons rfl (zSub_cons rfl (zSub_cons rfl (zSub_cons rfl (zSub_cons rfl (zSub_cons rfl zSub_nil)))))))))))) ?_
          exact key98 _ (uL_t k0 (Or.inl c_37)).symm
        · refine z_iload X dL_holds_103 rfl ?_
          refine z_iconst X dL_holds_105 ?_
          refine z_icmp_ne X 122 dL_holds_106 (by decide) (zB_sm (rg_st fi.1 _ _)) ⟨by decide, by decide⟩ (fun c_38 => ?_) (fun c_38 => ?_)
          · refine z_iconst X dL_holds_122 ?_
            refine z_sub [(0, .ref (ad 0)), (1, vI (uO (gA σ) i)), (2, vI (uMk (gA σ) i (k + 1))), (3, vI (uDk (gA σ) i (k + 1))), (4, vI (uU (gA σ) i)), (5, vI 1), (6, vI i), (7, vI (uS (gA σ) i (k + 1))), (8, vI (uL (gA σ) i k)), (9, vI (uP (gA σ) i k)), (10, vI k), (11, vI (cSt (gA σ) i k))] (zSub_cons rfl (zSub_cons rfl (zSub_cons rfl (zSub_cons rfl (zSub_cons rfl (zSub_cons rfl (zSub_cons rfl (zSub_cons rfl (zSub_cons rfl (zSub_cons rfl (zSub_cons rfl (zSub_cons rfl zSub_nil)))))))))))) ?_
            exact key98 _ (uL_f k0 c_37 (fun q => c_38 q.2)).symm
          · refine z_aload_n X dL_holds_109 rfl ?_
            refine z_iload X dL_holds_110 rfl ?_
            refine z_callVI1 X (c_X3_isUp hJ σ fi (by first | assumption | exact ⟨by decide, by decide⟩ | (unfold zB at *; omega)) ⟨by omega, by omega⟩) kL_21 rfl (by decide) rfl ⟨(Nat.le_of_ble_eq_true rfl), (Nat.le_of_ble_eq_true rfl)⟩ (Nat.le_of_ble_eq_true rfl) ⟨Nat.zero_le _, Nat.zero_le _⟩ dL_holds_112 (fun z9 σ1 hz9 => ?_)
            obtain ⟨rfl, e9⟩ := hz9
            rw [e9]
            refine z_ifb_eq X 122 dL_holds_115 (by decide) (fun c_39 => ?_) (fun c_39 => ?_)
            · refine z_iconst X dL_holds_122 ?_
              refine z_sub [(0, .ref (ad 0)), (1, vI (uO (gA σ) i)), (2, vI (uMk (gA σ) i (k + 1))), (3, vI (uDk (gA σ) i (k + 1))), (4, vI (uU (gA σ) i)), (5, vI 1), (6, vI i), (7, vI (uS (gA σ) i (k + 1))), (8, vI (uL (gA σ) i k)), (9, vI (uP (gA σ) i k)), (10, vI k), (11, vI (cSt (gA σ) i k))] (zSub_cons rfl (zSub_cons rfl (zSub_cons rfl (zSub_cons rfl (zSub_cons rfl (zSub_cons rfl (zSub_cons rfl (zSub_cons rfl (zSub_cons rfl (zSub_cons rfl (zSub_cons rfl (zSub_cons rfl zSub_nil)))))))))))) ?_
              exact key98 _ (uL_f k0 c_37 (fun q => c_39 q.1)).symm
            · refine z_iconst X dL_holds_118 ?_
              refine z_goto X 123 dL_holds_119 (by decide) ?_
              refine z_sub [(0, .ref (ad 0)), (1, vI (uO (gA σ) i)), (2, vI (uMk (gA σ) i (k + 1))), (3, vI (uDk (gA σ) i (k + 1))), (4, vI (uU (gA σ) i)), (5, vI 1), (6, vI i), (7, vI (uS (gA σ) i (k + 1))), (8, vI (uL (gA σ) i k)), (9, vI (uP (gA σ) i k)), (10, vI k), (11, vI (cSt (gA σ) i k))] (zSub_cons rfl (zSub_cons rfl (zSub_cons rfl (zSub_cons rfl (zSub_cons rfl (zSub_cons rfl (zSub_cons rfl (zSub_cons rfl (zSub_cons rfl (zSub_cons rfl (zSub_cons rfl (zSub_cons rfl zSub_nil)))))))))))) ?_
              exact key98 _ (uL_t k0 (Or.inr ⟨c_39, c_38⟩)).symm
      intro v9 hv9
      subst hv9
      refine z_istore X dL_holds_123 (by decide) ?_
      refine z_sub [(0, .ref (ad 0)), (1, vI (uO (gA σ) i)), (2, vI (uMk (gA σ) i (k + 1))), (3, vI (uDk (gA σ) i (k + 1))), (4, vI (uU (gA σ) i)), (5, vI 1), (6, vI i), (7, vI (uS (gA σ) i (k + 1))), (8, vI (uL (gA σ) i (k + 1))), (9, vI (uP (gA σ) i k)), (10, vI k), (11, vI (cSt (gA σ) i k))] (zSub_cons rfl (zSub_cons rfl (zSub_cons rfl (zSub_cons rfl (zSub_cons rfl (zSub_cons rfl (zSub_cons rfl (zSub_cons rfl (zSub_cons rfl (zSub_cons rfl (zSub_cons rfl (zSub_cons rfl zSub_nil)))))))))))) ?_
      suffices key125 : ∀ v9 : Int, v9 = uP (gA σ) i (k + 1) → zV p l e (iRm 10 6 48) s0 m args below meth c 12 D G ad 0 0 (zEC below (zQI D G ad sz (fun z σ9 => z = 1 ∧ σ9 = σ)) args s0 ad 6 48) 147 [(0, .ref (ad 0)), (1, vI (uO (gA σ) i)), (2, vI (uMk (gA σ) i (k + 1))), (3, vI (uDk (gA σ) i (k + 1))), (4, vI (uU (gA σ) i)), (5, vI 1), (6, vI i), (7, vI (uS (gA σ) i (k + 1))), (8, vI (uL (gA σ) i (k + 1))), (9, vI (uP (gA σ) i k)), (10, vI k), (11, vI (cSt (gA σ) i k))] [vI v9] σ by
        refine z_iload X dL_holds_125 rfl ?_
        refine z_if_ne X 142 dL_holds_127 (by decide) (by rcases uP_01 (gA σ) i k with h | h <;> rw [h] <;> exact ⟨by decide, by decide⟩) (fun c_40 => ?_) (fun c_40 => ?_)
        · refine z_iconst X dL_holds_142 ?_
          refine z_goto X 147 dL_holds_143 (by decide) ?_
          refine z_sub [(0, .ref (ad 0)), (1, vI (uO (gA σ) i)), (2, vI (uMk (gA σ) i (k + 1))), (3, vI (uDk (gA σ) i (k + 1))), (4, vI (uU (gA σ) i)), (5, vI 1), (6, vI i), (7, vI (uS (gA σ) i (k + 1))), (8, vI (uL (gA σ) i (k + 1))), (9, vI (uP (gA σ) i k)), (10, vI k), (11, vI (cSt (gA σ) i k))] (zSub_cons rfl (zSub_cons rfl (zSub_cons rfl (zSub_cons rfl (zSub_cons rfl (zSub_cons rfl (zSub_cons rfl (zSub_cons rfl (zSub_cons rfl (zSub_cons rfl (zSub_cons rfl (zSub_cons rfl zSub_nil)))))))))))) ?_
          exact key125 _ (uP_t k0 (Or.inl c_40)).symm
        · refine z_aload_n X dL_holds_130 rfl ?_
          refine z_iload X dL_holds_131 rfl ?_
          refine z_iload X dL_holds_133 rfl ?_
          refine z_callVI2 X (c_X3_helper hJ σ fi (by first | assumption | exact ⟨by decide, by decide⟩ | (unfold zB at *; omega)) (by first | assumption | exact ⟨by decide, by decide⟩ | (unfold zB at *; omega)) ⟨by omega, by omega⟩ ⟨by omega, by omega⟩) kL_64 rfl (by decide) rfl ⟨(Nat.le_of_ble_eq_true rfl), (Nat.le_of_ble_eq_true rfl)⟩ (Nat.le_of_ble_eq_true rfl) ⟨Nat.zero_le _, Nat.zero_le _⟩ dL_holds_135 (fun z9 σ1 hz9 => ?_)
          obtain ⟨rfl, e9⟩ := hz9
          rw [e9]
          refine z_iconst X dL_holds_138 ?_
          refine z_icmp_eq X 146 dL_holds_139 (by decide) (zB_sm (rg_help _ _ _)) ⟨by decide, by decide⟩ (fun c_41 => ?_) (fun c_41 => ?_)
          · refine z_iconst X dL_holds_146 ?_
            refine z_sub [(0, .ref (ad 0)), (1, vI (uO (gA σ) i)), (2, vI (uMk (gA σ) i (k + 1))), (3, vI (uDk (gA σ) i (k + 1))), (4, vI (uU (gA σ) i)), (5, vI 1), (6, vI i), (7, vI (uS (gA σ) i (k + 1))), (8, vI (uL (gA σ) i (k + 1))), (9, vI (uP (gA σ) i k)), (10, vI k), (11, vI (cSt (gA σ) i k))] (zSub_cons rfl (zSub_cons rfl (zSub_cons rfl (zSub_cons rfl (zSub_cons rfl (zSub_cons rfl (zSub_cons rfl (zSub_cons rfl (zSub_cons rfl (zSub_cons rfl (zSub_cons rfl (zSub_cons rfl zSub_nil)))))))))))) ?_
            exact key125 _ (uP_f k0 c_40 c_41).symm
          · refine z_iconst X dL_holds_142 ?_
            refine z_goto X 147 dL_holds_143 (by decide) ?_
            refine z_sub [(0, .ref (ad 0)), (1, vI (uO (gA σ) i)), (2, vI (uMk (gA σ) i (k + 1))), (3, vI (uDk (gA σ) i (k + 1))), (4, vI (uU (gA σ) i)), (5, vI 1), (6, vI i), (7, vI (uS (gA σ) i (k + 1))), (8, vI (uL (gA σ) i (k + 1))), (9, vI (uP (gA σ) i k)), (10, vI k), (11, vI (cSt (gA σ) i k))] (zSub_cons rfl (zSub_cons rfl (zSub_cons rfl (zSub_cons rfl (zSub_cons rfl (zSub_cons rfl (zSub_cons rfl (zSub_cons rfl (zSub_cons rfl (zSub_cons rfl (zSub_cons rfl (zSub_cons rfl zSub_nil)))))))))))) ?_
            exact key125 _ (uP_t k0 (Or.inr c_41)).symm
      intro v9 hv9
      subst hv9
      refine z_istore X dL_holds_147 (by decide) ?_
      refine z_sub [(0, .ref (ad 0)), (1, vI (uO (gA σ) i)), (2, vI (uMk (gA σ) i (k + 1))), (3, vI (uDk (gA σ) i (k + 1))), (4, vI (uU (gA σ) i)), (5, vI 1), (6, vI i), (7, vI (uS (gA σ) i (k + 1))), (8, vI (uL (gA σ) i (k + 1))), (9, vI (uP (gA σ) i (k + 1))), (10, vI k), (11, vI (cSt (gA σ) i k))] (zSub_cons rfl (zSub_cons rfl (zSub_cons rfl (zSub_cons rfl (zSub_cons rfl (zSub_cons rfl (zSub_cons rfl (zSub_cons rfl (zSub_cons rfl (zSub_cons rfl (zSub_cons rfl (zSub_cons rfl zSub_nil)))))))))))) ?_
      refine z_iload X dL_holds_149 rfl ?_
      refine z_if_eq X 220 dL_holds_151 (by decide) ⟨by decide, by decide⟩ (fun h9 => absurd h9 (by decide)) (fun _ => ?_)
      have hpat := pat_ok fi.1 i k
      suffices key154 : zV p l e (iRm 10 6 48) s0 m args below meth c 12 D G ad 0 0 (zEC below (zQI D G ad sz (fun z σ9 => z = 1 ∧ σ9 = σ)) args s0 ad 6 48) 216 [(0, .ref (ad 0)), (1, vI (uO (gA σ) i)), (2, vI (uMk (gA σ) i (k + 1))), (3, vI (uDk (gA σ) i (k + 1))), (4, vI (uU (gA σ) i)), (5, vI 1), (6, vI i), (7, vI (uS (gA σ) i (k + 1))), (8, vI (uL (gA σ) i (k + 1))), (9, vI (uP (gA σ) i (k + 1))), (10, vI k), (11, vI (cSt (gA σ) i k))] [] σ by
        refine z_iload X dL_holds_154 rfl ?_
        refine z_iconst X dL_holds_156 ?_
        refine z_icmp_ne X 164 dL_holds_157 (by decide) (zB_sm (rg_st fi.1 _ _)) ⟨by decide, by decide⟩ (fun c_42 => ?_) (fun c_42 => ?_)
        · refine z_iconst X dL_holds_164 ?_
          refine z_aload_n X dL_holds_165 rfl ?_
          refine z_iload X dL_holds_166 rfl ?_
          refine z_iload X dL_holds_168 rfl ?_
          refine z_callVI2 X (c_X3_patience hJ σ fi (by first | assumption | exact ⟨by decide, by decide⟩ | (unfold zB at *; omega)) (by first | assumption | exact ⟨by decide, by decide⟩ | (unfold zB at *; omega)) ⟨by omega, by omega⟩ ⟨by omega, by omega⟩) kL_67 rfl (by decide) rfl ⟨(Nat.le_of_ble_eq_true rfl), (Nat.le_of_ble_eq_true rfl)⟩ (Nat.le_of_ble_eq_true rfl) ⟨Nat.zero_le _, Nat.zero_le _⟩ dL_holds_170 (fun z9 σ1 hz9 => ?_)
          obtain ⟨rfl, e9⟩ := hz9
          rw [e9]
          refine z_iconst X dL_holds_173 ?_
          refine z_icmp_eq X 181 dL_holds_174 (by decide) (zB_sm (rg_pat fi.1 _ _)) ⟨by decide, by decide⟩ (fun c_43 => ?_) (fun c_43 => ?_)
          · refine z_iconst X dL_holds_181 ?_
            refine z_icmp_ne X 220 dL_holds_182 (by decide) ⟨by decide, by decide⟩ ⟨by decide, by decide⟩ (fun h9 => absurd h9 (by decide)) (fun _ => ?_)
            refine z_iload X dL_holds_185 rfl ?_
            refine z_iconst X dL_holds_187 ?_
            refine z_icmp_ne X 216 dL_holds_188 (by decide) (zB_sm (rg_st fi.1 _ _)) ⟨by decide, by decide⟩ (fun c_44 => ?_) (fun c_44 => ?_)
            · refine z_sub [(0, .ref (ad 0)), (1, vI (uO (gA σ) i)), (2, vI (uMk (gA σ) i (k + 1))), (3, vI (uDk (gA σ) i (k + 1))), (4, vI (uU (gA σ) i)), (5, vI 1), (6, vI i), (7, vI (uS (gA σ) i (k + 1))), (8, vI (uL (gA σ) i (k + 1))), (9, vI (uP (gA σ) i (k + 1))), (10, vI k), (11, vI (cSt (gA σ) i k))] (zSub_cons rfl (zSub_cons rfl (zSub_cons rfl (zSub_cons rfl (zSub_cons rfl (zSub_cons rfl (zSub_cons rfl (zSub_cons rfl (zSub_cons rfl (zSub_cons rfl (zSub_cons rfl (zSub_cons rfl zSub_nil)))))))))))) ?_
              exact key154
            · refine z_aload_n X dL_holds_191 rfl ?_
              refine z_iload X dL_holds_192 rfl ?_
              refine z_iload X dL_holds_194 rfl ?_
              refine z_callVI2 X (c_X3_patience hJ σ fi (by first | assumption | exact ⟨by decide, by decide⟩ | (unfold zB at *; omega)) (by first | assumption | exact ⟨by decide, by decide⟩ | (unfold zB at *; omega)) ⟨by omega, by omega⟩ ⟨by omega, by omega⟩) kL_67 rfl (by decide) rfl ⟨(Nat.le_of_ble_eq_true rfl), (Nat.le_of_ble_eq_true rfl)⟩ (Nat.le_of_ble_eq_true rfl) ⟨Nat.zero_le _, Nat.zero_le _⟩ dL_holds_196 (fun z9 σ1 hz9 => ?_)
              obtain ⟨rfl, e9⟩ := hz9
              rw [e9]
              refine z_iconst X dL_holds_199 ?_
              refine z_icmp_lt X 220 dL_holds_200 (by decide) (zB_sm (rg_pat fi.1 _ _)) ⟨by decide, by decide⟩ (fun c_45 => (by exfalso; omega)) (fun c_45 => ?_)
              refine z_aload_n X dL_holds_203 rfl ?_
              refine z_iload X dL_holds_204 rfl ?_
              refine z_iload X dL_holds_206 rfl ?_
              refine z_callVI2 X (c_X3_patience hJ σ fi (by first | assumption | exact ⟨by decide, by decide⟩ | (unfold zB at *; omega)) (by first | assumption | exact ⟨by decide, by decide⟩ | (unfold zB at *; omega)) ⟨by omega, by omega⟩ ⟨by omega, by omega⟩) kL_67 rfl (by decide) rfl ⟨(Nat.le_of_ble_eq_true rfl), (Nat.le_of_ble_eq_true rfl)⟩ (Nat.le_of_ble_eq_true rfl) ⟨Nat.zero_le _, Nat.zero_le _⟩ dL_holds_208 (fun z9 σ1 hz9 => ?_)
              obtain ⟨rfl, e9⟩ := hz9
              rw [e9]
              refine z_bipush X dL_holds_211 rfl ?_
              refine z_icmp_gt X 220 dL_holds_213 (by decide) (zB_sm (rg_pat fi.1 _ _)) ⟨by decide, by decide⟩ (fun c_46 => (by exfalso; omega)) (fun c_46 => ?_)
              refine z_sub [(0, .ref (ad 0)), (1, vI (uO (gA σ) i)), (2, vI (uMk (gA σ) i (k + 1))), (3, vI (uDk (gA σ) i (k + 1))), (4, vI (uU (gA σ) i)), (5, vI 1), (6, vI i), (7, vI (uS (gA σ) i (k + 1))), (8, vI (uL (gA σ) i (k + 1))), (9, vI (uP (gA σ) i (k + 1))), (10, vI k), (11, vI (cSt (gA σ) i k))] (zSub_cons rfl (zSub_cons rfl (zSub_cons rfl (zSub_cons rfl (zSub_cons rfl (zSub_cons rfl (zSub_cons rfl (zSub_cons rfl (zSub_cons rfl (zSub_cons rfl (zSub_cons rfl (zSub_cons rfl zSub_nil)))))))))))) ?_
              exact key154
          · refine z_iconst X dL_holds_177 ?_
            refine z_goto X 182 dL_holds_178 (by decide) ?_
            refine z_icmp_ne X 220 dL_holds_182 (by decide) ⟨by decide, by decide⟩ ⟨by decide, by decide⟩ (fun _ => ?_) (fun h9 => absurd h9 (by decide))
            exfalso
            omega
        · refine z_iconst X dL_holds_160 ?_
          refine z_goto X 165 dL_holds_161 (by decide) ?_
          refine z_aload_n X dL_holds_165 rfl ?_
          refine z_iload X dL_holds_166 rfl ?_
          refine z_iload X dL_holds_168 rfl ?_
          refine z_callVI2 X (c_X3_patience hJ σ fi (by first | assumption | exact ⟨by decide, by decide⟩ | (unfold zB at *; omega)) (by first | assumption | exact ⟨by decide, by decide⟩ | (unfold zB at *; omega)) ⟨by omega, by omega⟩ ⟨by omega, by omega⟩) kL_67 rfl (by decide) rfl ⟨(Nat.le_of_ble_eq_true rfl), (Nat.le_of_ble_eq_true rfl)⟩ (Nat.le_of_ble_eq_true rfl) ⟨Nat.zero_le _, Nat.zero_le _⟩ dL_holds_170 (fun z9 σ1 hz9 => ?_)
          obtain ⟨rfl, e9⟩ := hz9
          rw [e9]
          refine z_iconst X dL_holds_173 ?_
          refine z_icmp_eq X 181 dL_holds_174 (by decide) (zB_sm (rg_pat fi.1 _ _)) ⟨by decide, by decide⟩ (fun c_47 => ?_) (fun c_47 => ?_)
          · refine z_iconst X dL_holds_181 ?_
            refine z_icmp_ne X 220 dL_holds_182 (by decide) ⟨by decide, by decide⟩ ⟨by decide, by decide⟩ (fun _ => ?_) (fun h9 => absurd h9 (by decide))
            exfalso
            omega
          · refine z_iconst X dL_holds_177 ?_
            refine z_goto X 182 dL_holds_178 (by decide) ?_
            refine z_icmp_ne X 220 dL_holds_182 (by decide) ⟨by decide, by decide⟩ ⟨by decide, by decide⟩ (fun h9 => absurd h9 (by decide)) (fun _ => ?_)
            refine z_iload X dL_holds_185 rfl ?_
            refine z_iconst X dL_holds_187 ?_
            refine z_icmp_ne X 216 dL_holds_188 (by decide) (zB_sm (rg_st fi.1 _ _)) ⟨by decide, by decide⟩ (fun c_48 => ?_) (fun c_48 => ?_)
            · refine z_sub [(0, .ref (ad 0)), (1, vI (uO (gA σ) i)), (2, vI (uMk (gA σ) i (k + 1))), (3, vI (uDk (gA σ) i (k + 1))), (4, vI (uU (gA σ) i)), (5, vI 1), (6, vI i), (7, vI (uS (gA σ) i (k + 1))), (8, vI (uL (gA σ) i (k + 1))), (9, vI (uP (gA σ) i (k + 1))), (10, vI k), (11, vI (cSt (gA σ) i k))] (zSub_cons rfl (zSub_cons rfl (zSub_cons rfl (zSub_cons rfl (zSub_cons rfl (zSub_cons rfl (zSub_cons rfl (zSub_cons rfl (zSub_cons rfl (zSub_cons rfl (zSub_cons rfl (zSub_cons rfl zSub_nil)))))))))))) ?_
              exact key154
            · refine z_aload_n X dL_holds_191 rfl ?_
              refine z_iload X dL_holds_192 rfl ?_
              refine z_iload X dL_holds_194 rfl ?_
              refine z_callVI2 X (c_X3_patience hJ σ fi (by first | assumption | exact ⟨by decide, by decide⟩ | (unfold zB at *; omega)) (by first | assumption | exact ⟨by decide, by decide⟩ | (unfold zB at *; omega)) ⟨by omega, by omega⟩ ⟨by omega, by omega⟩) kL_67 rfl (by decide) rfl ⟨(Nat.le_of_ble_eq_true rfl), (Nat.le_of_ble_eq_true rfl)⟩ (Nat.le_of_ble_eq_true rfl) ⟨Nat.zero_le _, Nat.zero_le _⟩ dL_holds_196 (fun z9 σ1 hz9 => ?_)
              obtain ⟨rfl, e9⟩ := hz9
              rw [e9]
              refine z_iconst X dL_holds_199 ?_
              refine z_icmp_lt X 220 dL_holds_200 (by decide) (zB_sm (rg_pat fi.1 _ _)) ⟨by decide, by decide⟩ (fun c_49 => (by exfalso; omega)) (fun c_49 => ?_)
              refine z_aload_n X dL_holds_203 rfl ?_
              refine z_iload X dL_holds_204 rfl ?_
              refine z_iload X dL_holds_206 rfl ?_
              refine z_callVI2 X (c_X3_patience hJ σ fi (by first | assumption | exact ⟨by decide, by decide⟩ | (unfold zB at *; omega)) (by first | assumption | exact ⟨by decide, by decide⟩ | (unfold zB at *; omega)) ⟨by omega, by omega⟩ ⟨by omega, by omega⟩) kL_67 rfl (by decide) rfl ⟨(Nat.le_of_ble_eq_true rfl), (Nat.le_of_ble_eq_true rfl)⟩ (Nat.le_of_ble_eq_true rfl) ⟨Nat.zero_le _, Nat.zero_le _⟩ dL_holds_208 (fun z9 σ1 hz9 => ?_)
              obtain ⟨rfl, e9⟩ := hz9
              rw [e9]
              refine z_bipush X dL_holds_211 rfl ?_
              refine z_icmp_gt X 220 dL_holds_213 (by decide) (zB_sm (rg_pat fi.1 _ _)) ⟨by decide, by decide⟩ (fun c_50 => (by exfalso; omega)) (fun c_50 => ?_)
              refine z_sub [(0, .ref (ad 0)), (1, vI (uO (gA σ) i)), (2, vI (uMk (gA σ) i (k + 1))), (3, vI (uDk (gA σ) i (k + 1))), (4, vI (uU (gA σ) i)), (5, vI 1), (6, vI i), (7, vI (uS (gA σ) i (k + 1))), (8, vI (uL (gA σ) i (k + 1))), (9, vI (uP (gA σ) i (k + 1))), (10, vI k), (11, vI (cSt (gA σ) i k))] (zSub_cons rfl (zSub_cons rfl (zSub_cons rfl (zSub_cons rfl (zSub_cons rfl (zSub_cons rfl (zSub_cons rfl (zSub_cons rfl (zSub_cons rfl (zSub_cons rfl (zSub_cons rfl (zSub_cons rfl zSub_nil)))))))))))) ?_
              exact key154
      refine z_iconst X dL_holds_216 ?_
      refine z_goto X 221 dL_holds_217 (by decide) ?_
      refine z_istore X dL_holds_221 (by decide) ?_
      refine z_sub [(0, .ref (ad 0)), (1, vI (uO (gA σ) i)), (2, vI (uMk (gA σ) i (k + 1))), (3, vI (uDk (gA σ) i (k + 1))), (4, vI (uU (gA σ) i)), (5, vI 1), (6, vI i), (7, vI (uS (gA σ) i (k + 1))), (8, vI (uL (gA σ) i (k + 1))), (9, vI (uP (gA σ) i (k + 1))), (10, vI k), (11, vI (cSt (gA σ) i k))] (zSub_cons rfl (zSub_cons rfl (zSub_cons rfl (zSub_cons rfl (zSub_cons rfl (zSub_cons rfl (zSub_cons rfl (zSub_cons rfl (zSub_cons rfl (zSub_cons rfl (zSub_cons rfl (zSub_cons rfl zSub_nil)))))))))))) ?_
      refine z_iload X dL_holds_223 rfl ?_
      refine z_if_eq X 283 dL_holds_225 (by decide) ⟨by decide, by decide⟩ (fun h9 => absurd h9 (by decide)) (fun _ => ?_)
      have hlead := ld_in fi.1 (d := i) ⟨i0, by omega⟩
      suffices key228 : zV p l e (iRm 10 6 48) s0 m args below meth c 12 D G ad 0 0 (zEC below (zQI D G ad sz (fun z σ9 => z = 1 ∧ σ9 = σ)) args s0 ad 6 48) 279 [(0, .ref (ad 0)), (1, vI (uO (gA σ) i)), (2, vI (uMk (gA σ) i (k + 1))), (3, vI (uDk (gA σ) i (k + 1))), (4, vI (uU (gA σ) i)), (5, vI 1), (6, vI i), (7, vI (uS (gA σ) i (k + 1))), (8, vI (uL (gA σ) i (k + 1))), (9, vI (uP (gA σ) i (k + 1))), (10, vI k), (11, vI (cSt (gA σ) i k))] [] σ by
        refine z_iload X dL_holds_228 rfl ?_
        refine z_iconst X dL_holds_230 ?_
        refine z_icmp_ne X 279 dL_holds_231 (by decide) (zB_sm (rg_st fi.1 _ _)) ⟨by decide, by decide⟩ (fun c_51 => ?_) (fun c_51 => ?_)
        · refine z_sub [(0, .ref (ad 0)), (1, vI (uO (gA σ) i)), (2, vI (uMk (gA σ) i (k + 1))), (3, vI (uDk (gA σ) i (k + 1))), (4, vI (uU (gA σ) i)), (5, vI 1), (6, vI i), (7, vI (uS (gA σ) i (k + 1))), (8, vI (uL (gA σ) i (k + 1))), (9, vI (uP (gA σ) i (k + 1))), (10, vI k), (11, vI (cSt (gA σ) i k))] (zSub_cons rfl (zSub_cons rfl (zSub_cons rfl (zSub_cons rfl (zSub_cons rfl (zSub_cons rfl (zSub_cons rfl (zSub_cons rfl (zSub_cons rfl (zSub_cons rfl (zSub_cons rfl (zSub_cons rfl zSub_nil)))))))))))) ?_
          exact key228
        · refine z_aload_n X dL_holds_234 rfl ?_
          refine z_iload X dL_holds_235 rfl ?_
          refine z_callVI1 X (c_X3_isUp hJ σ fi (by first | assumption | exact ⟨by decide, by decide⟩ | (unfold zB at *; omega)) ⟨by omega, by omega⟩) kL_21 rfl (by decide) rfl ⟨(Nat.le_of_ble_eq_true rfl), (Nat.le_of_ble_eq_true rfl)⟩ (Nat.le_of_ble_eq_true rfl) ⟨Nat.zero_le _, Nat.zero_le _⟩ dL_holds_237 (fun z9 σ1 hz9 => ?_)
          obtain ⟨rfl, e9⟩ := hz9
          rw [e9]
          refine z_ifb_eq X 279 dL_holds_240 (by decide) (fun c_52 => ?_) (fun c_52 => ?_)
          · refine z_sub [(0, .ref (ad 0)), (1, vI (uO (gA σ) i)), (2, vI (uMk (gA σ) i (k + 1))), (3, vI (uDk (gA σ) i (k + 1))), (4, vI (uU (gA σ) i)), (5, vI 1), (6, vI i), (7, vI (uS (gA σ) i (k + 1))), (8, vI (uL (gA σ) i (k + 1))), (9, vI (uP (gA σ) i (k + 1))), (10, vI k), (11, vI (cSt (gA σ) i k))] (zSub_cons rfl (zSub_cons rfl (zSub_cons rfl (zSub_cons rfl (zSub_cons rfl (zSub_cons rfl (zSub_cons rfl (zSub_cons rfl (zSub_cons rfl (zSub_cons rfl (zSub_cons rfl (zSub_cons rfl zSub_nil)))))))))))) ?_
            exact key228
          · refine z_aload_n X dL_holds_243 rfl ?_
            refine z_aload_n X dL_holds_244 rfl ?_
            refine z_iload X dL_holds_245 rfl ?_
            refine z_callVI1 X (c_X3_leader hJ σ fi (by first | assumption | exact ⟨by decide, by decide⟩ | (unfold zB at *; omega)) ⟨by omega, by omega⟩) kL_43 rfl (by decide) rfl ⟨(Nat.le_of_ble_eq_true rfl), (Nat.le_of_ble_eq_true rfl)⟩ (Nat.le_of_ble_eq_true rfl) ⟨Nat.zero_le _, Nat.zero_le _⟩ dL_holds_247 (fun z9 σ1 hz9 => ?_)
            obtain ⟨rfl, e9⟩ := hz9
            rw [e9]
            refine z_callVI1 X (c_X3_isUp hJ σ fi (zB_sm (rg_ld fi.1 _)) ⟨by omega, by omega⟩) kL_21 rfl (by decide) rfl ⟨(Nat.le_of_ble_eq_true rfl), (Nat.le_of_ble_eq_true rfl)⟩ (Nat.le_of_ble_eq_true rfl) ⟨Nat.zero_le _, Nat.zero_le _⟩ dL_holds_250 (fun z9 σ1 hz9 => ?_)
            obtain ⟨rfl, e9⟩ := hz9
            rw [e9]
            refine z_ifb_eq X 279 dL_holds_253 (by decide) (fun c_53 => ?_) (fun c_53 => ?_)
            · refine z_sub [(0, .ref (ad 0)), (1, vI (uO (gA σ) i)), (2, vI (uMk (gA σ) i (k + 1))), (3, vI (uDk (gA σ) i (k + 1))), (4, vI (uU (gA σ) i)), (5, vI 1), (6, vI i), (7, vI (uS (gA σ) i (k + 1))), (8, vI (uL (gA σ) i (k + 1))), (9, vI (uP (gA σ) i (k + 1))), (10, vI k), (11, vI (cSt (gA σ) i k))] (zSub_cons rfl (zSub_cons rfl (zSub_cons rfl (zSub_cons rfl (zSub_cons rfl (zSub_cons rfl (zSub_cons rfl (zSub_cons rfl (zSub_cons rfl (zSub_cons rfl (zSub_cons rfl (zSub_cons rfl zSub_nil)))))))))))) ?_
              exact key228
            · refine z_iload X dL_holds_256 rfl ?_
              refine z_aload_n X dL_holds_258 rfl ?_
              refine z_iload X dL_holds_259 rfl ?_
              refine z_callVI1 X (c_X3_leader hJ σ fi (by first | assumption | exact ⟨by decide, by decide⟩ | (unfold zB at *; omega)) ⟨by omega, by omega⟩) kL_43 rfl (by decide) rfl ⟨(Nat.le_of_ble_eq_true rfl), (Nat.le_of_ble_eq_true rfl)⟩ (Nat.le_of_ble_eq_true rfl) ⟨Nat.zero_le _, Nat.zero_le _⟩ dL_holds_261 (fun z9 σ1 hz9 => ?_)
              obtain ⟨rfl, e9⟩ := hz9
              rw [e9]
              refine z_icmp_eq X 279 dL_holds_264 (by decide) (by first | assumption | exact ⟨by decide, by decide⟩ | (unfold zB at *; omega)) (zB_sm (rg_ld fi.1 _)) (fun c_54 => ?_) (fun c_54 => ?_)
              · refine z_sub [(0, .ref (ad 0)), (1, vI (uO (gA σ) i)), (2, vI (uMk (gA σ) i (k + 1))), (3, vI (uDk (gA σ) i (k + 1))), (4, vI (uU (gA σ) i)), (5, vI 1), (6, vI i), (7, vI (uS (gA σ) i (k + 1))), (8, vI (uL (gA σ) i (k + 1))), (9, vI (uP (gA σ) i (k + 1))), (10, vI k), (11, vI (cSt (gA σ) i k))] (zSub_cons rfl (zSub_cons rfl (zSub_cons rfl (zSub_cons rfl (zSub_cons rfl (zSub_cons rfl (zSub_cons rfl (zSub_cons rfl (zSub_cons rfl (zSub_cons rfl (zSub_cons rfl (zSub_cons rfl zSub_nil)))))))))))) ?_
                exact key228
              · refine z_aload_n X dL_holds_267 rfl ?_
                refine z_iload X dL_holds_268 rfl ?_
                refine z_iload X dL_holds_270 rfl ?_
                refine z_callVI2 X (c_X3_helper hJ σ fi (by first | assumption | exact ⟨by decide, by decide⟩ | (unfold zB at *; omega)) (by first | assumption | exact ⟨by decide, by decide⟩ | (unfold zB at *; omega)) ⟨by omega, by omega⟩ ⟨by omega, by omega⟩) kL_64 rfl (by decide) rfl ⟨(Nat.le_of_ble_eq_true rfl), (Nat.le_of_ble_eq_true rfl)⟩ (Nat.le_of_ble_eq_true rfl) ⟨Nat.zero_le _, Nat.zero_le _⟩ dL_holds_272 (fun z9 σ1 hz9 => ?_)
                obtain ⟨rfl, e9⟩ := hz9
                rw [e9]
                refine z_iconst X dL_holds_275 ?_
                refine z_icmp_eq X 283 dL_holds_276 (by decide) (zB_sm (rg_help _ _ _)) ⟨by decide, by decide⟩ (fun c_55 => (by exfalso; exact help_lead c_51 c_52 c_53 c_54 c_55)) (fun c_55 => ?_)
                refine z_sub [(0, .ref (ad 0)), (1, vI (uO (gA σ) i)), (2, vI (uMk (gA σ) i (k + 1))), (3, vI (uDk (gA σ) i (k + 1))), (4, vI (uU (gA σ) i)), (5, vI 1), (6, vI i), (7, vI (uS (gA σ) i (k + 1))), (8, vI (uL (gA σ) i (k + 1))), (9, vI (uP (gA σ) i (k + 1))), (10, vI k), (11, vI (cSt (gA σ) i k))] (zSub_cons rfl (zSub_cons rfl (zSub_cons rfl (zSub_cons rfl (zSub_cons rfl (zSub_cons rfl (zSub_cons rfl (zSub_cons rfl (zSub_cons rfl (zSub_cons rfl (zSub_cons rfl (zSub_cons rfl zSub_nil)))))))))))) ?_
                exact key228
      refine z_iconst X dL_holds_279 ?_
      refine z_goto X 284 dL_holds_280 (by decide) ?_
      refine z_istore X dL_holds_284 (by decide) ?_
      refine z_sub [(0, .ref (ad 0)), (1, vI (uO (gA σ) i)), (2, vI (uMk (gA σ) i (k + 1))), (3, vI (uDk (gA σ) i (k + 1))), (4, vI (uU (gA σ) i)), (5, vI 1), (6, vI i), (7, vI (uS (gA σ) i (k + 1))), (8, vI (uL (gA σ) i (k + 1))), (9, vI (uP (gA σ) i (k + 1))), (10, vI k), (11, vI (cSt (gA σ) i k))] (zSub_cons rfl (zSub_cons rfl (zSub_cons rfl (zSub_cons rfl (zSub_cons rfl (zSub_cons rfl (zSub_cons rfl (zSub_cons rfl (zSub_cons rfl (zSub_cons rfl (zSub_cons rfl (zSub_cons rfl zSub_nil)))))))))))) ?_
      refine z_iinc X dL_holds_286 rfl (by decide) ?_
      refine z_sub [(0, .ref (ad 0)), (1, vI (uO (gA σ) i)), (2, vI (uMk (gA σ) i (k + 1))), (3, vI (uDk (gA σ) i (k + 1))), (4, vI (uU (gA σ) i)), (5, vI 1), (6, vI i), (7, vI (uS (gA σ) i (k + 1))), (8, vI (uL (gA σ) i (k + 1))), (9, vI (uP (gA σ) i (k + 1))), (10, vI (k + 1))] (zSub_cons rfl (zSub_cons rfl (zSub_cons rfl (zSub_cons rfl (zSub_cons rfl (zSub_cons rfl (zSub_cons rfl (zSub_cons rfl (zSub_cons rfl (zSub_cons rfl (zSub_cons rfl zSub_nil))))))))))) ?_
      refine z_goto X 36 dL_holds_289 (by decide) ?_
      exact ihk (by omega) () trivial
