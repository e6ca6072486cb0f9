theorem ok_vote {N : zNt} (ok : cOk N) (d s y : Int) : cOk (cVoteN N d s y) := by
  unfold cVoteN; split
  · exact ok_enter ok (by unfold cVoteV; split <;> decide)
  · exact ok
theorem ok_decide {N : zNt} (ok : cOk N) (d : Int) : cOk (cDecideN N d) := by
  unfold cDecideN; split
  · exact ok_settle ok (by unfold cDecV; split <;> decide)
  · exact ok
theorem ok_tell {N : zNt} (ok : cOk N) (d s : Int) : cOk (cTellN N d s) := by
  unfold cTellN; split
  · rename_i h; exact ok_enter ok (by omega)
  · exact ok
theorem rg_tellR {N : zNt} (ok : cOk N) (d s : Int) : -1 ≤ cTellR N d s ∧ cTellR N d s ≤ 3 := by
  unfold cTellR; split
  · exact rg_st (ok_tell ok d s) d s
  · exact ⟨by decide, by decide⟩
set_option maxHeartbeats 4000000 in
set_option maxRecDepth 100000 in
theorem c_X2_changePatience {l : Launch} {D : va_G} {G : zG} {ad : Nat → Nat} (hJ : zInj ad) {k : Nat} (hk : zNet k) (σ : zM) {N : Nat → Nat → Int} (ok : cOk N) {pt : Int} (hpt : zB pt)  : zKI l D G ad yX2_changePatience cX2_changePatience 3 (some .int) 0 [.ref (ad k), vI pt] (zBk σ k 8 N) (fun z σ9 => z = N 0 3 ∧ σ9 = (zBk σ k 8 (up2 N 0 3 pt))) := by
  intro sz
  refine z_open hJ (by decide +kernel) (Nat.le_of_ble_eq_true rfl) ?_
  intro p e s0 m args below meth c hsz X hr hlocks
  have hn := ok_n ok
  refine z_sub [(0, .ref (ad k)), (1, vI pt)] (zSub_cons rfl (zSub_cons rfl zSub_nil)) ?_
  refine z_aload_n X dX2_changePatience_0 rfl ?_
  refine y_gNet3 X hk fX2_21 dX2_changePatience_1 ?_
  refine z_istore_n X dX2_changePatience_4 (by decide) ?_
  refine z_sub [(0, .ref (ad k)), (1, vI pt), (2, vI (N 0 3))] (zSub_cons rfl (zSub_cons rfl (zSub_cons rfl zSub_nil))) ?_
  refine z_aload_n X dX2_changePatience_5 rfl ?_
  refine z_iload_n X dX2_changePatience_6 rfl ?_
  refine y_pNet3 X hk fX2_21 dX2_changePatience_7 ?_
  refine z_iload_n X dX2_changePatience_10 rfl ?_
  exact z_iret X hsz hr hlocks dX2_changePatience_11 ⟨(by first | rfl | ((try simp only [cEnd]); split <;> first | rfl | omega | (exfalso; omega)) | (simp [cEnd]; done) | (simp_all [cEnd]; done)), (congrArg (zBk σ _ _) (by first | rfl | ((try simp only [cEnd]); split <;> first | rfl | omega | (exfalso; omega)) | (simp [cEnd]; done) | (simp_all [cEnd]; done)))⟩

set_option maxHeartbeats 4000000 in
set_option maxRecDepth 100000 in
theorem c_X2_write {l : Launch} {D : va_G} {G : zG} {ad : Nat → Nat} (hJ : zInj ad) {k : Nat} (hk : zNet k) (σ : zM) {N : Nat → Nat → Int} (ok : cOk N) {s : Int} (hs : zB s) {e2 : Int} (he2 : zB e2)  : zKV l D G ad yX2_write cX2_write 3 none 0 [.ref (ad k), vI s, vI e2] (zBk σ k 8 N) (fun σ9 => σ9 = (zBk σ k 8 (cWrite N s e2))) := by
  intro sz
  refine z_open hJ (by decide +kernel) (Nat.le_of_ble_eq_true rfl) ?_
  intro p e s0 m args below meth c hsz X hr hlocks
  have hn := ok_n ok
  refine z_sub [(0, .ref (ad k)), (1, vI s), (2, vI e2)] (zSub_cons rfl (zSub_cons rfl (zSub_cons rfl zSub_nil))) ?_
  refine z_iload_n X dX2_write_0 rfl ?_
  refine z_if_lt X 48 dX2_write_1 (by decide) hs (fun c_1 => ?_) (fun c_1 => ?_)
  · exact z_vret X hsz hr hlocks dX2_write_48 (congrArg (zBk σ _ _) (by first | rfl | ((try simp only [cWrite]); split <;> first | rfl | omega | (exfalso; omega)) | (simp [cWrite, c_1]; done) | (simp_all [cWrite]; done)))
  · refine z_iload_n X dX2_write_4 rfl ?_
    refine z_bipush X dX2_write_5 rfl ?_
    refine z_icmp_ge X 48 dX2_write_7 (by decide) hs ⟨by decide, by decide⟩ (fun c_2 => ?_) (fun c_2 => ?_)
    · exact z_vret X hsz hr hlocks dX2_write_48 (congrArg (zBk σ _ _) (by first | rfl | ((try simp only [cWrite]); split <;> first | rfl | omega | (exfalso; omega)) | (simp [cWrite, c_1, c_2]; done) | (simp_all [cWrite]; done)))
    · refine z_aload_n X dX2_write_10 rfl ?_
      refine y_gNet9 X hk fX2_40 dX2_write_11 ?_
      refine z_iload_n X dX2_write_14 rfl ?_
      refine y_iald X 6 (zNA6 hk) (by decide) (by omega) (by omega) (by decide) dX2_write_15 ?_
      refine z_bipush X dX2_write_16 rfl ?_
      refine z_icmp_ge X 48 dX2_write_18 (by decide) (zB_sm (ok_ll ok (by omega))) ⟨by decide, by decide⟩ (fun c_3 => ?_) (fun c_3 => ?_)
      · exact z_vret X hsz hr hlocks dX2_write_48 (congrArg (zBk σ _ _) (by first | rfl | ((try simp only [cWrite]); split <;> first | rfl | omega | (exfalso; omega)) | (simp [cWrite, c_1, c_2, c_3]; done) | (simp_all [cWrite]; done)))
      · have hl := ok_ll ok (s := s.toNat) (by omega)
        refine z_aload_n X dX2_write_21 rfl ?_
        refine y_gNet10 X hk fX2_43 dX2_write_22 ?_
        refine z_iload_n X dX2_write_25 rfl ?_
        refine z_bipush X dX2_write_26 rfl ?_
        refine z_imul X dX2_write_28 ?_
        refine z_aload_n X dX2_write_29 rfl ?_
        refine y_gNet9 X hk fX2_40 dX2_write_30 ?_
        refine z_iload_n X dX2_write_33 rfl ?_
        refine y_iald X 6 (zNA6 hk) (by decide) (by omega) (by omega) (by decide) dX2_write_34 ?_
        refine z_iadd X dX2_write_35 ?_
        refine z_iload_n X dX2_write_36 rfl ?_
        refine y_iast X 7 (zNA7 hk) (by decide) (by omega) (by omega) (by decide) dX2_write_37 ?_
        refine z_aload_n X dX2_write_38 rfl ?_
        refine y_gNet9 X hk fX2_40 dX2_write_39 ?_
        refine z_iload_n X dX2_write_42 rfl ?_
        refine z_dup2 X dX2_write_43 rfl rfl ?_
        refine y_iald X 6 (zNA6 hk) (by decide) (by omega) (by omega) (by decide) dX2_write_44 ?_
        refine z_iconst X dX2_write_45 ?_
        refine z_iadd X dX2_write_46 ?_
        refine y_iast X 6 (zNA6 hk) (by decide) (by omega) (by omega) (by decide) dX2_write_47 ?_
        exact z_vret X hsz hr hlocks dX2_write_48 (congrArg (zBk σ _ _) (by first | rfl | ((try simp only [cWrite]); split <;> first | rfl | omega | (exfalso; omega)) | (simp [cWrite, c_1, c_2, c_3]; done) | (simp_all [cWrite]; done)))

set_option maxHeartbeats 4000000 in
set_option maxRecDepth 100000 in
theorem c_X2_enter {l : Launch} {D : va_G} {G : zG} {ad : Nat → Nat} (hJ : zInj ad) {k : Nat} (hk : zNet k) (σ : zM) {N : Nat → Nat → Int} (ok : cOk N) {d : Int} (hd : zB d) {s : Int} (hs : zB s) {v : Int} (hv : zB v) (hv3 : 1 ≤ v ∧ v ≤ 3) : zKV l D G ad yX2_enter cX2_enter 4 none 1 [.ref (ad k), vI d, vI s, vI v] (zBk σ k 8 N) (fun σ9 => σ9 = (zBk σ k 8 (cEnter N d s v))) := by
  intro sz
  refine z_open hJ (by decide +kernel) (Nat.le_of_ble_eq_true rfl) ?_
  intro p e s0 m args below meth c hsz X hr hlocks
  have hn := ok_n ok
  refine z_sub [(0, .ref (ad k)), (1, vI d), (2, vI s), (3, vI v)] (zSub_cons rfl (zSub_cons rfl (zSub_cons rfl (zSub_cons rfl zSub_nil)))) ?_
  refine z_aload_n X dX2_enter_0 rfl ?_
  refine z_iload_n X dX2_enter_1 rfl ?_
  refine z_iload_n X dX2_enter_2 rfl ?_
  refine z_callVI2 X (c_X2_stateOf hJ hk σ ok hd hs) kX2_66 rfl (zNet_lt hk) (zNet_obj hk ad G _ _) ⟨(Nat.le_of_ble_eq_true rfl), (Nat.le_of_ble_eq_true rfl)⟩ (Nat.le_of_ble_eq_true rfl) ⟨Nat.zero_le _, Nat.zero_le _⟩ dX2_enter_3 (fun z9 σ1 hz9 => ?_)
  obtain ⟨rfl, rfl⟩ := hz9
  refine z_iconst X dX2_enter_6 ?_
  refine z_icmp_ne X 11 dX2_enter_7 (by decide) (zB_sm (rg_st ok _ _)) ⟨by decide, by decide⟩ (fun c_2 => ?_) (fun c_2 => ?_)
  · have hin := cSt_in (N := N) (d := d) (s := s) c_2
    refine z_aload_n X dX2_enter_11 rfl ?_
    refine y_gNet7 X hk fX2_34 dX2_enter_12 ?_
    refine z_iload_n X dX2_enter_15 rfl ?_
    refine z_bipush X dX2_enter_16 rfl ?_
    refine z_imul X dX2_enter_18 ?_
    refine z_iload_n X dX2_enter_19 rfl ?_
    refine z_iadd X dX2_enter_20 ?_
    refine z_iload_n X dX2_enter_21 rfl ?_
    refine y_iast X 4 (zNA4 hk) (by decide) (by omega) (by omega) (by decide) dX2_enter_22 ?_
    refine z_iload_n X dX2_enter_23 rfl ?_
    refine z_iconst X dX2_enter_24 ?_
    refine z_icmp_ne X 43 dX2_enter_25 (by decide) hv ⟨by decide, by decide⟩ (fun c_3 => ?_) (fun c_3 => ?_)
    · rw [show (up2 N 4 ((d * 6) + s).toNat v) = cEnter0 N d s v from by unfold cEnter0; rw [if_neg c_3] <;> rfl]
      refine z_aload_n X dX2_enter_43 rfl ?_
      refine z_iload_n X dX2_enter_44 rfl ?_
      refine z_bipush X dX2_enter_45 rfl ?_
      refine z_iload_n X dX2_enter_47 rfl ?_
      refine z_imul X dX2_enter_48 ?_
      refine z_iload_n X dX2_enter_49 rfl ?_
      refine z_iadd X dX2_enter_50 ?_
      refine z_callVV2 X (c_X2_write hJ hk σ (ok_enter0 ok hv3) hs (by first | assumption | (unfold zB at *; omega))) kX2_119 rfl (zNet_lt hk) (zNet_obj hk ad G _ _) ⟨(Nat.le_of_ble_eq_true rfl), (Nat.le_of_ble_eq_true rfl)⟩ (Nat.le_of_ble_eq_true rfl) ⟨Nat.zero_le _, Nat.zero_le _⟩ dX2_enter_51 (fun σ1 hz9 => ?_)
      obtain rfl := hz9
      exact z_vret X hsz hr hlocks dX2_enter_54 (congrArg (zBk σ _ _) (by unfold cEnter; rw [if_neg c_2]))
    · refine z_aload_n X dX2_enter_28 rfl ?_
      refine y_gNet8 X hk fX2_37 dX2_enter_29 ?_
      refine z_iload_n X dX2_enter_32 rfl ?_
      refine z_bipush X dX2_enter_33 rfl ?_
      refine z_imul X dX2_enter_35 ?_
      refine z_iload_n X dX2_enter_36 rfl ?_
      refine z_iadd X dX2_enter_37 ?_
      refine z_aload_n X dX2_enter_38 rfl ?_
      refine y_gNet3 X hk fX2_21 dX2_enter_39 ?_
      refine y_iast X 5 (zNA5 hk) (by decide) (by omega) (by omega) (by decide) dX2_enter_42 ?_
      rw [show (up2 (up2 N 4 ((d * 6) + s).toNat v) 5 ((d * 6) + s).toNat ((up2 N 4 ((d * 6) + s).toNat v) 0 3)) = cEnter0 N d s v from by unfold cEnter0; rw [if_pos c_3] <;> rfl]
      refine z_aload_n X dX2_enter_43 rfl ?_
      refine z_iload_n X dX2_enter_44 rfl ?_
      refine z_bipush X dX2_enter_45 rfl ?_
      refine z_iload_n X dX2_enter_47 rfl ?_
      refine z_imul X dX2_enter_48 ?_
      refine z_iload_n X dX2_enter_49 rfl ?_
      refine z_iadd X dX2_enter_50 ?_
      refine z_callVV2 X (c_X2_write hJ hk σ (ok_enter0 ok hv3) hs (by first | assumption | (unfold zB at *; omega))) kX2_119 rfl (zNet_lt hk) (zNet_obj hk ad G _ _) ⟨(Nat.le_of_ble_eq_true rfl), (Nat.le_of_ble_eq_true rfl)⟩ (Nat.le_of_ble_eq_true rfl) ⟨Nat.zero_le _, Nat.zero_le _⟩ dX2_enter_51 (fun σ1 hz9 => ?_)
      obtain rfl := hz9
      exact z_vret X hsz hr hlocks dX2_enter_54 (congrArg (zBk σ _ _) (by unfold cEnter; rw [if_neg c_2]))
  · exact z_vret X hsz hr hlocks dX2_enter_10 (congrArg (zBk σ _ _) (by unfold cEnter; rw [if_pos c_2]))

set_option maxHeartbeats 4000000 in
set_option maxRecDepth 100000 in
theorem c_X2_settle {l : Launch} {D : va_G} {G : zG} {ad : Nat → Nat} (hJ : zInj ad) {k : Nat} (hk : zNet k) (σ : zM) {N : Nat → Nat → Int} (ok : cOk N) {d : Int} (hd : zB d) {v : Int} (hv : zB v) (hv3 : 0 ≤ v ∧ v ≤ 3) : zKV l D G ad yX2_settle cX2_settle 3 none 1 [.ref (ad k), vI d, vI v] (zBk σ k 8 N) (fun σ9 => σ9 = (zBk σ k 8 (cSettle N d v))) := by
  intro sz
  refine z_open hJ (by decide +kernel) (Nat.le_of_ble_eq_true rfl) ?_
  intro p e s0 m args below meth c hsz X hr hlocks
  have hn := ok_n ok
  refine z_sub [(0, .ref (ad k)), (1, vI d), (2, vI v)] (zSub_cons rfl (zSub_cons rfl (zSub_cons rfl zSub_nil))) ?_
  refine z_aload_n X dX2_settle_0 rfl ?_
  refine z_iload_n X dX2_settle_1 rfl ?_
  refine z_callVI1 X (c_X2_hasDeal hJ hk σ ok hd) kX2_62 rfl (zNet_lt hk) (zNet_obj hk ad G _ _) ⟨(Nat.le_of_ble_eq_true rfl), (Nat.le_of_ble_eq_true rfl)⟩ (Nat.le_of_ble_eq_true rfl) ⟨Nat.zero_le _, Nat.zero_le _⟩ dX2_settle_2 (fun z9 σ1 hz9 => ?_)
  obtain ⟨rfl, rfl⟩ := hz9
  refine z_ifb_ne X 9 dX2_settle_5 (by decide) (fun c_2 => ?_) (fun c_2 => ?_)
  · refine z_aload_n X dX2_settle_9 rfl ?_
    refine y_gNet6 X hk fX2_31 dX2_settle_10 ?_
    refine z_iload_n X dX2_settle_13 rfl ?_
    refine z_iload_n X dX2_settle_14 rfl ?_
    refine y_iast X 3 (zNA3 hk) (by decide) (by omega) (by omega) (by decide) dX2_settle_15 ?_
    refine z_aload_n X dX2_settle_16 rfl ?_
    refine z_aload_n X dX2_settle_17 rfl ?_
    refine y_gNet4 X hk fX2_24 dX2_settle_18 ?_
    refine z_iload_n X dX2_settle_21 rfl ?_
    refine y_iald X 1 (zNA1 hk) (by decide) (by omega) (by omega) (by decide) dX2_settle_22 ?_
    refine z_bipush X dX2_settle_23 rfl ?_
    refine z_iload_n X dX2_settle_25 rfl ?_
    refine z_imul X dX2_settle_26 ?_
    refine z_iload_n X dX2_settle_27 rfl ?_
    refine z_iadd X dX2_settle_28 ?_
    refine z_iconst X dX2_settle_29 ?_
    refine z_iadd X dX2_settle_30 ?_
    refine z_callVV2 X (c_X2_write hJ hk σ (ok_r3 ok _ hv3) (zB_sm (ok_ld (ok_r3 ok _ hv3) (by omega))) (by first | assumption | (unfold zB at *; omega))) kX2_119 rfl (zNet_lt hk) (zNet_obj hk ad G _ _) ⟨(Nat.le_of_ble_eq_true rfl), (Nat.le_of_ble_eq_true rfl)⟩ (Nat.le_of_ble_eq_true rfl) ⟨Nat.zero_le _, Nat.zero_le _⟩ dX2_settle_31 (fun σ1 hz9 => ?_)
    obtain rfl := hz9
    exact z_vret X hsz hr hlocks dX2_settle_34 (congrArg (zBk σ _ _) (by unfold cSettle; rw [if_pos c_2]; try rfl))
  · exact z_vret X hsz hr hlocks dX2_settle_8 (congrArg (zBk σ _ _) (by unfold cSettle; rw [if_neg c_2]; try rfl))

set_option maxHeartbeats 4000000 in
set_option maxRecDepth 100000 in
theorem c_X2_holdsForAnother {l : Launch} {D : va_G} {G : zG} {ad : Nat → Nat} (hJ : zInj ad) {k : Nat} (hk : zNet k) (σ : zM) {N : Nat → Nat → Int} (ok : cOk N) {d : Int} (hd : zB d) {s : Int} (hs : zB s) (hd8 : 0 ≤ d ∧ d < 8) : zKI l D G ad yX2_holdsForAnother cX2_holdsForAnother 4 (some .boolean) 1 [.ref (ad k), vI d, vI s] (zBk σ k 8 N) (fun z σ9 => z = (if cHolds N d s then 1 else 0) ∧ σ9 = (zBk σ k 8 N)) := by
  intro sz
  refine z_open hJ (by decide +kernel) (Nat.le_of_ble_eq_true rfl) ?_
  intro p e s0 m args below meth c hsz X hr hlocks
  have hn := ok_n ok
  refine z_sub [(0, .ref (ad k)), (1, vI d), (2, vI s)] (zSub_cons rfl (zSub_cons rfl (zSub_cons rfl zSub_nil))) ?_
  refine z_iconst X dX2_holdsForAnother_0 ?_
  refine z_istore_n X dX2_holdsForAnother_1 (by decide) ?_
  refine z_sub [(0, .ref (ad k)), (1, vI d), (2, vI s), (3, vI 0)] (zSub_cons rfl (zSub_cons rfl (zSub_cons rfl (zSub_cons rfl zSub_nil)))) ?_
  refine z_sub [(0, .ref (ad k)), (1, vI d), (2, vI s), (3, vI 0)] (zSub_cons rfl (zSub_cons rfl (zSub_cons rfl (zSub_cons rfl zSub_nil)))) ?_
  refine zFor (S := Unit) (N 0 0) (fun i _u => zAny (fun o => decide (o ≠ d ∧ N 2 o.toNat = N 2 d.toNat ∧ cSt N o s = 1)) i.toNat = false) (fun i _u => zV p l e (zRm 1) s0 m args below meth c 4 D G ad 0 0 (zE below (zQI D G ad sz (fun z σ9 => z = (if cHolds N d s then 1 else 0) ∧ σ9 = (zBk σ k 8 N))) args s0 ad) 2 [(0, .ref (ad k)), (1, vI d), (2, vI s), (3, vI i)] [] (zBk σ k 8 N)) (fun i _u i0 i1 hv ih => ?_) () (by omega) rfl
  refine z_iload_n X dX2_holdsForAnother_2 rfl ?_
  refine z_aload_n X dX2_holdsForAnother_3 rfl ?_
  refine y_gNet0 X hk fX2_9 dX2_holdsForAnother_4 ?_
  refine z_icmp_ge X 48 dX2_holdsForAnother_7 (by decide) (by first | assumption | (unfold zB at *; omega)) (zB_sm (ok_n ok)) (fun c_1 => ?_) (fun c_1 => ?_)
  · refine z_iconst X dX2_holdsForAnother_48 ?_
    exact z_zret X hsz hr hlocks dX2_holdsForAnother_49 (Or.inl rfl) ⟨(if_neg (show ¬ (zAny (fun o => decide (o ≠ d ∧ N 2 o.toNat = N 2 d.toNat ∧ cSt N o s = 1)) (N 0 0).toNat = true) from by rw [show N 0 0 = i by omega, hv]; decide)).symm, rfl⟩
  · refine z_iload_n X dX2_holdsForAnother_10 rfl ?_
    refine z_iload_n X dX2_holdsForAnother_11 rfl ?_
    refine z_icmp_eq X 42 dX2_holdsForAnother_12 (by decide) (by first | assumption | (unfold zB at *; omega)) hd (fun c_2 => ?_) (fun c_2 => ?_)
    · refine z_iinc X dX2_holdsForAnother_42 rfl (by decide) ?_
      refine z_sub [(0, .ref (ad k)), (1, vI d), (2, vI s), (3, vI (i + 1))] (zSub_cons rfl (zSub_cons rfl (zSub_cons rfl (zSub_cons rfl zSub_nil)))) ?_
      refine z_goto X 2 dX2_holdsForAnother_45 (by decide) ?_
      refine z_sub [(0, .ref (ad k)), (1, vI d), (2, vI s), (3, vI (i + 1))] (zSub_cons rfl (zSub_cons rfl (zSub_cons rfl (zSub_cons rfl zSub_nil)))) ?_
      exact ih (by omega) () (zAny_step i0 hv (decide_eq_false (by omega)))
    · refine z_aload_n X dX2_holdsForAnother_15 rfl ?_
      refine y_gNet5 X hk fX2_28 dX2_holdsForAnother_16 ?_
      refine z_iload_n X dX2_holdsForAnother_19 rfl ?_
      refine y_iald X 2 (zNA2 hk) (by decide) (by omega) (by omega) (by decide) dX2_holdsForAnother_20 ?_
      refine z_aload_n X dX2_holdsForAnother_21 rfl ?_
      refine y_gNet5 X hk fX2_28 dX2_holdsForAnother_22 ?_
      refine z_iload_n X dX2_holdsForAnother_25 rfl ?_
      refine y_iald X 2 (zNA2 hk) (by decide) (by omega) (by omega) (by decide) dX2_holdsForAnother_26 ?_
      refine z_icmp_ne X 42 dX2_holdsForAnother_27 (by decide) (zB_sm (ok_it ok (by omega))) (zB_sm (ok_it ok (by omega))) (fun c_3 => ?_) (fun c_3 => ?_)
      · refine z_iinc X dX2_holdsForAnother_42 rfl (by decide) ?_
        refine z_sub [(0, .ref (ad k)), (1, vI d), (2, vI s), (3, vI (i + 1))] (zSub_cons rfl (zSub_cons rfl (zSub_cons rfl (zSub_cons rfl zSub_nil)))) ?_
        refine z_goto X 2 dX2_holdsForAnother_45 (by decide) ?_
        refine z_sub [(0, .ref (ad k)), (1, vI d), (2, vI s), (3, vI (i + 1))] (zSub_cons rfl (zSub_cons rfl (zSub_cons rfl (zSub_cons rfl zSub_nil)))) ?_
        exact ih (by omega) () (zAny_step i0 hv (decide_eq_false (by omega)))
      · refine z_aload_n X dX2_holdsForAnother_30 rfl ?_
        refine z_iload_n X dX2_holdsForAnother_31 rfl ?_
        refine z_iload_n X dX2_holdsForAnother_32 rfl ?_
        refine z_callVI2 X (c_X2_stateOf hJ hk σ ok (by first | assumption | (unfold zB at *; omega)) hs) kX2_66 rfl (zNet_lt hk) (zNet_obj hk ad G _ _) ⟨(Nat.le_of_ble_eq_true rfl), (Nat.le_of_ble_eq_true rfl)⟩ (Nat.le_of_ble_eq_true rfl) ⟨Nat.zero_le _, Nat.zero_le _⟩ dX2_holdsForAnother_33 (fun z9 σ1 hz9 => ?_)
        obtain ⟨rfl, rfl⟩ := hz9
        refine z_iconst X dX2_holdsForAnother_36 ?_
        refine z_icmp_ne X 42 dX2_holdsForAnother_37 (by decide) (zB_sm (rg_st ok _ _)) ⟨by decide, by decide⟩ (fun c_5 => ?_) (fun c_5 => ?_)
        · refine z_iinc X dX2_holdsForAnother_42 rfl (by decide) ?_
          refine z_sub [(0, .ref (ad k)), (1, vI d), (2, vI s), (3, vI (i + 1))] (zSub_cons rfl (zSub_cons rfl (zSub_cons rfl (zSub_cons rfl zSub_nil)))) ?_
          refine z_goto X 2 dX2_holdsForAnother_45 (by decide) ?_
          refine z_sub [(0, .ref (ad k)), (1, vI d), (2, vI s), (3, vI (i + 1))] (zSub_cons rfl (zSub_cons rfl (zSub_cons rfl (zSub_cons rfl zSub_nil)))) ?_
          exact ih (by omega) () (zAny_step i0 hv (decide_eq_false (by omega)))
        · refine z_iconst X dX2_holdsForAnother_40 ?_
          exact z_zret X hsz hr hlocks dX2_holdsForAnother_41 (Or.inr rfl) ⟨(if_pos (zAny_hit i0 (by omega) (decide_eq_true (by omega)))).symm, rfl⟩

set_option maxHeartbeats 4000000 in
set_option maxRecDepth 100000 in
theorem c_X2_castVote {l : Launch} {D : va_G} {G : zG} {ad : Nat → Nat} (hJ : zInj ad) {k : Nat} (hk : zNet k) (σ : zM) {N : Nat → Nat → Int} (ok : cOk N) {d : Int} (hd : zB d) {s : Int} (hs : zB s) {y : Int} (hy : zB y)  : zKI l D G ad yX2_castVote cX2_castVote 5 (some .int) 2 [.ref (ad k), vI d, vI s, vI y] (zBk σ k 8 N) (fun z σ9 => z = cVoteR N d s y ∧ σ9 = (zBk σ k 8 (cVoteN N d s y))) := by
  intro sz
  refine z_open hJ (by decide +kernel) (Nat.le_of_ble_eq_true rfl) ?_
  intro p e s0 m args below meth c hsz X hr hlocks
  have hn := ok_n ok
  refine z_sub [(0, .ref (ad k)), (1, vI d), (2, vI s), (3, vI y)] (zSub_cons rfl (zSub_cons rfl (zSub_cons rfl (zSub_cons rfl zSub_nil)))) ?_
  refine z_aload_n X dX2_castVote_0 rfl ?_
  refine z_iload_n X dX2_castVote_1 rfl ?_
  refine z_iload_n X dX2_castVote_2 rfl ?_
  refine z_callVI2 X (c_X2_canVote hJ hk σ ok hd hs) kX2_92 rfl (zNet_lt hk) (zNet_obj hk ad G _ _) ⟨(Nat.le_of_ble_eq_true rfl), (Nat.le_of_ble_eq_true rfl)⟩ (Nat.le_of_ble_eq_true rfl) ⟨Nat.zero_le _, Nat.zero_le _⟩ dX2_castVote_3 (fun z9 σ1 hz9 => ?_)
  obtain ⟨rfl, rfl⟩ := hz9
  refine z_ifb_ne X 11 dX2_castVote_6 (by decide) (fun c_2 => ?_) (fun c_2 => ?_)
  · refine z_iload_n X dX2_castVote_11 rfl ?_
    refine z_if_eq X 28 dX2_castVote_12 (by decide) hy (fun c_3 => ?_) (fun c_3 => ?_)
    · refine z_iconst X dX2_castVote_28 ?_
      refine z_istore X dX2_castVote_29 (by decide) ?_
      refine z_sub [(0, .ref (ad k)), (1, vI d), (2, vI s), (3, vI y), (4, vI 3)] (zSub_cons rfl (zSub_cons rfl (zSub_cons rfl (zSub_cons rfl (zSub_cons rfl zSub_nil))))) ?_
      refine z_aload_n X dX2_castVote_31 rfl ?_
      refine z_iload_n X dX2_castVote_32 rfl ?_
      refine z_iload_n X dX2_castVote_33 rfl ?_
      refine z_iload X dX2_castVote_34 rfl ?_
      refine z_callVV3 X (c_X2_enter hJ hk σ ok hd hs ⟨by decide, by decide⟩ (by first | omega | assumption)) kX2_98 rfl (zNet_lt hk) (zNet_obj hk ad G _ _) ⟨(Nat.le_of_ble_eq_true rfl), (Nat.le_of_ble_eq_true rfl)⟩ (Nat.le_of_ble_eq_true rfl) ⟨Nat.zero_le _, Nat.zero_le _⟩ dX2_castVote_36 (fun σ1 hz9 => ?_)
      obtain rfl := hz9
      refine z_iload X dX2_castVote_39 rfl ?_
      exact z_iret X hsz hr hlocks dX2_castVote_41 ⟨(by first | rfl | grind [cVoteR, cVoteN, cVoteV]), (congrArg (zBk σ _ _) (by first | rfl | grind [cVoteR, cVoteN, cVoteV]))⟩
    · have hin := cSt_in (N := N) (d := d) (s := s) (by omega)
      refine z_aload_n X dX2_castVote_15 rfl ?_
      refine z_iload_n X dX2_castVote_16 rfl ?_
      refine z_iload_n X dX2_castVote_17 rfl ?_
      refine z_callVI2 X (c_X2_holdsForAnother hJ hk σ ok hd hs (by first | omega | assumption)) kX2_95 rfl (zNet_lt hk) (zNet_obj hk ad G _ _) ⟨(Nat.le_of_ble_eq_true rfl), (Nat.le_of_ble_eq_true rfl)⟩ (Nat.le_of_ble_eq_true rfl) ⟨Nat.zero_le _, Nat.zero_le _⟩ dX2_castVote_18 (fun z9 σ1 hz9 => ?_)
      obtain ⟨rfl, rfl⟩ := hz9
      refine z_ifb_ne X 28 dX2_castVote_21 (by decide) (fun c_6 => ?_) (fun c_6 => ?_)
      · refine z_iconst X dX2_castVote_28 ?_
        refine z_istore X dX2_castVote_29 (by decide) ?_
        refine z_sub [(0, .ref (ad k)), (1, vI d), (2, vI s), (3, vI y), (4, vI 3)] (zSub_cons rfl (zSub_cons rfl (zSub_cons rfl (zSub_cons rfl (zSub_cons rfl zSub_nil))))) ?_
        refine z_aload_n X dX2_castVote_31 rfl ?_
        refine z_iload_n X dX2_castVote_32 rfl ?_
        refine z_iload_n X dX2_castVote_33 rfl ?_
        refine z_iload X dX2_castVote_34 rfl ?_
        refine z_callVV3 X (c_X2_enter hJ hk σ ok hd hs ⟨by decide, by decide⟩ (by first | omega | assumption)) kX2_98 rfl (zNet_lt hk) (zNet_obj hk ad G _ _) ⟨(Nat.le_of_ble_eq_true rfl), (Nat.le_of_ble_eq_true rfl)⟩ (Nat.le_of_ble_eq_true rfl) ⟨Nat.zero_le _, Nat.zero_le _⟩ dX2_castVote_36 (fun σ1 hz9 => ?_)
        obtain rfl := hz9
        refine z_iload X dX2_castVote_39 rfl ?_
        exact z_iret X hsz hr hlocks dX2_castVote_41 ⟨(by first | rfl | grind [cVoteR, cVoteN, cVoteV]), (congrArg (zBk σ _ _) (by first | rfl | grind [cVoteR, cVoteN, cVoteV]))⟩
      · refine z_iconst X dX2_castVote_24 ?_
        refine z_goto X 29 dX2_castVote_25 (by decide) ?_
        refine z_istore X dX2_castVote_29 (by decide) ?_
        refine z_sub [(0, .ref (ad k)), (1, vI d), (2, vI s), (3, vI y), (4, vI 1)] (zSub_cons rfl (zSub_cons rfl (zSub_cons rfl (zSub_cons rfl (zSub_cons rfl zSub_nil))))) ?_
        refine z_aload_n X dX2_castVote_31 rfl ?_
        refine z_iload_n X dX2_castVote_32 rfl ?_
        refine z_iload_n X dX2_castVote_33 rfl ?_
        refine z_iload X dX2_castVote_34 rfl ?_
        refine z_callVV3 X (c_X2_enter hJ hk σ ok hd hs ⟨by decide, by decide⟩ (by first | omega | assumption)) kX2_98 rfl (zNet_lt hk) (zNet_obj hk ad G _ _) ⟨(Nat.le_of_ble_eq_true rfl), (Nat.le_of_ble_eq_true rfl)⟩ (Nat.le_of_ble_eq_true rfl) ⟨Nat.zero_le _, Nat.zero_le _⟩ dX2_castVote_36 (fun σ1 hz9 => ?_)
        obtain rfl := hz9
        refine z_iload X dX2_castVote_39 rfl ?_
        exact z_iret X hsz hr hlocks dX2_castVote_41 ⟨(by first | rfl | grind [cVoteR, cVoteN, cVoteV]), (congrArg (zBk σ _ _) (by first | rfl | grind [cVoteR, cVoteN, cVoteV]))⟩
  · refine z_iconst X dX2_castVote_9 ?_
    exact z_iret X hsz hr hlocks dX2_castVote_10 ⟨(by first | rfl | grind [cVoteR, cVoteN, cVoteV]), (congrArg (zBk σ _ _) (by first | rfl | grind [cVoteR, cVoteN, cVoteV]))⟩

set_option maxHeartbeats 4000000 in
set_option maxRecDepth 100000 in
theorem c_X2_areAllInDoubt {l : Launch} {D : va_G} {G : zG} {ad : Nat → Nat} (hJ : zInj ad) {k : Nat} (hk : zNet k) (σ : zM) {N : Nat → Nat → Int} (ok : cOk N) {d : Int} (hd : zB d)  : zKI l D G ad yX2_areAllInDoubt cX2_areAllInDoubt 4 (some .boolean) 1 [.ref (ad k), vI d] (zBk σ k 8 N) (fun z σ9 => z = (if cAll N d then 1 else 0) ∧ σ9 = (zBk σ k 8 N)) := by
  intro sz
  refine z_open hJ (by decide +kernel) (Nat.le_of_ble_eq_true rfl) ?_
  intro p e s0 m args below meth c hsz X hr hlocks
  have hn := ok_n ok
  refine z_sub [(0, .ref (ad k)), (1, vI d)] (zSub_cons rfl (zSub_cons rfl zSub_nil)) ?_
  refine z_iconst X dX2_areAllInDoubt_0 ?_
  refine z_istore_n X dX2_areAllInDoubt_1 (by decide) ?_
  refine z_sub [(0, .ref (ad k)), (1, vI d), (2, vI 0)] (zSub_cons rfl (zSub_cons rfl (zSub_cons rfl zSub_nil))) ?_
  refine z_sub [(0, .ref (ad k)), (1, vI d), (2, vI 0)] (zSub_cons rfl (zSub_cons rfl (zSub_cons rfl zSub_nil))) ?_
  refine zFor (S := Unit) 6 (fun i _u => zAny (fun s => decide (cSt N d s ≠ -1 ∧ cSt N d s ≠ 1)) i.toNat = false) (fun i _u => zV p l e (zRm 1) s0 m args below meth c 4 D G ad 0 0 (zE below (zQI D G ad sz (fun z σ9 => z = (if cAll N d then 1 else 0) ∧ σ9 = (zBk σ k 8 N))) args s0 ad) 2 [(0, .ref (ad k)), (1, vI d), (2, vI i)] [] (zBk σ k 8 N)) (fun i _u i0 i1 hv ih => ?_) () (by omega) rfl
  refine z_iload_n X dX2_areAllInDoubt_2 rfl ?_
  refine z_bipush X dX2_areAllInDoubt_3 rfl ?_
  refine z_icmp_ge X 33 dX2_areAllInDoubt_5 (by decide) (by first | assumption | (unfold zB at *; omega)) ⟨by decide, by decide⟩ (fun c_1 => ?_) (fun c_1 => ?_)
  · refine z_iconst X dX2_areAllInDoubt_33 ?_
    exact z_zret X hsz hr hlocks dX2_areAllInDoubt_34 (Or.inr rfl) ⟨(by have e : i = 6 := (by omega); subst e; exact (if_pos hv).symm), rfl⟩
  · refine z_aload_n X dX2_areAllInDoubt_8 rfl ?_
    refine z_iload_n X dX2_areAllInDoubt_9 rfl ?_
    refine z_iload_n X dX2_areAllInDoubt_10 rfl ?_
    refine z_callVI2 X (c_X2_stateOf hJ hk σ ok hd (by first | assumption | (unfold zB at *; omega))) kX2_66 rfl (zNet_lt hk) (zNet_obj hk ad G _ _) ⟨(Nat.le_of_ble_eq_true rfl), (Nat.le_of_ble_eq_true rfl)⟩ (Nat.le_of_ble_eq_true rfl) ⟨Nat.zero_le _, Nat.zero_le _⟩ dX2_areAllInDoubt_11 (fun z9 σ1 hz9 => ?_)
    obtain ⟨rfl, rfl⟩ := hz9
    refine z_istore_n X dX2_areAllInDoubt_14 (by decide) ?_
    refine z_sub [(0, .ref (ad k)), (1, vI d), (2, vI i), (3, vI (cSt N d i))] (zSub_cons rfl (zSub_cons rfl (zSub_cons rfl (zSub_cons rfl zSub_nil)))) ?_
    refine z_iload_n X dX2_areAllInDoubt_15 rfl ?_
    refine z_iconst X dX2_areAllInDoubt_16 ?_
    refine z_icmp_eq X 27 dX2_areAllInDoubt_17 (by decide) (zB_sm (rg_st ok _ _)) ⟨by decide, by decide⟩ (fun c_3 => ?_) (fun c_3 => ?_)
    · refine z_iinc X dX2_areAllInDoubt_27 rfl (by decide) ?_
      refine z_sub [(0, .ref (ad k)), (1, vI d), (2, vI (i + 1)), (3, vI (cSt N d i))] (zSub_cons rfl (zSub_cons rfl (zSub_cons rfl (zSub_cons rfl zSub_nil)))) ?_
      refine z_goto X 2 dX2_areAllInDoubt_30 (by decide) ?_
      refine z_sub [(0, .ref (ad k)), (1, vI d), (2, vI (i + 1))] (zSub_cons rfl (zSub_cons rfl (zSub_cons rfl zSub_nil))) ?_
      exact ih (by omega) () (zAny_step i0 hv (decide_eq_false (by omega)))
    · refine z_iload_n X dX2_areAllInDoubt_20 rfl ?_
      refine z_iconst X dX2_areAllInDoubt_21 ?_
      refine z_icmp_eq X 27 dX2_areAllInDoubt_22 (by decide) (zB_sm (rg_st ok _ _)) ⟨by decide, by decide⟩ (fun c_4 => ?_) (fun c_4 => ?_)
      · refine z_iinc X dX2_areAllInDoubt_27 rfl (by decide) ?_
        refine z_sub [(0, .ref (ad k)), (1, vI d), (2, vI (i + 1)), (3, vI (cSt N d i))] (zSub_cons rfl (zSub_cons rfl (zSub_cons rfl (zSub_cons rfl zSub_nil)))) ?_
        refine z_goto X 2 dX2_areAllInDoubt_30 (by decide) ?_
        refine z_sub [(0, .ref (ad k)), (1, vI d), (2, vI (i + 1))] (zSub_cons rfl (zSub_cons rfl (zSub_cons rfl zSub_nil))) ?_
        exact ih (by omega) () (zAny_step i0 hv (decide_eq_false (by omega)))
      · refine z_iconst X dX2_areAllInDoubt_25 ?_
        exact z_zret X hsz hr hlocks dX2_areAllInDoubt_26 (Or.inl rfl) ⟨(by have hq : zAny (fun s => decide (cSt N d s ≠ -1 ∧ cSt N d s ≠ 1)) 6 = true := zAny_hit (n := 6) i0 (by omega) (decide_eq_true (by omega)); exact (if_neg (show ¬ (zAny (fun s => decide (cSt N d s ≠ -1 ∧ cSt N d s ≠ 1)) 6 = false) from by rw [hq]; decide)).symm), rfl⟩

set_option maxHeartbeats 4000000 in
set_option maxRecDepth 100000 in
theorem c_X2_makeDecision {l : Launch} {D : va_G} {G : zG} {ad : Nat → Nat} (hJ : zInj ad) {k : Nat} (hk : zNet k) (σ : zM) {N : Nat → Nat → Int} (ok : cOk N) {d : Int} (hd : zB d)  : zKI l D G ad yX2_makeDecision cX2_makeDecision 3 (some .int) 3 [.ref (ad k), vI d] (zBk σ k 8 N) (fun z σ9 => z = cDecideR N d ∧ σ9 = (zBk σ k 8 (cDecideN N d))) := by
  intro sz
  refine z_open hJ (by decide +kernel) (Nat.le_of_ble_eq_true rfl) ?_
  intro p e s0 m args below meth c hsz X hr hlocks
  have hn := ok_n ok
  refine z_sub [(0, .ref (ad k)), (1, vI d)] (zSub_cons rfl (zSub_cons rfl zSub_nil)) ?_
  refine z_aload_n X dX2_makeDecision_0 rfl ?_
  refine z_iload_n X dX2_makeDecision_1 rfl ?_
  refine z_callVI1 X (c_X2_canDecide hJ hk σ ok hd) kX2_102 rfl (zNet_lt hk) (zNet_obj hk ad G _ _) ⟨(Nat.le_of_ble_eq_true rfl), (Nat.le_of_ble_eq_true rfl)⟩ (Nat.le_of_ble_eq_true rfl) ⟨Nat.zero_le _, Nat.zero_le _⟩ dX2_makeDecision_2 (fun z9 σ1 hz9 => ?_)
  obtain ⟨rfl, rfl⟩ := hz9
  refine z_ifb_ne X 10 dX2_makeDecision_5 (by decide) (fun c_2 => ?_) (fun c_2 => ?_)
  · refine z_aload_n X dX2_makeDecision_10 rfl ?_
    refine z_iload_n X dX2_makeDecision_11 rfl ?_
    refine z_callVI1 X (c_X2_areAllInDoubt hJ hk σ ok hd) kX2_105 rfl (zNet_lt hk) (zNet_obj hk ad G _ _) ⟨(Nat.le_of_ble_eq_true rfl), (Nat.le_of_ble_eq_true rfl)⟩ (Nat.le_of_ble_eq_true rfl) ⟨Nat.zero_le _, Nat.zero_le _⟩ dX2_makeDecision_12 (fun z9 σ1 hz9 => ?_)
    obtain ⟨rfl, rfl⟩ := hz9
    refine z_ifb_eq X 22 dX2_makeDecision_15 (by decide) (fun c_4 => ?_) (fun c_4 => ?_)
    · refine z_iconst X dX2_makeDecision_22 ?_
      refine z_istore_n X dX2_makeDecision_23 (by decide) ?_
      refine z_sub [(0, .ref (ad k)), (1, vI d), (2, vI 3)] (zSub_cons rfl (zSub_cons rfl (zSub_cons rfl zSub_nil))) ?_
      refine z_aload_n X dX2_makeDecision_24 rfl ?_
      refine z_iload_n X dX2_makeDecision_25 rfl ?_
      refine z_iload_n X dX2_makeDecision_26 rfl ?_
      refine z_callVV2 X (c_X2_settle hJ hk σ ok hd ⟨by decide, by decide⟩ (by first | omega | assumption)) kX2_108 rfl (zNet_lt hk) (zNet_obj hk ad G _ _) ⟨(Nat.le_of_ble_eq_true rfl), (Nat.le_of_ble_eq_true rfl)⟩ (Nat.le_of_ble_eq_true rfl) ⟨Nat.zero_le _, Nat.zero_le _⟩ dX2_makeDecision_27 (fun σ1 hz9 => ?_)
      obtain rfl := hz9
      refine z_iload_n X dX2_makeDecision_30 rfl ?_
      exact z_iret X hsz hr hlocks dX2_makeDecision_31 ⟨(by first | rfl | grind [cDecideR, cDecideN, cDecV]), (congrArg (zBk σ _ _) (by first | rfl | grind [cDecideR, cDecideN, cDecV]))⟩
    · refine z_iconst X dX2_makeDecision_18 ?_
      refine z_goto X 23 dX2_makeDecision_19 (by decide) ?_
      refine z_istore_n X dX2_makeDecision_23 (by decide) ?_
      refine z_sub [(0, .ref (ad k)), (1, vI d), (2, vI 2)] (zSub_cons rfl (zSub_cons rfl (zSub_cons rfl zSub_nil))) ?_
      refine z_aload_n X dX2_makeDecision_24 rfl ?_
      refine z_iload_n X dX2_makeDecision_25 rfl ?_
      refine z_iload_n X dX2_makeDecision_26 rfl ?_
      refine z_callVV2 X (c_X2_settle hJ hk σ ok hd ⟨by decide, by decide⟩ (by first | omega | assumption)) kX2_108 rfl (zNet_lt hk) (zNet_obj hk ad G _ _) ⟨(Nat.le_of_ble_eq_true rfl), (Nat.le_of_ble_eq_true rfl)⟩ (Nat.le_of_ble_eq_true rfl) ⟨Nat.zero_le _, Nat.zero_le _⟩ dX2_makeDecision_27 (fun σ1 hz9 => ?_)
      obtain rfl := hz9
      refine z_iload_n X dX2_makeDecision_30 rfl ?_
      exact z_iret X hsz hr hlocks dX2_makeDecision_31 ⟨(by first | rfl | grind [cDecideR, cDecideN, cDecV]), (congrArg (zBk σ _ _) (by first | rfl | grind [cDecideR, cDecideN, cDecV]))⟩
  · refine z_iconst X dX2_makeDecision_8 ?_
    exact z_iret X hsz hr hlocks dX2_makeDecision_9 ⟨(by first | rfl | grind [cDecideR, cDecideN, cDecV]), (congrArg (zBk σ _ _) (by first | rfl | grind [cDecideR, cDecideN, cDecV]))⟩

set_option maxHeartbeats 4000000 in
set_option maxRecDepth 100000 in
theorem c_X2_tellMember {l : Launch} {D : va_G} {G : zG} {ad : Nat → Nat} (hJ : zInj ad) {k : Nat} (hk : zNet k) (σ : zM) {N : Nat → Nat → Int} (ok : cOk N) {d : Int} (hd : zB d) {s : Int} (hs : zB s)  : zKI l D G ad yX2_tellMember cX2_tellMember 5 (some .int) 3 [.ref (ad k), vI d, vI s] (zBk σ k 8 N) (fun z σ9 => z = cTellR N d s ∧ σ9 = (zBk σ k 8 (cTellN N d s))) := by
  intro sz
  refine z_open hJ (by decide +kernel) (Nat.le_of_ble_eq_true rfl) ?_
  intro p e s0 m args below meth c hsz X hr hlocks
  have hn := ok_n ok
  refine z_sub [(0, .ref (ad k)), (1, vI d), (2, vI s)] (zSub_cons rfl (zSub_cons rfl (zSub_cons rfl zSub_nil))) ?_
  refine z_aload_n X dX2_tellMember_0 rfl ?_
  refine z_iload_n X dX2_tellMember_1 rfl ?_
  refine z_iload_n X dX2_tellMember_2 rfl ?_
  refine z_callVI2 X (c_X2_canTell hJ hk σ ok hd hs) kX2_112 rfl (zNet_lt hk) (zNet_obj hk ad G _ _) ⟨(Nat.le_of_ble_eq_true rfl), (Nat.le_of_ble_eq_true rfl)⟩ (Nat.le_of_ble_eq_true rfl) ⟨Nat.zero_le _, Nat.zero_le _⟩ dX2_tellMember_3 (fun z9 σ1 hz9 => ?_)
  obtain ⟨rfl, rfl⟩ := hz9
  refine z_ifb_ne X 11 dX2_tellMember_6 (by decide) (fun c_2 => ?_) (fun c_2 => ?_)
  · refine z_aload_n X dX2_tellMember_11 rfl ?_
    refine z_iload_n X dX2_tellMember_12 rfl ?_
    refine z_callVI1 X (c_X2_decisionOf hJ hk σ ok hd) kX2_85 rfl (zNet_lt hk) (zNet_obj hk ad G _ _) ⟨(Nat.le_of_ble_eq_true rfl), (Nat.le_of_ble_eq_true rfl)⟩ (Nat.le_of_ble_eq_true rfl) ⟨Nat.zero_le _, Nat.zero_le _⟩ dX2_tellMember_13 (fun z9 σ1 hz9 => ?_)
    obtain ⟨rfl, rfl⟩ := hz9
    refine z_istore_n X dX2_tellMember_16 (by decide) ?_
    refine z_sub [(0, .ref (ad k)), (1, vI d), (2, vI s), (3, vI (cDec N d))] (zSub_cons rfl (zSub_cons rfl (zSub_cons rfl (zSub_cons rfl zSub_nil)))) ?_
    refine z_aload_n X dX2_tellMember_17 rfl ?_
    refine z_iload_n X dX2_tellMember_18 rfl ?_
    refine z_iload_n X dX2_tellMember_19 rfl ?_
    refine z_callVI2 X (c_X2_stateOf hJ hk σ ok hd hs) kX2_66 rfl (zNet_lt hk) (zNet_obj hk ad G _ _) ⟨(Nat.le_of_ble_eq_true rfl), (Nat.le_of_ble_eq_true rfl)⟩ (Nat.le_of_ble_eq_true rfl) ⟨Nat.zero_le _, Nat.zero_le _⟩ dX2_tellMember_20 (fun z9 σ1 hz9 => ?_)
    obtain ⟨rfl, rfl⟩ := hz9
    refine z_istore X dX2_tellMember_23 (by decide) ?_
    refine z_sub [(0, .ref (ad k)), (1, vI d), (2, vI s), (3, vI (cDec N d)), (4, vI (cSt N d s))] (zSub_cons rfl (zSub_cons rfl (zSub_cons rfl (zSub_cons rfl (zSub_cons rfl zSub_nil))))) ?_
    refine z_iload X dX2_tellMember_25 rfl ?_
    refine z_iconst X dX2_tellMember_27 ?_
    refine z_icmp_eq X 41 dX2_tellMember_28 (by decide) (zB_sm (rg_st ok _ _)) ⟨by decide, by decide⟩ (fun c_5 => ?_) (fun c_5 => ?_)
    · refine z_aload_n X dX2_tellMember_41 rfl ?_
      refine z_iload_n X dX2_tellMember_42 rfl ?_
      refine z_iload_n X dX2_tellMember_43 rfl ?_
      refine z_iload_n X dX2_tellMember_44 rfl ?_
      refine z_callVV3 X (c_X2_enter hJ hk σ ok hd hs (zB_sm (rg_dc ok _)) (by first | omega | assumption)) kX2_98 rfl (zNet_lt hk) (zNet_obj hk ad G _ _) ⟨(Nat.le_of_ble_eq_true rfl), (Nat.le_of_ble_eq_true rfl)⟩ (Nat.le_of_ble_eq_true rfl) ⟨Nat.zero_le _, Nat.zero_le _⟩ dX2_tellMember_45 (fun σ1 hz9 => ?_)
      obtain rfl := hz9
      refine z_aload_n X dX2_tellMember_48 rfl ?_
      refine z_iload_n X dX2_tellMember_49 rfl ?_
      refine z_iload_n X dX2_tellMember_50 rfl ?_
      refine z_callVI2 X (c_X2_stateOf hJ hk σ (ok_enter ok (by first | omega | assumption)) hd hs) kX2_66 rfl (zNet_lt hk) (zNet_obj hk ad G _ _) ⟨(Nat.le_of_ble_eq_true rfl), (Nat.le_of_ble_eq_true rfl)⟩ (Nat.le_of_ble_eq_true rfl) ⟨Nat.zero_le _, Nat.zero_le _⟩ dX2_tellMember_51 (fun z9 σ1 hz9 => ?_)
      obtain ⟨rfl, rfl⟩ := hz9
      exact z_iret X hsz hr hlocks dX2_tellMember_54 ⟨(by first | rfl | grind [cTellR, cTellN]), (congrArg (zBk σ _ _) (by first | rfl | grind [cTellR, cTellN]))⟩
    · refine z_iload X dX2_tellMember_31 rfl ?_
      refine z_if_ne X 48 dX2_tellMember_33 (by decide) (zB_sm (rg_st ok _ _)) (fun c_8 => ?_) (fun c_8 => ?_)
      · refine z_aload_n X dX2_tellMember_48 rfl ?_
        refine z_iload_n X dX2_tellMember_49 rfl ?_
        refine z_iload_n X dX2_tellMember_50 rfl ?_
        refine z_callVI2 X (c_X2_stateOf hJ hk σ ok hd hs) kX2_66 rfl (zNet_lt hk) (zNet_obj hk ad G _ _) ⟨(Nat.le_of_ble_eq_true rfl), (Nat.le_of_ble_eq_true rfl)⟩ (Nat.le_of_ble_eq_true rfl) ⟨Nat.zero_le _, Nat.zero_le _⟩ dX2_tellMember_51 (fun z9 σ1 hz9 => ?_)
        obtain ⟨rfl, rfl⟩ := hz9
        exact z_iret X hsz hr hlocks dX2_tellMember_54 ⟨(by first | rfl | grind [cTellR, cTellN]), (congrArg (zBk σ _ _) (by first | rfl | grind [cTellR, cTellN]))⟩
      · refine z_iload_n X dX2_tellMember_36 rfl ?_
        refine z_iconst X dX2_tellMember_37 ?_
        refine z_icmp_ne X 48 dX2_tellMember_38 (by decide) (zB_sm (rg_dc ok _)) ⟨by decide, by decide⟩ (fun c_10 => ?_) (fun c_10 => ?_)
        · refine z_aload_n X dX2_tellMember_48 rfl ?_
          refine z_iload_n X dX2_tellMember_49 rfl ?_
          refine z_iload_n X dX2_tellMember_50 rfl ?_
          refine z_callVI2 X (c_X2_stateOf hJ hk σ ok hd hs) kX2_66 rfl (zNet_lt hk) (zNet_obj hk ad G _ _) ⟨(Nat.le_of_ble_eq_true rfl), (Nat.le_of_ble_eq_true rfl)⟩ (Nat.le_of_ble_eq_true rfl) ⟨Nat.zero_le _, Nat.zero_le _⟩ dX2_tellMember_51 (fun z9 σ1 hz9 => ?_)
          obtain ⟨rfl, rfl⟩ := hz9
          exact z_iret X hsz hr hlocks dX2_tellMember_54 ⟨(by first | rfl | grind [cTellR, cTellN]), (congrArg (zBk σ _ _) (by first | rfl | grind [cTellR, cTellN]))⟩
        · refine z_aload_n X dX2_tellMember_41 rfl ?_
          refine z_iload_n X dX2_tellMember_42 rfl ?_
          refine z_iload_n X dX2_tellMember_43 rfl ?_
          refine z_iload_n X dX2_tellMember_44 rfl ?_
          refine z_callVV3 X (c_X2_enter hJ hk σ ok hd hs (zB_sm (rg_dc ok _)) (by first | omega | assumption)) kX2_98 rfl (zNet_lt hk) (zNet_obj hk ad G _ _) ⟨(Nat.le_of_ble_eq_true rfl), (Nat.le_of_ble_eq_true rfl)⟩ (Nat.le_of_ble_eq_true rfl) ⟨Nat.zero_le _, Nat.zero_le _⟩ dX2_tellMember_45 (fun σ1 hz9 => ?_)
          obtain rfl := hz9
          refine z_aload_n X dX2_tellMember_48 rfl ?_
          refine z_iload_n X dX2_tellMember_49 rfl ?_
          refine z_iload_n X dX2_tellMember_50 rfl ?_
          refine z_callVI2 X (c_X2_stateOf hJ hk σ (ok_enter ok (by first | omega | assumption)) hd hs) kX2_66 rfl (zNet_lt hk) (zNet_obj hk ad G _ _) ⟨(Nat.le_of_ble_eq_true rfl), (Nat.le_of_ble_eq_true rfl)⟩ (Nat.le_of_ble_eq_true rfl) ⟨Nat.zero_le _, Nat.zero_le _⟩ dX2_tellMember_51 (fun z9 σ1 hz9 => ?_)
          obtain ⟨rfl, rfl⟩ := hz9
          exact z_iret X hsz hr hlocks dX2_tellMember_54 ⟨(by first | rfl | grind [cTellR, cTellN]), (congrArg (zBk σ _ _) (by first | rfl | grind [cTellR, cTellN]))⟩
  · refine z_iconst X dX2_tellMember_9 ?_
    exact z_iret X hsz hr hlocks dX2_tellMember_10 ⟨(by first | rfl | grind [cTellR, cTellN]), (congrArg (zBk σ _ _) (by first | rfl | grind [cTellR, cTellN]))⟩

set_option maxHeartbeats 4000000 in
set_option maxRecDepth 100000 in
theorem c_X2_putQuestion {l : Launch} {D : va_G} {G : zG} {ad : Nat → Nat} (hJ : zInj ad) {k : Nat} (hk : zNet k) (σ : zM) {N : Nat → Nat → Int} (ok : cOk N) {d : Int} (hd : zB d) {s : Int} (hs : zB s) {o : Int} (ho : zB o)  : zKI l D G ad yX2_putQuestion cX2_putQuestion 5 (some .int) 2 [.ref (ad k), vI d, vI s, vI o] (zBk σ k 8 N) (fun z σ9 => z = cAskR N d s o ∧ σ9 = (zBk σ k 8 (cAskN N d s o))) := by
  intro sz
  refine z_open hJ (by decide +kernel) (Nat.le_of_ble_eq_true rfl) ?_
  intro p e s0 m args below meth c hsz X hr hlocks
  have hn := ok_n ok
  refine z_sub [(0, .ref (ad k)), (1, vI d), (2, vI s), (3, vI o)] (zSub_cons rfl (zSub_cons rfl (zSub_cons rfl (zSub_cons rfl zSub_nil)))) ?_
  refine z_aload_n X dX2_putQuestion_0 rfl ?_
  refine z_iload_n X dX2_putQuestion_1 rfl ?_
  refine z_iload_n X dX2_putQuestion_2 rfl ?_
  refine z_iload_n X dX2_putQuestion_3 rfl ?_
  refine z_callVI3 X (c_X2_canAsk hJ hk σ ok hd hs ho) kX2_115 rfl (zNet_lt hk) (zNet_obj hk ad G _ _) ⟨(Nat.le_of_ble_eq_true rfl), (Nat.le_of_ble_eq_true rfl)⟩ (Nat.le_of_ble_eq_true rfl) ⟨Nat.zero_le _, Nat.zero_le _⟩ dX2_putQuestion_4 (fun z9 σ1 hz9 => ?_)
  obtain ⟨rfl, rfl⟩ := hz9
  refine z_ifb_ne X 12 dX2_putQuestion_7 (by decide) (fun c_2 => ?_) (fun c_2 => ?_)
  · refine z_aload_n X dX2_putQuestion_12 rfl ?_
    refine z_dup X dX2_putQuestion_13 rfl ?_
    refine y_gNet2 X hk fX2_18 dX2_putQuestion_14 ?_
    refine z_iconst X dX2_putQuestion_17 ?_
    refine z_iadd X dX2_putQuestion_18 ?_
    refine y_pNet2 X hk fX2_18 dX2_putQuestion_19 ?_
    rw [show (up2 N 0 2 ((N 0 2) + 1)) = cAsk1 N from rfl]
    refine z_aload_n X dX2_putQuestion_22 rfl ?_
    refine z_iload_n X dX2_putQuestion_23 rfl ?_
    refine z_iload_n X dX2_putQuestion_24 rfl ?_
    refine z_callVI2 X (c_X2_stateOf hJ hk σ (ok_f2 ok _) hd ho) kX2_66 rfl (zNet_lt hk) (zNet_obj hk ad G _ _) ⟨(Nat.le_of_ble_eq_true rfl), (Nat.le_of_ble_eq_true rfl)⟩ (Nat.le_of_ble_eq_true rfl) ⟨Nat.zero_le _, Nat.zero_le _⟩ dX2_putQuestion_25 (fun z9 σ1 hz9 => ?_)
    obtain ⟨rfl, rfl⟩ := hz9
    refine z_istore X dX2_putQuestion_28 (by decide) ?_
    refine z_sub [(0, .ref (ad k)), (1, vI d), (2, vI s), (3, vI o), (4, vI (cSt (cAsk1 N) d o))] (zSub_cons rfl (zSub_cons rfl (zSub_cons rfl (zSub_cons rfl (zSub_cons rfl zSub_nil))))) ?_
    refine z_iload_n X dX2_putQuestion_30 rfl ?_
    refine z_aload_n X dX2_putQuestion_31 rfl ?_
    refine z_iload_n X dX2_putQuestion_32 rfl ?_
    refine z_callVI1 X (c_X2_leaderOf hJ hk σ (ok_f2 ok _) hd) kX2_82 rfl (zNet_lt hk) (zNet_obj hk ad G _ _) ⟨(Nat.le_of_ble_eq_true rfl), (Nat.le_of_ble_eq_true rfl)⟩ (Nat.le_of_ble_eq_true rfl) ⟨Nat.zero_le _, Nat.zero_le _⟩ dX2_putQuestion_33 (fun z9 σ1 hz9 => ?_)
    obtain ⟨rfl, rfl⟩ := hz9
    refine z_icmp_ne X 63 dX2_putQuestion_36 (by decide) ho (zB_sm (rg_ld (ok_f2 ok _) _)) (fun c_5 => ?_) (fun c_5 => ?_)
    · refine z_iload X dX2_putQuestion_63 rfl ?_
      refine z_if_ne X 78 dX2_putQuestion_65 (by decide) (zB_sm (rg_st (ok_f2 ok _) _ _)) (fun c_6 => ?_) (fun c_6 => ?_)
      · refine z_iload X dX2_putQuestion_78 rfl ?_
        refine z_callSI1 X (c_X2_isEnd hJ _ (zB_sm (rg_st (ok_f2 ok _) _ _))) kX2_69 ⟨(Nat.le_of_ble_eq_true rfl), (Nat.le_of_ble_eq_true rfl)⟩ (Nat.le_of_ble_eq_true rfl) ⟨Nat.zero_le _, Nat.zero_le _⟩ dX2_putQuestion_80 (fun z9 σ1 hz9 => ?_)
        obtain ⟨rfl, rfl⟩ := hz9
        refine z_ifb_eq X 94 dX2_putQuestion_83 (by decide) (fun c_8 => ?_) (fun c_8 => ?_)
        · refine z_aload_n X dX2_putQuestion_94 rfl ?_
          refine z_iload_n X dX2_putQuestion_95 rfl ?_
          refine z_iload_n X dX2_putQuestion_96 rfl ?_
          refine z_callVI2 X (c_X2_stateOf hJ hk σ (ok_f2 ok _) hd hs) kX2_66 rfl (zNet_lt hk) (zNet_obj hk ad G _ _) ⟨(Nat.le_of_ble_eq_true rfl), (Nat.le_of_ble_eq_true rfl)⟩ (Nat.le_of_ble_eq_true rfl) ⟨Nat.zero_le _, Nat.zero_le _⟩ dX2_putQuestion_97 (fun z9 σ1 hz9 => ?_)
          obtain ⟨rfl, rfl⟩ := hz9
          exact z_iret X hsz hr hlocks dX2_putQuestion_100 ⟨(by first | rfl | grind [cAsk1, cAskR, cAskN, cAsk4, cAsk3, cAsk2]), (congrArg (zBk σ _ _) (by first | rfl | grind [cAsk1, cAskR, cAskN, cAsk4, cAsk3, cAsk2]))⟩
        · refine z_aload_n X dX2_putQuestion_86 rfl ?_
          refine z_iload_n X dX2_putQuestion_87 rfl ?_
          refine z_iload_n X dX2_putQuestion_88 rfl ?_
          refine z_iload X dX2_putQuestion_89 rfl ?_
          refine z_callVV3 X (c_X2_enter hJ hk σ (ok_f2 ok _) hd hs (zB_sm (rg_st (ok_f2 ok _) _ _)) (by first | omega | assumption)) kX2_98 rfl (zNet_lt hk) (zNet_obj hk ad G _ _) ⟨(Nat.le_of_ble_eq_true rfl), (Nat.le_of_ble_eq_true rfl)⟩ (Nat.le_of_ble_eq_true rfl) ⟨Nat.zero_le _, Nat.zero_le _⟩ dX2_putQuestion_91 (fun σ1 hz9 => ?_)
          obtain rfl := hz9
          refine z_aload_n X dX2_putQuestion_94 rfl ?_
          refine z_iload_n X dX2_putQuestion_95 rfl ?_
          refine z_iload_n X dX2_putQuestion_96 rfl ?_
          refine z_callVI2 X (c_X2_stateOf hJ hk σ (ok_enter (ok_f2 ok _) (by first | omega | assumption)) hd hs) kX2_66 rfl (zNet_lt hk) (zNet_obj hk ad G _ _) ⟨(Nat.le_of_ble_eq_true rfl), (Nat.le_of_ble_eq_true rfl)⟩ (Nat.le_of_ble_eq_true rfl) ⟨Nat.zero_le _, Nat.zero_le _⟩ dX2_putQuestion_97 (fun z9 σ1 hz9 => ?_)
          obtain ⟨rfl, rfl⟩ := hz9
          exact z_iret X hsz hr hlocks dX2_putQuestion_100 ⟨(by first | rfl | grind [cAsk1, cAskR, cAskN, cAsk4, cAsk3, cAsk2]), (congrArg (zBk σ _ _) (by first | rfl | grind [cAsk1, cAskR, cAskN, cAsk4, cAsk3, cAsk2]))⟩
      · refine z_aload_n X dX2_putQuestion_68 rfl ?_
        refine z_iload_n X dX2_putQuestion_69 rfl ?_
        refine z_iload_n X dX2_putQuestion_70 rfl ?_
        refine z_iconst X dX2_putQuestion_71 ?_
        refine z_callVV3 X (c_X2_enter hJ hk σ (ok_f2 ok _) hd ho ⟨by decide, by decide⟩ (by first | omega | assumption)) kX2_98 rfl (zNet_lt hk) (zNet_obj hk ad G _ _) ⟨(Nat.le_of_ble_eq_true rfl), (Nat.le_of_ble_eq_true rfl)⟩ (Nat.le_of_ble_eq_true rfl) ⟨Nat.zero_le _, Nat.zero_le _⟩ dX2_putQuestion_72 (fun σ1 hz9 => ?_)
        obtain rfl := hz9
        refine z_iconst X dX2_putQuestion_75 ?_
        refine z_istore X dX2_putQuestion_76 (by decide) ?_
        refine z_sub [(0, .ref (ad k)), (1, vI d), (2, vI s), (3, vI o), (4, vI 3)] (zSub_cons rfl (zSub_cons rfl (zSub_cons rfl (zSub_cons rfl (zSub_cons rfl zSub_nil))))) ?_
        refine z_iload X dX2_putQuestion_78 rfl ?_
        refine z_callSI1 X (c_X2_isEnd hJ _ ⟨by decide, by decide⟩) kX2_69 ⟨(Nat.le_of_ble_eq_true rfl), (Nat.le_of_ble_eq_true rfl)⟩ (Nat.le_of_ble_eq_true rfl) ⟨Nat.zero_le _, Nat.zero_le _⟩ dX2_putQuestion_80 (fun z9 σ1 hz9 => ?_)
        obtain ⟨rfl, rfl⟩ := hz9
        refine z_ifb_eq X 94 dX2_putQuestion_83 (by decide) (fun c_14 => ?_) (fun c_14 => ?_)
        · refine z_aload_n X dX2_putQuestion_94 rfl ?_
          refine z_iload_n X dX2_putQuestion_95 rfl ?_
          refine z_iload_n X dX2_putQuestion_96 rfl ?_
          refine z_callVI2 X (c_X2_stateOf hJ hk σ (ok_enter (ok_f2 ok _) (by first | omega | assumption)) hd hs) kX2_66 rfl (zNet_lt hk) (zNet_obj hk ad G _ _) ⟨(Nat.le_of_ble_eq_true rfl), (Nat.le_of_ble_eq_true rfl)⟩ (Nat.le_of_ble_eq_true rfl) ⟨Nat.zero_le _, Nat.zero_le _⟩ dX2_putQuestion_97 (fun z9 σ1 hz9 => ?_)
          obtain ⟨rfl, rfl⟩ := hz9
          exact z_iret X hsz hr hlocks dX2_putQuestion_100 ⟨(by first | rfl | grind [cAsk1, cAskR, cAskN, cAsk4, cAsk3, cAsk2]), (congrArg (zBk σ _ _) (by first | rfl | grind [cAsk1, cAskR, cAskN, cAsk4, cAsk3, cAsk2]))⟩
        · refine z_aload_n X dX2_putQuestion_86 rfl ?_
          refine z_iload_n X dX2_putQuestion_87 rfl ?_
          refine z_iload_n X dX2_putQuestion_88 rfl ?_
          refine z_iload X dX2_putQuestion_89 rfl ?_
          refine z_callVV3 X (c_X2_enter hJ hk σ (ok_enter (ok_f2 ok _) (by first | omega | assumption)) hd hs ⟨by decide, by decide⟩ (by first | omega | assumption)) kX2_98 rfl (zNet_lt hk) (zNet_obj hk ad G _ _) ⟨(Nat.le_of_ble_eq_true rfl), (Nat.le_of_ble_eq_true rfl)⟩ (Nat.le_of_ble_eq_true rfl) ⟨Nat.zero_le _, Nat.zero_le _⟩ dX2_putQuestion_91 (fun σ1 hz9 => ?_)
          obtain rfl := hz9
          refine z_aload_n X dX2_putQuestion_94 rfl ?_
          refine z_iload_n X dX2_putQuestion_95 rfl ?_
          refine z_iload_n X dX2_putQuestion_96 rfl ?_
          refine z_callVI2 X (c_X2_stateOf hJ hk σ (ok_enter (ok_enter (ok_f2 ok _) (by first | omega | assumption)) (by first | omega | assumption)) hd hs) kX2_66 rfl (zNet_lt hk) (zNet_obj hk ad G _ _) ⟨(Nat.le_of_ble_eq_true rfl), (Nat.le_of_ble_eq_true rfl)⟩ (Nat.le_of_ble_eq_true rfl) ⟨Nat.zero_le _, Nat.zero_le _⟩ dX2_putQuestion_97 (fun z9 σ1 hz9 => ?_)
          obtain ⟨rfl, rfl⟩ := hz9
          exact z_iret X hsz hr hlocks dX2_putQuestion_100 ⟨(by first | rfl | grind [cAsk1, cAskR, cAskN, cAsk4, cAsk3, cAsk2]), (congrArg (zBk σ _ _) (by first | rfl | grind [cAsk1, cAskR, cAskN, cAsk4, cAsk3, cAsk2]))⟩
    · refine z_aload_n X dX2_putQuestion_39 rfl ?_
      refine z_iload_n X dX2_putQuestion_40 rfl ?_
      refine z_callVI1 X (c_X2_decisionOf hJ hk σ (ok_f2 ok _) hd) kX2_85 rfl (zNet_lt hk) (zNet_obj hk ad G _ _) ⟨(Nat.le_of_ble_eq_true rfl), (Nat.le_of_ble_eq_true rfl)⟩ (Nat.le_of_ble_eq_true rfl) ⟨Nat.zero_le _, Nat.zero_le _⟩ dX2_putQuestion_41 (fun z9 σ1 hz9 => ?_)
      obtain ⟨rfl, rfl⟩ := hz9
      refine z_if_ne X 53 dX2_putQuestion_44 (by decide) (zB_sm (rg_dc (ok_f2 ok _) _)) (fun c_19 => ?_) (fun c_19 => ?_)
      · refine z_aload_n X dX2_putQuestion_53 rfl ?_
        refine z_iload_n X dX2_putQuestion_54 rfl ?_
        refine z_callVI1 X (c_X2_decisionOf hJ hk σ (ok_f2 ok _) hd) kX2_85 rfl (zNet_lt hk) (zNet_obj hk ad G _ _) ⟨(Nat.le_of_ble_eq_true rfl), (Nat.le_of_ble_eq_true rfl)⟩ (Nat.le_of_ble_eq_true rfl) ⟨Nat.zero_le _, Nat.zero_le _⟩ dX2_putQuestion_55 (fun z9 σ1 hz9 => ?_)
        obtain ⟨rfl, rfl⟩ := hz9
        refine z_istore X dX2_putQuestion_58 (by decide) ?_
        refine z_sub [(0, .ref (ad k)), (1, vI d), (2, vI s), (3, vI o), (4, vI (cDec (cAsk1 N) d))] (zSub_cons rfl (zSub_cons rfl (zSub_cons rfl (zSub_cons rfl (zSub_cons rfl zSub_nil))))) ?_
        refine z_goto X 78 dX2_putQuestion_60 (by decide) ?_
        refine z_iload X dX2_putQuestion_78 rfl ?_
        refine z_callSI1 X (c_X2_isEnd hJ _ (zB_sm (rg_dc (ok_f2 ok _) _))) kX2_69 ⟨(Nat.le_of_ble_eq_true rfl), (Nat.le_of_ble_eq_true rfl)⟩ (Nat.le_of_ble_eq_true rfl) ⟨Nat.zero_le _, Nat.zero_le _⟩ dX2_putQuestion_80 (fun z9 σ1 hz9 => ?_)
        obtain ⟨rfl, rfl⟩ := hz9
        refine z_ifb_eq X 94 dX2_putQuestion_83 (by decide) (fun c_22 => ?_) (fun c_22 => ?_)
        · refine z_aload_n X dX2_putQuestion_94 rfl ?_
          refine z_iload_n X dX2_putQuestion_95 rfl ?_
          refine z_iload_n X dX2_putQuestion_96 rfl ?_
          refine z_callVI2 X (c_X2_stateOf hJ hk σ (ok_f2 ok _) hd hs) kX2_66 rfl (zNet_lt hk) (zNet_obj hk ad G _ _) ⟨(Nat.le_of_ble_eq_true rfl), (Nat.le_of_ble_eq_true rfl)⟩ (Nat.le_of_ble_eq_true rfl) ⟨Nat.zero_le _, Nat.zero_le _⟩ dX2_putQuestion_97 (fun z9 σ1 hz9 => ?_)
          obtain ⟨rfl, rfl⟩ := hz9
          exact z_iret X hsz hr hlocks dX2_putQuestion_100 ⟨(by first | rfl | grind [cAsk1, cAskR, cAskN, cAsk4, cAsk3, cAsk2]), (congrArg (zBk σ _ _) (by first | rfl | grind [cAsk1, cAskR, cAskN, cAsk4, cAsk3, cAsk2]))⟩
        · refine z_aload_n X dX2_putQuestion_86 rfl ?_
          refine z_iload_n X dX2_putQuestion_87 rfl ?_
          refine z_iload_n X dX2_putQuestion_88 rfl ?_
          refine z_iload X dX2_putQuestion_89 rfl ?_
          refine z_callVV3 X (c_X2_enter hJ hk σ (ok_f2 ok _) hd hs (zB_sm (rg_dc (ok_f2 ok _) _)) (by first | omega | assumption)) kX2_98 rfl (zNet_lt hk) (zNet_obj hk ad G _ _) ⟨(Nat.le_of_ble_eq_true rfl), (Nat.le_of_ble_eq_true rfl)⟩ (Nat.le_of_ble_eq_true rfl) ⟨Nat.zero_le _, Nat.zero_le _⟩ dX2_putQuestion_91 (fun σ1 hz9 => ?_)
          obtain rfl := hz9
          refine z_aload_n X dX2_putQuestion_94 rfl ?_
          refine z_iload_n X dX2_putQuestion_95 rfl ?_
          refine z_iload_n X dX2_putQuestion_96 rfl ?_
          refine z_callVI2 X (c_X2_stateOf hJ hk σ (ok_enter (ok_f2 ok _) (by first | omega | assumption)) hd hs) kX2_66 rfl (zNet_lt hk) (zNet_obj hk ad G _ _) ⟨(Nat.le_of_ble_eq_true rfl), (Nat.le_of_ble_eq_true rfl)⟩ (Nat.le_of_ble_eq_true rfl) ⟨Nat.zero_le _, Nat.zero_le _⟩ dX2_putQuestion_97 (fun z9 σ1 hz9 => ?_)
          obtain ⟨rfl, rfl⟩ := hz9
          exact z_iret X hsz hr hlocks dX2_putQuestion_100 ⟨(by first | rfl | grind [cAsk1, cAskR, cAskN, cAsk4, cAsk3, cAsk2]), (congrArg (zBk σ _ _) (by first | rfl | grind [cAsk1, cAskR, cAskN, cAsk4, cAsk3, cAsk2]))⟩
      · refine z_aload_n X dX2_putQuestion_47 rfl ?_
        refine z_iload_n X dX2_putQuestion_48 rfl ?_
        refine z_iconst X dX2_putQuestion_49 ?_
        refine z_callVV2 X (c_X2_settle hJ hk σ (ok_f2 ok _) hd ⟨by decide, by decide⟩ (by first | omega | assumption)) kX2_108 rfl (zNet_lt hk) (zNet_obj hk ad G _ _) ⟨(Nat.le_of_ble_eq_true rfl), (Nat.le_of_ble_eq_true rfl)⟩ (Nat.le_of_ble_eq_true rfl) ⟨Nat.zero_le _, Nat.zero_le _⟩ dX2_putQuestion_50 (fun σ1 hz9 => ?_)
        obtain rfl := hz9
        refine z_aload_n X dX2_putQuestion_53 rfl ?_
        refine z_iload_n X dX2_putQuestion_54 rfl ?_
        refine z_callVI1 X (c_X2_decisionOf hJ hk σ (ok_settle (ok_f2 ok _) (by first | omega | assumption)) hd) kX2_85 rfl (zNet_lt hk) (zNet_obj hk ad G _ _) ⟨(Nat.le_of_ble_eq_true rfl), (Nat.le_of_ble_eq_true rfl)⟩ (Nat.le_of_ble_eq_true rfl) ⟨Nat.zero_le _, Nat.zero_le _⟩ dX2_putQuestion_55 (fun z9 σ1 hz9 => ?_)
        obtain ⟨rfl, rfl⟩ := hz9
        refine z_istore X dX2_putQuestion_58 (by decide) ?_
        refine z_sub [(0, .ref (ad k)), (1, vI d), (2, vI s), (3, vI o), (4, vI (cDec (cSettle (cAsk1 N) d 3) d))] (zSub_cons rfl (zSub_cons rfl (zSub_cons rfl (zSub_cons rfl (zSub_cons rfl zSub_nil))))) ?_
        refine z_goto X 78 dX2_putQuestion_60 (by decide) ?_
        refine z_iload X dX2_putQuestion_78 rfl ?_
        refine z_callSI1 X (c_X2_isEnd hJ _ (zB_sm (rg_dc (ok_settle (ok_f2 ok _) (by first | omega | assumption)) _))) kX2_69 ⟨(Nat.le_of_ble_eq_true rfl), (Nat.le_of_ble_eq_true rfl)⟩ (Nat.le_of_ble_eq_true rfl) ⟨Nat.zero_le _, Nat.zero_le _⟩ dX2_putQuestion_80 (fun z9 σ1 hz9 => ?_)
        obtain ⟨rfl, rfl⟩ := hz9
        refine z_ifb_eq X 94 dX2_putQuestion_83 (by decide) (fun c_29 => ?_) (fun c_29 => ?_)
        · refine z_aload_n X dX2_putQuestion_94 rfl ?_
          refine z_iload_n X dX2_putQuestion_95 rfl ?_
          refine z_iload_n X dX2_putQuestion_96 rfl ?_
          refine z_callVI2 X (c_X2_stateOf hJ hk σ (ok_settle (ok_f2 ok _) (by first | omega | assumption)) hd hs) kX2_66 rfl (zNet_lt hk) (zNet_obj hk ad G _ _) ⟨(Nat.le_of_ble_eq_true rfl), (Nat.le_of_ble_eq_true rfl)⟩ (Nat.le_of_ble_eq_true rfl) ⟨Nat.zero_le _, Nat.zero_le _⟩ dX2_putQuestion_97 (fun z9 σ1 hz9 => ?_)
          obtain ⟨rfl, rfl⟩ := hz9
          exact z_iret X hsz hr hlocks dX2_putQuestion_100 ⟨(by first | rfl | grind [cAsk1, cAskR, cAskN, cAsk4, cAsk3, cAsk2]), (congrArg (zBk σ _ _) (by first | rfl | grind [cAsk1, cAskR, cAskN, cAsk4, cAsk3, cAsk2]))⟩
        · refine z_aload_n X dX2_putQuestion_86 rfl ?_
          refine z_iload_n X dX2_putQuestion_87 rfl ?_
          refine z_iload_n X dX2_putQuestion_88 rfl ?_
          refine z_iload X dX2_putQuestion_89 rfl ?_
          refine z_callVV3 X (c_X2_enter hJ hk σ (ok_settle (ok_f2 ok _) (by first | omega | assumption)) hd hs (zB_sm (rg_dc (ok_settle (ok_f2 ok _) (by first | omega | assumption)) _)) (by first | omega | assumption)) kX2_98 rfl (zNet_lt hk) (zNet_obj hk ad G _ _) ⟨(Nat.le_of_ble_eq_true rfl), (Nat.le_of_ble_eq_true rfl)⟩ (Nat.le_of_ble_eq_true rfl) ⟨Nat.zero_le _, Nat.zero_le _⟩ dX2_putQuestion_91 (fun σ1 hz9 => ?_)
          obtain rfl := hz9
          refine z_aload_n X dX2_putQuestion_94 rfl ?_
          refine z_iload_n X dX2_putQuestion_95 rfl ?_
          refine z_iload_n X dX2_putQuestion_96 rfl ?_
          refine z_callVI2 X (c_X2_stateOf hJ hk σ (ok_enter (ok_settle (ok_f2 ok _) (by first | omega | assumption)) (by first | omega | assumption)) hd hs) kX2_66 rfl (zNet_lt hk) (zNet_obj hk ad G _ _) ⟨(Nat.le_of_ble_eq_true rfl), (Nat.le_of_ble_eq_true rfl)⟩ (Nat.le_of_ble_eq_true rfl) ⟨Nat.zero_le _, Nat.zero_le _⟩ dX2_putQuestion_97 (fun z9 σ1 hz9 => ?_)
          obtain ⟨rfl, rfl⟩ := hz9
          exact z_iret X hsz hr hlocks dX2_putQuestion_100 ⟨(by first | rfl | grind [cAsk1, cAskR, cAskN, cAsk4, cAsk3, cAsk2]), (congrArg (zBk σ _ _) (by first | rfl | grind [cAsk1, cAskR, cAskN, cAsk4, cAsk3, cAsk2]))⟩
  · refine z_iconst X dX2_putQuestion_10 ?_
    exact z_iret X hsz hr hlocks dX2_putQuestion_11 ⟨(by first | rfl | grind [cAsk1, cAskR, cAskN, cAsk4, cAsk3, cAsk2]), (congrArg (zBk σ _ _) (by first | rfl | grind [cAsk1, cAskR, cAskN, cAsk4, cAsk3, cAsk2]))⟩
