theorem fl_n {N : zNt} {b : Int} (hb0 : 0 ≤ b) : N 1 (b + 3).toNat = mV N b 0 0 := ((mV_rd (by omega) (by decide)).trans (congrArg (N 1) (by unfold mIx; simp; omega))).symm
theorem fl_n0 {N : zNt} : N 1 (3 : Int).toNat = mV N 0 0 0 := fl_n (b := 0) (by decide)
theorem rg_decV (N : zNt) (d : Int) : 2 ≤ cDecV N d ∧ cDecV N d ≤ 3 := by unfold cDecV; split <;> decide
theorem dc_v {N : zNt} (ok : rOk N) {d : Int} (hd : cHas N d) : 0 ≤ cDec N d ∧ cDec N d ≤ 3 := by
  have hn := rk_n ok
  unfold cDec; rw [if_pos hd]
  exact rk_dc ok (by omega)
theorem dc_23 {N : zNt} (ok : rOk N) {d : Int} (hd : cHas N d) (h : cDec N d ≠ 0) : cDec N d = 2 ∨ cDec N d = 3 := by
  have hn := rk_n ok
  have h1 := dc_v ok hd
  have h2 := rk_d1 ok (d := d.toNat) (by omega)
  have h3 : cDec N d = N 3 d.toNat := if_pos hd
  omega
theorem n_aTell (N : zNt) (d s : Int) (j : Nat) : aTell N d s 0 j = N 0 j := by
  unfold aTell; split
  · rw [n_aEnter]
  · rfl
theorem rk_aTell {N : zNt} (ok : rOk N) {d s : Int} (hd : cHas N d) : rOk (aTell N d s) := by
  have h := dc_v ok hd
  unfold aTell; split
  · exact rk_aEnter ok h (by omega)
  · exact ok
theorem bd_aTell {N : zNt} (ok : rOk N) (bd : Bud N) {d s : Int} (hd : cHas N d) (h : cDec N d = 2 ∨ cDec N d = 3) : Bud (aTell N d s) := by
  unfold aTell; split
  · exact bd_aEnter (rk_n ok) bd (by omega)
  · exact bd
theorem rk_ask1 {N : zNt} (ok : rOk N) : rOk (cAsk1 N) :=
  ⟨ok.1, ok.2.1, ok.2.2.1, ok.2.2.2.1, ok.2.2.2.2.1, ok.2.2.2.2.2⟩
theorem bd_ask1 {N : zNt} (bd : Bud N) : Bud (cAsk1 N) := bd
theorem st_ask1 (N : zNt) (d s : Int) : cSt (cAsk1 N) d s = cSt N d s := rfl
theorem ml_ask1 {N : zNt} {b : Int} (hb0 : 0 ≤ b ∧ b ≤ 1974) : mTo N (up2 N 1 (b + 1).toNat (N 1 (b + 1).toNat + 1)) b (cAsk1 (mV N b)) := by
  have e : N 1 (b + 1).toNat = mV N b 0 2 := ((mV_rd (by omega) (by decide)).trans (congrArg (N 1) (by unfold mIx; simp; omega))).symm
  rw [e]
  exact mTo_w (by omega) (by unfold mIx; simp; omega) (by decide) (fun h9 => absurd h9 (by decide))
theorem n_aAsk3 (N : zNt) (d s o : Int) (j : Nat) : aAsk3 N d s o 0 j = N 0 j := by
  unfold aAsk3; split
  · rw [n_aTell, n_ask2]
  · split
    · unfold aAsk2; split
      · rw [n_aEnter, n_aEnter]
      · rw [n_aEnter]
    · rfl
theorem n_aAsk (N : zNt) (d s o : Int) (j : Nat) (h : j ≠ 2) : aAsk N d s o 0 j = N 0 j := by
  unfold aAsk; rw [n_aAsk3]; exact up2_ne _ _ (fun q => h q.2)
theorem dc_ask2 {N : zNt} (ok : rOk N) {d : Int} (hd : cHas N d) : cDec (cAsk2 N d) d = 2 ∨ cDec (cAsk2 N d) d = 3 := by
  unfold cAsk2; split
  · rw [dc_settle hd, if_pos rfl]; exact Or.inr rfl
  · rename_i h; exact dc_23 ok hd h
theorem rk_ask2 {N : zNt} (ok : rOk N) (d : Int) : rOk (cAsk2 N d) := by
  unfold cAsk2; split
  · exact rk_settle ok (by decide)
  · exact ok
theorem bd_ask2 {N : zNt} (ok : rOk N) (bd : Bud N) {d : Int} (hd : cHas N d) : Bud (cAsk2 N d) := by
  unfold cAsk2; split
  · rename_i h; exact bd_settle ok bd hd h (Or.inr rfl)
  · exact bd
theorem has_ask2 {N : zNt} {d : Int} (hd : cHas N d) : cHas (cAsk2 N d) d := by unfold cHas; rw [n_ask2]; exact hd
theorem rk_aAsk3 {N : zNt} (ok : rOk N) {d s o : Int} (hd : cHas N d) (hm : cSt N d s = 1) : rOk (aAsk3 N d s o) := by
  unfold aAsk3; split
  · exact rk_aTell (rk_ask2 ok d) (has_ask2 hd)
  · split
    · rename_i hl hh
      have ho : cSt N d o ≠ -1 := by omega
      have hr := qg_st ok d o
      unfold aAsk2; split
      · have hm2 : cSt (aEnter N d o 3) d s ≠ -1 := by rw [st_aEnter ho]; split <;> omega
        exact rk_aEnter (rk_aEnter ok (by decide) ho) (by rw [st_aEnter ho, if_pos ⟨rfl, rfl⟩]; decide) hm2
      · exact rk_aEnter ok (by omega) (by omega)
    · exact ok
theorem bd_aAsk3 {N : zNt} (ok : rOk N) (bd : Bud N) {d s o : Int} (hd : cHas N d) (hm : cSt N d s = 1) : Bud (aAsk3 N d s o) := by
  have hn := rk_n ok
  unfold aAsk3; split
  · exact bd_aTell (rk_ask2 ok d) (bd_ask2 ok bd hd) (has_ask2 hd) (dc_ask2 ok hd)
  · split
    · rename_i hl hh
      have ho : cSt N d o ≠ -1 := by omega
      have hr := qg_st ok d o
      have hso : ¬ (s = o) := fun e => by rw [e] at hm; omega
      unfold aAsk2; split
      · rename_i h0
        refine bd_aEnter (by rw [n_aEnter]; exact hn) (bd_aEnter hn bd (Or.inl ⟨h0, Or.inr (Or.inr rfl)⟩)) (Or.inr ⟨?_, ?_⟩)
        · rw [st_aEnter ho, if_neg (fun q => hso q.2)]; exact hm
        · rw [st_aEnter ho, if_pos ⟨rfl, rfl⟩]; exact Or.inr rfl
      · exact bd_aEnter hn bd (Or.inr ⟨hm, by omega⟩)
    · exact bd
set_option maxHeartbeats 4000000 in
set_option maxRecDepth 100000 in
theorem c_X4_heldBy {l : Launch} {D : va_G} {G : zG} {ad : Nat → Nat} (hJ : zInj ad) (σ : zM) {N : Nat → Nat → Int}  {b : Int} (hb : zB b) {s : Int} (hs : zB s) (hb0 : 0 ≤ b ∧ b ≤ 1974) (ok : rOk (mV N b)) (hs6 : 0 ≤ s ∧ s < 6) : zKI l D G ad yX4_heldBy cX4_heldBy 5 (some .int) 3 [.ref (ad 5), vI b, vI s] (zBk σ 5 3 N) (fun z σ9 => z = cHeld (mV N b) s (mV N b 0 0).toNat ∧ σ9 = (zBk σ 5 3 N)) := by
  intro sz
  refine z_open hJ (by decide +kernel) (Nat.le_of_ble_eq_true rfl) ?_
  intro p e s0 m args below meth c hsz X hr hlocks
  have hn := rk_n ok
  refine z_sub [(0, .ref (ad 5)), (1, vI b), (2, vI s)] (zSub_cons rfl (zSub_cons rfl (zSub_cons rfl zSub_nil))) ?_
  refine z_iconst X dX4_heldBy_0 ?_
  refine z_istore_n X dX4_heldBy_1 (by decide) ?_
  refine z_sub [(0, .ref (ad 5)), (1, vI b), (2, vI s), (3, vI 0)] (zSub_cons rfl (zSub_cons rfl (zSub_cons rfl (zSub_cons rfl zSub_nil)))) ?_
  refine z_iconst X dX4_heldBy_2 ?_
  refine z_istore X dX4_heldBy_3 (by decide) ?_
  refine z_sub [(0, .ref (ad 5)), (1, vI b), (2, vI s), (3, vI 0), (4, vI 0)] (zSub_cons rfl (zSub_cons rfl (zSub_cons rfl (zSub_cons rfl (zSub_cons rfl zSub_nil))))) ?_
  refine z_sub [(0, .ref (ad 5)), (1, vI b), (2, vI s), (3, vI 0), (4, vI 0)] (zSub_cons rfl (zSub_cons rfl (zSub_cons rfl (zSub_cons rfl (zSub_cons rfl zSub_nil))))) ?_
  refine zFor (S := Int) (mV N b 0 0) (fun i a => a = cHeld (mV N b) s i.toNat) (fun i a => zV p l e (zRm 3) s0 m args below meth c 5 D G ad 0 0 (zE below (zQI D G ad sz (fun z σ9 => z = cHeld (mV N b) s (mV N b 0 0).toNat ∧ σ9 = (zBk σ 5 3 N))) args s0 ad) 5 [(0, .ref (ad 5)), (1, vI b), (2, vI s), (3, vI a), (4, vI i)] [] (zBk σ 5 3 N)) (fun i a i0 i1 hv ih => ?_) 0 (by omega) rfl
  refine z_iload X dX4_heldBy_5 rfl ?_
  refine z_aload_n X dX4_heldBy_7 rfl ?_
  refine y_gMod1 X fX4_7 dX4_heldBy_8 ?_
  refine z_iload_n X dX4_heldBy_11 rfl ?_
  refine z_iconst X dX4_heldBy_12 ?_
  refine z_iadd X dX4_heldBy_13 ?_
  refine y_iald X 1 (zArr_6) (by decide) (by omega) (by omega) (by decide) dX4_heldBy_14 ?_
  rw [fl_n (N := N) (b := b) (by omega)]
  refine z_icmp_ge X 53 dX4_heldBy_15 (by decide) (by first | assumption | (unfold zB at *; omega)) (zB_sm (rk_n ok)) (fun c_1 => ?_) (fun c_1 => ?_)
  · refine z_iload_n X dX4_heldBy_53 rfl ?_
    exact z_iret X hsz hr hlocks dX4_heldBy_54 ⟨(by rw [hv, show i = mV N b 0 0 by omega]), rfl⟩
  · refine z_iload_n X dX4_heldBy_18 rfl ?_
    refine z_aload_n X dX4_heldBy_19 rfl ?_
    refine z_iload_n X dX4_heldBy_20 rfl ?_
    refine z_iload X dX4_heldBy_21 rfl ?_
    refine z_iload_n X dX4_heldBy_23 rfl ?_
    refine z_callVI3 X (c_X4_stateOf hJ σ hb (by first | assumption | (unfold zB at *; omega)) hs (by omega) ok (by first | omega | assumption) (by omega)) kX4_35 rfl (by decide) rfl ⟨(Nat.le_of_ble_eq_true rfl), (Nat.le_of_ble_eq_true rfl)⟩ (Nat.le_of_ble_eq_true rfl) ⟨Nat.zero_le _, Nat.zero_le _⟩ dX4_heldBy_24 (fun z9 σ1 hz9 => ?_)
    obtain ⟨rfl, rfl⟩ := hz9
    refine z_iconst X dX4_heldBy_27 ?_
    refine z_icmp_ne X 44 dX4_heldBy_28 (by decide) (zB_sm (qg_st ok _ _)) ⟨by decide, by decide⟩ (fun c_3 => ?_) (fun c_3 => ?_)
    · refine z_iconst X dX4_heldBy_44 ?_
      refine z_or X dX4_heldBy_45 (zOr_eq a 0) ?_
      refine z_istore_n X dX4_heldBy_46 (by decide) ?_
      refine z_sub [(0, .ref (ad 5)), (1, vI b), (2, vI s), (3, vI (zOr a 0)), (4, vI i)] (zSub_cons rfl (zSub_cons rfl (zSub_cons rfl (zSub_cons rfl (zSub_cons rfl zSub_nil))))) ?_
      refine z_iinc X dX4_heldBy_47 rfl (by decide) ?_
      refine z_sub [(0, .ref (ad 5)), (1, vI b), (2, vI s), (3, vI (zOr a 0)), (4, vI (i + 1))] (zSub_cons rfl (zSub_cons rfl (zSub_cons rfl (zSub_cons rfl (zSub_cons rfl zSub_nil))))) ?_
      refine z_goto X 5 dX4_heldBy_50 (by decide) ?_
      refine z_sub [(0, .ref (ad 5)), (1, vI b), (2, vI s), (3, vI (zOr a 0)), (4, vI (i + 1))] (zSub_cons rfl (zSub_cons rfl (zSub_cons rfl (zSub_cons rfl (zSub_cons rfl zSub_nil))))) ?_
      exact ih (by omega) (zOr a 0) (by rw [cHeld_step i0, ← hv]; first | rw [if_pos c_3] | (rw [if_neg c_3]; exact zOr_0 (by rw [hv]; exact zB_held _ _ _)))
    · refine z_iconst X dX4_heldBy_31 ?_
      refine z_aload_n X dX4_heldBy_32 rfl ?_
      refine z_iload_n X dX4_heldBy_33 rfl ?_
      refine z_iload X dX4_heldBy_34 rfl ?_
      refine z_iconst X dX4_heldBy_36 ?_
      refine z_callVI3 X (c_X4_of2 hJ σ hb (by first | assumption | (unfold zB at *; omega)) (by omega) ok (by first | omega | assumption)) kX4_24 rfl (by decide) rfl ⟨(Nat.le_of_ble_eq_true rfl), (Nat.le_of_ble_eq_true rfl)⟩ (Nat.le_of_ble_eq_true rfl) ⟨Nat.zero_le _, Nat.zero_le _⟩ dX4_heldBy_37 (fun z9 σ1 hz9 => ?_)
      obtain ⟨rfl, rfl⟩ := hz9
      refine z_shl X dX4_heldBy_40 (zShl_eq 1 (mV N b 2 i.toNat)) ?_
      refine z_goto X 45 dX4_heldBy_41 (by decide) ?_
      refine z_or X dX4_heldBy_45 (zOr_eq a (zShl 1 (mV N b 2 i.toNat))) ?_
      refine z_istore_n X dX4_heldBy_46 (by decide) ?_
      refine z_sub [(0, .ref (ad 5)), (1, vI b), (2, vI s), (3, vI (zOr a (zShl 1 (mV N b 2 i.toNat)))), (4, vI i)] (zSub_cons rfl (zSub_cons rfl (zSub_cons rfl (zSub_cons rfl (zSub_cons rfl zSub_nil))))) ?_
      refine z_iinc X dX4_heldBy_47 rfl (by decide) ?_
      refine z_sub [(0, .ref (ad 5)), (1, vI b), (2, vI s), (3, vI (zOr a (zShl 1 (mV N b 2 i.toNat)))), (4, vI (i + 1))] (zSub_cons rfl (zSub_cons rfl (zSub_cons rfl (zSub_cons rfl (zSub_cons rfl zSub_nil))))) ?_
      refine z_goto X 5 dX4_heldBy_50 (by decide) ?_
      refine z_sub [(0, .ref (ad 5)), (1, vI b), (2, vI s), (3, vI (zOr a (zShl 1 (mV N b 2 i.toNat)))), (4, vI (i + 1))] (zSub_cons rfl (zSub_cons rfl (zSub_cons rfl (zSub_cons rfl (zSub_cons rfl zSub_nil))))) ?_
      exact ih (by omega) (zOr a (zShl 1 (mV N b 2 i.toNat))) (by rw [cHeld_step i0, ← hv]; first | rw [if_pos c_3] | (rw [if_neg c_3]; exact zOr_0 (by rw [hv]; exact zB_held _ _ _)))

set_option maxHeartbeats 4000000 in
set_option maxRecDepth 100000 in
theorem c_X4_isHeld {l : Launch} {D : va_G} {G : zG} {ad : Nat → Nat} (hJ : zInj ad) (σ : zM) {N : Nat → Nat → Int}  {b : Int} (hb : zB b) {d : Int} (hd : zB d) {s : Int} (hs : zB s) (hb0 : 0 ≤ b ∧ b ≤ 1974) (ok : rOk (mV N b)) (hd8 : cHas (mV N b) d) (hs6 : 0 ≤ s ∧ s < 6) : zKI l D G ad yX4_isHeld cX4_isHeld 4 (some .boolean) 4 [.ref (ad 5), vI b, vI d, vI s] (zBk σ 5 3 N) (fun z σ9 => z = (if mHeld (mV N b) d s then 1 else 0) ∧ σ9 = (zBk σ 5 3 N)) := by
  intro sz
  refine z_open hJ (by decide +kernel) (Nat.le_of_ble_eq_true rfl) ?_
  intro p e s0 m args below meth c hsz X hr hlocks
  have hn := rk_n ok
  refine z_sub [(0, .ref (ad 5)), (1, vI b), (2, vI d), (3, vI s)] (zSub_cons rfl (zSub_cons rfl (zSub_cons rfl (zSub_cons rfl zSub_nil)))) ?_
  refine z_aload_n X dX4_isHeld_0 rfl ?_
  refine z_iload_n X dX4_isHeld_1 rfl ?_
  refine z_iload_n X dX4_isHeld_2 rfl ?_
  refine z_callVI2 X (c_X4_heldBy hJ σ hb hs (by omega) ok (by omega)) kX4_38 rfl (by decide) rfl ⟨(Nat.le_of_ble_eq_true rfl), (Nat.le_of_ble_eq_true rfl)⟩ (Nat.le_of_ble_eq_true rfl) ⟨Nat.zero_le _, Nat.zero_le _⟩ dX4_isHeld_3 (fun z9 σ1 hz9 => ?_)
  obtain ⟨rfl, rfl⟩ := hz9
  refine z_aload_n X dX4_isHeld_6 rfl ?_
  refine z_iload_n X dX4_isHeld_7 rfl ?_
  refine z_iload_n X dX4_isHeld_8 rfl ?_
  refine z_iconst X dX4_isHeld_9 ?_
  refine z_callVI3 X (c_X4_of2 hJ σ hb hd (by omega) ok (by first | omega | assumption)) kX4_24 rfl (by decide) rfl ⟨(Nat.le_of_ble_eq_true rfl), (Nat.le_of_ble_eq_true rfl)⟩ (Nat.le_of_ble_eq_true rfl) ⟨Nat.zero_le _, Nat.zero_le _⟩ dX4_isHeld_10 (fun z9 σ1 hz9 => ?_)
  obtain ⟨rfl, rfl⟩ := hz9
  refine z_shr X dX4_isHeld_13 (zShr_eq (cHeld (mV N b) s (mV N b 0 0).toNat) (mV N b 2 d.toNat)) ?_
  refine z_iconst X dX4_isHeld_14 ?_
  refine z_and X dX4_isHeld_15 (zAnd_eq (zShr (cHeld (mV N b) s (mV N b 0 0).toNat) (mV N b 2 d.toNat)) 1) ?_
  refine z_iconst X dX4_isHeld_16 ?_
  refine z_icmp_ne X 24 dX4_isHeld_17 (by decide) (zB_toInt _) ⟨by decide, by decide⟩ (fun c_3 => ?_) (fun c_3 => ?_)
  · refine z_iconst X dX4_isHeld_24 ?_
    exact z_zret X hsz hr hlocks dX4_isHeld_25 (Or.inl rfl) ⟨(if_neg c_3).symm, rfl⟩
  · refine z_iconst X dX4_isHeld_20 ?_
    refine z_goto X 25 dX4_isHeld_21 (by decide) ?_
    exact z_zret X hsz hr hlocks dX4_isHeld_25 (Or.inr rfl) ⟨(if_pos c_3).symm, rfl⟩

set_option maxHeartbeats 4000000 in
set_option maxRecDepth 100000 in
theorem c_X4_votes {l : Launch} {D : va_G} {G : zG} {ad : Nat → Nat} (hJ : zInj ad) (σ : zM) {N : Nat → Nat → Int}  {d : Int} (hd : zB d) {s : Int} (hs : zB s) {y : Int} (hy : zB y) (ok : rOk (mV N 0)) (bd : Bud (mV N 0)) (hm0 : cSt (mV N 0) d s = 0) : zKV l D G ad yX4_votes cX4_votes 4 none 5 [.ref (ad 5), vI d, vI s, vI y] (zBk σ 5 3 N) (fun σ9 => ∃ N9, σ9 = zBk σ 5 3 N9 ∧ mTo N N9 0 (aEnter (mV N 0) d s (mVoteV (mV N 0) d s y))) := by
  intro sz
  refine z_open hJ (by decide +kernel) (Nat.le_of_ble_eq_true rfl) ?_
  intro p e s0 m args below meth c hsz X hr hlocks
  have hn := rk_n ok
  have hin := cSt_in (N := mV N 0) (d := d) (s := s) (by omega)
  refine z_sub [(0, .ref (ad 5)), (1, vI d), (2, vI s), (3, vI y)] (zSub_cons rfl (zSub_cons rfl (zSub_cons rfl (zSub_cons rfl zSub_nil)))) ?_
  refine z_aload_n X dX4_votes_0 rfl ?_
  refine z_iconst X dX4_votes_1 ?_
  refine z_iload_n X dX4_votes_2 rfl ?_
  refine z_iload_n X dX4_votes_3 rfl ?_
  refine z_iload_n X dX4_votes_4 rfl ?_
  refine z_if_eq X 22 dX4_votes_5 (by decide) hy (fun c_1 => ?_) (fun c_1 => ?_)
  · refine z_iconst X dX4_votes_22 ?_
    refine z_callVV4 X (c_X4_gets hJ σ ⟨by decide, by decide⟩ hd hs ⟨by decide, by decide⟩ (by omega) ok (by first | omega | grind) (by first | omega | grind) (bud_st (rk_n ok) bd (d := d) (by first | omega | grind))) kX4_45 rfl (by decide) rfl ⟨(Nat.le_of_ble_eq_true rfl), (Nat.le_of_ble_eq_true rfl)⟩ (Nat.le_of_ble_eq_true rfl) ⟨Nat.zero_le _, Nat.zero_le _⟩ dX4_votes_23 (fun σ1 hz9 => ?_)
    obtain ⟨N1, rfl, hT1⟩ := hz9
    have hnN1 : mV N1 0 0 0 = mV N 0 0 0 := by rw [hT1.1]; exact n_aEnter _ _ _ _ 0
    have okN1 : rOk (mV N1 0) := (by rw [hT1.1]; exact rk_aEnter ok (by first | omega | grind) (by first | omega | grind))
    have bdN1 : Bud (mV N1 0) := (by rw [hT1.1]; exact bd_aEnter (rk_n ok) bd (by first | omega | grind))
    exact z_vret X hsz hr hlocks dX4_votes_26 ⟨N1, rfl, (by rw [hT1.1]; grind [mVoteV]), hT1.2⟩
  · refine z_aload_n X dX4_votes_8 rfl ?_
    refine z_iconst X dX4_votes_9 ?_
    refine z_iload_n X dX4_votes_10 rfl ?_
    refine z_iload_n X dX4_votes_11 rfl ?_
    refine z_callVI3 X (c_X4_isHeld hJ σ ⟨by decide, by decide⟩ hd hs (by omega) ok (by first | omega | assumption) (by omega)) kX4_42 rfl (by decide) rfl ⟨(Nat.le_of_ble_eq_true rfl), (Nat.le_of_ble_eq_true rfl)⟩ (Nat.le_of_ble_eq_true rfl) ⟨Nat.zero_le _, Nat.zero_le _⟩ dX4_votes_12 (fun z9 σ1 hz9 => ?_)
    obtain ⟨rfl, rfl⟩ := hz9
    refine z_ifb_ne X 22 dX4_votes_15 (by decide) (fun c_4 => ?_) (fun c_4 => ?_)
    · refine z_iconst X dX4_votes_22 ?_
      refine z_callVV4 X (c_X4_gets hJ σ ⟨by decide, by decide⟩ hd hs ⟨by decide, by decide⟩ (by omega) ok (by first | omega | grind) (by first | omega | grind) (bud_st (rk_n ok) bd (d := d) (by first | omega | grind))) kX4_45 rfl (by decide) rfl ⟨(Nat.le_of_ble_eq_true rfl), (Nat.le_of_ble_eq_true rfl)⟩ (Nat.le_of_ble_eq_true rfl) ⟨Nat.zero_le _, Nat.zero_le _⟩ dX4_votes_23 (fun σ1 hz9 => ?_)
      obtain ⟨N2, rfl, hT2⟩ := hz9
      have hnN2 : mV N2 0 0 0 = mV N 0 0 0 := by rw [hT2.1]; exact n_aEnter _ _ _ _ 0
      have okN2 : rOk (mV N2 0) := (by rw [hT2.1]; exact rk_aEnter ok (by first | omega | grind) (by first | omega | grind))
      have bdN2 : Bud (mV N2 0) := (by rw [hT2.1]; exact bd_aEnter (rk_n ok) bd (by first | omega | grind))
      exact z_vret X hsz hr hlocks dX4_votes_26 ⟨N2, rfl, (by rw [hT2.1]; grind [mVoteV]), hT2.2⟩
    · refine z_iconst X dX4_votes_18 ?_
      refine z_goto X 23 dX4_votes_19 (by decide) ?_
      refine z_callVV4 X (c_X4_gets hJ σ ⟨by decide, by decide⟩ hd hs ⟨by decide, by decide⟩ (by omega) ok (by first | omega | grind) (by first | omega | grind) (bud_st (rk_n ok) bd (d := d) (by first | omega | grind))) kX4_45 rfl (by decide) rfl ⟨(Nat.le_of_ble_eq_true rfl), (Nat.le_of_ble_eq_true rfl)⟩ (Nat.le_of_ble_eq_true rfl) ⟨Nat.zero_le _, Nat.zero_le _⟩ dX4_votes_23 (fun σ1 hz9 => ?_)
      obtain ⟨N3, rfl, hT3⟩ := hz9
      have hnN3 : mV N3 0 0 0 = mV N 0 0 0 := by rw [hT3.1]; exact n_aEnter _ _ _ _ 0
      have okN3 : rOk (mV N3 0) := (by rw [hT3.1]; exact rk_aEnter ok (by first | omega | grind) (by first | omega | grind))
      have bdN3 : Bud (mV N3 0) := (by rw [hT3.1]; exact bd_aEnter (rk_n ok) bd (by first | omega | grind))
      exact z_vret X hsz hr hlocks dX4_votes_26 ⟨N3, rfl, (by rw [hT3.1]; grind [mVoteV]), hT3.2⟩

set_option maxHeartbeats 4000000 in
set_option maxRecDepth 100000 in
theorem c_X4_verdict {l : Launch} {D : va_G} {G : zG} {ad : Nat → Nat} (hJ : zInj ad) (σ : zM) {N : Nat → Nat → Int}  {d : Int} (hd : zB d) (ok : rOk (mV N 0)) (hd8 : cHas (mV N 0) d) : zKI l D G ad yX4_verdict cX4_verdict 4 (some .int) 3 [.ref (ad 5), vI d] (zBk σ 5 3 N) (fun z σ9 => z = cDecV (mV N 0) d ∧ σ9 = (zBk σ 5 3 N)) := by
  intro sz
  refine z_open hJ (by decide +kernel) (Nat.le_of_ble_eq_true rfl) ?_
  intro p e s0 m args below meth c hsz X hr hlocks
  have hn := rk_n ok
  refine z_sub [(0, .ref (ad 5)), (1, vI d)] (zSub_cons rfl (zSub_cons rfl zSub_nil)) ?_
  refine z_iconst X dX4_verdict_0 ?_
  refine z_istore_n X dX4_verdict_1 (by decide) ?_
  refine z_sub [(0, .ref (ad 5)), (1, vI d), (2, vI 1)] (zSub_cons rfl (zSub_cons rfl (zSub_cons rfl zSub_nil))) ?_
  refine z_iconst X dX4_verdict_2 ?_
  refine z_istore_n X dX4_verdict_3 (by decide) ?_
  refine z_sub [(0, .ref (ad 5)), (1, vI d), (2, vI 1), (3, vI 0)] (zSub_cons rfl (zSub_cons rfl (zSub_cons rfl (zSub_cons rfl zSub_nil)))) ?_
  refine z_sub [(0, .ref (ad 5)), (1, vI d), (2, vI 1), (3, vI 0)] (zSub_cons rfl (zSub_cons rfl (zSub_cons rfl (zSub_cons rfl zSub_nil)))) ?_
  refine zFor (S := Int) 6 (fun i a => a = if zAny (fun s => decide (cSt (mV N 0) d s ≠ -1 ∧ cSt (mV N 0) d s ≠ 1)) i.toNat = false then 1 else 0) (fun i a => zV p l e (zRm 3) s0 m args below meth c 4 D G ad 0 0 (zE below (zQI D G ad sz (fun z σ9 => z = cDecV (mV N 0) d ∧ σ9 = (zBk σ 5 3 N))) args s0 ad) 4 [(0, .ref (ad 5)), (1, vI d), (2, vI a), (3, vI i)] [] (zBk σ 5 3 N)) (fun i a i0 i1 hv ih => ?_) 1 (by omega) rfl
  refine z_iload_n X dX4_verdict_4 rfl ?_
  refine z_bipush X dX4_verdict_5 rfl ?_
  refine z_icmp_ge X 47 dX4_verdict_7 (by decide) (by first | assumption | (unfold zB at *; omega)) ⟨by decide, by decide⟩ (fun c_1 => ?_) (fun c_1 => ?_)
  · refine z_iload_n X dX4_verdict_47 rfl ?_
    refine z_if_eq X 55 dX4_verdict_48 (by decide) (by rw [hv]; exact zB_ite) (fun c_2 => ?_) (fun c_2 => ?_)
    · refine z_iconst X dX4_verdict_55 ?_
      exact z_iret X hsz hr hlocks dX4_verdict_56 ⟨(by have e : i = 6 := (by omega); subst e; unfold cDecV; have hv2 : a = if zAny (fun s => decide (cSt (mV N 0) d s ≠ -1 ∧ cSt (mV N 0) d s ≠ 1)) 6 = false then 1 else 0 := hv; clear hv; grind), rfl⟩
    · refine z_iconst X dX4_verdict_51 ?_
      refine z_goto X 56 dX4_verdict_52 (by decide) ?_
      exact z_iret X hsz hr hlocks dX4_verdict_56 ⟨(by have e : i = 6 := (by omega); subst e; unfold cDecV; have hv2 : a = if zAny (fun s => decide (cSt (mV N 0) d s ≠ -1 ∧ cSt (mV N 0) d s ≠ 1)) 6 = false then 1 else 0 := hv; clear hv; grind), rfl⟩
  · refine z_iload_n X dX4_verdict_10 rfl ?_
    refine z_if_eq X 39 dX4_verdict_11 (by decide) (by rw [hv]; exact zB_ite) (fun c_3 => ?_) (fun c_3 => ?_)
    · refine z_iconst X dX4_verdict_39 ?_
      refine z_istore_n X dX4_verdict_40 (by decide) ?_
      refine z_sub [(0, .ref (ad 5)), (1, vI d), (2, vI 0), (3, vI i)] (zSub_cons rfl (zSub_cons rfl (zSub_cons rfl (zSub_cons rfl zSub_nil)))) ?_
      refine z_iinc X dX4_verdict_41 rfl (by decide) ?_
      refine z_sub [(0, .ref (ad 5)), (1, vI d), (2, vI 0), (3, vI (i + 1))] (zSub_cons rfl (zSub_cons rfl (zSub_cons rfl (zSub_cons rfl zSub_nil)))) ?_
      refine z_goto X 4 dX4_verdict_44 (by decide) ?_
      refine z_sub [(0, .ref (ad 5)), (1, vI d), (2, vI 0), (3, vI (i + 1))] (zSub_cons rfl (zSub_cons rfl (zSub_cons rfl (zSub_cons rfl zSub_nil)))) ?_
      exact ih (by omega) 0 (by rw [zAny_succ i0]; grind)
    · refine z_aload_n X dX4_verdict_14 rfl ?_
      refine z_iconst X dX4_verdict_15 ?_
      refine z_iload_n X dX4_verdict_16 rfl ?_
      refine z_iload_n X dX4_verdict_17 rfl ?_
      refine z_callVI3 X (c_X4_isMember hJ σ ⟨by decide, by decide⟩ hd (by first | assumption | (unfold zB at *; omega)) (by omega) ok (by first | omega | assumption) (by omega)) kX4_28 rfl (by decide) rfl ⟨(Nat.le_of_ble_eq_true rfl), (Nat.le_of_ble_eq_true rfl)⟩ (Nat.le_of_ble_eq_true rfl) ⟨Nat.zero_le _, Nat.zero_le _⟩ dX4_verdict_18 (fun z9 σ1 hz9 => ?_)
      obtain ⟨rfl, rfl⟩ := hz9
      refine z_ifb_eq X 35 dX4_verdict_21 (by decide) (fun c_5 => ?_) (fun c_5 => ?_)
      · refine z_iconst X dX4_verdict_35 ?_
        refine z_goto X 40 dX4_verdict_36 (by decide) ?_
        refine z_istore_n X dX4_verdict_40 (by decide) ?_
        refine z_sub [(0, .ref (ad 5)), (1, vI d), (2, vI 1), (3, vI i)] (zSub_cons rfl (zSub_cons rfl (zSub_cons rfl (zSub_cons rfl zSub_nil)))) ?_
        refine z_iinc X dX4_verdict_41 rfl (by decide) ?_
        refine z_sub [(0, .ref (ad 5)), (1, vI d), (2, vI 1), (3, vI (i + 1))] (zSub_cons rfl (zSub_cons rfl (zSub_cons rfl (zSub_cons rfl zSub_nil)))) ?_
        refine z_goto X 4 dX4_verdict_44 (by decide) ?_
        refine z_sub [(0, .ref (ad 5)), (1, vI d), (2, vI 1), (3, vI (i + 1))] (zSub_cons rfl (zSub_cons rfl (zSub_cons rfl (zSub_cons rfl zSub_nil)))) ?_
        exact ih (by omega) 1 (by rw [zAny_succ i0]; grind)
      · refine z_aload_n X dX4_verdict_24 rfl ?_
        refine z_iconst X dX4_verdict_25 ?_
        refine z_iload_n X dX4_verdict_26 rfl ?_
        refine z_iload_n X dX4_verdict_27 rfl ?_
        refine z_callVI3 X (c_X4_stateOf hJ σ ⟨by decide, by decide⟩ hd (by first | assumption | (unfold zB at *; omega)) (by omega) ok (by first | omega | assumption) (by omega)) kX4_35 rfl (by decide) rfl ⟨(Nat.le_of_ble_eq_true rfl), (Nat.le_of_ble_eq_true rfl)⟩ (Nat.le_of_ble_eq_true rfl) ⟨Nat.zero_le _, Nat.zero_le _⟩ dX4_verdict_28 (fun z9 σ1 hz9 => ?_)
        obtain ⟨rfl, rfl⟩ := hz9
        refine z_iconst X dX4_verdict_31 ?_
        refine z_icmp_ne X 39 dX4_verdict_32 (by decide) (zB_sm (qg_st ok _ _)) ⟨by decide, by decide⟩ (fun c_7 => ?_) (fun c_7 => ?_)
        · refine z_iconst X dX4_verdict_39 ?_
          refine z_istore_n X dX4_verdict_40 (by decide) ?_
          refine z_sub [(0, .ref (ad 5)), (1, vI d), (2, vI 0), (3, vI i)] (zSub_cons rfl (zSub_cons rfl (zSub_cons rfl (zSub_cons rfl zSub_nil)))) ?_
          refine z_iinc X dX4_verdict_41 rfl (by decide) ?_
          refine z_sub [(0, .ref (ad 5)), (1, vI d), (2, vI 0), (3, vI (i + 1))] (zSub_cons rfl (zSub_cons rfl (zSub_cons rfl (zSub_cons rfl zSub_nil)))) ?_
          refine z_goto X 4 dX4_verdict_44 (by decide) ?_
          refine z_sub [(0, .ref (ad 5)), (1, vI d), (2, vI 0), (3, vI (i + 1))] (zSub_cons rfl (zSub_cons rfl (zSub_cons rfl (zSub_cons rfl zSub_nil)))) ?_
          exact ih (by omega) 0 (by rw [zAny_succ i0]; grind)
        · refine z_iconst X dX4_verdict_35 ?_
          refine z_goto X 40 dX4_verdict_36 (by decide) ?_
          refine z_istore_n X dX4_verdict_40 (by decide) ?_
          refine z_sub [(0, .ref (ad 5)), (1, vI d), (2, vI 1), (3, vI i)] (zSub_cons rfl (zSub_cons rfl (zSub_cons rfl (zSub_cons rfl zSub_nil)))) ?_
          refine z_iinc X dX4_verdict_41 rfl (by decide) ?_
          refine z_sub [(0, .ref (ad 5)), (1, vI d), (2, vI 1), (3, vI (i + 1))] (zSub_cons rfl (zSub_cons rfl (zSub_cons rfl (zSub_cons rfl zSub_nil)))) ?_
          refine z_goto X 4 dX4_verdict_44 (by decide) ?_
          refine z_sub [(0, .ref (ad 5)), (1, vI d), (2, vI 1), (3, vI (i + 1))] (zSub_cons rfl (zSub_cons rfl (zSub_cons rfl (zSub_cons rfl zSub_nil)))) ?_
          exact ih (by omega) 1 (by rw [zAny_succ i0]; grind)

set_option maxHeartbeats 4000000 in
set_option maxRecDepth 100000 in
theorem c_X4_tells {l : Launch} {D : va_G} {G : zG} {ad : Nat → Nat} (hJ : zInj ad) (σ : zM) {N : Nat → Nat → Int}  {b : Int} (hb : zB b) {d : Int} (hd : zB d) {s : Int} (hs : zB s) (hb0 : 0 ≤ b ∧ b ≤ 1974) (ok : rOk (mV N b)) (bd : Bud (mV N b)) (hd8 : cHas (mV N b) d) (hs6 : 0 ≤ s ∧ s < 6) (hdc : cDec (mV N b) d = 2 ∨ cDec (mV N b) d = 3) : zKV l D G ad yX4_tells cX4_tells 6 none 3 [.ref (ad 5), vI b, vI d, vI s] (zBk σ 5 3 N) (fun σ9 => ∃ N9, σ9 = zBk σ 5 3 N9 ∧ mTo N N9 b (aTell (mV N b) d s)) := by
  intro sz
  refine z_open hJ (by decide +kernel) (Nat.le_of_ble_eq_true rfl) ?_
  intro p e s0 m args below meth c hsz X hr hlocks
  have hn := rk_n ok
  refine z_sub [(0, .ref (ad 5)), (1, vI b), (2, vI d), (3, vI s)] (zSub_cons rfl (zSub_cons rfl (zSub_cons rfl (zSub_cons rfl zSub_nil)))) ?_
  refine z_aload_n X dX4_tells_0 rfl ?_
  refine z_iload_n X dX4_tells_1 rfl ?_
  refine z_iload_n X dX4_tells_2 rfl ?_
  refine z_iload_n X dX4_tells_3 rfl ?_
  refine z_callVI3 X (c_X4_stateOf hJ σ hb hd hs (by omega) ok (by first | omega | assumption) (by omega)) kX4_35 rfl (by decide) rfl ⟨(Nat.le_of_ble_eq_true rfl), (Nat.le_of_ble_eq_true rfl)⟩ (Nat.le_of_ble_eq_true rfl) ⟨Nat.zero_le _, Nat.zero_le _⟩ dX4_tells_4 (fun z9 σ1 hz9 => ?_)
  obtain ⟨rfl, rfl⟩ := hz9
  refine z_istore X dX4_tells_7 (by decide) ?_
  refine z_sub [(0, .ref (ad 5)), (1, vI b), (2, vI d), (3, vI s), (4, vI (cSt (mV N b) d s))] (zSub_cons rfl (zSub_cons rfl (zSub_cons rfl (zSub_cons rfl (zSub_cons rfl zSub_nil))))) ?_
  refine z_aload_n X dX4_tells_9 rfl ?_
  refine z_iload_n X dX4_tells_10 rfl ?_
  refine z_iload_n X dX4_tells_11 rfl ?_
  refine z_iconst X dX4_tells_12 ?_
  refine z_callVI3 X (c_X4_of3 hJ σ hb hd (by omega) ok (by first | omega | assumption)) kX4_24 rfl (by decide) rfl ⟨(Nat.le_of_ble_eq_true rfl), (Nat.le_of_ble_eq_true rfl)⟩ (Nat.le_of_ble_eq_true rfl) ⟨Nat.zero_le _, Nat.zero_le _⟩ dX4_tells_13 (fun z9 σ1 hz9 => ?_)
  obtain ⟨rfl, rfl⟩ := hz9
  refine z_istore X dX4_tells_16 (by decide) ?_
  refine z_sub [(0, .ref (ad 5)), (1, vI b), (2, vI d), (3, vI s), (4, vI (cSt (mV N b) d s)), (5, vI (cDec (mV N b) d))] (zSub_cons rfl (zSub_cons rfl (zSub_cons rfl (zSub_cons rfl (zSub_cons rfl (zSub_cons rfl zSub_nil)))))) ?_
  refine z_iload X dX4_tells_18 rfl ?_
  refine z_iconst X dX4_tells_20 ?_
  refine z_icmp_eq X 35 dX4_tells_21 (by decide) (zB_sm (qg_st ok _ _)) ⟨by decide, by decide⟩ (fun c_3 => ?_) (fun c_3 => ?_)
  · refine z_aload_n X dX4_tells_35 rfl ?_
    refine z_iload_n X dX4_tells_36 rfl ?_
    refine z_iload_n X dX4_tells_37 rfl ?_
    refine z_iload_n X dX4_tells_38 rfl ?_
    refine z_iload X dX4_tells_39 rfl ?_
    refine z_callVV4 X (c_X4_gets hJ σ hb hd hs (zB_sm (qg_dc ok _)) (by omega) ok (by first | omega | grind) (by first | omega | grind) (bud_st (rk_n ok) bd (d := d) (by first | omega | grind))) kX4_45 rfl (by decide) rfl ⟨(Nat.le_of_ble_eq_true rfl), (Nat.le_of_ble_eq_true rfl)⟩ (Nat.le_of_ble_eq_true rfl) ⟨Nat.zero_le _, Nat.zero_le _⟩ dX4_tells_41 (fun σ1 hz9 => ?_)
    obtain ⟨N1, rfl, hT1⟩ := hz9
    have hnN1 : mV N1 b 0 0 = mV N b 0 0 := by rw [hT1.1]; exact n_aEnter _ _ _ _ 0
    have okN1 : rOk (mV N1 b) := (by rw [hT1.1]; exact rk_aEnter ok (by first | omega | grind) (by first | omega | grind))
    have bdN1 : Bud (mV N1 b) := (by rw [hT1.1]; exact bd_aEnter (rk_n ok) bd (by first | omega | grind))
    exact z_vret X hsz hr hlocks dX4_tells_44 ⟨N1, rfl, (by rw [hT1.1]; grind [aTell]), hT1.2⟩
  · refine z_iload X dX4_tells_24 rfl ?_
    refine z_if_ne X 44 dX4_tells_26 (by decide) (zB_sm (qg_st ok _ _)) (fun c_5 => ?_) (fun c_5 => ?_)
    · exact z_vret X hsz hr hlocks dX4_tells_44 ⟨N, rfl, (by grind [aTell]), mFr_rf⟩
    · refine z_iload X dX4_tells_29 rfl ?_
      refine z_iconst X dX4_tells_31 ?_
      refine z_icmp_ne X 44 dX4_tells_32 (by decide) (zB_sm (qg_dc ok _)) ⟨by decide, by decide⟩ (fun c_6 => ?_) (fun c_6 => ?_)
      · exact z_vret X hsz hr hlocks dX4_tells_44 ⟨N, rfl, (by grind [aTell]), mFr_rf⟩
      · refine z_aload_n X dX4_tells_35 rfl ?_
        refine z_iload_n X dX4_tells_36 rfl ?_
        refine z_iload_n X dX4_tells_37 rfl ?_
        refine z_iload_n X dX4_tells_38 rfl ?_
        refine z_iload X dX4_tells_39 rfl ?_
        refine z_callVV4 X (c_X4_gets hJ σ hb hd hs (zB_sm (qg_dc ok _)) (by omega) ok (by first | omega | grind) (by first | omega | grind) (bud_st (rk_n ok) bd (d := d) (by first | omega | grind))) kX4_45 rfl (by decide) rfl ⟨(Nat.le_of_ble_eq_true rfl), (Nat.le_of_ble_eq_true rfl)⟩ (Nat.le_of_ble_eq_true rfl) ⟨Nat.zero_le _, Nat.zero_le _⟩ dX4_tells_41 (fun σ1 hz9 => ?_)
        obtain ⟨N2, rfl, hT2⟩ := hz9
        have hnN2 : mV N2 b 0 0 = mV N b 0 0 := by rw [hT2.1]; exact n_aEnter _ _ _ _ 0
        have okN2 : rOk (mV N2 b) := (by rw [hT2.1]; exact rk_aEnter ok (by first | omega | grind) (by first | omega | grind))
        have bdN2 : Bud (mV N2 b) := (by rw [hT2.1]; exact bd_aEnter (rk_n ok) bd (by first | omega | grind))
        exact z_vret X hsz hr hlocks dX4_tells_44 ⟨N2, rfl, (by rw [hT2.1]; grind [aTell]), hT2.2⟩

set_option maxHeartbeats 4000000 in
set_option maxRecDepth 100000 in
theorem c_X4_helps {l : Launch} {D : va_G} {G : zG} {ad : Nat → Nat} (hJ : zInj ad) (σ : zM) {N : Nat → Nat → Int}  {b : Int} (hb : zB b) {d : Int} (hd : zB d) {o : Int} (ho : zB o) (hb0 : 0 ≤ b ∧ b ≤ 1974) (ok : rOk (mV N b)) (hd8 : cHas (mV N b) d) (ho6 : 0 ≤ o ∧ o < 6) : zKI l D G ad yX4_helps cX4_helps 4 (some .boolean) 3 [.ref (ad 5), vI b, vI d, vI o] (zBk σ 5 3 N) (fun z σ9 => z = (if mHelps (mV N b) d o then 1 else 0) ∧ σ9 = (zBk σ 5 3 N)) := by
  intro sz
  refine z_open hJ (by decide +kernel) (Nat.le_of_ble_eq_true rfl) ?_
  intro p e s0 m args below meth c hsz X hr hlocks
  have hn := rk_n ok
  refine z_sub [(0, .ref (ad 5)), (1, vI b), (2, vI d), (3, vI o)] (zSub_cons rfl (zSub_cons rfl (zSub_cons rfl (zSub_cons rfl zSub_nil)))) ?_
  refine z_aload_n X dX4_helps_0 rfl ?_
  refine z_iload_n X dX4_helps_1 rfl ?_
  refine z_iload_n X dX4_helps_2 rfl ?_
  refine z_iconst X dX4_helps_3 ?_
  refine z_callVI3 X (c_X4_of0 hJ σ hb hd (by omega) ok (by first | omega | assumption)) kX4_24 rfl (by decide) rfl ⟨(Nat.le_of_ble_eq_true rfl), (Nat.le_of_ble_eq_true rfl)⟩ (Nat.le_of_ble_eq_true rfl) ⟨Nat.zero_le _, Nat.zero_le _⟩ dX4_helps_4 (fun z9 σ1 hz9 => ?_)
  obtain ⟨rfl, rfl⟩ := hz9
  refine z_iload_n X dX4_helps_7 rfl ?_
  refine z_icmp_eq X 32 dX4_helps_8 (by decide) (zB_sm (qg_ld ok _)) ho (fun c_2 => ?_) (fun c_2 => ?_)
  · refine z_iconst X dX4_helps_32 ?_
    refine z_goto X 37 dX4_helps_33 (by decide) ?_
    exact z_zret X hsz hr hlocks dX4_helps_37 (Or.inr rfl) ⟨(by first | rfl | grind), rfl⟩
  · refine z_aload_n X dX4_helps_11 rfl ?_
    refine z_iload_n X dX4_helps_12 rfl ?_
    refine z_iload_n X dX4_helps_13 rfl ?_
    refine z_iload_n X dX4_helps_14 rfl ?_
    refine z_callVI3 X (c_X4_isMember hJ σ hb hd ho (by omega) ok (by first | omega | assumption) (by omega)) kX4_28 rfl (by decide) rfl ⟨(Nat.le_of_ble_eq_true rfl), (Nat.le_of_ble_eq_true rfl)⟩ (Nat.le_of_ble_eq_true rfl) ⟨Nat.zero_le _, Nat.zero_le _⟩ dX4_helps_15 (fun z9 σ1 hz9 => ?_)
    obtain ⟨rfl, rfl⟩ := hz9
    refine z_ifb_eq X 36 dX4_helps_18 (by decide) (fun c_4 => ?_) (fun c_4 => ?_)
    · refine z_iconst X dX4_helps_36 ?_
      exact z_zret X hsz hr hlocks dX4_helps_37 (Or.inl rfl) ⟨(by first | rfl | grind), rfl⟩
    · refine z_aload_n X dX4_helps_21 rfl ?_
      refine z_iload_n X dX4_helps_22 rfl ?_
      refine z_iload_n X dX4_helps_23 rfl ?_
      refine z_iload_n X dX4_helps_24 rfl ?_
      refine z_callVI3 X (c_X4_stateOf hJ σ hb hd ho (by omega) ok (by first | omega | assumption) (by omega)) kX4_35 rfl (by decide) rfl ⟨(Nat.le_of_ble_eq_true rfl), (Nat.le_of_ble_eq_true rfl)⟩ (Nat.le_of_ble_eq_true rfl) ⟨Nat.zero_le _, Nat.zero_le _⟩ dX4_helps_25 (fun z9 σ1 hz9 => ?_)
      obtain ⟨rfl, rfl⟩ := hz9
      refine z_iconst X dX4_helps_28 ?_
      refine z_icmp_eq X 36 dX4_helps_29 (by decide) (zB_sm (qg_st ok _ _)) ⟨by decide, by decide⟩ (fun c_6 => ?_) (fun c_6 => ?_)
      · refine z_iconst X dX4_helps_36 ?_
        exact z_zret X hsz hr hlocks dX4_helps_37 (Or.inl rfl) ⟨(by first | rfl | grind), rfl⟩
      · refine z_iconst X dX4_helps_32 ?_
        refine z_goto X 37 dX4_helps_33 (by decide) ?_
        exact z_zret X hsz hr hlocks dX4_helps_37 (Or.inr rfl) ⟨(by first | rfl | grind), rfl⟩

set_option maxHeartbeats 4000000 in
set_option maxRecDepth 100000 in
theorem c_X4_asks {l : Launch} {D : va_G} {G : zG} {ad : Nat → Nat} (hJ : zInj ad) (σ : zM) {N : Nat → Nat → Int}  {b : Int} (hb : zB b) {d : Int} (hd : zB d) {s : Int} (hs : zB s) {o : Int} (ho : zB o) (hb0 : 0 ≤ b ∧ b ≤ 1974) (ok : rOk (mV N b)) (bd : Bud (mV N b)) (hd8 : cHas (mV N b) d) (hs6 : 0 ≤ s ∧ s < 6) (ho6 : 0 ≤ o ∧ o < 6) (hso : s ≠ o) (hm1 : cSt (mV N b) d s = 1) : zKV l D G ad yX4_asks cX4_asks 5 none 4 [.ref (ad 5), vI b, vI d, vI s, vI o] (zBk σ 5 3 N) (fun σ9 => ∃ N9, σ9 = zBk σ 5 3 N9 ∧ mTo N N9 b (aAsk (mV N b) d s o)) := by
  intro sz
  refine z_open hJ (by decide +kernel) (Nat.le_of_ble_eq_true rfl) ?_
  intro p e s0 m args below meth c hsz X hr hlocks
  have hn := rk_n ok
  have e1 : N 1 (b + 1).toNat = N 1 (b + 1).toNat := rfl
  refine z_sub [(0, .ref (ad 5)), (1, vI b), (2, vI d), (3, vI s), (4, vI o)] (zSub_cons rfl (zSub_cons rfl (zSub_cons rfl (zSub_cons rfl (zSub_cons rfl zSub_nil))))) ?_
  refine z_aload_n X dX4_asks_0 rfl ?_
  refine y_gMod1 X fX4_7 dX4_asks_1 ?_
  refine z_iload_n X dX4_asks_4 rfl ?_
  refine z_iconst X dX4_asks_5 ?_
  refine z_iadd X dX4_asks_6 ?_
  refine z_dup2 X dX4_asks_7 rfl rfl ?_
  refine y_iald X 1 (zArr_6) (by decide) (by omega) (by omega) (by decide) dX4_asks_8 ?_
  refine z_iconst X dX4_asks_9 ?_
  refine z_iadd X dX4_asks_10 ?_
  refine y_iast X 1 (zArr_6) (by decide) (by omega) (by omega) (by decide) dX4_asks_11 ?_
  obtain ⟨Nw, hNw⟩ : ∃ Nw, Nw = (up2 N 1 (b + 1).toNat ((N 1 (b + 1).toNat) + 1)) := ⟨_, rfl⟩
  rw [← hNw]
  have hTw : mTo N Nw b (cAsk1 (mV N b)) := by rw [hNw]; exact ml_ask1 hb0
  have hnw : mV Nw b 0 0 = mV N b 0 0 := by rw [hTw.1]; exact up2_ne _ _ (by decide)
  have okw : rOk (mV Nw b) := by rw [hTw.1]; exact rk_ask1 ok
  have bdw : Bud (mV Nw b) := by rw [hTw.1]; exact bd_ask1 bd
  have hmw : cSt (mV Nw b) d s = 1 := by rw [hTw.1]; exact hm1
  have hdw : cHas (mV Nw b) d := by omega
  have hdcw := dc_v okw hdw
  have hdc3 := fun h9 => dc_23 okw hdw h9
  have hrw := qg_st okw d o
  refine z_aload_n X dX4_asks_12 rfl ?_
  refine z_iload_n X dX4_asks_13 rfl ?_
  refine z_iload_n X dX4_asks_14 rfl ?_
  refine z_iconst X dX4_asks_15 ?_
  refine z_callVI3 X (c_X4_of0 hJ σ hb hd (by omega) okw (by first | omega | assumption)) kX4_24 rfl (by decide) rfl ⟨(Nat.le_of_ble_eq_true rfl), (Nat.le_of_ble_eq_true rfl)⟩ (Nat.le_of_ble_eq_true rfl) ⟨Nat.zero_le _, Nat.zero_le _⟩ dX4_asks_16 (fun z9 σ1 hz9 => ?_)
  obtain ⟨rfl, rfl⟩ := hz9
  refine z_iload X dX4_asks_19 rfl ?_
  refine z_icmp_ne X 51 dX4_asks_21 (by decide) (zB_sm (qg_ld okw _)) ho (fun c_2 => ?_) (fun c_2 => ?_)
  · refine z_aload_n X dX4_asks_51 rfl ?_
    refine z_iload_n X dX4_asks_52 rfl ?_
    refine z_iload_n X dX4_asks_53 rfl ?_
    refine z_iload X dX4_asks_54 rfl ?_
    refine z_callVI3 X (c_X4_helps hJ σ hb hd ho (by omega) okw (by first | omega | assumption) (by omega)) kX4_55 rfl (by decide) rfl ⟨(Nat.le_of_ble_eq_true rfl), (Nat.le_of_ble_eq_true rfl)⟩ (Nat.le_of_ble_eq_true rfl) ⟨Nat.zero_le _, Nat.zero_le _⟩ dX4_asks_56 (fun z9 σ1 hz9 => ?_)
    obtain ⟨rfl, rfl⟩ := hz9
    refine z_ifb_eq X 97 dX4_asks_59 (by decide) (fun c_4 => ?_) (fun c_4 => ?_)
    · exact z_vret X hsz hr hlocks dX4_asks_97 ⟨Nw, rfl, (by unfold aAsk; rw [← hTw.1]; grind [aAsk3, aAsk2, cAsk2, mTo]), hTw.2⟩
    · refine z_aload_n X dX4_asks_62 rfl ?_
      refine z_iload_n X dX4_asks_63 rfl ?_
      refine z_iload_n X dX4_asks_64 rfl ?_
      refine z_iload X dX4_asks_65 rfl ?_
      refine z_callVI3 X (c_X4_stateOf hJ σ hb hd ho (by omega) okw (by first | omega | assumption) (by omega)) kX4_35 rfl (by decide) rfl ⟨(Nat.le_of_ble_eq_true rfl), (Nat.le_of_ble_eq_true rfl)⟩ (Nat.le_of_ble_eq_true rfl) ⟨Nat.zero_le _, Nat.zero_le _⟩ dX4_asks_67 (fun z9 σ1 hz9 => ?_)
      obtain ⟨rfl, rfl⟩ := hz9
      refine z_if_ne X 82 dX4_asks_70 (by decide) (zB_sm (qg_st okw _ _)) (fun c_6 => ?_) (fun c_6 => ?_)
      · refine z_aload_n X dX4_asks_82 rfl ?_
        refine z_iload_n X dX4_asks_83 rfl ?_
        refine z_iload_n X dX4_asks_84 rfl ?_
        refine z_iload_n X dX4_asks_85 rfl ?_
        refine z_aload_n X dX4_asks_86 rfl ?_
        refine z_iload_n X dX4_asks_87 rfl ?_
        refine z_iload_n X dX4_asks_88 rfl ?_
        refine z_iload X dX4_asks_89 rfl ?_
        refine z_callVI3 X (c_X4_stateOf hJ σ hb hd ho (by omega) okw (by first | omega | assumption) (by omega)) kX4_35 rfl (by decide) rfl ⟨(Nat.le_of_ble_eq_true rfl), (Nat.le_of_ble_eq_true rfl)⟩ (Nat.le_of_ble_eq_true rfl) ⟨Nat.zero_le _, Nat.zero_le _⟩ dX4_asks_91 (fun z9 σ1 hz9 => ?_)
        obtain ⟨rfl, rfl⟩ := hz9
        refine z_callVV4 X (c_X4_gets hJ σ hb hd hs (zB_sm (qg_st okw _ _)) (by omega) okw (by first | omega | grind) (by first | omega | grind) (bud_st (rk_n okw) bdw (d := d) (by first | omega | grind))) kX4_45 rfl (by decide) rfl ⟨(Nat.le_of_ble_eq_true rfl), (Nat.le_of_ble_eq_true rfl)⟩ (Nat.le_of_ble_eq_true rfl) ⟨Nat.zero_le _, Nat.zero_le _⟩ dX4_asks_94 (fun σ1 hz9 => ?_)
        obtain ⟨N1, rfl, hT1⟩ := hz9
        have hnN1 : mV N1 b 0 0 = mV Nw b 0 0 := by rw [hT1.1]; exact n_aEnter _ _ _ _ 0
        have okN1 : rOk (mV N1 b) := (by rw [hT1.1]; exact rk_aEnter okw (by first | omega | grind) (by first | omega | grind))
        have bdN1 : Bud (mV N1 b) := (by rw [hT1.1]; exact bd_aEnter (rk_n okw) bdw (by first | omega | grind))
        exact z_vret X hsz hr hlocks dX4_asks_97 ⟨N1, rfl, (by unfold aAsk; rw [← hTw.1]; grind [aAsk3, aAsk2, cAsk2, mTo]), (mFr_tr hTw.2 hT1.2)⟩
      · refine z_aload_n X dX4_asks_73 rfl ?_
        refine z_iload_n X dX4_asks_74 rfl ?_
        refine z_iload_n X dX4_asks_75 rfl ?_
        refine z_iload X dX4_asks_76 rfl ?_
        refine z_iconst X dX4_asks_78 ?_
        refine z_callVV4 X (c_X4_gets hJ σ hb hd ho ⟨by decide, by decide⟩ (by omega) okw (by first | omega | grind) (by first | omega | grind) (bud_st (rk_n okw) bdw (d := d) (by first | omega | grind))) kX4_45 rfl (by decide) rfl ⟨(Nat.le_of_ble_eq_true rfl), (Nat.le_of_ble_eq_true rfl)⟩ (Nat.le_of_ble_eq_true rfl) ⟨Nat.zero_le _, Nat.zero_le _⟩ dX4_asks_79 (fun σ1 hz9 => ?_)
        obtain ⟨N2, rfl, hT2⟩ := hz9
        have hnN2 : mV N2 b 0 0 = mV Nw b 0 0 := by rw [hT2.1]; exact n_aEnter _ _ _ _ 0
        have okN2 : rOk (mV N2 b) := (by rw [hT2.1]; exact rk_aEnter okw (by first | omega | grind) (by first | omega | grind))
        have bdN2 : Bud (mV N2 b) := (by rw [hT2.1]; exact bd_aEnter (rk_n okw) bdw (by first | omega | grind))
        have q1 : cSt (mV N2 b) d s = 1 := by rw [hT2.1, st_aEnter (by omega), if_neg (by omega)]; exact hmw
        have q2 : cSt (mV N2 b) d o = 3 := by rw [hT2.1, st_aEnter (by omega), if_pos ⟨rfl, rfl⟩]
        refine z_aload_n X dX4_asks_82 rfl ?_
        refine z_iload_n X dX4_asks_83 rfl ?_
        refine z_iload_n X dX4_asks_84 rfl ?_
        refine z_iload_n X dX4_asks_85 rfl ?_
        refine z_aload_n X dX4_asks_86 rfl ?_
        refine z_iload_n X dX4_asks_87 rfl ?_
        refine z_iload_n X dX4_asks_88 rfl ?_
        refine z_iload X dX4_asks_89 rfl ?_
        refine z_callVI3 X (c_X4_stateOf hJ σ hb hd ho (by omega) okN2 (by first | omega | assumption) (by omega)) kX4_35 rfl (by decide) rfl ⟨(Nat.le_of_ble_eq_true rfl), (Nat.le_of_ble_eq_true rfl)⟩ (Nat.le_of_ble_eq_true rfl) ⟨Nat.zero_le _, Nat.zero_le _⟩ dX4_asks_91 (fun z9 σ1 hz9 => ?_)
        obtain ⟨rfl, rfl⟩ := hz9
        refine z_callVV4 X (c_X4_gets hJ σ hb hd hs (zB_sm (qg_st okN2 _ _)) (by omega) okN2 (by first | omega | grind) (by first | omega | grind) (bud_st (rk_n okN2) bdN2 (d := d) (by first | omega | grind))) kX4_45 rfl (by decide) rfl ⟨(Nat.le_of_ble_eq_true rfl), (Nat.le_of_ble_eq_true rfl)⟩ (Nat.le_of_ble_eq_true rfl) ⟨Nat.zero_le _, Nat.zero_le _⟩ dX4_asks_94 (fun σ1 hz9 => ?_)
        obtain ⟨N3, rfl, hT3⟩ := hz9
        have hnN3 : mV N3 b 0 0 = mV N2 b 0 0 := by rw [hT3.1]; exact n_aEnter _ _ _ _ 0
        have okN3 : rOk (mV N3 b) := (by rw [hT3.1]; exact rk_aEnter okN2 (by first | omega | grind) (by first | omega | grind))
        have bdN3 : Bud (mV N3 b) := (by rw [hT3.1]; exact bd_aEnter (rk_n okN2) bdN2 (by first | omega | grind))
        exact z_vret X hsz hr hlocks dX4_asks_97 ⟨N3, rfl, (by unfold aAsk; rw [← hTw.1]; grind [aAsk3, aAsk2, cAsk2, mTo]), (mFr_tr (mFr_tr hTw.2 hT2.2) hT3.2)⟩
  · refine z_aload_n X dX4_asks_24 rfl ?_
    refine z_iload_n X dX4_asks_25 rfl ?_
    refine z_iload_n X dX4_asks_26 rfl ?_
    refine z_iconst X dX4_asks_27 ?_
    refine z_callVI3 X (c_X4_of3 hJ σ hb hd (by omega) okw (by first | omega | assumption)) kX4_24 rfl (by decide) rfl ⟨(Nat.le_of_ble_eq_true rfl), (Nat.le_of_ble_eq_true rfl)⟩ (Nat.le_of_ble_eq_true rfl) ⟨Nat.zero_le _, Nat.zero_le _⟩ dX4_asks_28 (fun z9 σ1 hz9 => ?_)
    obtain ⟨rfl, rfl⟩ := hz9
    refine z_if_ne X 41 dX4_asks_31 (by decide) (zB_sm (qg_dc okw _)) (fun c_13 => ?_) (fun c_13 => ?_)
    · refine z_aload_n X dX4_asks_41 rfl ?_
      refine z_iload_n X dX4_asks_42 rfl ?_
      refine z_iload_n X dX4_asks_43 rfl ?_
      refine z_iload_n X dX4_asks_44 rfl ?_
      refine z_callVV3 X (c_X4_tells hJ σ hb hd hs (by omega) okw bdw (by first | omega | assumption) (by omega) (by first | omega | grind)) kX4_52 rfl (by decide) rfl ⟨(Nat.le_of_ble_eq_true rfl), (Nat.le_of_ble_eq_true rfl)⟩ (Nat.le_of_ble_eq_true rfl) ⟨Nat.zero_le _, Nat.zero_le _⟩ dX4_asks_45 (fun σ1 hz9 => ?_)
      obtain ⟨N4, rfl, hT4⟩ := hz9
      have hnN4 : mV N4 b 0 0 = mV Nw b 0 0 := by rw [hT4.1]; exact n_aTell _ _ _ 0
      have okN4 : rOk (mV N4 b) := (by rw [hT4.1]; exact rk_aTell okw (by first | omega | assumption))
      have bdN4 : Bud (mV N4 b) := (by rw [hT4.1]; exact bd_aTell okw bdw (by first | omega | assumption) (by first | omega | grind))
      refine z_goto X 97 dX4_asks_48 (by decide) ?_
      exact z_vret X hsz hr hlocks dX4_asks_97 ⟨N4, rfl, (by unfold aAsk; rw [← hTw.1]; grind [aAsk3, aAsk2, cAsk2, mTo]), (mFr_tr hTw.2 hT4.2)⟩
    · refine z_aload_n X dX4_asks_34 rfl ?_
      refine z_iload_n X dX4_asks_35 rfl ?_
      refine z_iload_n X dX4_asks_36 rfl ?_
      refine z_iconst X dX4_asks_37 ?_
      refine z_callVV3 X (c_X4_decides hJ σ hb hd ⟨by decide, by decide⟩ (by omega) okw (by first | omega | grind) (by first | omega | assumption) (bud_dc okw bdw (by first | omega | assumption) (by first | omega | grind))) kX4_49 rfl (by decide) rfl ⟨(Nat.le_of_ble_eq_true rfl), (Nat.le_of_ble_eq_true rfl)⟩ (Nat.le_of_ble_eq_true rfl) ⟨Nat.zero_le _, Nat.zero_le _⟩ dX4_asks_38 (fun σ1 hz9 => ?_)
      obtain ⟨N5, rfl, hT5⟩ := hz9
      have hnN5 : mV N5 b 0 0 = mV Nw b 0 0 := by rw [hT5.1]; exact n_settle _ _ _ 0
      have okN5 : rOk (mV N5 b) := (by rw [hT5.1]; exact rk_settle okw (by omega))
      have bdN5 : Bud (mV N5 b) := (by rw [hT5.1]; exact bd_settle okw bdw (by first | omega | assumption) (by first | omega | grind) (by first | omega | grind))
      have q1 : cDec (mV N5 b) d = 3 := by rw [hT5.1, dc_settle hdw, if_pos rfl]
      refine z_aload_n X dX4_asks_41 rfl ?_
      refine z_iload_n X dX4_asks_42 rfl ?_
      refine z_iload_n X dX4_asks_43 rfl ?_
      refine z_iload_n X dX4_asks_44 rfl ?_
      refine z_callVV3 X (c_X4_tells hJ σ hb hd hs (by omega) okN5 bdN5 (by first | omega | assumption) (by omega) (by first | omega | grind)) kX4_52 rfl (by decide) rfl ⟨(Nat.le_of_ble_eq_true rfl), (Nat.le_of_ble_eq_true rfl)⟩ (Nat.le_of_ble_eq_true rfl) ⟨Nat.zero_le _, Nat.zero_le _⟩ dX4_asks_45 (fun σ1 hz9 => ?_)
      obtain ⟨N6, rfl, hT6⟩ := hz9
      have hnN6 : mV N6 b 0 0 = mV N5 b 0 0 := by rw [hT6.1]; exact n_aTell _ _ _ 0
      have okN6 : rOk (mV N6 b) := (by rw [hT6.1]; exact rk_aTell okN5 (by first | omega | assumption))
      have bdN6 : Bud (mV N6 b) := (by rw [hT6.1]; exact bd_aTell okN5 bdN5 (by first | omega | assumption) (by first | omega | grind))
      refine z_goto X 97 dX4_asks_48 (by decide) ?_
      exact z_vret X hsz hr hlocks dX4_asks_97 ⟨N6, rfl, (by unfold aAsk; rw [← hTw.1]; grind [aAsk3, aAsk2, cAsk2, mTo]), (mFr_tr (mFr_tr hTw.2 hT5.2) hT6.2)⟩
