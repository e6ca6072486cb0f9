theorem zS01 {P : Int → Prop} [DecidablePred P] (n : Nat) : 0 ≤ zSum (fun i => if P i then (1 : Int) else 0) n ∧ zSum (fun i => if P i then (1 : Int) else 0) n ≤ n := zSum_01' (fun i => by show 0 ≤ (if P i then (1 : Int) else 0) ∧ (if P i then (1 : Int) else 0) ≤ 1; split <;> decide) n
theorem rg_cnt {N : zNt} (ok : cOk N) (v : Int) : 0 ≤ cCnt N v ∧ cCnt N v ≤ 48 := by
  have hn := ok_n ok
  unfold cCnt
  have h1 : ∀ d : Nat, 0 ≤ zSum (fun s => if cSt N d s = v then (1 : Int) else 0) 6 ∧ zSum (fun s => if cSt N d s = v then (1 : Int) else 0) 6 ≤ 6 := fun d => zS01 (P := fun s => cSt N d s = v) 6
  have h2 : zSum (fun d => zSum (fun s => if cSt N d s = v then (1 : Int) else 0) 6) (N 0 0).toNat ≤ 6 * ((N 0 0).toNat : Nat) := zSum_le (fun i _ => (h1 i).2)
  have h3 : 0 ≤ zSum (fun d => zSum (fun s => if cSt N d s = v then (1 : Int) else 0) 6) (N 0 0).toNat := zSum_nn (fun i => (h1 i).1)
  omega
theorem rg_mems {N : zNt} (ok : cOk N) : zB (cMems N) := by
  have hn := ok_n ok
  have h := rg_cnt ok (-1)
  unfold cMems zB
  omega
def fShare (A : zNt) : UInt64 := if 0 < cMems A then FP.ddiv (FP.i2d (iI (cCnt A 1))) (FP.i2d (iI (cMems A))) else FP.dconst0
set_option maxHeartbeats 4000000 in
set_option maxRecDepth 100000 in
theorem c_X3_doubtShare {l : Launch} {D : va_G} {G : zG} {ad : Nat → Nat} (hJ : zInj ad) (σ : zM) (fi : fI σ)   : zKD l D G ad yX3_doubtShare cX3_doubtShare 2 (some .double) 8 [.ref (ad 0)] σ (fun z σ9 => z = fShare (gA σ) ∧ σ9 = σ) := by
  intro sz
  refine z_open hJ (by decide +kernel) (Nat.le_of_ble_eq_true rfl) ?_
  intro p e s0 m args below meth c hsz X hr hlocks
  refine z_sub [(0, .ref (ad 0))] (zSub_cons rfl zSub_nil) ?_
  refine z_aload_n X dX3_doubtShare_0 rfl ?_
  refine y_gDea0 X fX3_12 dX3_doubtShare_1 ?_
  refine z_callVI0 X (zKI_at (gA_bk σ) (c_X2_countMembers hJ zn8 σ (N := gA σ) fi.1)) kX3_176 rfl (by decide) (zNet_obj zn8 ad G _ _) ⟨(Nat.le_of_ble_eq_true rfl), (Nat.le_of_ble_eq_true rfl)⟩ (Nat.le_of_ble_eq_true rfl) ⟨(Nat.le_of_ble_eq_true rfl), (Nat.le_of_ble_eq_true rfl)⟩ dX3_doubtShare_4 (fun z9 σ1 hz9 => ?_)
  obtain ⟨rfl, rfl⟩ := hz9
  rw [gA_bk]
  refine z_istore_n X dX3_doubtShare_7 (by decide) ?_
  refine z_sub [(0, .ref (ad 0)), (1, vI (cMems (gA σ)))] (zSub_cons rfl (zSub_cons rfl zSub_nil)) ?_
  refine z_iload_n X dX3_doubtShare_8 rfl ?_
  refine z_if_le X 27 dX3_doubtShare_9 (by decide) (rg_mems fi.1) (fun c_1 => ?_) (fun c_1 => ?_)
  · refine z_dconst0 X dX3_doubtShare_27 ?_
    exact z_dret X hsz hr hlocks dX3_doubtShare_28 ⟨(if_neg (by omega)).symm, rfl⟩
  · have hnz : cMems (gA σ) ≠ 0 ∧ zB (cMems (gA σ)) := ⟨by have := c_1; omega, rg_mems fi.1⟩
    refine z_aload_n X dX3_doubtShare_12 rfl ?_
    refine y_gDea0 X fX3_12 dX3_doubtShare_13 ?_
    refine z_iconst X dX3_doubtShare_16 ?_
    refine z_callVI1 X (zKI_at (gA_bk σ) (c_X2_countInState hJ zn8 σ (N := gA σ) fi.1 ⟨by decide, by decide⟩)) kX3_179 rfl (by decide) (zNet_obj zn8 ad G _ _) ⟨(Nat.le_of_ble_eq_true rfl), (Nat.le_of_ble_eq_true rfl)⟩ (Nat.le_of_ble_eq_true rfl) ⟨(Nat.le_of_ble_eq_true rfl), (Nat.le_of_ble_eq_true rfl)⟩ dX3_doubtShare_17 (fun z9 σ1 hz9 => ?_)
    obtain ⟨rfl, rfl⟩ := hz9
    rw [gA_bk]
    refine z_i2d X dX3_doubtShare_20 ?_
    refine z_iload_n X dX3_doubtShare_21 rfl ?_
    refine z_i2d X dX3_doubtShare_22 ?_
    refine z_ddiv X (zDdiv hnz) dX3_doubtShare_23 ?_
    refine z_goto X 28 dX3_doubtShare_24 (by decide) ?_
    exact z_dret X hsz hr hlocks dX3_doubtShare_28 ⟨(if_pos c_1).symm, rfl⟩

set_option maxHeartbeats 4000000 in
set_option maxRecDepth 100000 in
theorem c_X3_ticksToEnd {l : Launch} {D : va_G} {G : zG} {ad : Nat → Nat} (hJ : zInj ad) (hl : l.stackTraces = false) (σ : zM) (fi : fI σ) {d : Int} (hd : zB d) {s : Int} (hs : zB s)  : zKXI l D G ad yX3_ticksToEnd cX3_ticksToEnd 4 (some .int) 8 4 [.ref (ad 0), vI d, vI s] σ (fun z σ9 => z = cTte (gA σ) d s ∧ (∃ W, σ9 = zBk σ 16 8 W) ∧ (if cHas (gA σ) d ∧ (0 ≤ s ∧ s ≤ 5) then (0 : Int) else 1) = 0) (fEx σ (if cHas (gA σ) d ∧ (0 ≤ s ∧ s ≤ 5) then 0 else 1) e1) := by
  intro sz
  refine zx_open hJ (by decide +kernel) (Nat.le_of_ble_eq_true rfl) ?_
  intro p e s0 m args below meth c hsz X F hxt hr hlocks
  subst hsz
  refine z_sub [(0, .ref (ad 0)), (1, vI d), (2, vI s)] (zSub_cons rfl (zSub_cons rfl (zSub_cons rfl zSub_nil))) ?_
  refine z_aload_n X dX3_ticksToEnd_0 rfl ?_
  refine z_iload_n X dX3_ticksToEnd_1 rfl ?_
  refine z_iload_n X dX3_ticksToEnd_2 rfl ?_
  refine zx_callVV2 X F (c_X3_checkDealAndSite hJ hl σ fi hd hs) kX3_69 rfl (by decide) rfl ⟨(Nat.le_of_ble_eq_true rfl), (Nat.le_of_ble_eq_true rfl)⟩ (Nat.le_of_ble_eq_true rfl) ⟨(Nat.le_of_ble_eq_true rfl), (Nat.le_of_ble_eq_true rfl)⟩ dX3_ticksToEnd_3 (fun E σ1 hx => ?_) (fun σ1 hz => ?_)
  · obtain ⟨e9, hx, rfl⟩ := hx
    rw [e9]
    exact zx_out hxt hlocks (fEx_i (n := 1) (if_neg (c := cHas (gA σ) d ∧ (0 ≤ s ∧ s ≤ 5)) hx) (by decide) rfl) (Nat.le_of_ble_eq_true rfl) (Nat.le_of_ble_eq_true rfl)
  obtain ⟨e9, h_1⟩ := hz
  rw [e9]
  refine z_aload_n X dX3_ticksToEnd_6 rfl ?_
  refine y_gDea1 X fX3_16 dX3_ticksToEnd_7 ?_
  refine z_aload_n X dX3_ticksToEnd_10 rfl ?_
  refine y_gDea0 X fX3_12 dX3_ticksToEnd_11 ?_
  refine z_callVV1 X (c_X2_copyFrom hJ zn16 zn8 (by decide) σ) kX3_188 rfl (by decide) (zNet_obj zn16 ad G _ _) ⟨(Nat.le_of_ble_eq_true rfl), (Nat.le_of_ble_eq_true rfl)⟩ (Nat.le_of_ble_eq_true rfl) ⟨(Nat.le_of_ble_eq_true rfl), (Nat.le_of_ble_eq_true rfl)⟩ dX3_ticksToEnd_14 (fun σ1 hz9 => ?_)
  obtain rfl : σ1 = zBk σ 16 8 (gA σ) := hz9
  refine z_iconst X dX3_ticksToEnd_17 ?_
  refine z_istore_n X dX3_ticksToEnd_18 (by decide) ?_
  refine z_sub [(0, .ref (ad 0)), (1, vI d), (2, vI s), (3, vI 0)] (zSub_cons rfl (zSub_cons rfl (zSub_cons rfl (zSub_cons rfl zSub_nil)))) ?_
  refine z_sub [(0, .ref (ad 0)), (1, vI d), (2, vI s), (3, vI 0)] (zSub_cons rfl (zSub_cons rfl (zSub_cons rfl (zSub_cons rfl zSub_nil)))) ?_
  have hp0 : (if cHas (gA σ) d ∧ (0 ≤ s ∧ s ≤ 5) then (0 : Int) else 1) = 0 := (if_pos (c := cHas (gA σ) d ∧ (0 ≤ s ∧ s ≤ 5)) h_1)
  refine zFor (S := Unit) 41 (fun i _ => zFind (fun i => decide (cEnd (cSt (cTkN (gA σ) d i.toNat) d s))) i.toNat = -1) (fun i _ => zV p l e (zRx 8 4) s0 m args below meth c 4 D G ad (0 + 2) (0 + 6 * 2) (zXE below (zQI D G ad s0.heap.size (fun z σ9 => z = cTte (gA σ) d s ∧ (∃ W, σ9 = zBk σ 16 8 W) ∧ (if cHas (gA σ) d ∧ (0 ≤ s ∧ s ≤ 5) then (0 : Int) else 1) = 0)) (zXX D G ad s0.heap.size (fEx σ (if cHas (gA σ) d ∧ (0 ≤ s ∧ s ≤ 5) then 0 else 1) e1)) args s0 ad 4) 19 [(0, .ref (ad 0)), (1, vI d), (2, vI s), (3, vI i)] [] (zBk σ 16 8 (cTkN (gA σ) d i.toNat))) (fun i _ i0 i1 hv ih => ?_) () (by decide) rfl
  refine z_iload_n X dX3_ticksToEnd_19 rfl ?_
  refine z_bipush X dX3_ticksToEnd_20 rfl ?_
  refine z_icmp_gt X 53 dX3_ticksToEnd_22 (by decide) (by first | assumption | exact ⟨by decide, by decide⟩ | (unfold zB at *; omega)) ⟨by decide, by decide⟩ (fun c_2 => ?_) (fun c_2 => ?_)
  · refine z_iconst X dX3_ticksToEnd_53 ?_
    exact zx_iret X hr hlocks dX3_ticksToEnd_54 ⟨(by unfold cTte; rw [← hv, show i = 41 by omega]; rfl), ⟨_, rfl⟩, hp0⟩ (Nat.le_of_ble_eq_true rfl) (Nat.le_of_ble_eq_true rfl)
  · refine z_aload_n X dX3_ticksToEnd_25 rfl ?_
    refine y_gDea1 X fX3_16 dX3_ticksToEnd_26 ?_
    refine z_iload_n X dX3_ticksToEnd_29 rfl ?_
    refine z_iload_n X dX3_ticksToEnd_30 rfl ?_
    refine z_callVI2 X (c_X2_hasEnded hJ zn16 σ (N := cTkN (gA σ) d i.toNat) (ok_tkN fi.1 d _) hd hs) kX3_191 rfl (by decide) (zNet_obj zn16 ad G _ _) ⟨(Nat.le_of_ble_eq_true rfl), (Nat.le_of_ble_eq_true rfl)⟩ (Nat.le_of_ble_eq_true rfl) ⟨(Nat.le_of_ble_eq_true rfl), (Nat.le_of_ble_eq_true rfl)⟩ dX3_ticksToEnd_31 (fun z9 σ1 hz9 => ?_)
    obtain ⟨rfl, rfl⟩ := hz9
    refine z_ifb_eq X 39 dX3_ticksToEnd_34 (by decide) (fun c_3 => ?_) (fun c_3 => ?_)
    · refine z_aload_n X dX3_ticksToEnd_39 rfl ?_
      refine y_gDea1 X fX3_16 dX3_ticksToEnd_40 ?_
      refine z_iload_n X dX3_ticksToEnd_43 rfl ?_
      refine z_callVV1 X (c_X2_tickDeal hJ zn16 σ (N := cTkN (gA σ) d i.toNat) (ok_tkN fi.1 d _) hd) kX3_194 rfl (by decide) (zNet_obj zn16 ad G _ _) ⟨(Nat.le_of_ble_eq_true rfl), (Nat.le_of_ble_eq_true rfl)⟩ (Nat.le_of_ble_eq_true rfl) ⟨(Nat.le_of_ble_eq_true rfl), (Nat.le_of_ble_eq_true rfl)⟩ dX3_ticksToEnd_44 (fun σ1 hz9 => ?_)
      obtain rfl := hz9
      rw [← cTkN_step i0]
      refine z_iinc X dX3_ticksToEnd_47 rfl (by decide) ?_
      refine z_sub [(0, .ref (ad 0)), (1, vI d), (2, vI s), (3, vI (i + 1))] (zSub_cons rfl (zSub_cons rfl (zSub_cons rfl (zSub_cons rfl zSub_nil)))) ?_
      refine z_goto X 19 dX3_ticksToEnd_50 (by decide) ?_
      exact ih (by omega) () (zFind_step i0 hv (decide_eq_false c_3))
    · refine z_iload_n X dX3_ticksToEnd_37 rfl ?_
      exact zx_iret X hr hlocks dX3_ticksToEnd_38 ⟨(zFind_hit (n := 41) i0 (by omega) hv (decide_eq_true c_3)).symm, ⟨_, rfl⟩, hp0⟩ (Nat.le_of_ble_eq_true rfl) (Nat.le_of_ble_eq_true rfl)
