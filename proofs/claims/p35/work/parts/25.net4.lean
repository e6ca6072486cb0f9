def cAddB (N : zNt) (ld it : Int) : zNt := up2 (up2 (up2 N 1 (N 0 0).toNat ld) 2 (N 0 0).toNat it) 3 (N 0 0).toNat 0
def cAddL (N : zNt) (mk n : Int) : Nat → zNt
  | 0 => N
  | s + 1 => up2 (cAddL N mk n s) 4 (n * 6 + s).toNat (if zAnd (zShr mk s) 1 ≠ 0 then 0 else -1)
theorem cAddL_step {N : zNt} {mk n i : Int} (h : 0 ≤ i) : cAddL N mk n (i + 1).toNat = up2 (cAddL N mk n i.toNat) 4 (n * 6 + i).toNat (if zAnd (zShr mk i) 1 ≠ 0 then 0 else -1) := by
  rw [show (i + 1).toNat = i.toNat + 1 by omega, cAddL, Int.toNat_of_nonneg h]
def cAddN (N : zNt) (ld mk it : Int) : zNt := if cCanBegin N ld mk then up2 (cAddL (cAddB N ld it) mk (N 0 0) 6) 0 0 (N 0 0 + 1) else N
def cAddR (N : zNt) (ld mk : Int) : Int := if cCanBegin N ld mk then N 0 0 else -1
theorem ok_addL {N : zNt} (ok : cOk N) (mk n : Int) : ∀ s : Nat, cOk (cAddL N mk n s)
  | 0 => ok
  | s + 1 => ok_r4 (ok_addL ok mk n s) _ (by split <;> decide) (by split <;> (intro h; exact absurd h (by decide)))
theorem ok_add {N : zNt} (ok : cOk N) {ld it : Int} (mk : Int) (hl : 0 ≤ ld ∧ ld ≤ 5) (hi : 0 ≤ it ∧ it ≤ 9) : cOk (cAddN N ld mk it) := by
  have hn := ok_n ok
  unfold cAddN; split
  · exact ok_f0 (ok_addL (ok_r3 (ok_r2 (ok_r1 ok _ hl) _ hi) _ ⟨by decide, by decide⟩) mk _ 6) (by omega)
  · exact ok
theorem cHsL_step {N : zNt} {s i : Int} {h : Int64} (h0 : 0 ≤ i) : cHsL N s h (i + 1).toNat = zH (cHsL N s h i.toNat) (cEntry N s i) := by
  rw [show (i + 1).toNat = i.toNat + 1 by omega, cHsL, Int.toNat_of_nonneg h0]
theorem cHdL_step {N : zNt} {d i : Int} {h : Int64} (h0 : 0 ≤ i) : cHdL N d h (i + 1).toNat = zH (zH (zH (cHdL N d h i.toNat) (cSt N d i)) (cPat N d i)) (cHelp N d i) := by
  rw [show (i + 1).toNat = i.toNat + 1 by omega, cHdL, Int.toNat_of_nonneg h0]
theorem cHL1_step {N : zNt} {i : Int} {h : Int64} (h0 : 0 ≤ i) : cHL1 N h (i + 1).toNat = cHs N (cHL1 N h i.toNat) i := by
  rw [show (i + 1).toNat = i.toNat + 1 by omega, cHL1, Int.toNat_of_nonneg h0]
theorem cHL2_step {N : zNt} {i : Int} {h : Int64} (h0 : 0 ≤ i) : cHL2 N h (i + 1).toNat = cHd N (cHL2 N h i.toNat) i := by
  rw [show (i + 1).toNat = i.toNat + 1 by omega, cHL2, Int.toNat_of_nonneg h0]
set_option maxHeartbeats 4000000 in
set_option maxRecDepth 100000 in
theorem c_X2_addDeal {l : Launch} {D : va_G} {G : zG} {ad : Nat → Nat} (hJ : zInj ad) {k : Nat} (hk : zNet k) (σ : zM) {N : Nat → Nat → Int} (ok : cOk N) {ld : Int} (hld : zB ld) {mk : Int} (hmk : zB mk) {it : Int} (hit : zB it)  : zKI l D G ad yX2_addDeal cX2_addDeal 6 (some .int) 1 [.ref (ad k), vI ld, vI mk, vI it] (zBk σ k 8 N) (fun z σ9 => z = cAddR N ld mk ∧ σ9 = (zBk σ k 8 (cAddN N ld mk it))) := by
  intro sz
  refine z_open hJ (by decide +kernel) (Nat.le_of_ble_eq_true rfl) ?_
  intro p e s0 m args below meth c hsz X hr hlocks
  have hn := ok_n ok
  refine z_sub [(0, .ref (ad k)), (1, vI ld), (2, vI mk), (3, vI it)] (zSub_cons rfl (zSub_cons rfl (zSub_cons rfl (zSub_cons rfl zSub_nil)))) ?_
  refine z_aload_n X dX2_addDeal_0 rfl ?_
  refine z_iload_n X dX2_addDeal_1 rfl ?_
  refine z_iload_n X dX2_addDeal_2 rfl ?_
  refine z_callVI2 X (c_X2_canBegin hJ hk σ ok hld hmk) kX2_88 rfl (zNet_lt hk) (zNet_obj hk ad G _ _) ⟨(Nat.le_of_ble_eq_true rfl), (Nat.le_of_ble_eq_true rfl)⟩ (Nat.le_of_ble_eq_true rfl) ⟨Nat.zero_le _, Nat.zero_le _⟩ dX2_addDeal_3 (fun z9 σ1 hz9 => ?_)
  obtain ⟨rfl, rfl⟩ := hz9
  refine z_ifb_ne X 11 dX2_addDeal_6 (by decide) (fun c_2 => ?_) (fun c_2 => ?_)
  · refine z_aload_n X dX2_addDeal_11 rfl ?_
    refine y_gNet0 X hk fX2_9 dX2_addDeal_12 ?_
    refine z_istore X dX2_addDeal_15 (by decide) ?_
    refine z_sub [(0, .ref (ad k)), (1, vI ld), (2, vI mk), (3, vI it), (4, vI (N 0 0))] (zSub_cons rfl (zSub_cons rfl (zSub_cons rfl (zSub_cons rfl (zSub_cons rfl zSub_nil))))) ?_
    refine z_aload_n X dX2_addDeal_17 rfl ?_
    refine y_gNet4 X hk fX2_24 dX2_addDeal_18 ?_
    refine z_iload X dX2_addDeal_21 rfl ?_
    refine z_iload_n X dX2_addDeal_23 rfl ?_
    refine y_iast X 1 (zNA1 hk) (by decide) (by omega) (by omega) (by decide) dX2_addDeal_24 ?_
    refine z_aload_n X dX2_addDeal_25 rfl ?_
    refine y_gNet5 X hk fX2_28 dX2_addDeal_26 ?_
    refine z_iload X dX2_addDeal_29 rfl ?_
    refine z_iload_n X dX2_addDeal_31 rfl ?_
    refine y_iast X 2 (zNA2 hk) (by decide) (by omega) (by omega) (by decide) dX2_addDeal_32 ?_
    refine z_aload_n X dX2_addDeal_33 rfl ?_
    refine y_gNet6 X hk fX2_31 dX2_addDeal_34 ?_
    refine z_iload X dX2_addDeal_37 rfl ?_
    refine z_iconst X dX2_addDeal_39 ?_
    refine y_iast X 3 (zNA3 hk) (by decide) (by omega) (by omega) (by decide) dX2_addDeal_40 ?_
    refine z_iconst X dX2_addDeal_41 ?_
    refine z_istore X dX2_addDeal_42 (by decide) ?_
    refine z_sub [(0, .ref (ad k)), (1, vI ld), (2, vI mk), (3, vI it), (4, vI (N 0 0)), (5, vI 0)] (zSub_cons rfl (zSub_cons rfl (zSub_cons rfl (zSub_cons rfl (zSub_cons rfl (zSub_cons rfl zSub_nil)))))) ?_
    refine z_sub [(0, .ref (ad k)), (1, vI ld), (2, vI mk), (3, vI it), (4, vI (N 0 0)), (5, vI 0)] (zSub_cons rfl (zSub_cons rfl (zSub_cons rfl (zSub_cons rfl (zSub_cons rfl (zSub_cons rfl zSub_nil)))))) ?_
    refine zFor (S := zNt) 6 (fun i M => M = cAddL (cAddB N ld it) mk (N 0 0) i.toNat ∧ M 0 0 = N 0 0) (fun i M => zV p l e (zRm 1) s0 m args below meth c 6 D G ad 0 0 (zE below (zQI D G ad sz (fun z σ9 => z = cAddR N ld mk ∧ σ9 = (zBk σ k 8 (cAddN N ld mk it)))) args s0 ad) 44 [(0, .ref (ad k)), (1, vI ld), (2, vI mk), (3, vI it), (4, vI (N 0 0)), (5, vI i)] [] (zBk σ k 8 M)) (fun i M i0 i1 hv ih => ?_) (cAddB N ld it) (by omega) ⟨rfl, rfl⟩
    have hn2 := hv.2
    refine z_iload X dX2_addDeal_44 rfl ?_
    refine z_bipush X dX2_addDeal_46 rfl ?_
    refine z_icmp_ge X 84 dX2_addDeal_48 (by decide) (by first | assumption | (unfold zB at *; omega)) ⟨by decide, by decide⟩ (fun c_3 => ?_) (fun c_3 => ?_)
    · refine z_aload_n X dX2_addDeal_84 rfl ?_
      refine z_dup X dX2_addDeal_85 rfl ?_
      refine y_gNet0 X hk fX2_9 dX2_addDeal_86 ?_
      refine z_iconst X dX2_addDeal_89 ?_
      refine z_iadd X dX2_addDeal_90 ?_
      refine y_pNet0 X hk fX2_9 dX2_addDeal_91 ?_
      refine z_iload X dX2_addDeal_94 rfl ?_
      exact z_iret X hsz hr hlocks dX2_addDeal_96 ⟨(if_pos c_2).symm, (congrArg (zBk σ _ _) (by unfold cAddN; rw [if_pos c_2, hv.2, hv.1, show i = 6 by omega]; rfl))⟩
    · refine z_aload_n X dX2_addDeal_51 rfl ?_
      refine y_gNet7 X hk fX2_34 dX2_addDeal_52 ?_
      refine z_iload X dX2_addDeal_55 rfl ?_
      refine z_bipush X dX2_addDeal_57 rfl ?_
      refine z_imul X dX2_addDeal_59 ?_
      refine z_iload X dX2_addDeal_60 rfl ?_
      refine z_iadd X dX2_addDeal_62 ?_
      refine z_iload_n X dX2_addDeal_63 rfl ?_
      refine z_iload X dX2_addDeal_64 rfl ?_
      refine z_shr X dX2_addDeal_66 (zShr_eq mk i) ?_
      refine z_iconst X dX2_addDeal_67 ?_
      refine z_and X dX2_addDeal_68 (zAnd_eq (zShr mk i) 1) ?_
      refine z_if_eq X 76 dX2_addDeal_69 (by decide) (zB_toInt _) (fun c_4 => ?_) (fun c_4 => ?_)
      · refine z_iconst X dX2_addDeal_76 ?_
        refine y_iast X 4 (zNA4 hk) (by decide) (by omega) (by omega) (by decide) dX2_addDeal_77 ?_
        refine z_iinc X dX2_addDeal_78 rfl (by decide) ?_
        refine z_sub [(0, .ref (ad k)), (1, vI ld), (2, vI mk), (3, vI it), (4, vI (N 0 0)), (5, vI (i + 1))] (zSub_cons rfl (zSub_cons rfl (zSub_cons rfl (zSub_cons rfl (zSub_cons rfl (zSub_cons rfl zSub_nil)))))) ?_
        refine z_goto X 44 dX2_addDeal_81 (by decide) ?_
        refine z_sub [(0, .ref (ad k)), (1, vI ld), (2, vI mk), (3, vI it), (4, vI (N 0 0)), (5, vI (i + 1))] (zSub_cons rfl (zSub_cons rfl (zSub_cons rfl (zSub_cons rfl (zSub_cons rfl (zSub_cons rfl zSub_nil)))))) ?_
        exact ih (by omega) (up2 M 4 (((N 0 0) * 6) + i).toNat (-1)) ⟨by rw [cAddL_step i0, ← hv.1]; grind, by rw [up2_rw _ _ (by decide)]; exact hv.2⟩
      · refine z_iconst X dX2_addDeal_72 ?_
        refine z_goto X 77 dX2_addDeal_73 (by decide) ?_
        refine y_iast X 4 (zNA4 hk) (by decide) (by omega) (by omega) (by decide) dX2_addDeal_77 ?_
        refine z_iinc X dX2_addDeal_78 rfl (by decide) ?_
        refine z_sub [(0, .ref (ad k)), (1, vI ld), (2, vI mk), (3, vI it), (4, vI (N 0 0)), (5, vI (i + 1))] (zSub_cons rfl (zSub_cons rfl (zSub_cons rfl (zSub_cons rfl (zSub_cons rfl (zSub_cons rfl zSub_nil)))))) ?_
        refine z_goto X 44 dX2_addDeal_81 (by decide) ?_
        refine z_sub [(0, .ref (ad k)), (1, vI ld), (2, vI mk), (3, vI it), (4, vI (N 0 0)), (5, vI (i + 1))] (zSub_cons rfl (zSub_cons rfl (zSub_cons rfl (zSub_cons rfl (zSub_cons rfl (zSub_cons rfl zSub_nil)))))) ?_
        exact ih (by omega) (up2 M 4 (((N 0 0) * 6) + i).toNat 0) ⟨by rw [cAddL_step i0, ← hv.1]; grind, by rw [up2_rw _ _ (by decide)]; exact hv.2⟩
  · refine z_iconst X dX2_addDeal_9 ?_
    exact z_iret X hsz hr hlocks dX2_addDeal_10 ⟨(if_neg c_2).symm, (congrArg (zBk σ _ _) (if_neg c_2).symm)⟩

set_option maxHeartbeats 4000000 in
set_option maxRecDepth 100000 in
theorem c_X2_hashSite {l : Launch} {D : va_G} {G : zG} {ad : Nat → Nat} (hJ : zInj ad) {k : Nat} (hk : zNet k) (σ : zM) {N : Nat → Nat → Int} (ok : cOk N) (h : Int64) {s : Int} (hs : zB s)  : zKL l D G ad yX2_hashSite cX2_hashSite 8 (some .long) 3 [.ref (ad k), .long h, vI s] (zBk σ k 8 N) (fun z σ9 => z = cHs N h s ∧ σ9 = (zBk σ k 8 N)) := by
  intro sz
  refine z_open hJ (by decide +kernel) (Nat.le_of_ble_eq_true rfl) ?_
  intro p e s0 m args below meth c hsz X hr hlocks
  have hn := ok_n ok
  refine z_sub [(0, .ref (ad k)), (1, .long h), (3, vI s)] (zSub_cons rfl (zSub_cons rfl (zSub_cons rfl zSub_nil))) ?_
  refine z_ldc2 X (v := 31) (zU_mem 233 (by decide +kernel) (by decide +kernel)) dX2_hashSite_0 ?_
  refine z_lload_n X dX2_hashSite_3 rfl ?_
  refine z_lmul X dX2_hashSite_4 ?_
  refine z_aload_n X dX2_hashSite_5 rfl ?_
  refine z_iload_n X dX2_hashSite_6 rfl ?_
  refine z_callVI1 X (c_X2_isAwake hJ hk σ ok hs) kX2_79 rfl (zNet_lt hk) (zNet_obj hk ad G _ _) ⟨(Nat.le_of_ble_eq_true rfl), (Nat.le_of_ble_eq_true rfl)⟩ (Nat.le_of_ble_eq_true rfl) ⟨Nat.zero_le _, Nat.zero_le _⟩ dX2_hashSite_7 (fun z9 σ1 hz9 => ?_)
  obtain ⟨rfl, rfl⟩ := hz9
  refine z_ifb_eq X 17 dX2_hashSite_10 (by decide) (fun c_2 => ?_) (fun c_2 => ?_)
  · refine z_iconst X dX2_hashSite_17 ?_
    refine z_i2l X dX2_hashSite_18 ?_
    refine z_ladd X dX2_hashSite_19 ?_
    refine z_lstore X dX2_hashSite_20 (by decide) ?_
    refine z_sub [(0, .ref (ad k)), (1, .long h), (3, vI s), (4, .long ((31 * h) + (iI 0).toInt64))] (zSub_cons rfl (zSub_cons rfl (zSub_cons rfl (zSub_cons rfl zSub_nil)))) ?_
    refine z_ldc2 X (v := 31) (zU_mem 233 (by decide +kernel) (by decide +kernel)) dX2_hashSite_22 ?_
    refine z_lload X dX2_hashSite_25 rfl ?_
    refine z_lmul X dX2_hashSite_27 ?_
    refine z_aload_n X dX2_hashSite_28 rfl ?_
    refine z_iload_n X dX2_hashSite_29 rfl ?_
    refine z_callVI1 X (c_X2_itemsHeldBy hJ hk σ ok hs) kX2_166 rfl (zNet_lt hk) (zNet_obj hk ad G _ _) ⟨(Nat.le_of_ble_eq_true rfl), (Nat.le_of_ble_eq_true rfl)⟩ (Nat.le_of_ble_eq_true rfl) ⟨Nat.zero_le _, Nat.zero_le _⟩ dX2_hashSite_30 (fun z9 σ1 hz9 => ?_)
    obtain ⟨rfl, rfl⟩ := hz9
    refine z_i2l X dX2_hashSite_33 ?_
    refine z_ladd X dX2_hashSite_34 ?_
    refine z_lstore X dX2_hashSite_35 (by decide) ?_
    refine z_sub [(0, .ref (ad k)), (1, .long h), (3, vI s), (4, .long ((31 * ((31 * h) + (iI 0).toInt64)) + (iI (cHeld N s (N 0 0).toNat)).toInt64))] (zSub_cons rfl (zSub_cons rfl (zSub_cons rfl (zSub_cons rfl zSub_nil)))) ?_
    refine z_aload_n X dX2_hashSite_37 rfl ?_
    refine z_iload_n X dX2_hashSite_38 rfl ?_
    refine z_callVI1 X (c_X2_entriesOf hJ hk σ ok hs) kX2_75 rfl (zNet_lt hk) (zNet_obj hk ad G _ _) ⟨(Nat.le_of_ble_eq_true rfl), (Nat.le_of_ble_eq_true rfl)⟩ (Nat.le_of_ble_eq_true rfl) ⟨Nat.zero_le _, Nat.zero_le _⟩ dX2_hashSite_39 (fun z9 σ1 hz9 => ?_)
    obtain ⟨rfl, rfl⟩ := hz9
    refine z_istore X dX2_hashSite_42 (by decide) ?_
    refine z_sub [(0, .ref (ad k)), (1, .long h), (3, vI s), (4, .long ((31 * ((31 * h) + (iI 0).toInt64)) + (iI (cHeld N s (N 0 0).toNat)).toInt64)), (6, vI (cEnt N s))] (zSub_cons rfl (zSub_cons rfl (zSub_cons rfl (zSub_cons rfl (zSub_cons rfl zSub_nil))))) ?_
    refine z_ldc2 X (v := 31) (zU_mem 233 (by decide +kernel) (by decide +kernel)) dX2_hashSite_44 ?_
    refine z_lload X dX2_hashSite_47 rfl ?_
    refine z_lmul X dX2_hashSite_49 ?_
    refine z_iload X dX2_hashSite_50 rfl ?_
    refine z_i2l X dX2_hashSite_52 ?_
    refine z_ladd X dX2_hashSite_53 ?_
    refine z_lstore X dX2_hashSite_54 (by decide) ?_
    refine z_sub [(0, .ref (ad k)), (1, .long h), (3, vI s), (4, .long ((31 * ((31 * ((31 * h) + (iI 0).toInt64)) + (iI (cHeld N s (N 0 0).toNat)).toInt64)) + (iI (cEnt N s)).toInt64)), (6, vI (cEnt N s))] (zSub_cons rfl (zSub_cons rfl (zSub_cons rfl (zSub_cons rfl (zSub_cons rfl zSub_nil))))) ?_
    refine z_iconst X dX2_hashSite_56 ?_
    refine z_istore X dX2_hashSite_57 (by decide) ?_
    refine z_sub [(0, .ref (ad k)), (1, .long h), (3, vI s), (4, .long ((31 * ((31 * ((31 * h) + (iI 0).toInt64)) + (iI (cHeld N s (N 0 0).toNat)).toInt64)) + (iI (cEnt N s)).toInt64)), (6, vI (cEnt N s)), (7, vI 0)] (zSub_cons rfl (zSub_cons rfl (zSub_cons rfl (zSub_cons rfl (zSub_cons rfl (zSub_cons rfl zSub_nil)))))) ?_
    refine z_sub [(0, .ref (ad k)), (1, .long h), (3, vI s), (4, .long ((31 * ((31 * ((31 * h) + (iI 0).toInt64)) + (iI (cHeld N s (N 0 0).toNat)).toInt64)) + (iI (cEnt N s)).toInt64)), (6, vI (cEnt N s)), (7, vI 0)] (zSub_cons rfl (zSub_cons rfl (zSub_cons rfl (zSub_cons rfl (zSub_cons rfl (zSub_cons rfl zSub_nil)))))) ?_
    refine zFor (S := Int64) (cEnt N s) (fun i g => g = cHsL N s ((31 * ((31 * ((31 * h) + (iI 0).toInt64)) + (iI (cHeld N s (N 0 0).toNat)).toInt64)) + (iI (cEnt N s)).toInt64) i.toNat) (fun i g => zV p l e (zRm 3) s0 m args below meth c 8 D G ad 0 0 (zE below (zQL D G ad sz (fun z σ9 => z = cHs N h s ∧ σ9 = (zBk σ k 8 N))) args s0 ad) 59 [(0, .ref (ad k)), (1, .long h), (3, vI s), (4, .long g), (6, vI (cEnt N s)), (7, vI i)] [] (zBk σ k 8 N)) (fun i g i0 i1 hv ih => ?_) ((31 * ((31 * ((31 * h) + (iI 0).toInt64)) + (iI (cHeld N s (N 0 0).toNat)).toInt64)) + (iI (cEnt N s)).toInt64) (rg_ent ok s).1 rfl
    refine z_iload X dX2_hashSite_59 rfl ?_
    refine z_iload X dX2_hashSite_61 rfl ?_
    refine z_icmp_ge X 89 dX2_hashSite_63 (by decide) ⟨by omega, by have := (rg_ent ok s).2; omega⟩ (zB_sm (rg_ent ok _)) (fun c_5 => ?_) (fun c_5 => ?_)
    · refine z_lload X dX2_hashSite_89 rfl ?_
      exact z_lret X hsz hr hlocks dX2_hashSite_91 ⟨(by rw [hv, show i = cEnt N s by omega]; unfold cHs; (first | rw [if_pos c_2] | rw [if_neg c_2]) <;> rfl), rfl⟩
    · refine z_ldc2 X (v := 31) (zU_mem 233 (by decide +kernel) (by decide +kernel)) dX2_hashSite_66 ?_
      refine z_lload X dX2_hashSite_69 rfl ?_
      refine z_lmul X dX2_hashSite_71 ?_
      refine z_aload_n X dX2_hashSite_72 rfl ?_
      refine z_iload_n X dX2_hashSite_73 rfl ?_
      refine z_iload X dX2_hashSite_74 rfl ?_
      refine z_callVI2 X (c_X2_entryAt hJ hk σ ok hs ⟨by omega, by have := (rg_ent ok s).2; omega⟩) kX2_169 rfl (zNet_lt hk) (zNet_obj hk ad G _ _) ⟨(Nat.le_of_ble_eq_true rfl), (Nat.le_of_ble_eq_true rfl)⟩ (Nat.le_of_ble_eq_true rfl) ⟨Nat.zero_le _, Nat.zero_le _⟩ dX2_hashSite_76 (fun z9 σ1 hz9 => ?_)
      obtain ⟨rfl, rfl⟩ := hz9
      refine z_i2l X dX2_hashSite_79 ?_
      refine z_ladd X dX2_hashSite_80 ?_
      refine z_lstore X dX2_hashSite_81 (by decide) ?_
      refine z_sub [(0, .ref (ad k)), (1, .long h), (3, vI s), (4, .long ((31 * g) + (iI (cEntry N s i)).toInt64)), (6, vI (cEnt N s)), (7, vI i)] (zSub_cons rfl (zSub_cons rfl (zSub_cons rfl (zSub_cons rfl (zSub_cons rfl (zSub_cons rfl zSub_nil)))))) ?_
      refine z_iinc X dX2_hashSite_83 rfl (by decide) ?_
      refine z_sub [(0, .ref (ad k)), (1, .long h), (3, vI s), (4, .long ((31 * g) + (iI (cEntry N s i)).toInt64)), (6, vI (cEnt N s)), (7, vI (i + 1))] (zSub_cons rfl (zSub_cons rfl (zSub_cons rfl (zSub_cons rfl (zSub_cons rfl (zSub_cons rfl zSub_nil)))))) ?_
      refine z_goto X 59 dX2_hashSite_86 (by decide) ?_
      refine z_sub [(0, .ref (ad k)), (1, .long h), (3, vI s), (4, .long ((31 * g) + (iI (cEntry N s i)).toInt64)), (6, vI (cEnt N s)), (7, vI (i + 1))] (zSub_cons rfl (zSub_cons rfl (zSub_cons rfl (zSub_cons rfl (zSub_cons rfl (zSub_cons rfl zSub_nil)))))) ?_
      exact ih (by omega) ((31 * g) + (iI (cEntry N s i)).toInt64) (by rw [cHsL_step i0, ← hv]; rfl)
  · refine z_iconst X dX2_hashSite_13 ?_
    refine z_goto X 18 dX2_hashSite_14 (by decide) ?_
    refine z_i2l X dX2_hashSite_18 ?_
    refine z_ladd X dX2_hashSite_19 ?_
    refine z_lstore X dX2_hashSite_20 (by decide) ?_
    refine z_sub [(0, .ref (ad k)), (1, .long h), (3, vI s), (4, .long ((31 * h) + (iI 1).toInt64))] (zSub_cons rfl (zSub_cons rfl (zSub_cons rfl (zSub_cons rfl zSub_nil)))) ?_
    refine z_ldc2 X (v := 31) (zU_mem 233 (by decide +kernel) (by decide +kernel)) dX2_hashSite_22 ?_
    refine z_lload X dX2_hashSite_25 rfl ?_
    refine z_lmul X dX2_hashSite_27 ?_
    refine z_aload_n X dX2_hashSite_28 rfl ?_
    refine z_iload_n X dX2_hashSite_29 rfl ?_
    refine z_callVI1 X (c_X2_itemsHeldBy hJ hk σ ok hs) kX2_166 rfl (zNet_lt hk) (zNet_obj hk ad G _ _) ⟨(Nat.le_of_ble_eq_true rfl), (Nat.le_of_ble_eq_true rfl)⟩ (Nat.le_of_ble_eq_true rfl) ⟨Nat.zero_le _, Nat.zero_le _⟩ dX2_hashSite_30 (fun z9 σ1 hz9 => ?_)
    obtain ⟨rfl, rfl⟩ := hz9
    refine z_i2l X dX2_hashSite_33 ?_
    refine z_ladd X dX2_hashSite_34 ?_
    refine z_lstore X dX2_hashSite_35 (by decide) ?_
    refine z_sub [(0, .ref (ad k)), (1, .long h), (3, vI s), (4, .long ((31 * ((31 * h) + (iI 1).toInt64)) + (iI (cHeld N s (N 0 0).toNat)).toInt64))] (zSub_cons rfl (zSub_cons rfl (zSub_cons rfl (zSub_cons rfl zSub_nil)))) ?_
    refine z_aload_n X dX2_hashSite_37 rfl ?_
    refine z_iload_n X dX2_hashSite_38 rfl ?_
    refine z_callVI1 X (c_X2_entriesOf hJ hk σ ok hs) kX2_75 rfl (zNet_lt hk) (zNet_obj hk ad G _ _) ⟨(Nat.le_of_ble_eq_true rfl), (Nat.le_of_ble_eq_true rfl)⟩ (Nat.le_of_ble_eq_true rfl) ⟨Nat.zero_le _, Nat.zero_le _⟩ dX2_hashSite_39 (fun z9 σ1 hz9 => ?_)
    obtain ⟨rfl, rfl⟩ := hz9
    refine z_istore X dX2_hashSite_42 (by decide) ?_
    refine z_sub [(0, .ref (ad k)), (1, .long h), (3, vI s), (4, .long ((31 * ((31 * h) + (iI 1).toInt64)) + (iI (cHeld N s (N 0 0).toNat)).toInt64)), (6, vI (cEnt N s))] (zSub_cons rfl (zSub_cons rfl (zSub_cons rfl (zSub_cons rfl (zSub_cons rfl zSub_nil))))) ?_
    refine z_ldc2 X (v := 31) (zU_mem 233 (by decide +kernel) (by decide +kernel)) dX2_hashSite_44 ?_
    refine z_lload X dX2_hashSite_47 rfl ?_
    refine z_lmul X dX2_hashSite_49 ?_
    refine z_iload X dX2_hashSite_50 rfl ?_
    refine z_i2l X dX2_hashSite_52 ?_
    refine z_ladd X dX2_hashSite_53 ?_
    refine z_lstore X dX2_hashSite_54 (by decide) ?_
    refine z_sub [(0, .ref (ad k)), (1, .long h), (3, vI s), (4, .long ((31 * ((31 * ((31 * h) + (iI 1).toInt64)) + (iI (cHeld N s (N 0 0).toNat)).toInt64)) + (iI (cEnt N s)).toInt64)), (6, vI (cEnt N s))] (zSub_cons rfl (zSub_cons rfl (zSub_cons rfl (zSub_cons rfl (zSub_cons rfl zSub_nil))))) ?_
    refine z_iconst X dX2_hashSite_56 ?_
    refine z_istore X dX2_hashSite_57 (by decide) ?_
    refine z_sub [(0, .ref (ad k)), (1, .long h), (3, vI s), (4, .long ((31 * ((31 * ((31 * h) + (iI 1).toInt64)) + (iI (cHeld N s (N 0 0).toNat)).toInt64)) + (iI (cEnt N s)).toInt64)), (6, vI (cEnt N s)), (7, vI 0)] (zSub_cons rfl (zSub_cons rfl (zSub_cons rfl (zSub_cons rfl (zSub_cons rfl (zSub_cons rfl zSub_nil)))))) ?_
    refine z_sub [(0, .ref (ad k)), (1, .long h), (3, vI s), (4, .long ((31 * ((31 * ((31 * h) + (iI 1).toInt64)) + (iI (cHeld N s (N 0 0).toNat)).toInt64)) + (iI (cEnt N s)).toInt64)), (6, vI (cEnt N s)), (7, vI 0)] (zSub_cons rfl (zSub_cons rfl (zSub_cons rfl (zSub_cons rfl (zSub_cons rfl (zSub_cons rfl zSub_nil)))))) ?_
    refine zFor (S := Int64) (cEnt N s) (fun i g => g = cHsL N s ((31 * ((31 * ((31 * h) + (iI 1).toInt64)) + (iI (cHeld N s (N 0 0).toNat)).toInt64)) + (iI (cEnt N s)).toInt64) i.toNat) (fun i g => zV p l e (zRm 3) s0 m args below meth c 8 D G ad 0 0 (zE below (zQL D G ad sz (fun z σ9 => z = cHs N h s ∧ σ9 = (zBk σ k 8 N))) args s0 ad) 59 [(0, .ref (ad k)), (1, .long h), (3, vI s), (4, .long g), (6, vI (cEnt N s)), (7, vI i)] [] (zBk σ k 8 N)) (fun i g i0 i1 hv ih => ?_) ((31 * ((31 * ((31 * h) + (iI 1).toInt64)) + (iI (cHeld N s (N 0 0).toNat)).toInt64)) + (iI (cEnt N s)).toInt64) (rg_ent ok s).1 rfl
    refine z_iload X dX2_hashSite_59 rfl ?_
    refine z_iload X dX2_hashSite_61 rfl ?_
    refine z_icmp_ge X 89 dX2_hashSite_63 (by decide) ⟨by omega, by have := (rg_ent ok s).2; omega⟩ (zB_sm (rg_ent ok _)) (fun c_9 => ?_) (fun c_9 => ?_)
    · refine z_lload X dX2_hashSite_89 rfl ?_
      exact z_lret X hsz hr hlocks dX2_hashSite_91 ⟨(by rw [hv, show i = cEnt N s by omega]; unfold cHs; (first | rw [if_pos c_2] | rw [if_neg c_2]) <;> rfl), rfl⟩
    · refine z_ldc2 X (v := 31) (zU_mem 233 (by decide +kernel) (by decide +kernel)) dX2_hashSite_66 ?_
      refine z_lload X dX2_hashSite_69 rfl ?_
      refine z_lmul X dX2_hashSite_71 ?_
      refine z_aload_n X dX2_hashSite_72 rfl ?_
      refine z_iload_n X dX2_hashSite_73 rfl ?_
      refine z_iload X dX2_hashSite_74 rfl ?_
      refine z_callVI2 X (c_X2_entryAt hJ hk σ ok hs ⟨by omega, by have := (rg_ent ok s).2; omega⟩) kX2_169 rfl (zNet_lt hk) (zNet_obj hk ad G _ _) ⟨(Nat.le_of_ble_eq_true rfl), (Nat.le_of_ble_eq_true rfl)⟩ (Nat.le_of_ble_eq_true rfl) ⟨Nat.zero_le _, Nat.zero_le _⟩ dX2_hashSite_76 (fun z9 σ1 hz9 => ?_)
      obtain ⟨rfl, rfl⟩ := hz9
      refine z_i2l X dX2_hashSite_79 ?_
      refine z_ladd X dX2_hashSite_80 ?_
      refine z_lstore X dX2_hashSite_81 (by decide) ?_
      refine z_sub [(0, .ref (ad k)), (1, .long h), (3, vI s), (4, .long ((31 * g) + (iI (cEntry N s i)).toInt64)), (6, vI (cEnt N s)), (7, vI i)] (zSub_cons rfl (zSub_cons rfl (zSub_cons rfl (zSub_cons rfl (zSub_cons rfl (zSub_cons rfl zSub_nil)))))) ?_
      refine z_iinc X dX2_hashSite_83 rfl (by decide) ?_
      refine z_sub [(0, .ref (ad k)), (1, .long h), (3, vI s), (4, .long ((31 * g) + (iI (cEntry N s i)).toInt64)), (6, vI (cEnt N s)), (7, vI (i + 1))] (zSub_cons rfl (zSub_cons rfl (zSub_cons rfl (zSub_cons rfl (zSub_cons rfl (zSub_cons rfl zSub_nil)))))) ?_
      refine z_goto X 59 dX2_hashSite_86 (by decide) ?_
      refine z_sub [(0, .ref (ad k)), (1, .long h), (3, vI s), (4, .long ((31 * g) + (iI (cEntry N s i)).toInt64)), (6, vI (cEnt N s)), (7, vI (i + 1))] (zSub_cons rfl (zSub_cons rfl (zSub_cons rfl (zSub_cons rfl (zSub_cons rfl (zSub_cons rfl zSub_nil)))))) ?_
      exact ih (by omega) ((31 * g) + (iI (cEntry N s i)).toInt64) (by rw [cHsL_step i0, ← hv]; rfl)

set_option maxHeartbeats 4000000 in
set_option maxRecDepth 100000 in
theorem c_X2_hashDeal {l : Launch} {D : va_G} {G : zG} {ad : Nat → Nat} (hJ : zInj ad) {k : Nat} (hk : zNet k) (σ : zM) {N : Nat → Nat → Int} (ok : cOk N) (h : Int64) {d : Int} (hd : zB d)  : zKL l D G ad yX2_hashDeal cX2_hashDeal 7 (some .long) 3 [.ref (ad k), .long h, vI d] (zBk σ k 8 N) (fun z σ9 => z = cHd N h d ∧ σ9 = (zBk σ k 8 N)) := by
  intro sz
  refine z_open hJ (by decide +kernel) (Nat.le_of_ble_eq_true rfl) ?_
  intro p e s0 m args below meth c hsz X hr hlocks
  have hn := ok_n ok
  refine z_sub [(0, .ref (ad k)), (1, .long h), (3, vI d)] (zSub_cons rfl (zSub_cons rfl (zSub_cons rfl zSub_nil))) ?_
  refine z_ldc2 X (v := 31) (zU_mem 233 (by decide +kernel) (by decide +kernel)) dX2_hashDeal_0 ?_
  refine z_lload_n X dX2_hashDeal_3 rfl ?_
  refine z_lmul X dX2_hashDeal_4 ?_
  refine z_aload_n X dX2_hashDeal_5 rfl ?_
  refine z_iload_n X dX2_hashDeal_6 rfl ?_
  refine z_callVI1 X (c_X2_leaderOf hJ hk σ ok hd) kX2_82 rfl (zNet_lt hk) (zNet_obj hk ad G _ _) ⟨(Nat.le_of_ble_eq_true rfl), (Nat.le_of_ble_eq_true rfl)⟩ (Nat.le_of_ble_eq_true rfl) ⟨Nat.zero_le _, Nat.zero_le _⟩ dX2_hashDeal_7 (fun z9 σ1 hz9 => ?_)
  obtain ⟨rfl, rfl⟩ := hz9
  refine z_i2l X dX2_hashDeal_10 ?_
  refine z_ladd X dX2_hashDeal_11 ?_
  refine z_lstore X dX2_hashDeal_12 (by decide) ?_
  refine z_sub [(0, .ref (ad k)), (1, .long h), (3, vI d), (4, .long ((31 * h) + (iI (cLead N d)).toInt64))] (zSub_cons rfl (zSub_cons rfl (zSub_cons rfl (zSub_cons rfl zSub_nil)))) ?_
  refine z_ldc2 X (v := 31) (zU_mem 233 (by decide +kernel) (by decide +kernel)) dX2_hashDeal_14 ?_
  refine z_lload X dX2_hashDeal_17 rfl ?_
  refine z_lmul X dX2_hashDeal_19 ?_
  refine z_aload_n X dX2_hashDeal_20 rfl ?_
  refine z_iload_n X dX2_hashDeal_21 rfl ?_
  refine z_callVI1 X (c_X2_decisionOf hJ hk σ ok hd) kX2_85 rfl (zNet_lt hk) (zNet_obj hk ad G _ _) ⟨(Nat.le_of_ble_eq_true rfl), (Nat.le_of_ble_eq_true rfl)⟩ (Nat.le_of_ble_eq_true rfl) ⟨Nat.zero_le _, Nat.zero_le _⟩ dX2_hashDeal_22 (fun z9 σ1 hz9 => ?_)
  obtain ⟨rfl, rfl⟩ := hz9
  refine z_i2l X dX2_hashDeal_25 ?_
  refine z_ladd X dX2_hashDeal_26 ?_
  refine z_lstore X dX2_hashDeal_27 (by decide) ?_
  refine z_sub [(0, .ref (ad k)), (1, .long h), (3, vI d), (4, .long ((31 * ((31 * h) + (iI (cLead N d)).toInt64)) + (iI (cDec N d)).toInt64))] (zSub_cons rfl (zSub_cons rfl (zSub_cons rfl (zSub_cons rfl zSub_nil)))) ?_
  refine z_iconst X dX2_hashDeal_29 ?_
  refine z_istore X dX2_hashDeal_30 (by decide) ?_
  refine z_sub [(0, .ref (ad k)), (1, .long h), (3, vI d), (4, .long ((31 * ((31 * h) + (iI (cLead N d)).toInt64)) + (iI (cDec N d)).toInt64)), (6, vI 0)] (zSub_cons rfl (zSub_cons rfl (zSub_cons rfl (zSub_cons rfl (zSub_cons rfl zSub_nil))))) ?_
  refine z_sub [(0, .ref (ad k)), (1, .long h), (3, vI d), (4, .long ((31 * ((31 * h) + (iI (cLead N d)).toInt64)) + (iI (cDec N d)).toInt64)), (6, vI 0)] (zSub_cons rfl (zSub_cons rfl (zSub_cons rfl (zSub_cons rfl (zSub_cons rfl zSub_nil))))) ?_
  refine zFor (S := Int64) 6 (fun i g => g = cHdL N d ((31 * ((31 * h) + (iI (cLead N d)).toInt64)) + (iI (cDec N d)).toInt64) i.toNat) (fun i g => zV p l e (zRm 3) s0 m args below meth c 7 D G ad 0 0 (zE below (zQL D G ad sz (fun z σ9 => z = cHd N h d ∧ σ9 = (zBk σ k 8 N))) args s0 ad) 32 [(0, .ref (ad k)), (1, .long h), (3, vI d), (4, .long g), (6, vI i)] [] (zBk σ k 8 N)) (fun i g i0 i1 hv ih => ?_) ((31 * ((31 * h) + (iI (cLead N d)).toInt64)) + (iI (cDec N d)).toInt64) (by omega) rfl
  refine z_iload X dX2_hashDeal_32 rfl ?_
  refine z_bipush X dX2_hashDeal_34 rfl ?_
  refine z_icmp_ge X 96 dX2_hashDeal_36 (by decide) (by first | assumption | (unfold zB at *; omega)) ⟨by decide, by decide⟩ (fun c_3 => ?_) (fun c_3 => ?_)
  · refine z_lload X dX2_hashDeal_96 rfl ?_
    exact z_lret X hsz hr hlocks dX2_hashDeal_98 ⟨(by rw [hv, show i = 6 by omega]; rfl), rfl⟩
  · refine z_ldc2 X (v := 31) (zU_mem 233 (by decide +kernel) (by decide +kernel)) dX2_hashDeal_39 ?_
    refine z_lload X dX2_hashDeal_42 rfl ?_
    refine z_lmul X dX2_hashDeal_44 ?_
    refine z_aload_n X dX2_hashDeal_45 rfl ?_
    refine z_iload_n X dX2_hashDeal_46 rfl ?_
    refine z_iload X dX2_hashDeal_47 rfl ?_
    refine z_callVI2 X (c_X2_stateOf hJ hk σ ok hd (by first | assumption | (unfold zB at *; omega))) kX2_66 rfl (zNet_lt hk) (zNet_obj hk ad G _ _) ⟨(Nat.le_of_ble_eq_true rfl), (Nat.le_of_ble_eq_true rfl)⟩ (Nat.le_of_ble_eq_true rfl) ⟨Nat.zero_le _, Nat.zero_le _⟩ dX2_hashDeal_49 (fun z9 σ1 hz9 => ?_)
    obtain ⟨rfl, rfl⟩ := hz9
    refine z_i2l X dX2_hashDeal_52 ?_
    refine z_ladd X dX2_hashDeal_53 ?_
    refine z_lstore X dX2_hashDeal_54 (by decide) ?_
    refine z_sub [(0, .ref (ad k)), (1, .long h), (3, vI d), (4, .long ((31 * g) + (iI (cSt N d i)).toInt64)), (6, vI i)] (zSub_cons rfl (zSub_cons rfl (zSub_cons rfl (zSub_cons rfl (zSub_cons rfl zSub_nil))))) ?_
    refine z_ldc2 X (v := 31) (zU_mem 233 (by decide +kernel) (by decide +kernel)) dX2_hashDeal_56 ?_
    refine z_lload X dX2_hashDeal_59 rfl ?_
    refine z_lmul X dX2_hashDeal_61 ?_
    refine z_aload_n X dX2_hashDeal_62 rfl ?_
    refine z_iload_n X dX2_hashDeal_63 rfl ?_
    refine z_iload X dX2_hashDeal_64 rfl ?_
    refine z_callVI2 X (c_X2_patienceOf hJ hk σ ok hd (by first | assumption | (unfold zB at *; omega))) kX2_172 rfl (zNet_lt hk) (zNet_obj hk ad G _ _) ⟨(Nat.le_of_ble_eq_true rfl), (Nat.le_of_ble_eq_true rfl)⟩ (Nat.le_of_ble_eq_true rfl) ⟨Nat.zero_le _, Nat.zero_le _⟩ dX2_hashDeal_66 (fun z9 σ1 hz9 => ?_)
    obtain ⟨rfl, rfl⟩ := hz9
    refine z_i2l X dX2_hashDeal_69 ?_
    refine z_ladd X dX2_hashDeal_70 ?_
    refine z_lstore X dX2_hashDeal_71 (by decide) ?_
    refine z_sub [(0, .ref (ad k)), (1, .long h), (3, vI d), (4, .long ((31 * ((31 * g) + (iI (cSt N d i)).toInt64)) + (iI (cPat N d i)).toInt64)), (6, vI i)] (zSub_cons rfl (zSub_cons rfl (zSub_cons rfl (zSub_cons rfl (zSub_cons rfl zSub_nil))))) ?_
    refine z_ldc2 X (v := 31) (zU_mem 233 (by decide +kernel) (by decide +kernel)) dX2_hashDeal_73 ?_
    refine z_lload X dX2_hashDeal_76 rfl ?_
    refine z_lmul X dX2_hashDeal_78 ?_
    refine z_aload_n X dX2_hashDeal_79 rfl ?_
    refine z_iload_n X dX2_hashDeal_80 rfl ?_
    refine z_iload X dX2_hashDeal_81 rfl ?_
    refine z_callVI2 X (c_X2_helperFor hJ hk σ ok hd (by first | assumption | (unfold zB at *; omega))) kX2_142 rfl (zNet_lt hk) (zNet_obj hk ad G _ _) ⟨(Nat.le_of_ble_eq_true rfl), (Nat.le_of_ble_eq_true rfl)⟩ (Nat.le_of_ble_eq_true rfl) ⟨Nat.zero_le _, Nat.zero_le _⟩ dX2_hashDeal_83 (fun z9 σ1 hz9 => ?_)
    obtain ⟨rfl, rfl⟩ := hz9
    refine z_i2l X dX2_hashDeal_86 ?_
    refine z_ladd X dX2_hashDeal_87 ?_
    refine z_lstore X dX2_hashDeal_88 (by decide) ?_
    refine z_sub [(0, .ref (ad k)), (1, .long h), (3, vI d), (4, .long ((31 * ((31 * ((31 * g) + (iI (cSt N d i)).toInt64)) + (iI (cPat N d i)).toInt64)) + (iI (cHelp N d i)).toInt64)), (6, vI i)] (zSub_cons rfl (zSub_cons rfl (zSub_cons rfl (zSub_cons rfl (zSub_cons rfl zSub_nil))))) ?_
    refine z_iinc X dX2_hashDeal_90 rfl (by decide) ?_
    refine z_sub [(0, .ref (ad k)), (1, .long h), (3, vI d), (4, .long ((31 * ((31 * ((31 * g) + (iI (cSt N d i)).toInt64)) + (iI (cPat N d i)).toInt64)) + (iI (cHelp N d i)).toInt64)), (6, vI (i + 1))] (zSub_cons rfl (zSub_cons rfl (zSub_cons rfl (zSub_cons rfl (zSub_cons rfl zSub_nil))))) ?_
    refine z_goto X 32 dX2_hashDeal_93 (by decide) ?_
    refine z_sub [(0, .ref (ad k)), (1, .long h), (3, vI d), (4, .long ((31 * ((31 * ((31 * g) + (iI (cSt N d i)).toInt64)) + (iI (cPat N d i)).toInt64)) + (iI (cHelp N d i)).toInt64)), (6, vI (i + 1))] (zSub_cons rfl (zSub_cons rfl (zSub_cons rfl (zSub_cons rfl (zSub_cons rfl zSub_nil))))) ?_
    exact ih (by omega) ((31 * ((31 * ((31 * g) + (iI (cSt N d i)).toInt64)) + (iI (cPat N d i)).toInt64)) + (iI (cHelp N d i)).toInt64) (by rw [cHdL_step i0, ← hv]; rfl)

set_option maxHeartbeats 4000000 in
set_option maxRecDepth 100000 in
theorem c_X2_hash {l : Launch} {D : va_G} {G : zG} {ad : Nat → Nat} (hJ : zInj ad) {k : Nat} (hk : zNet k) (σ : zM) {N : Nat → Nat → Int} (ok : cOk N)   : zKL l D G ad yX2_hash cX2_hash 4 (some .long) 5 [.ref (ad k)] (zBk σ k 8 N) (fun z σ9 => z = cHash N ∧ σ9 = (zBk σ k 8 N)) := by
  intro sz
  refine z_open hJ (by decide +kernel) (Nat.le_of_ble_eq_true rfl) ?_
  intro p e s0 m args below meth c hsz X hr hlocks
  have hn := ok_n ok
  refine z_sub [(0, .ref (ad k))] (zSub_cons rfl zSub_nil) ?_
  refine z_ldc2 X (v := 4431) (zU_mem 232 (by decide +kernel) (by decide +kernel)) dX2_hash_0 ?_
  refine z_lstore_n X dX2_hash_3 (by decide) ?_
  refine z_sub [(0, .ref (ad k)), (1, .long 4431)] (zSub_cons rfl (zSub_cons rfl zSub_nil)) ?_
  refine z_ldc2 X (v := 31) (zU_mem 233 (by decide +kernel) (by decide +kernel)) dX2_hash_4 ?_
  refine z_lload_n X dX2_hash_7 rfl ?_
  refine z_lmul X dX2_hash_8 ?_
  refine z_aload_n X dX2_hash_9 rfl ?_
  refine y_gNet0 X hk fX2_9 dX2_hash_10 ?_
  refine z_i2l X dX2_hash_13 ?_
  refine z_ladd X dX2_hash_14 ?_
  refine z_lstore_n X dX2_hash_15 (by decide) ?_
  refine z_sub [(0, .ref (ad k)), (1, .long ((31 * 4431) + (iI (N 0 0)).toInt64))] (zSub_cons rfl (zSub_cons rfl zSub_nil)) ?_
  refine z_ldc2 X (v := 31) (zU_mem 233 (by decide +kernel) (by decide +kernel)) dX2_hash_16 ?_
  refine z_lload_n X dX2_hash_19 rfl ?_
  refine z_lmul X dX2_hash_20 ?_
  refine z_aload_n X dX2_hash_21 rfl ?_
  refine z_callVI0 X (c_X2_countOpen hJ hk σ ok) kX2_152 rfl (zNet_lt hk) (zNet_obj hk ad G _ _) ⟨(Nat.le_of_ble_eq_true rfl), (Nat.le_of_ble_eq_true rfl)⟩ (Nat.le_of_ble_eq_true rfl) ⟨Nat.zero_le _, Nat.zero_le _⟩ dX2_hash_22 (fun z9 σ1 hz9 => ?_)
  obtain ⟨rfl, rfl⟩ := hz9
  refine z_i2l X dX2_hash_25 ?_
  refine z_ladd X dX2_hash_26 ?_
  refine z_lstore_n X dX2_hash_27 (by decide) ?_
  refine z_sub [(0, .ref (ad k)), (1, .long ((31 * ((31 * 4431) + (iI (N 0 0)).toInt64)) + (iI (cOpens N)).toInt64))] (zSub_cons rfl (zSub_cons rfl zSub_nil)) ?_
  refine z_ldc2 X (v := 31) (zU_mem 233 (by decide +kernel) (by decide +kernel)) dX2_hash_28 ?_
  refine z_lload_n X dX2_hash_31 rfl ?_
  refine z_lmul X dX2_hash_32 ?_
  refine z_aload_n X dX2_hash_33 rfl ?_
  refine z_callVI0 X (c_X2_countStuck hJ hk σ ok) kX2_156 rfl (zNet_lt hk) (zNet_obj hk ad G _ _) ⟨(Nat.le_of_ble_eq_true rfl), (Nat.le_of_ble_eq_true rfl)⟩ (Nat.le_of_ble_eq_true rfl) ⟨Nat.zero_le _, Nat.zero_le _⟩ dX2_hash_34 (fun z9 σ1 hz9 => ?_)
  obtain ⟨rfl, rfl⟩ := hz9
  refine z_i2l X dX2_hash_37 ?_
  refine z_ladd X dX2_hash_38 ?_
  refine z_lstore_n X dX2_hash_39 (by decide) ?_
  refine z_sub [(0, .ref (ad k)), (1, .long ((31 * ((31 * ((31 * 4431) + (iI (N 0 0)).toInt64)) + (iI (cOpens N)).toInt64)) + (iI (cStucks N)).toInt64))] (zSub_cons rfl (zSub_cons rfl zSub_nil)) ?_
  refine z_ldc2 X (v := 31) (zU_mem 233 (by decide +kernel) (by decide +kernel)) dX2_hash_40 ?_
  refine z_lload_n X dX2_hash_43 rfl ?_
  refine z_lmul X dX2_hash_44 ?_
  refine z_aload_n X dX2_hash_45 rfl ?_
  refine y_gNet2 X hk fX2_18 dX2_hash_46 ?_
  refine z_i2l X dX2_hash_49 ?_
  refine z_ladd X dX2_hash_50 ?_
  refine z_lstore_n X dX2_hash_51 (by decide) ?_
  refine z_sub [(0, .ref (ad k)), (1, .long ((31 * ((31 * ((31 * ((31 * 4431) + (iI (N 0 0)).toInt64)) + (iI (cOpens N)).toInt64)) + (iI (cStucks N)).toInt64)) + (iI (N 0 2)).toInt64))] (zSub_cons rfl (zSub_cons rfl zSub_nil)) ?_
  refine z_iconst X dX2_hash_52 ?_
  refine z_istore_n X dX2_hash_53 (by decide) ?_
  refine z_sub [(0, .ref (ad k)), (1, .long ((31 * ((31 * ((31 * ((31 * 4431) + (iI (N 0 0)).toInt64)) + (iI (cOpens N)).toInt64)) + (iI (cStucks N)).toInt64)) + (iI (N 0 2)).toInt64)), (3, vI 0)] (zSub_cons rfl (zSub_cons rfl (zSub_cons rfl zSub_nil))) ?_
  refine z_sub [(0, .ref (ad k)), (1, .long ((31 * ((31 * ((31 * ((31 * 4431) + (iI (N 0 0)).toInt64)) + (iI (cOpens N)).toInt64)) + (iI (cStucks N)).toInt64)) + (iI (N 0 2)).toInt64)), (3, vI 0)] (zSub_cons rfl (zSub_cons rfl (zSub_cons rfl zSub_nil))) ?_
  refine zFor (S := Int64) 6 (fun i g => g = cHL1 N (zH (zH (zH (zH 4431 (N 0 0)) (cOpens N)) (cStucks N)) (N 0 2)) i.toNat) (fun i g => zV p l e (zRm 5) s0 m args below meth c 4 D G ad 0 0 (zE below (zQL D G ad sz (fun z σ9 => z = cHash N ∧ σ9 = (zBk σ k 8 N))) args s0 ad) 54 [(0, .ref (ad k)), (1, .long g), (3, vI i)] [] (zBk σ k 8 N)) (fun i g i0 i1 hv ih => ?_) ((31 * ((31 * ((31 * ((31 * 4431) + (iI (N 0 0)).toInt64)) + (iI (cOpens N)).toInt64)) + (iI (cStucks N)).toInt64)) + (iI (N 0 2)).toInt64) (by omega) rfl
  refine z_iload_n X dX2_hash_54 rfl ?_
  refine z_bipush X dX2_hash_55 rfl ?_
  refine z_icmp_ge X 73 dX2_hash_57 (by decide) (by first | assumption | (unfold zB at *; omega)) ⟨by decide, by decide⟩ (fun c_3 => ?_) (fun c_3 => ?_)
  · refine z_iconst X dX2_hash_73 ?_
    refine z_istore_n X dX2_hash_74 (by decide) ?_
    refine z_sub [(0, .ref (ad k)), (1, .long g), (3, vI 0)] (zSub_cons rfl (zSub_cons rfl (zSub_cons rfl zSub_nil))) ?_
    refine z_sub [(0, .ref (ad k)), (1, .long g), (3, vI 0)] (zSub_cons rfl (zSub_cons rfl (zSub_cons rfl zSub_nil))) ?_
    refine zFor (S := Int64) (N 0 0) (fun j g2 => g2 = cHL2 N g j.toNat) (fun j g2 => zV p l e (zRm 5) s0 m args below meth c 4 D G ad 0 0 (zE below (zQL D G ad sz (fun z σ9 => z = cHash N ∧ σ9 = (zBk σ k 8 N))) args s0 ad) 75 [(0, .ref (ad k)), (1, .long g2), (3, vI j)] [] (zBk σ k 8 N)) (fun j g2 j0 j1 hvb ihb => ?_) g (by omega) rfl
    refine z_iload_n X dX2_hash_75 rfl ?_
    refine z_aload_n X dX2_hash_76 rfl ?_
    refine y_gNet0 X hk fX2_9 dX2_hash_77 ?_
    refine z_icmp_ge X 96 dX2_hash_80 (by decide) (by first | assumption | (unfold zB at *; omega)) (zB_sm (ok_n ok)) (fun c_4 => ?_) (fun c_4 => ?_)
    · refine z_lload_n X dX2_hash_96 rfl ?_
      exact z_lret X hsz hr hlocks dX2_hash_97 ⟨(by rw [hvb, hv, show j = N 0 0 by omega, show i = 6 by omega]; rfl), rfl⟩
    · refine z_aload_n X dX2_hash_83 rfl ?_
      refine z_lload_n X dX2_hash_84 rfl ?_
      refine z_iload_n X dX2_hash_85 rfl ?_
      refine z_callVL2 X (c_X2_hashDeal hJ hk σ ok g2 (by first | assumption | (unfold zB at *; omega))) kX2_163 rfl (zNet_lt hk) (zNet_obj hk ad G _ _) ⟨(Nat.le_of_ble_eq_true rfl), (Nat.le_of_ble_eq_true rfl)⟩ (Nat.le_of_ble_eq_true rfl) ⟨Nat.zero_le _, Nat.zero_le _⟩ dX2_hash_86 (fun z9 σ1 hz9 => ?_)
      obtain ⟨rfl, rfl⟩ := hz9
      refine z_lstore_n X dX2_hash_89 (by decide) ?_
      refine z_sub [(0, .ref (ad k)), (1, .long (cHd N g2 j)), (3, vI j)] (zSub_cons rfl (zSub_cons rfl (zSub_cons rfl zSub_nil))) ?_
      refine z_iinc X dX2_hash_90 rfl (by decide) ?_
      refine z_sub [(0, .ref (ad k)), (1, .long (cHd N g2 j)), (3, vI (j + 1))] (zSub_cons rfl (zSub_cons rfl (zSub_cons rfl zSub_nil))) ?_
      refine z_goto X 75 dX2_hash_93 (by decide) ?_
      refine z_sub [(0, .ref (ad k)), (1, .long (cHd N g2 j)), (3, vI (j + 1))] (zSub_cons rfl (zSub_cons rfl (zSub_cons rfl zSub_nil))) ?_
      exact ihb (by omega) (cHd N g2 j) (by rw [cHL2_step j0, ← hvb])
  · refine z_aload_n X dX2_hash_60 rfl ?_
    refine z_lload_n X dX2_hash_61 rfl ?_
    refine z_iload_n X dX2_hash_62 rfl ?_
    refine z_callVL2 X (c_X2_hashSite hJ hk σ ok g (by first | assumption | (unfold zB at *; omega))) kX2_159 rfl (zNet_lt hk) (zNet_obj hk ad G _ _) ⟨(Nat.le_of_ble_eq_true rfl), (Nat.le_of_ble_eq_true rfl)⟩ (Nat.le_of_ble_eq_true rfl) ⟨Nat.zero_le _, Nat.zero_le _⟩ dX2_hash_63 (fun z9 σ1 hz9 => ?_)
    obtain ⟨rfl, rfl⟩ := hz9
    refine z_lstore_n X dX2_hash_66 (by decide) ?_
    refine z_sub [(0, .ref (ad k)), (1, .long (cHs N g i)), (3, vI i)] (zSub_cons rfl (zSub_cons rfl (zSub_cons rfl zSub_nil))) ?_
    refine z_iinc X dX2_hash_67 rfl (by decide) ?_
    refine z_sub [(0, .ref (ad k)), (1, .long (cHs N g i)), (3, vI (i + 1))] (zSub_cons rfl (zSub_cons rfl (zSub_cons rfl zSub_nil))) ?_
    refine z_goto X 54 dX2_hash_70 (by decide) ?_
    refine z_sub [(0, .ref (ad k)), (1, .long (cHs N g i)), (3, vI (i + 1))] (zSub_cons rfl (zSub_cons rfl (zSub_cons rfl zSub_nil))) ?_
    exact ih (by omega) (cHs N g i) (by rw [cHL1_step i0, ← hv])
/-! copies -/
def zCp (σ : zM) (q1 q2 : Nat) : zM := (fun a b => if a = q2 then σ.1 q1 b else σ.1 a b, σ.2)
theorem zW_same {ad : Nat → Nat} {G : zG} {σ σ' : zM} (h : ∀ i, zIn i → zC ad G i (σ.1 i) (σ.2 i) = zC ad G i (σ'.1 i) (σ'.2 i)) : zW ad G σ = zW ad G σ' := by
  apply List.ext_getElem?
  intro i
  rcases Nat.lt_or_ge i 71 with q | q
  · rw [zW_at q, zW_at q, h _ (zq_in q)]
  · rw [List.getElem?_eq_none (by rw [zW_len]; exact q), List.getElem?_eq_none (by rw [zW_len]; exact q)]
theorem arrV_eq {cA : ClassId} {n : Nat} {f g : Nat → Value} (h : ∀ j, j < n → f j = g j) : arrV cA n f = arrV cA n g := by
  unfold arrV
  have e : (fun j : Fin n => f j.val) = (fun j : Fin n => g j.val) := funext fun j => h j.val j.isLt
  rw [e]
section Cpy
variable {p : Program} {l : Launch} {e : Env} {R : Room} {s : State} {m : MethodId} {args : Array Value} {below : List Frame} {meth : Method} {c : Code} {cc : ByteArray} {nL : Nat} {own : String} {D : va_G} {G : zG} {ad : Nat → Nat} {cells slots : Nat} {Q : State → Prop}
variable {pc : Nat} {lv : List (Nat × Value)} {st : List Value} {σ : zM}
theorem z_same {σ' : zM} (h : zW ad G σ = zW ad G σ') (k : zV p l e R s m args below meth c nL D G ad cells slots Q pc lv st σ') : zV p l e R s m args below meth c nL D G ad cells slots Q pc lv st σ :=
  fun ls H locs hl hP hS => k ls H locs hl (h ▸ hP) hS
theorem z_min (X : zX p s m args c cc nL own D G ad) {a : Int} {ix : Nat} (h1 : Cond.methodLink own ix Lib.Math.min.name ∈ zU) (h2 : Cond.static Lib.Math.min.name ∈ zU) (h3 : Cond.initialized "java/lang/Math" ∈ zU) (h4 : Cond.code Lib.Math.min.name Lib.Math.min.code 2 (some .int) ∈ zU) (hf : 1 ≤ R.frames) (hlo : (st.map fun v => v.category).sum + 13 ≤ R.locals) (hcs : cells ≤ R.cells ∧ slots ≤ R.slots) (d : decode cc pc = .ok (.invokestatic ix, 3))
    (k : zV p l e R s m args below meth c nL D G ad cells slots Q (pc + 3) lv (vI a :: st) σ) : zV p l e R s m args below meth c nL D G ad cells slots Q pc lv (vI a :: vI a :: st) σ :=
  fun ls H locs hl hP hS => va_mmin X.1 X.2.1 (X.2.2.1.trans hl.1.symm) X.2.2.2.1 (X.2.2.2.2.1 _ h1) (X.2.2.2.2.1 _ h2) (X.2.2.2.2.1 _ h3) (X.2.2.2.2.1 _ h4) hf hlo hcs.1 hcs.2 d (by rw [show (if iI a < iI a then iI a else iI a) = iI a by split <;> rfl]; exact k ls H locs hl hP hS)
theorem z_copy (X : zX p s m args c cc nL own D G ad) {q1 q2 n ix : Nat} (A1 : zArr q1 n) (A2 : zArr q2 n) (hn : n < 2147483648) (h1 : Cond.methodLink own ix arraycopyName ∈ zU) (h2 : Cond.native arraycopyName ∈ zU) (h3 : Cond.static arraycopyName ∈ zU) (h4 : Cond.initialized "java/lang/System" ∈ zU) (hf : 1 ≤ R.frames) (hlo : (st.map fun v => v.category).sum + (nativeFrameWords "java/lang/System" "arraycopy" 5 + 11) ≤ R.locals) (d : decode cc pc = .ok (.invokestatic ix, 3))
    (k : zV p l e R s m args below meth c nL D G ad cells slots Q (pc + 3) lv st (zCp σ q1 q2)) : zV p l e R s m args below meth c nL D G ad cells slots Q pc lv (vI n :: vI 0 :: .ref (ad q2) :: vI 0 :: .ref (ad q1) :: st) σ := by
  intro ls H locs hl hP hS
  have e0 : (iI 0).toNatClampNeg = 0 := rfl
  have en : (iI (n : Int)).toNatClampNeg = n := by rw [iI_clamp (by omega) (by omega)]; rfl
  refine va_copyi (D := D) X.1 X.2.1 (X.2.2.1.trans hl.1.symm) X.2.2.2.1 (X.2.2.2.2.1 _ h1) (X.2.2.2.2.1 _ h2) (X.2.2.2.2.1 _ h3) (X.2.2.2.2.1 _ h4) X.2.2.2.2.2.1 hP (zD_here X.2.2.2.2.2.2.1) hS (zp q1) (zp q2) 0 0 (by rw [zW_get A1.1, A1.2]) (by rw [zW_get A2.1, A2.2]) (ty := .int) rfl rfl rfl (sp := iI 0) (dp := iI 0) (n := iI n) (by rw [iI_lt0 zB_0]; omega) (by rw [iI_lt0 zB_0]; omega) (by rw [iI_lt0 ⟨by omega, by omega⟩]; omega) (by rw [e0, en]; omega) (by rw [e0, en]; omega) (fun i _ => rfl) hf hlo d (fun H1 locs1 hP1 _ hS1 => k ls H1 locs1 hl ?_ hS1)
  rw [e0, en] at hP1
  have key : ∀ u, zIn u → va_at D vwCl (ad u, zC ad G u ((zCp σ q1 q2).1 u) (σ.2 u)) H1 := by
    intro u hu
    by_cases h9 : u = q2
    · subst h9
      have h8 := hP1 (zp u) (ad u, .inl (G.1, n, .inl (va_cpy (fun j => iI (σ.1 q1 j)) (fun j => iI (σ.1 u j)) 0 0 n))) (by rw [List.getElem?_set_self (by rw [zW_len]; exact zp_lt hu)])
      rw [A2.2]
      have e2 : vp_cell G.1 (n, .inl (va_cpy (fun j => iI (σ.1 q1 j)) (fun j => iI (σ.1 u j)) 0 0 n)) = vp_cell G.1 (n, .inl (fun j => iI ((zCp σ q1 u).1 u j))) := by
        show arrV G.1 n (fun j => .int (va_cpy (fun j => iI (σ.1 q1 j)) (fun j => iI (σ.1 u j)) 0 0 n j)) = arrV G.1 n (fun j => .int (iI ((zCp σ q1 u).1 u j)))
        refine arrV_eq fun j hj => ?_
        have e3 : va_cpy (fun j => iI (σ.1 q1 j)) (fun j => iI (σ.1 u j)) 0 0 n j = iI (σ.1 q1 j) := by
          unfold va_cpy
          rw [if_pos ⟨Nat.zero_le _, by omega⟩]
          show iI (σ.1 q1 (0 + (j - 0))) = iI (σ.1 q1 j)
          rw [Nat.zero_add, Nat.sub_zero]
        have e4 : (zCp σ q1 u).1 u j = σ.1 q1 j := by unfold zCp; simp
        simp only [e3, e4]
      show H1[ad u]? = some (vp_cell G.1 (n, .inl (fun j => iI ((zCp σ q1 u).1 u j))))
      rw [← e2]; exact h8
    · have h8 := hP1 (zp u) (ad u, zC ad G u (σ.1 u) (σ.2 u)) (by rw [List.getElem?_set_ne (fun e => h9 (by rw [← zq_p hu, ← e, zq_p A2.1])), zW_get hu])
      have e4 : (zCp σ q1 q2).1 u = σ.1 u := by funext b; unfold zCp; simp [h9]
      rw [e4]; exact h8
  intro i q hq
  rcases Nat.lt_or_ge i 71 with hi | hi
  · rw [zW_at hi] at hq
    cases hq
    exact key _ (zq_in hi)
  · rw [List.getElem?_eq_none (by rw [zW_len]; exact hi)] at hq; cases hq
end Cpy
set_option maxHeartbeats 4000000 in
set_option maxRecDepth 100000 in
theorem c_X2_copyRow {l : Launch} {D : va_G} {G : zG} {ad : Nat → Nat} (hJ : zInj ad) (σ : zM) {q1 q2 n : Nat} (A1 : zArr q1 n) (A2 : zArr q2 n) (hn : n < 2147483648) : zKV l D G ad yX2_copyRow cX2_copyRow 2 none 1 [.ref (ad q1), .ref (ad q2)] σ (fun σ9 => σ9 = zCp σ q1 q2) := by
  intro sz
  refine z_open hJ (by decide +kernel) (Nat.le_of_ble_eq_true rfl) ?_
  intro p e s0 m args below meth c hsz X hr hlocks
  refine z_sub [(0, .ref (ad q1)), (1, .ref (ad q2))] (zSub_cons rfl (zSub_cons rfl zSub_nil)) ?_
  refine z_aload_n X dX2_copyRow_0 rfl ?_
  refine z_iconst X dX2_copyRow_1 ?_
  refine z_aload_n X dX2_copyRow_2 rfl ?_
  refine z_iconst X dX2_copyRow_3 ?_
  refine z_aload_n X dX2_copyRow_4 rfl ?_
  refine z_alen X A1 dX2_copyRow_5 ?_
  refine z_aload_n X dX2_copyRow_6 rfl ?_
  refine z_alen X A2 dX2_copyRow_7 ?_
  refine z_min X (zU_mem 214 (by decide +kernel) (by decide +kernel)) (zU_mem 215 (by decide +kernel) (by decide +kernel)) (zU_mem 26 (by decide +kernel) (by decide +kernel)) (zU_mem 216 (by decide +kernel) (by decide +kernel)) (Nat.le_of_ble_eq_true rfl) (Nat.le_of_ble_eq_true rfl) ⟨Nat.zero_le _, Nat.zero_le _⟩ dX2_copyRow_8 ?_
  refine z_copy X A1 A2 hn (zU_mem 217 (by decide +kernel) (by decide +kernel)) (zU_mem 219 (by decide +kernel) (by decide +kernel)) (zU_mem 218 (by decide +kernel) (by decide +kernel)) (zU_mem 27 (by decide +kernel) (by decide +kernel)) (Nat.le_of_ble_eq_true rfl) (Nat.le_of_ble_eq_true rfl) dX2_copyRow_11 ?_
  exact z_vret X hsz hr hlocks dX2_copyRow_14 rfl
