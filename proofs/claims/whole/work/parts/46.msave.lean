def aPassL (N : zNt) : Nat → zNt
  | 0 => N
  | t + 1 => aTick (aPassL N t)
theorem aPassL_step {N : zNt} {i : Int} (h : 0 ≤ i) : aPassL N (i + 1).toNat = aTick (aPassL N i.toNat) := by
  rw [show (i + 1).toNat = i.toNat + 1 by omega, aPassL]
theorem iv_aPassL {N : zNt} (ok : rOk N) (bd : Bud N) (pk : pOk N) : ∀ t : Nat, rOk (aPassL N t) ∧ Bud (aPassL N t) ∧ pOk (aPassL N t)
  | 0 => ⟨ok, bd, pk⟩
  | t + 1 => by
    have q := iv_aPassL ok bd pk t
    exact iv_aTick q.1 q.2.1 q.2.2
theorem fl_c {N : zNt} {s : Int} (hs6 : 0 ≤ s ∧ s < 6) : N 1 (132 + (25 * s)).toNat = mV N 0 6 s.toNat := ((mV_rd (by omega) (by decide)).trans (congrArg (N 1) (by unfold mIx; simp; omega))).symm
theorem fl_u {N : zNt} : N 1 (0 : Int).toNat = mV N 0 0 1 := ((mV_rd (N := N) (b := 0) (r := 0) (j := 1) (by omega) (by decide)).trans (congrArg (N 1) rfl)).symm
theorem ml_u {N : zNt} (x : Int) : mTo N (up2 N 1 (0 : Int).toNat x) 0 (up2 (mV N 0) 0 1 x) := mTo_w (N := N) (b := 0) (r := 0) (j := 1) (by omega) rfl (by decide) (fun h9 => absurd h9 (by decide))
theorem ml_wk {N : zNt} (s : Int) : mTo N (up2 N 1 (0 : Int).toNat (zOr (N 1 (0 : Int).toNat) (zShl 1 s))) 0 (cWk (mV N 0) s) := by
  rw [fl_u (N := N)]; exact ml_u _
theorem ml_sil {N : zNt} (s : Int) : mTo N (up2 N 1 (0 : Int).toNat (zAnd (N 1 (0 : Int).toNat) (zXor (zShl 1 s) (-1)))) 0 (cSil (mV N 0) s) := by
  rw [fl_u (N := N)]; exact ml_u _
theorem rk_up {N : zNt} (ok : rOk N) (x : Int) : rOk (up2 N 0 1 x) := ⟨ok.1, ok.2.1, ok.2.2.1, ok.2.2.2.1, ok.2.2.2.2.1, ok.2.2.2.2.2⟩
theorem bd_up {N : zNt} (bd : Bud N) (x : Int) : Bud (up2 N 0 1 x) := bd
def aWk1 (N : zNt) (d s : Int) : zNt := if cSt N d s = 0 then aEnter N d s 3 else N
def aWkL (N : zNt) (s : Int) : Nat → zNt
  | 0 => N
  | d + 1 => cWk2 (aWk1 (aWkL N s d) d s) d s
theorem aWkL_step {N : zNt} {s i : Int} (h : 0 ≤ i) : aWkL N s (i + 1).toNat = cWk2 (aWk1 (aWkL N s i.toNat) i s) i s := by
  rw [show (i + 1).toNat = i.toNat + 1 by omega, aWkL, Int.toNat_of_nonneg h]
def aWkN (N : zNt) (s : Int) : zNt := aWkL (cWk N s) s (N 0 0).toNat
def mCpK (N : zNt) (fr to : Int) (n : Nat) : zNt := fun r j => if r = 1 ∧ 282 * to.toNat ≤ j ∧ j < 282 * to.toNat + n then N 1 (282 * fr.toNat + (j - 282 * to.toNat)) else N r j
def mCp (N : zNt) (fr to : Int) : zNt := mCpK N fr to 282
theorem mCpK_0 (N : zNt) (fr to : Int) : mCpK N fr to 0 = N := by
  funext r j; unfold mCpK; rw [if_neg (by omega)]
theorem mCpK_step {N : zNt} {fr to i : Int} (hf : 0 ≤ fr ∧ fr ≤ 7) (ht : 0 ≤ to ∧ to ≤ 7) (hne : fr ≠ to) (h0 : 0 ≤ i) (h1 : i < 282) : up2 (mCpK N fr to i.toNat) 1 ((282 * to) + i).toNat (mCpK N fr to i.toNat 1 ((282 * fr) + i).toNat) = mCpK N fr to (i + 1).toNat := by
  have e1 : mCpK N fr to i.toNat 1 ((282 * fr) + i).toNat = N 1 ((282 * fr) + i).toNat := by unfold mCpK; rw [if_neg (by omega)]
  rw [e1]
  funext r j
  by_cases e : r = 1 ∧ j = ((282 * to) + i).toNat
  · obtain ⟨rfl, rfl⟩ := e
    rw [up2_at]; unfold mCpK
    rw [if_pos (by omega)]
    exact congrArg (N 1) (by omega)
  · rw [up2_ne _ _ e]; unfold mCpK
    by_cases q : r = 1 ∧ 282 * to.toNat ≤ j ∧ j < 282 * to.toNat + i.toNat
    · rw [if_pos q, if_pos (by omega)]
    · rw [if_neg q, if_neg (by omega)]
theorem mCp_r0 (N : zNt) (fr to : Int) (j : Nat) : mCp N fr to 0 j = N 0 j := by unfold mCp mCpK; rw [if_neg (fun h => absurd h.1 (by decide))]
theorem mCp_r2 (N : zNt) (fr to : Int) (j : Nat) : mCp N fr to 2 j = N 2 j := by unfold mCp mCpK; rw [if_neg (fun h => absurd h.1 (by decide))]
theorem mV_cg {N M : zNt} {b b' : Int} (h : ∀ i, i < 282 → M 1 (b'.toNat + i) = N 1 (b.toNat + i)) : mV M b' = mV N b := by
  have e : mR M b' = mR N b := by
    funext r j; unfold mR
    by_cases q : mIn r j
    · rw [if_pos q, if_pos q, h _ (mIx_lt q)]
    · rw [if_neg q, if_neg q]
  unfold mV; rw [e]
theorem mCp_at (N : zNt) (fr to : Int) : mV (mCp N fr to) (282 * to) = mV N (282 * fr) := mV_cg (fun i hi => by
  unfold mCp mCpK
  rw [if_pos (by omega)]
  exact congrArg (N 1) (by omega))
theorem mCp_ne (N : zNt) {fr to q : Int} (hq : 0 ≤ q) (ht : 0 ≤ to) (h : q ≠ to) : mV (mCp N fr to) (282 * q) = mV N (282 * q) := mV_cg (fun i hi => by
  unfold mCp mCpK
  rw [if_neg (by omega)])
theorem mV_r0 (N : zNt) (j : Nat) (x b : Int) : mV (up2 N 0 j x) b = mV N b := mV_cg (fun i hi => up2_rw _ _ (by decide) _)
theorem mV_r2 (N : zNt) (j : Nat) (x b : Int) : mV (up2 N 2 j x) b = mV N b := mV_cg (fun i hi => up2_rw _ _ (by decide) _)
/-- the oldest saved state makes room -/
def mShL (N : zNt) : Nat → zNt
  | 0 => N
  | k + 1 => if k = 0 then N else mCp (mShL N k) ((k : Int) + 1) k
theorem mShL_step {N : zNt} {i : Int} (h : 1 ≤ i) : mShL N (i + 1).toNat = mCp (mShL N i.toNat) (i + 1) i := by
  rw [show (i + 1).toNat = i.toNat + 1 by omega, mShL, if_neg (by omega), Int.toNat_of_nonneg (by omega)]
def mSh (N : zNt) : zNt := if N 0 2 = 6 then mShL N 6 else N
def mSave (N : zNt) : zNt := mCp (up2 (mSh N) 0 2 (mSh N 0 2 + (if mSh N 0 2 < 6 then 1 else 0))) 0 (mSh N 0 2 + (if mSh N 0 2 < 6 then 1 else 0))
set_option maxHeartbeats 4000000 in
set_option maxRecDepth 100000 in
theorem c_X4_passes {l : Launch} {D : va_G} {G : zG} {ad : Nat → Nat} (hJ : zInj ad) (σ : zM) {N : Nat → Nat → Int}  {t : Int} (ht : zB t) (ok : rOk (mV N 0)) (bd : Bud (mV N 0)) (pk : pOk (mV N 0)) (ht0 : 0 ≤ t) : zKI l D G ad yX4_passes cX4_passes 4 (some .int) 7 [.ref (ad 5), vI t] (zBk σ 5 3 N) (fun z σ9 => z = mEnded (aPassL (mV N 0) t.toNat) - mEnded (mV N 0) ∧ ∃ N9, σ9 = zBk σ 5 3 N9 ∧ mTo N N9 0 (aPassL (mV N 0) t.toNat)) := by
  intro sz
  refine z_open hJ (by decide +kernel) (Nat.le_of_ble_eq_true rfl) ?_
  intro p e s0 m args below meth c hsz X hr hlocks
  have hn2 := rk_n ok
  refine z_sub [(0, .ref (ad 5)), (1, vI t)] (zSub_cons rfl (zSub_cons rfl zSub_nil)) ?_
  refine z_aload_n X dX4_passes_0 rfl ?_
  refine z_iconst X dX4_passes_1 ?_
  refine z_callVI1 X (c_X4_ended hJ σ ⟨by decide, by decide⟩ (by omega) ok) kX4_68 rfl (by decide) rfl ⟨(Nat.le_of_ble_eq_true rfl), (Nat.le_of_ble_eq_true rfl)⟩ (Nat.le_of_ble_eq_true rfl) ⟨Nat.zero_le _, Nat.zero_le _⟩ dX4_passes_2 (fun z9 σ1 hz9 => ?_)
  obtain ⟨rfl, rfl⟩ := hz9
  refine z_istore_n X dX4_passes_5 (by decide) ?_
  refine z_sub [(0, .ref (ad 5)), (1, vI t), (2, vI (mEnded (mV N 0)))] (zSub_cons rfl (zSub_cons rfl (zSub_cons rfl zSub_nil))) ?_
  refine z_iconst X dX4_passes_6 ?_
  refine z_istore_n X dX4_passes_7 (by decide) ?_
  refine z_sub [(0, .ref (ad 5)), (1, vI t), (2, vI (mEnded (mV N 0))), (3, vI 0)] (zSub_cons rfl (zSub_cons rfl (zSub_cons rfl (zSub_cons rfl zSub_nil)))) ?_
  refine z_sub [(0, .ref (ad 5)), (1, vI t), (2, vI (mEnded (mV N 0))), (3, vI 0)] (zSub_cons rfl (zSub_cons rfl (zSub_cons rfl (zSub_cons rfl zSub_nil)))) ?_
  refine zFor (S := zNt) t (fun i M => mTo N M 0 (aPassL (mV N 0) i.toNat) ∧ rOk (mV M 0) ∧ Bud (mV M 0) ∧ pOk (mV M 0) ∧ mV M 0 0 0 = mV N 0 0 0) (fun i M => zV p l e (zRm 7) s0 m args below meth c 4 D G ad 0 0 (zE below (zQI D G ad sz (fun z σ9 => z = mEnded (aPassL (mV N 0) t.toNat) - mEnded (mV N 0) ∧ ∃ N9, σ9 = zBk σ 5 3 N9 ∧ mTo N N9 0 (aPassL (mV N 0) t.toNat))) args s0 ad) 8 [(0, .ref (ad 5)), (1, vI t), (2, vI (mEnded (mV N 0))), (3, vI i)] [] (zBk σ 5 3 M)) (fun i M i0 i1 hv ih => ?_) N (by omega) ⟨mTo_rf, ok, bd, pk, rfl⟩
  refine z_iload_n X dX4_passes_8 rfl ?_
  refine z_iload_n X dX4_passes_9 rfl ?_
  refine z_icmp_ge X 24 dX4_passes_10 (by decide) ⟨by omega, by have := ht.2; omega⟩ ht (fun c_2 => ?_) (fun c_2 => ?_)
  · refine z_aload_n X dX4_passes_24 rfl ?_
    refine z_iconst X dX4_passes_25 ?_
    refine z_callVI1 X (c_X4_ended hJ σ ⟨by decide, by decide⟩ (by omega) hv.2.1) kX4_68 rfl (by decide) rfl ⟨(Nat.le_of_ble_eq_true rfl), (Nat.le_of_ble_eq_true rfl)⟩ (Nat.le_of_ble_eq_true rfl) ⟨Nat.zero_le _, Nat.zero_le _⟩ dX4_passes_26 (fun z9 σ1 hz9 => ?_)
    obtain ⟨rfl, rfl⟩ := hz9
    refine z_iload_n X dX4_passes_29 rfl ?_
    refine z_isub X dX4_passes_30 ?_
    exact z_iret X hsz hr hlocks dX4_passes_31 ⟨(by rw [hv.1.1, show i = t by omega]), ⟨M, rfl, by rw [hv.1.1, show i = t by omega], hv.1.2⟩⟩
  · refine z_aload_n X dX4_passes_13 rfl ?_
    refine z_iconst X dX4_passes_14 ?_
    refine z_callVV1 X (c_X4_ticks hJ σ ⟨by decide, by decide⟩ (by omega) hv.2.1 hv.2.2.1 (by first | exact pk | exact hv.2.2.2.1)) kX4_72 rfl (by decide) rfl ⟨(Nat.le_of_ble_eq_true rfl), (Nat.le_of_ble_eq_true rfl)⟩ (Nat.le_of_ble_eq_true rfl) ⟨Nat.zero_le _, Nat.zero_le _⟩ dX4_passes_15 (fun σ1 hz9 => ?_)
    obtain ⟨N1, rfl, hT1⟩ := hz9
    have hnN1 : mV N1 0 0 0 = mV M 0 0 0 := by rw [hT1.1]; exact n_aTick _
    have okN1 : rOk (mV N1 0) := (by rw [hT1.1]; exact (iv_aTick hv.2.1 hv.2.2.1 (by first | exact pk | exact hv.2.2.2.1)).1)
    have bdN1 : Bud (mV N1 0) := (by rw [hT1.1]; exact (iv_aTick hv.2.1 hv.2.2.1 (by first | exact pk | exact hv.2.2.2.1)).2.1)
    refine z_iinc X dX4_passes_18 rfl (by decide) ?_
    refine z_sub [(0, .ref (ad 5)), (1, vI t), (2, vI (mEnded (mV N 0))), (3, vI (i + 1))] (zSub_cons rfl (zSub_cons rfl (zSub_cons rfl (zSub_cons rfl zSub_nil)))) ?_
    refine z_goto X 8 dX4_passes_21 (by decide) ?_
    refine z_sub [(0, .ref (ad 5)), (1, vI t), (2, vI (mEnded (mV N 0))), (3, vI (i + 1))] (zSub_cons rfl (zSub_cons rfl (zSub_cons rfl (zSub_cons rfl zSub_nil)))) ?_
    exact ih (by omega) N1 ⟨⟨by rw [hT1.1, aPassL_step i0, ← hv.1.1], mFr_tr hv.1.2 hT1.2⟩, okN1, bdN1, (by rw [hT1.1]; exact (iv_aTick hv.2.1 hv.2.2.1 hv.2.2.2.1).2.2), hnN1.trans hv.2.2.2.2⟩

set_option maxHeartbeats 4000000 in
set_option maxRecDepth 100000 in
theorem c_X4_comes {l : Launch} {D : va_G} {G : zG} {ad : Nat → Nat} (hJ : zInj ad) (σ : zM) {N : Nat → Nat → Int}  {s : Int} (hs : zB s) (ok : rOk (mV N 0)) (bd : Bud (mV N 0)) (hs6 : 0 ≤ s ∧ s < 6) : zKI l D G ad yX4_comes cX4_comes 4 (some .int) 3 [.ref (ad 5), vI s] (zBk σ 5 3 N) (fun z σ9 => z = aWkN (mV N 0) s 6 s.toNat - mV N 0 6 s.toNat ∧ ∃ N9, σ9 = zBk σ 5 3 N9 ∧ mTo N N9 0 (aWkN (mV N 0) s)) := by
  intro sz
  refine z_open hJ (by decide +kernel) (Nat.le_of_ble_eq_true rfl) ?_
  intro p e s0 m args below meth c hsz X hr hlocks
  have hn2 := rk_n ok
  refine z_sub [(0, .ref (ad 5)), (1, vI s)] (zSub_cons rfl (zSub_cons rfl zSub_nil)) ?_
  refine z_aload_n X dX4_comes_0 rfl ?_
  refine y_gMod1 X fX4_7 dX4_comes_1 ?_
  refine z_sipush X dX4_comes_4 rfl ?_
  refine z_bipush X dX4_comes_7 rfl ?_
  refine z_iload_n X dX4_comes_9 rfl ?_
  refine z_imul X dX4_comes_10 ?_
  refine z_iadd X dX4_comes_11 ?_
  refine y_iald X 1 (zArr_6) (by decide) (by omega) (by omega) (by decide) dX4_comes_12 ?_
  rw [fl_c (N := N) hs6]
  refine z_istore_n X dX4_comes_13 (by decide) ?_
  refine z_sub [(0, .ref (ad 5)), (1, vI s), (2, vI (mV N 0 6 s.toNat))] (zSub_cons rfl (zSub_cons rfl (zSub_cons rfl zSub_nil))) ?_
  refine z_aload_n X dX4_comes_14 rfl ?_
  refine y_gMod1 X fX4_7 dX4_comes_15 ?_
  refine z_iconst X dX4_comes_18 ?_
  refine z_dup2 X dX4_comes_19 rfl rfl ?_
  refine y_iald X 1 (zArr_6) (by decide) (by omega) (by omega) (by decide) dX4_comes_20 ?_
  refine z_iconst X dX4_comes_21 ?_
  refine z_iload_n X dX4_comes_22 rfl ?_
  refine z_shl X dX4_comes_23 (zShl_eq 1 s) ?_
  refine z_or X dX4_comes_24 (zOr_eq (N 1 (0 : Int).toNat) (zShl 1 s)) ?_
  refine y_iast X 1 (zArr_6) (by decide) (by omega) (by omega) (by decide) dX4_comes_25 ?_
  obtain ⟨Nw, hNw⟩ : ∃ Nw, Nw = (up2 N 1 (0 : Int).toNat (zOr (N 1 (0 : Int).toNat) (zShl 1 s))) := ⟨_, rfl⟩
  rw [← hNw]
  have hTw : mTo N Nw 0 (cWk (mV N 0) s) := by rw [hNw]; exact ml_wk s
  have okw : rOk (mV Nw 0) := by rw [hTw.1]; exact rk_up ok _
  have bdw : Bud (mV Nw 0) := by rw [hTw.1]; exact bd_up bd _
  have hnw : mV Nw 0 0 0 = mV N 0 0 0 := by rw [hTw.1]; rfl
  refine z_iconst X dX4_comes_26 ?_
  refine z_istore_n X dX4_comes_27 (by decide) ?_
  refine z_sub [(0, .ref (ad 5)), (1, vI s), (2, vI (mV N 0 6 s.toNat)), (3, vI 0)] (zSub_cons rfl (zSub_cons rfl (zSub_cons rfl (zSub_cons rfl zSub_nil)))) ?_
  refine z_sub [(0, .ref (ad 5)), (1, vI s), (2, vI (mV N 0 6 s.toNat)), (3, vI 0)] (zSub_cons rfl (zSub_cons rfl (zSub_cons rfl (zSub_cons rfl zSub_nil)))) ?_
  refine zFor (S := zNt) (mV N 0 0 0) (fun i M => mTo N M 0 (aWkL (cWk (mV N 0) s) s i.toNat) ∧ rOk (mV M 0) ∧ Bud (mV M 0) ∧ mV M 0 0 0 = mV N 0 0 0) (fun i M => zV p l e (zRm 3) s0 m args below meth c 4 D G ad 0 0 (zE below (zQI D G ad sz (fun z σ9 => z = aWkN (mV N 0) s 6 s.toNat - mV N 0 6 s.toNat ∧ ∃ N9, σ9 = zBk σ 5 3 N9 ∧ mTo N N9 0 (aWkN (mV N 0) s))) args s0 ad) 28 [(0, .ref (ad 5)), (1, vI s), (2, vI (mV N 0 6 s.toNat)), (3, vI i)] [] (zBk σ 5 3 M)) (fun i M i0 i1 hv ih => ?_) Nw (by omega) ⟨hTw, okw, bdw, hnw⟩
  have hn3 := hv.2.2.2
  have hn4 := rk_n hv.2.1
  refine z_iload_n X dX4_comes_28 rfl ?_
  refine z_aload_n X dX4_comes_29 rfl ?_
  refine y_gMod1 X fX4_7 dX4_comes_30 ?_
  refine z_iconst X dX4_comes_33 ?_
  refine y_iald X 1 (zArr_6) (by decide) (by omega) (by omega) (by decide) dX4_comes_34 ?_
  rw [fl_n0 (N := M)]
  refine z_icmp_ge X 90 dX4_comes_35 (by decide) (by first | assumption | (unfold zB at *; omega)) (zB_sm (rk_n hv.2.1)) (fun c_1 => ?_) (fun c_1 => ?_)
  · refine z_aload_n X dX4_comes_90 rfl ?_
    refine y_gMod1 X fX4_7 dX4_comes_91 ?_
    refine z_sipush X dX4_comes_94 rfl ?_
    refine z_bipush X dX4_comes_97 rfl ?_
    refine z_iload_n X dX4_comes_99 rfl ?_
    refine z_imul X dX4_comes_100 ?_
    refine z_iadd X dX4_comes_101 ?_
    refine y_iald X 1 (zArr_6) (by decide) (by omega) (by omega) (by decide) dX4_comes_102 ?_
    rw [fl_c (N := M) hs6]
    refine z_iload_n X dX4_comes_103 rfl ?_
    refine z_isub X dX4_comes_104 ?_
    exact z_iret X hsz hr hlocks dX4_comes_105 ⟨(by unfold aWkN; rw [hv.1.1, show i = mV N 0 0 0 by omega]), ⟨M, rfl, by rw [hv.1.1, show i = mV N 0 0 0 by omega]; rfl, hv.1.2⟩⟩
  · refine z_aload_n X dX4_comes_38 rfl ?_
    refine z_iconst X dX4_comes_39 ?_
    refine z_iload_n X dX4_comes_40 rfl ?_
    refine z_iload_n X dX4_comes_41 rfl ?_
    refine z_callVI3 X (c_X4_stateOf hJ σ ⟨by decide, by decide⟩ (by first | assumption | (unfold zB at *; omega)) hs (by omega) hv.2.1 (by first | omega | assumption) (by omega)) kX4_35 rfl (by decide) rfl ⟨(Nat.le_of_ble_eq_true rfl), (Nat.le_of_ble_eq_true rfl)⟩ (Nat.le_of_ble_eq_true rfl) ⟨Nat.zero_le _, Nat.zero_le _⟩ dX4_comes_42 (fun z9 σ1 hz9 => ?_)
    obtain ⟨rfl, rfl⟩ := hz9
    refine z_if_ne X 56 dX4_comes_45 (by decide) (zB_sm (qg_st hv.2.1 _ _)) (fun c_3 => ?_) (fun c_3 => ?_)
    · refine z_aload_n X dX4_comes_56 rfl ?_
      refine z_iconst X dX4_comes_57 ?_
      refine z_iload_n X dX4_comes_58 rfl ?_
      refine z_iconst X dX4_comes_59 ?_
      refine z_callVI3 X (c_X4_of0 hJ σ ⟨by decide, by decide⟩ (by first | assumption | (unfold zB at *; omega)) (by omega) hv.2.1 (by first | omega | assumption)) kX4_24 rfl (by decide) rfl ⟨(Nat.le_of_ble_eq_true rfl), (Nat.le_of_ble_eq_true rfl)⟩ (Nat.le_of_ble_eq_true rfl) ⟨Nat.zero_le _, Nat.zero_le _⟩ dX4_comes_60 (fun z9 σ1 hz9 => ?_)
      obtain ⟨rfl, rfl⟩ := hz9
      refine z_iload_n X dX4_comes_63 rfl ?_
      refine z_icmp_ne X 84 dX4_comes_64 (by decide) (zB_sm (qg_ld hv.2.1 _)) hs (fun c_5 => ?_) (fun c_5 => ?_)
      · refine z_iinc X dX4_comes_84 rfl (by decide) ?_
        refine z_sub [(0, .ref (ad 5)), (1, vI s), (2, vI (mV N 0 6 s.toNat)), (3, vI (i + 1))] (zSub_cons rfl (zSub_cons rfl (zSub_cons rfl (zSub_cons rfl zSub_nil)))) ?_
        refine z_goto X 28 dX4_comes_87 (by decide) ?_
        refine z_sub [(0, .ref (ad 5)), (1, vI s), (2, vI (mV N 0 6 s.toNat)), (3, vI (i + 1))] (zSub_cons rfl (zSub_cons rfl (zSub_cons rfl (zSub_cons rfl zSub_nil)))) ?_
        exact ih (by omega) M ⟨⟨by rw [aWkL_step i0, ← hv.1.1]; grind [cWk1, cWk2, aWk1], hv.1.2⟩, hv.2⟩
      · refine z_aload_n X dX4_comes_67 rfl ?_
        refine z_iconst X dX4_comes_68 ?_
        refine z_iload_n X dX4_comes_69 rfl ?_
        refine z_iconst X dX4_comes_70 ?_
        refine z_callVI3 X (c_X4_of3 hJ σ ⟨by decide, by decide⟩ (by first | assumption | (unfold zB at *; omega)) (by omega) hv.2.1 (by first | omega | assumption)) kX4_24 rfl (by decide) rfl ⟨(Nat.le_of_ble_eq_true rfl), (Nat.le_of_ble_eq_true rfl)⟩ (Nat.le_of_ble_eq_true rfl) ⟨Nat.zero_le _, Nat.zero_le _⟩ dX4_comes_71 (fun z9 σ1 hz9 => ?_)
        obtain ⟨rfl, rfl⟩ := hz9
        refine z_if_ne X 84 dX4_comes_74 (by decide) (zB_sm (qg_dc hv.2.1 _)) (fun c_7 => ?_) (fun c_7 => ?_)
        · refine z_iinc X dX4_comes_84 rfl (by decide) ?_
          refine z_sub [(0, .ref (ad 5)), (1, vI s), (2, vI (mV N 0 6 s.toNat)), (3, vI (i + 1))] (zSub_cons rfl (zSub_cons rfl (zSub_cons rfl (zSub_cons rfl zSub_nil)))) ?_
          refine z_goto X 28 dX4_comes_87 (by decide) ?_
          refine z_sub [(0, .ref (ad 5)), (1, vI s), (2, vI (mV N 0 6 s.toNat)), (3, vI (i + 1))] (zSub_cons rfl (zSub_cons rfl (zSub_cons rfl (zSub_cons rfl zSub_nil)))) ?_
          exact ih (by omega) M ⟨⟨by rw [aWkL_step i0, ← hv.1.1]; grind [cWk1, cWk2, aWk1], hv.1.2⟩, hv.2⟩
        · refine z_aload_n X dX4_comes_77 rfl ?_
          refine z_iconst X dX4_comes_78 ?_
          refine z_iload_n X dX4_comes_79 rfl ?_
          refine z_iconst X dX4_comes_80 ?_
          refine z_callVV3 X (c_X4_decides hJ σ ⟨by decide, by decide⟩ (by first | assumption | (unfold zB at *; omega)) ⟨by decide, by decide⟩ (by omega) hv.2.1 (by first | omega | grind) (by first | omega | assumption) (bud_dc hv.2.1 hv.2.2.1 (by first | omega | assumption) (by first | omega | grind))) kX4_49 rfl (by decide) rfl ⟨(Nat.le_of_ble_eq_true rfl), (Nat.le_of_ble_eq_true rfl)⟩ (Nat.le_of_ble_eq_true rfl) ⟨Nat.zero_le _, Nat.zero_le _⟩ dX4_comes_81 (fun σ1 hz9 => ?_)
          obtain ⟨N1, rfl, hT1⟩ := hz9
          have hnN1 : mV N1 0 0 0 = mV M 0 0 0 := by rw [hT1.1]; exact n_settle _ _ _ 0
          have okN1 : rOk (mV N1 0) := (by rw [hT1.1]; exact rk_settle hv.2.1 (by omega))
          have bdN1 : Bud (mV N1 0) := (by rw [hT1.1]; exact bd_settle hv.2.1 hv.2.2.1 (by first | omega | assumption) (by first | omega | grind) (by first | omega | grind))
          refine z_iinc X dX4_comes_84 rfl (by decide) ?_
          refine z_sub [(0, .ref (ad 5)), (1, vI s), (2, vI (mV N 0 6 s.toNat)), (3, vI (i + 1))] (zSub_cons rfl (zSub_cons rfl (zSub_cons rfl (zSub_cons rfl zSub_nil)))) ?_
          refine z_goto X 28 dX4_comes_87 (by decide) ?_
          refine z_sub [(0, .ref (ad 5)), (1, vI s), (2, vI (mV N 0 6 s.toNat)), (3, vI (i + 1))] (zSub_cons rfl (zSub_cons rfl (zSub_cons rfl (zSub_cons rfl zSub_nil)))) ?_
          exact ih (by omega) N1 ⟨⟨by rw [aWkL_step i0, ← hv.1.1]; grind [cWk2, aWk1, mTo], (mFr_tr hv.1.2 hT1.2)⟩, okN1, bdN1, by omega⟩
    · refine z_aload_n X dX4_comes_48 rfl ?_
      refine z_iconst X dX4_comes_49 ?_
      refine z_iload_n X dX4_comes_50 rfl ?_
      refine z_iload_n X dX4_comes_51 rfl ?_
      refine z_iconst X dX4_comes_52 ?_
      refine z_callVV4 X (c_X4_gets hJ σ ⟨by decide, by decide⟩ (by first | assumption | (unfold zB at *; omega)) hs ⟨by decide, by decide⟩ (by omega) hv.2.1 (by first | omega | grind) (by first | omega | grind) (bud_st (rk_n hv.2.1) hv.2.2.1 (d := i) (by first | omega | grind))) kX4_45 rfl (by decide) rfl ⟨(Nat.le_of_ble_eq_true rfl), (Nat.le_of_ble_eq_true rfl)⟩ (Nat.le_of_ble_eq_true rfl) ⟨Nat.zero_le _, Nat.zero_le _⟩ dX4_comes_53 (fun σ1 hz9 => ?_)
      obtain ⟨N2, rfl, hT2⟩ := hz9
      have hnN2 : mV N2 0 0 0 = mV M 0 0 0 := by rw [hT2.1]; exact n_aEnter _ _ _ _ 0
      have okN2 : rOk (mV N2 0) := (by rw [hT2.1]; exact rk_aEnter hv.2.1 (by first | omega | grind) (by first | omega | grind))
      have bdN2 : Bud (mV N2 0) := (by rw [hT2.1]; exact bd_aEnter (rk_n hv.2.1) hv.2.2.1 (by first | omega | grind))
      refine z_aload_n X dX4_comes_56 rfl ?_
      refine z_iconst X dX4_comes_57 ?_
      refine z_iload_n X dX4_comes_58 rfl ?_
      refine z_iconst X dX4_comes_59 ?_
      refine z_callVI3 X (c_X4_of0 hJ σ ⟨by decide, by decide⟩ (by first | assumption | (unfold zB at *; omega)) (by omega) okN2 (by first | omega | assumption)) kX4_24 rfl (by decide) rfl ⟨(Nat.le_of_ble_eq_true rfl), (Nat.le_of_ble_eq_true rfl)⟩ (Nat.le_of_ble_eq_true rfl) ⟨Nat.zero_le _, Nat.zero_le _⟩ dX4_comes_60 (fun z9 σ1 hz9 => ?_)
      obtain ⟨rfl, rfl⟩ := hz9
      refine z_iload_n X dX4_comes_63 rfl ?_
      refine z_icmp_ne X 84 dX4_comes_64 (by decide) (zB_sm (qg_ld okN2 _)) hs (fun c_11 => ?_) (fun c_11 => ?_)
      · refine z_iinc X dX4_comes_84 rfl (by decide) ?_
        refine z_sub [(0, .ref (ad 5)), (1, vI s), (2, vI (mV N 0 6 s.toNat)), (3, vI (i + 1))] (zSub_cons rfl (zSub_cons rfl (zSub_cons rfl (zSub_cons rfl zSub_nil)))) ?_
        refine z_goto X 28 dX4_comes_87 (by decide) ?_
        refine z_sub [(0, .ref (ad 5)), (1, vI s), (2, vI (mV N 0 6 s.toNat)), (3, vI (i + 1))] (zSub_cons rfl (zSub_cons rfl (zSub_cons rfl (zSub_cons rfl zSub_nil)))) ?_
        exact ih (by omega) N2 ⟨⟨by rw [aWkL_step i0, ← hv.1.1]; grind [cWk2, aWk1, mTo], (mFr_tr hv.1.2 hT2.2)⟩, okN2, bdN2, by omega⟩
      · refine z_aload_n X dX4_comes_67 rfl ?_
        refine z_iconst X dX4_comes_68 ?_
        refine z_iload_n X dX4_comes_69 rfl ?_
        refine z_iconst X dX4_comes_70 ?_
        refine z_callVI3 X (c_X4_of3 hJ σ ⟨by decide, by decide⟩ (by first | assumption | (unfold zB at *; omega)) (by omega) okN2 (by first | omega | assumption)) kX4_24 rfl (by decide) rfl ⟨(Nat.le_of_ble_eq_true rfl), (Nat.le_of_ble_eq_true rfl)⟩ (Nat.le_of_ble_eq_true rfl) ⟨Nat.zero_le _, Nat.zero_le _⟩ dX4_comes_71 (fun z9 σ1 hz9 => ?_)
        obtain ⟨rfl, rfl⟩ := hz9
        refine z_if_ne X 84 dX4_comes_74 (by decide) (zB_sm (qg_dc okN2 _)) (fun c_13 => ?_) (fun c_13 => ?_)
        · refine z_iinc X dX4_comes_84 rfl (by decide) ?_
          refine z_sub [(0, .ref (ad 5)), (1, vI s), (2, vI (mV N 0 6 s.toNat)), (3, vI (i + 1))] (zSub_cons rfl (zSub_cons rfl (zSub_cons rfl (zSub_cons rfl zSub_nil)))) ?_
          refine z_goto X 28 dX4_comes_87 (by decide) ?_
          refine z_sub [(0, .ref (ad 5)), (1, vI s), (2, vI (mV N 0 6 s.toNat)), (3, vI (i + 1))] (zSub_cons rfl (zSub_cons rfl (zSub_cons rfl (zSub_cons rfl zSub_nil)))) ?_
          exact ih (by omega) N2 ⟨⟨by rw [aWkL_step i0, ← hv.1.1]; grind [cWk2, aWk1, mTo], (mFr_tr hv.1.2 hT2.2)⟩, okN2, bdN2, by omega⟩
        · refine z_aload_n X dX4_comes_77 rfl ?_
          refine z_iconst X dX4_comes_78 ?_
          refine z_iload_n X dX4_comes_79 rfl ?_
          refine z_iconst X dX4_comes_80 ?_
          refine z_callVV3 X (c_X4_decides hJ σ ⟨by decide, by decide⟩ (by first | assumption | (unfold zB at *; omega)) ⟨by decide, by decide⟩ (by omega) okN2 (by first | omega | grind) (by first | omega | assumption) (bud_dc okN2 bdN2 (by first | omega | assumption) (by first | omega | grind))) kX4_49 rfl (by decide) rfl ⟨(Nat.le_of_ble_eq_true rfl), (Nat.le_of_ble_eq_true rfl)⟩ (Nat.le_of_ble_eq_true rfl) ⟨Nat.zero_le _, Nat.zero_le _⟩ dX4_comes_81 (fun σ1 hz9 => ?_)
          obtain ⟨N3, rfl, hT3⟩ := hz9
          have hnN3 : mV N3 0 0 0 = mV N2 0 0 0 := by rw [hT3.1]; exact n_settle _ _ _ 0
          have okN3 : rOk (mV N3 0) := (by rw [hT3.1]; exact rk_settle okN2 (by omega))
          have bdN3 : Bud (mV N3 0) := (by rw [hT3.1]; exact bd_settle okN2 bdN2 (by first | omega | assumption) (by first | omega | grind) (by first | omega | grind))
          refine z_iinc X dX4_comes_84 rfl (by decide) ?_
          refine z_sub [(0, .ref (ad 5)), (1, vI s), (2, vI (mV N 0 6 s.toNat)), (3, vI (i + 1))] (zSub_cons rfl (zSub_cons rfl (zSub_cons rfl (zSub_cons rfl zSub_nil)))) ?_
          refine z_goto X 28 dX4_comes_87 (by decide) ?_
          refine z_sub [(0, .ref (ad 5)), (1, vI s), (2, vI (mV N 0 6 s.toNat)), (3, vI (i + 1))] (zSub_cons rfl (zSub_cons rfl (zSub_cons rfl (zSub_cons rfl zSub_nil)))) ?_
          exact ih (by omega) N3 ⟨⟨by rw [aWkL_step i0, ← hv.1.1]; grind [cWk2, aWk1, mTo], (mFr_tr (mFr_tr hv.1.2 hT2.2) hT3.2)⟩, okN3, bdN3, by omega⟩

set_option maxHeartbeats 4000000 in
set_option maxRecDepth 100000 in
theorem c_X4_copies {l : Launch} {D : va_G} {G : zG} {ad : Nat → Nat} (hJ : zInj ad) (σ : zM) {N : Nat → Nat → Int}  {fr : Int} (hfr : zB fr) {to : Int} (hto : zB to) (hf7 : 0 ≤ fr ∧ fr ≤ 7) (ht7 : 0 ≤ to ∧ to ≤ 7) (hft : fr ≠ to) : zKV l D G ad yX4_copies cX4_copies 4 none 0 [.ref (ad 5), vI fr, vI to] (zBk σ 5 3 N) (fun σ9 => σ9 = (zBk σ 5 3 (mCp N fr to))) := by
  intro sz
  refine z_open hJ (by decide +kernel) (Nat.le_of_ble_eq_true rfl) ?_
  intro p e s0 m args below meth c hsz X hr hlocks
  refine z_sub [(0, .ref (ad 5)), (1, vI fr), (2, vI to)] (zSub_cons rfl (zSub_cons rfl (zSub_cons rfl zSub_nil))) ?_
  refine z_iconst X dX4_copies_0 ?_
  refine z_istore_n X dX4_copies_1 (by decide) ?_
  refine z_sub [(0, .ref (ad 5)), (1, vI fr), (2, vI to), (3, vI 0)] (zSub_cons rfl (zSub_cons rfl (zSub_cons rfl (zSub_cons rfl zSub_nil)))) ?_
  refine z_sub [(0, .ref (ad 5)), (1, vI fr), (2, vI to), (3, vI 0)] (zSub_cons rfl (zSub_cons rfl (zSub_cons rfl (zSub_cons rfl zSub_nil)))) ?_
  refine zFor (S := zNt) 282 (fun i M => M = mCpK N fr to i.toNat) (fun i M => zV p l e (zRm 0) s0 m args below meth c 4 D G ad 0 0 (zE below (zQV D G ad sz (fun σ9 => σ9 = (zBk σ 5 3 (mCp N fr to)))) args s0 ad) 2 [(0, .ref (ad 5)), (1, vI fr), (2, vI to), (3, vI i)] [] (zBk σ 5 3 M)) (fun i M i0 i1 hv ih => ?_) N (by omega) (mCpK_0 _ _ _).symm
  refine z_iload_n X dX4_copies_2 rfl ?_
  refine z_sipush X dX4_copies_3 rfl ?_
  refine z_icmp_ge X 39 dX4_copies_6 (by decide) (by first | assumption | (unfold zB at *; omega)) ⟨by decide, by decide⟩ (fun c_1 => ?_) (fun c_1 => ?_)
  · exact z_vret X hsz hr hlocks dX4_copies_39 (congrArg (zBk σ _ _) (by rw [hv, show i = 282 by omega]; rfl))
  · refine z_aload_n X dX4_copies_9 rfl ?_
    refine y_gMod1 X fX4_7 dX4_copies_10 ?_
    refine z_sipush X dX4_copies_13 rfl ?_
    refine z_iload_n X dX4_copies_16 rfl ?_
    refine z_imul X dX4_copies_17 ?_
    refine z_iload_n X dX4_copies_18 rfl ?_
    refine z_iadd X dX4_copies_19 ?_
    refine z_aload_n X dX4_copies_20 rfl ?_
    refine y_gMod1 X fX4_7 dX4_copies_21 ?_
    refine z_sipush X dX4_copies_24 rfl ?_
    refine z_iload_n X dX4_copies_27 rfl ?_
    refine z_imul X dX4_copies_28 ?_
    refine z_iload_n X dX4_copies_29 rfl ?_
    refine z_iadd X dX4_copies_30 ?_
    refine y_iald X 1 (zArr_6) (by decide) (by omega) (by omega) (by decide) dX4_copies_31 ?_
    refine y_iast X 1 (zArr_6) (by decide) (by omega) (by omega) (by decide) dX4_copies_32 ?_
    refine z_iinc X dX4_copies_33 rfl (by decide) ?_
    refine z_sub [(0, .ref (ad 5)), (1, vI fr), (2, vI to), (3, vI (i + 1))] (zSub_cons rfl (zSub_cons rfl (zSub_cons rfl (zSub_cons rfl zSub_nil)))) ?_
    refine z_goto X 2 dX4_copies_36 (by decide) ?_
    refine z_sub [(0, .ref (ad 5)), (1, vI fr), (2, vI to), (3, vI (i + 1))] (zSub_cons rfl (zSub_cons rfl (zSub_cons rfl (zSub_cons rfl zSub_nil)))) ?_
    exact ih (by omega) (up2 M 1 ((282 * to) + i).toNat (M 1 ((282 * fr) + i).toNat)) (by rw [hv]; exact mCpK_step hf7 ht7 hft i0 (by omega))

set_option maxHeartbeats 4000000 in
set_option maxRecDepth 100000 in
theorem c_X4_save {l : Launch} {D : va_G} {G : zG} {ad : Nat → Nat} (hJ : zInj ad) (σ : zM) {N : Nat → Nat → Int}   (h6 : 0 ≤ N 0 2 ∧ N 0 2 ≤ 6) : zKV l D G ad yX4_save cX4_save 2 none 1 [.ref (ad 5)] (zBk σ 5 3 N) (fun σ9 => σ9 = (zBk σ 5 3 (mSave N))) := by
  intro sz
  refine z_open hJ (by decide +kernel) (Nat.le_of_ble_eq_true rfl) ?_
  intro p e s0 m args below meth c hsz X hr hlocks
  refine z_sub [(0, .ref (ad 5))] (zSub_cons rfl zSub_nil) ?_
  refine z_iconst X dX4_save_0 ?_
  refine z_istore_n X dX4_save_1 (by decide) ?_
  refine z_sub [(0, .ref (ad 5)), (1, vI 1)] (zSub_cons rfl (zSub_cons rfl zSub_nil)) ?_
  refine z_sub [(0, .ref (ad 5)), (1, vI 1)] (zSub_cons rfl (zSub_cons rfl zSub_nil)) ?_
  refine zForL (S := zNt) 1 6 (fun i M => M = mShL N i.toNat ∧ M 0 2 = N 0 2 ∧ (i = 1 ∨ N 0 2 = 6)) (fun i M => zV p l e (zRm 1) s0 m args below meth c 2 D G ad 0 0 (zE below (zQV D G ad sz (fun σ9 => σ9 = (zBk σ 5 3 (mSave N)))) args s0 ad) 2 [(0, .ref (ad 5)), (1, vI i)] [] (zBk σ 5 3 M)) (fun i M i0 i1 hv ih => ?_) N (by omega) ⟨rfl, rfl, Or.inl rfl⟩
  have hs2 := hv.2.1
  have hs3 := hv.2.2
  refine z_iload_n X dX4_save_2 rfl ?_
  refine z_bipush X dX4_save_3 rfl ?_
  refine z_icmp_ge X 31 dX4_save_5 (by decide) (by first | assumption | (unfold zB at *; omega)) ⟨by decide, by decide⟩ (fun c_1 => ?_) (fun c_1 => ?_)
  · have hM : M = mSh N := by unfold mSh; first | (rw [if_pos (by omega), hv.1, show i = 6 by omega]; rfl) | (rw [if_neg (by omega), hv.1]; rw [show i = 1 by omega]; rfl)
    have h2 : 0 ≤ M 0 2 ∧ M 0 2 ≤ 6 := by omega
    refine z_aload_n X dX4_save_31 rfl ?_
    refine z_dup X dX4_save_32 rfl ?_
    refine y_gMod2 X fX4_76 dX4_save_33 ?_
    refine z_aload_n X dX4_save_36 rfl ?_
    refine y_gMod2 X fX4_76 dX4_save_37 ?_
    refine z_bipush X dX4_save_40 rfl ?_
    refine z_icmp_ge X 49 dX4_save_42 (by decide) (by first | assumption | (unfold zB at *; omega)) ⟨by decide, by decide⟩ (fun c_2 => ?_) (fun c_2 => ?_)
    · refine z_iconst X dX4_save_49 ?_
      refine z_iadd X dX4_save_50 ?_
      refine y_pMod2 X fX4_76 dX4_save_51 ?_
      refine z_aload_n X dX4_save_54 rfl ?_
      refine z_iconst X dX4_save_55 ?_
      refine z_aload_n X dX4_save_56 rfl ?_
      refine y_gMod2 X fX4_76 dX4_save_57 ?_
      rw [up2_at]
      refine z_callVV2 X (c_X4_copies hJ σ ⟨by decide, by decide⟩ (by unfold zB; omega) (by omega) (by omega) (by omega)) kX4_79 rfl (by decide) rfl ⟨(Nat.le_of_ble_eq_true rfl), (Nat.le_of_ble_eq_true rfl)⟩ (Nat.le_of_ble_eq_true rfl) ⟨Nat.zero_le _, Nat.zero_le _⟩ dX4_save_60 (fun σ1 hz9 => ?_)
      obtain rfl := hz9
      exact z_vret X hsz hr hlocks dX4_save_63 (congrArg (zBk σ _ _) (by unfold mSave; rw [← hM]; first | (exfalso; omega) | rw [if_pos (by omega)] | rw [if_neg (by omega)]))
    · refine z_iconst X dX4_save_45 ?_
      refine z_goto X 50 dX4_save_46 (by decide) ?_
      refine z_iadd X dX4_save_50 ?_
      refine y_pMod2 X fX4_76 dX4_save_51 ?_
      refine z_aload_n X dX4_save_54 rfl ?_
      refine z_iconst X dX4_save_55 ?_
      refine z_aload_n X dX4_save_56 rfl ?_
      refine y_gMod2 X fX4_76 dX4_save_57 ?_
      rw [up2_at]
      refine z_callVV2 X (c_X4_copies hJ σ ⟨by decide, by decide⟩ (by unfold zB; omega) (by omega) (by omega) (by omega)) kX4_79 rfl (by decide) rfl ⟨(Nat.le_of_ble_eq_true rfl), (Nat.le_of_ble_eq_true rfl)⟩ (Nat.le_of_ble_eq_true rfl) ⟨Nat.zero_le _, Nat.zero_le _⟩ dX4_save_60 (fun σ1 hz9 => ?_)
      obtain rfl := hz9
      exact z_vret X hsz hr hlocks dX4_save_63 (congrArg (zBk σ _ _) (by unfold mSave; rw [← hM]; first | (exfalso; omega) | rw [if_pos (by omega)] | rw [if_neg (by omega)]))
  · refine z_aload_n X dX4_save_8 rfl ?_
    refine y_gMod2 X fX4_76 dX4_save_9 ?_
    refine z_bipush X dX4_save_12 rfl ?_
    refine z_icmp_ne X 31 dX4_save_14 (by decide) (by first | assumption | (unfold zB at *; omega)) ⟨by decide, by decide⟩ (fun c_5 => ?_) (fun c_5 => ?_)
    · have hM : M = mSh N := by unfold mSh; first | (rw [if_pos (by omega), hv.1, show i = 6 by omega]; rfl) | (rw [if_neg (by omega), hv.1]; rw [show i = 1 by omega]; rfl)
      have h2 : 0 ≤ M 0 2 ∧ M 0 2 ≤ 6 := by omega
      refine z_aload_n X dX4_save_31 rfl ?_
      refine z_dup X dX4_save_32 rfl ?_
      refine y_gMod2 X fX4_76 dX4_save_33 ?_
      refine z_aload_n X dX4_save_36 rfl ?_
      refine y_gMod2 X fX4_76 dX4_save_37 ?_
      refine z_bipush X dX4_save_40 rfl ?_
      refine z_icmp_ge X 49 dX4_save_42 (by decide) (by first | assumption | (unfold zB at *; omega)) ⟨by decide, by decide⟩ (fun c_6 => ?_) (fun c_6 => ?_)
      · refine z_iconst X dX4_save_49 ?_
        refine z_iadd X dX4_save_50 ?_
        refine y_pMod2 X fX4_76 dX4_save_51 ?_
        refine z_aload_n X dX4_save_54 rfl ?_
        refine z_iconst X dX4_save_55 ?_
        refine z_aload_n X dX4_save_56 rfl ?_
        refine y_gMod2 X fX4_76 dX4_save_57 ?_
        rw [up2_at]
        refine z_callVV2 X (c_X4_copies hJ σ ⟨by decide, by decide⟩ (by unfold zB; omega) (by omega) (by omega) (by omega)) kX4_79 rfl (by decide) rfl ⟨(Nat.le_of_ble_eq_true rfl), (Nat.le_of_ble_eq_true rfl)⟩ (Nat.le_of_ble_eq_true rfl) ⟨Nat.zero_le _, Nat.zero_le _⟩ dX4_save_60 (fun σ1 hz9 => ?_)
        obtain rfl := hz9
        exact z_vret X hsz hr hlocks dX4_save_63 (congrArg (zBk σ _ _) (by unfold mSave; rw [← hM]; first | (exfalso; omega) | rw [if_pos (by omega)] | rw [if_neg (by omega)]))
      · refine z_iconst X dX4_save_45 ?_
        refine z_goto X 50 dX4_save_46 (by decide) ?_
        refine z_iadd X dX4_save_50 ?_
        refine y_pMod2 X fX4_76 dX4_save_51 ?_
        refine z_aload_n X dX4_save_54 rfl ?_
        refine z_iconst X dX4_save_55 ?_
        refine z_aload_n X dX4_save_56 rfl ?_
        refine y_gMod2 X fX4_76 dX4_save_57 ?_
        rw [up2_at]
        refine z_callVV2 X (c_X4_copies hJ σ ⟨by decide, by decide⟩ (by unfold zB; omega) (by omega) (by omega) (by omega)) kX4_79 rfl (by decide) rfl ⟨(Nat.le_of_ble_eq_true rfl), (Nat.le_of_ble_eq_true rfl)⟩ (Nat.le_of_ble_eq_true rfl) ⟨Nat.zero_le _, Nat.zero_le _⟩ dX4_save_60 (fun σ1 hz9 => ?_)
        obtain rfl := hz9
        exact z_vret X hsz hr hlocks dX4_save_63 (congrArg (zBk σ _ _) (by unfold mSave; rw [← hM]; first | (exfalso; omega) | rw [if_pos (by omega)] | rw [if_neg (by omega)]))
    · refine z_aload_n X dX4_save_17 rfl ?_
      refine z_iload_n X dX4_save_18 rfl ?_
      refine z_iconst X dX4_save_19 ?_
      refine z_iadd X dX4_save_20 ?_
      refine z_iload_n X dX4_save_21 rfl ?_
      refine z_callVV2 X (c_X4_copies hJ σ (by first | assumption | (unfold zB at *; omega)) (by first | assumption | (unfold zB at *; omega)) (by omega) (by omega) (by omega)) kX4_79 rfl (by decide) rfl ⟨(Nat.le_of_ble_eq_true rfl), (Nat.le_of_ble_eq_true rfl)⟩ (Nat.le_of_ble_eq_true rfl) ⟨Nat.zero_le _, Nat.zero_le _⟩ dX4_save_22 (fun σ1 hz9 => ?_)
      obtain rfl := hz9
      refine z_iinc X dX4_save_25 rfl (by decide) ?_
      refine z_sub [(0, .ref (ad 5)), (1, vI (i + 1))] (zSub_cons rfl (zSub_cons rfl zSub_nil)) ?_
      refine z_goto X 2 dX4_save_28 (by decide) ?_
      refine z_sub [(0, .ref (ad 5)), (1, vI (i + 1))] (zSub_cons rfl (zSub_cons rfl zSub_nil)) ?_
      exact ih (by omega) (mCp M (i + 1) i) ⟨by rw [hv.1, mShL_step (by omega)], by rw [mCp_r0]; exact hv.2.1, by omega⟩
