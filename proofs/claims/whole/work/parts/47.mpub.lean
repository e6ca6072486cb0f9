theorem fl_f3 {N : zNt} : N 1 (2 : Int).toNat = mV N 0 0 3 := fl_fr (b := 0) (by decide)
theorem ml_f3 {N : zNt} (x : Int) : mTo N (up2 N 1 (2 : Int).toNat x) 0 (up2 (mV N 0) 0 3 x) := mTo_w (N := N) (b := 0) (r := 0) (j := 3) (by omega) rfl (by decide) (fun h9 => absurd h9 (by decide))
theorem mShL_b (N : zNt) (q : Int) (hq : 0 ≤ q) : ∀ k : Nat, mV (mShL N k) (282 * q) = if 1 ≤ q ∧ q < k then mV N (282 * (q + 1)) else mV N (282 * q)
  | 0 => by rw [mShL, if_neg (by omega)]
  | k + 1 => by
    rw [mShL]
    by_cases h : k = 0
    · rw [if_pos h, if_neg (by omega)]
    · rw [if_neg h]
      by_cases e : q = k
      · have h1 := mCp_at (mShL N k) ((k : Int) + 1) k
        rw [← e] at h1
        rw [← e, h1, mShL_b N (q + 1) (by omega) k, if_neg (by omega), if_pos (by omega)]
      · rw [mCp_ne _ hq (by omega) e, mShL_b N q hq k]
        by_cases z : 1 ≤ q ∧ q < k
        · rw [if_pos z, if_pos (by omega)]
        · rw [if_neg z, if_neg (by omega)]
theorem mShL_r0 (N : zNt) (j : Nat) : ∀ k : Nat, mShL N k 0 j = N 0 j
  | 0 => rfl
  | k + 1 => by
    rw [mShL]; split
    · rfl
    · rw [mCp_r0, mShL_r0 N j k]
theorem mShL_r2 (N : zNt) (j : Nat) : ∀ k : Nat, mShL N k 2 j = N 2 j
  | 0 => rfl
  | k + 1 => by
    rw [mShL]; split
    · rfl
    · rw [mCp_r2, mShL_r2 N j k]
theorem mSh_r0 (N : zNt) (j : Nat) : mSh N 0 j = N 0 j := by unfold mSh; split; exact mShL_r0 N j 6; rfl
theorem mSh_r2 (N : zNt) (j : Nat) : mSh N 2 j = N 2 j := by unfold mSh; split; exact mShL_r2 N j 6; rfl
/-- the count of the saved states after one more -/
def mCnt (N : zNt) : Int := N 0 2 + (if N 0 2 < 6 then 1 else 0)
theorem mSave_eq (N : zNt) : mSave N = mCp (up2 (mSh N) 0 2 (mCnt N)) 0 (mCnt N) := by unfold mSave mCnt; rw [mSh_r0]
theorem mCnt_rg {N : zNt} (h : 0 ≤ N 0 2 ∧ N 0 2 ≤ 6) : 1 ≤ mCnt N ∧ mCnt N ≤ 6 := by unfold mCnt; split <;> omega
theorem mV_save0 {N : zNt} (h : 0 ≤ N 0 2 ∧ N 0 2 ≤ 6) : mV (mSave N) 0 = mV N 0 := by
  have hc := mCnt_rg h
  rw [mSave_eq]
  have h1 := mCp_ne (up2 (mSh N) 0 2 (mCnt N)) (fr := 0) (to := mCnt N) (q := 0) (by decide) (by omega) (by omega)
  rw [Int.mul_zero] at h1
  rw [h1, mV_r0]
  unfold mSh; split
  · have h2 := mShL_b N 0 (by decide) 6
    rw [Int.mul_zero] at h2
    rw [h2, if_neg (by decide)]
  · rfl
theorem mSave_r0 (N : zNt) (j : Nat) : mSave N 0 j = if j = 2 then mCnt N else N 0 j := by
  rw [mSave_eq, mCp_r0]
  by_cases e : j = 2
  · rw [e, up2_at, if_pos rfl]
  · rw [up2_ne _ _ (fun q => e q.2), if_neg e, mSh_r0]
theorem mSave_r2 (N : zNt) (j : Nat) : mSave N 2 j = N 2 j := by rw [mSave_eq, mCp_r2, up2_rw _ _ (by decide), mSh_r2]
/-- the saved states after one more -/
theorem mSave_b {N : zNt} (h : 0 ≤ N 0 2 ∧ N 0 2 ≤ 6) (q : Int) (hq : 1 ≤ q) : mV (mSave N) (282 * q) = if q = mCnt N then mV N 0 else if N 0 2 = 6 ∧ q < 6 then mV N (282 * (q + 1)) else mV N (282 * q) := by
  have hc := mCnt_rg h
  rw [mSave_eq]
  by_cases e : q = mCnt N
  · rw [if_pos e, e, mCp_at, mV_r0]
    unfold mSh; split
    · rw [mShL_b N 0 (by decide) 6, if_neg (by decide)]; rfl
    · rfl
  · rw [if_neg e, mCp_ne _ (by omega) (by omega) e, mV_r0]
    unfold mSh; split
    · rename_i h6
      rw [mShL_b N q (by omega) 6]
      by_cases z : q < 6
      · rw [if_pos ⟨hq, by omega⟩, if_pos ⟨h6, z⟩]
      · rw [if_neg (by omega), if_neg (by omega)]
    · rename_i h6
      rw [if_neg (fun z => h6 z.1)]
/-- the end of a call that can be undone: x is the place of its exception, 0 for none -/
def mP (N N9 : zNt) (x : Int) (F : zNt) : Prop := if x = 0 then mTo (mSave (up2 N 0 0 0)) N9 0 F else N9 = up2 N 0 0 x
def mX_vote (V : zNt) (d s y : Int) : Int := if ¬ (cHas V d ∧ (0 ≤ s ∧ s ≤ 5)) then 1 else if ¬ cCanVote V d s then 2 else 0
def mX_decide (V : zNt) (d : Int) : Int := if ¬ cHas V d then 1 else if ¬ cCanDecide V d then 2 else 0
def mX_tell (V : zNt) (d s : Int) : Int := if ¬ (cHas V d ∧ (0 ≤ s ∧ s ≤ 5)) then 1 else if ¬ cCanTell V d s then 2 else 0
def mX_ask (V : zNt) (d s o : Int) : Int := if ¬ (cHas V d ∧ (0 ≤ s ∧ s ≤ 5) ∧ (0 ≤ o ∧ o ≤ 5)) then 1 else if s = o then 2 else if ¬ (cUp V s ∧ cUp V o ∧ cSt V d s = 1) then 3 else 0
def mX_comeBack (V : zNt) (s : Int) : Int := if ¬ (0 ≤ s ∧ s ≤ 5) then 1 else if cUp V s then 2 else 0
def mX_pass (V : zNt) (t : Int) : Int := if ¬ (1 ≤ t ∧ t ≤ 20) then 1 else 0
def mX_fallSilent (V : zNt) (s : Int) : Int := if ¬ (0 ≤ s ∧ s ≤ 5) then 1 else if ¬ cUp V s then 2 else 0
def mX_setPatience (V : zNt) (pt : Int) : Int := if ¬ (1 ≤ pt ∧ pt ≤ 20) then 1 else 0
set_option maxHeartbeats 4000000 in
set_option maxRecDepth 100000 in
theorem c_X4_vote {l : Launch} {D : va_G} {G : zG} {ad : Nat → Nat} (hJ : zInj ad) (σ : zM) {N : Nat → Nat → Int}  {d : Int} (hd : zB d) {s : Int} (hs : zB s) {y : Int} (hy : zB y) (ok : rOk (mV N 0)) (bd : Bud (mV N 0)) (pk : pOk (mV N 0)) (h6 : 0 ≤ N 0 2 ∧ N 0 2 ≤ 6) : zKI l D G ad yX4_vote cX4_vote 5 (some .int) 6 [.ref (ad 5), vI d, vI s, vI y] (zBk σ 5 3 N) (fun z σ9 => z = (if mX_vote (mV N 0) d s y = 0 then cSt (aEnter (mV N 0) d s (mVoteV (mV N 0) d s y)) d s else 0) ∧ ∃ N9, σ9 = zBk σ 5 3 N9 ∧ mP N N9 (mX_vote (mV N 0) d s y) (aEnter (mV N 0) d s (mVoteV (mV N 0) d s y))) := by
  intro sz
  refine z_open hJ (by decide +kernel) (Nat.le_of_ble_eq_true rfl) ?_
  intro p e s0 m args below meth c hsz X hr hlocks
  have hn := rk_n ok
  refine z_sub [(0, .ref (ad 5)), (1, vI d), (2, vI s), (3, vI y)] (zSub_cons rfl (zSub_cons rfl (zSub_cons rfl (zSub_cons rfl zSub_nil)))) ?_
  refine z_aload_n X dX4_vote_0 rfl ?_
  refine z_iload_n X dX4_vote_1 rfl ?_
  refine z_callVI1 X (c_X4_isDeal hJ σ hd ok) kX4_96 rfl (by decide) rfl ⟨(Nat.le_of_ble_eq_true rfl), (Nat.le_of_ble_eq_true rfl)⟩ (Nat.le_of_ble_eq_true rfl) ⟨Nat.zero_le _, Nat.zero_le _⟩ dX4_vote_2 (fun z9 σ1 hz9 => ?_)
  obtain ⟨rfl, rfl⟩ := hz9
  refine z_ifb_eq X 19 dX4_vote_5 (by decide) (fun c_2 => ?_) (fun c_2 => ?_)
  · refine z_iconst X dX4_vote_19 ?_
    refine z_istore X dX4_vote_20 (by decide) ?_
    refine z_sub [(0, .ref (ad 5)), (1, vI d), (2, vI s), (3, vI y), (4, vI 0)] (zSub_cons rfl (zSub_cons rfl (zSub_cons rfl (zSub_cons rfl (zSub_cons rfl zSub_nil))))) ?_
    refine z_aload_n X dX4_vote_22 rfl ?_
    refine z_iload X dX4_vote_23 rfl ?_
    refine z_if_ne X 32 dX4_vote_25 (by decide) ⟨by decide, by decide⟩ (fun h9 => absurd h9 (by decide)) (fun _ => ?_)
    refine z_iconst X dX4_vote_28 ?_
    refine z_goto X 46 dX4_vote_29 (by decide) ?_
    refine z_callVI1 X (c_X4_holds hJ σ ⟨by decide, by decide⟩) kX4_90 rfl (by decide) rfl ⟨(Nat.le_of_ble_eq_true rfl), (Nat.le_of_ble_eq_true rfl)⟩ (Nat.le_of_ble_eq_true rfl) ⟨Nat.zero_le _, Nat.zero_le _⟩ dX4_vote_46 (fun z9 σ1 hz9 => ?_)
    obtain ⟨rfl, rfl⟩ := hz9
    refine z_ifb_ne X 54 dX4_vote_49 (by decide) (fun h9 => absurd h9 (by decide)) (fun _ => ?_)
    refine z_iconst X dX4_vote_52 ?_
    exact z_iret X hsz hr hlocks dX4_vote_53 ⟨(by rw [show mX_vote (mV N 0) d s y = (1 : Int) from (by unfold mX_vote; grind)]; rfl), ⟨_, rfl, (by unfold mP; rw [show mX_vote (mV N 0) d s y = (1 : Int) from (by unfold mX_vote; grind), if_neg (by decide)])⟩⟩
  · refine z_iload_n X dX4_vote_8 rfl ?_
    refine z_callSI1 X (c_X4_isSite hJ _ hs) kX4_86 ⟨(Nat.le_of_ble_eq_true rfl), (Nat.le_of_ble_eq_true rfl)⟩ (Nat.le_of_ble_eq_true rfl) ⟨Nat.zero_le _, Nat.zero_le _⟩ dX4_vote_9 (fun z9 σ1 hz9 => ?_)
    obtain ⟨rfl, rfl⟩ := hz9
    refine z_ifb_eq X 19 dX4_vote_12 (by decide) (fun c_5 => ?_) (fun c_5 => ?_)
    · refine z_iconst X dX4_vote_19 ?_
      refine z_istore X dX4_vote_20 (by decide) ?_
      refine z_sub [(0, .ref (ad 5)), (1, vI d), (2, vI s), (3, vI y), (4, vI 0)] (zSub_cons rfl (zSub_cons rfl (zSub_cons rfl (zSub_cons rfl (zSub_cons rfl zSub_nil))))) ?_
      refine z_aload_n X dX4_vote_22 rfl ?_
      refine z_iload X dX4_vote_23 rfl ?_
      refine z_if_ne X 32 dX4_vote_25 (by decide) ⟨by decide, by decide⟩ (fun h9 => absurd h9 (by decide)) (fun _ => ?_)
      refine z_iconst X dX4_vote_28 ?_
      refine z_goto X 46 dX4_vote_29 (by decide) ?_
      refine z_callVI1 X (c_X4_holds hJ σ ⟨by decide, by decide⟩) kX4_90 rfl (by decide) rfl ⟨(Nat.le_of_ble_eq_true rfl), (Nat.le_of_ble_eq_true rfl)⟩ (Nat.le_of_ble_eq_true rfl) ⟨Nat.zero_le _, Nat.zero_le _⟩ dX4_vote_46 (fun z9 σ1 hz9 => ?_)
      obtain ⟨rfl, rfl⟩ := hz9
      refine z_ifb_ne X 54 dX4_vote_49 (by decide) (fun h9 => absurd h9 (by decide)) (fun _ => ?_)
      refine z_iconst X dX4_vote_52 ?_
      exact z_iret X hsz hr hlocks dX4_vote_53 ⟨(by rw [show mX_vote (mV N 0) d s y = (1 : Int) from (by unfold mX_vote; grind)]; rfl), ⟨_, rfl, (by unfold mP; rw [show mX_vote (mV N 0) d s y = (1 : Int) from (by unfold mX_vote; grind), if_neg (by decide)])⟩⟩
    · refine z_iconst X dX4_vote_15 ?_
      refine z_goto X 20 dX4_vote_16 (by decide) ?_
      refine z_istore X dX4_vote_20 (by decide) ?_
      refine z_sub [(0, .ref (ad 5)), (1, vI d), (2, vI s), (3, vI y), (4, vI 1)] (zSub_cons rfl (zSub_cons rfl (zSub_cons rfl (zSub_cons rfl (zSub_cons rfl zSub_nil))))) ?_
      refine z_aload_n X dX4_vote_22 rfl ?_
      refine z_iload X dX4_vote_23 rfl ?_
      refine z_if_ne X 32 dX4_vote_25 (by decide) ⟨by decide, by decide⟩ (fun _ => ?_) (fun h9 => absurd h9 (by decide))
      refine z_aload_n X dX4_vote_32 rfl ?_
      refine z_iload_n X dX4_vote_33 rfl ?_
      refine z_iload_n X dX4_vote_34 rfl ?_
      refine z_callVI2 X (c_X4_canVote hJ σ hd hs ok (by first | omega | assumption | grind) (by omega)) kX4_99 rfl (by decide) rfl ⟨(Nat.le_of_ble_eq_true rfl), (Nat.le_of_ble_eq_true rfl)⟩ (Nat.le_of_ble_eq_true rfl) ⟨Nat.zero_le _, Nat.zero_le _⟩ dX4_vote_35 (fun z9 σ1 hz9 => ?_)
      obtain ⟨rfl, rfl⟩ := hz9
      refine z_ifb_ne X 45 dX4_vote_38 (by decide) (fun c_8 => ?_) (fun c_8 => ?_)
      · refine z_iconst X dX4_vote_45 ?_
        refine z_callVI1 X (c_X4_holds hJ σ ⟨by decide, by decide⟩) kX4_90 rfl (by decide) rfl ⟨(Nat.le_of_ble_eq_true rfl), (Nat.le_of_ble_eq_true rfl)⟩ (Nat.le_of_ble_eq_true rfl) ⟨Nat.zero_le _, Nat.zero_le _⟩ dX4_vote_46 (fun z9 σ1 hz9 => ?_)
        obtain ⟨rfl, rfl⟩ := hz9
        refine z_ifb_ne X 54 dX4_vote_49 (by decide) (fun _ => ?_) (fun h9 => absurd rfl h9)
        refine z_aload_n X dX4_vote_54 rfl ?_
        refine z_callVV0 X (c_X4_save hJ σ (by first | omega | assumption | grind)) kX4_93 rfl (by decide) rfl ⟨(Nat.le_of_ble_eq_true rfl), (Nat.le_of_ble_eq_true rfl)⟩ (Nat.le_of_ble_eq_true rfl) ⟨Nat.zero_le _, Nat.zero_le _⟩ dX4_vote_55 (fun σ1 hz9 => ?_)
        obtain rfl := hz9
        obtain ⟨Ns, hNs⟩ : ∃ Ns, Ns = mSave (up2 N 0 0 0) := ⟨_, rfl⟩
        rw [← hNs]
        have eNs : mV Ns 0 = mV N 0 := by rw [hNs, mV_save0 (N := up2 N 0 0 0) h6, mV_r0]
        have oks : rOk (mV Ns 0) := by rw [eNs]; exact ok
        have bds : Bud (mV Ns 0) := by rw [eNs]; exact bd
        have pks : pOk (mV Ns 0) := by rw [eNs]; exact pk
        have hns : mV Ns 0 0 0 = mV N 0 0 0 := by rw [eNs]
        refine z_aload_n X dX4_vote_58 rfl ?_
        refine z_iload_n X dX4_vote_59 rfl ?_
        refine z_iload_n X dX4_vote_60 rfl ?_
        refine z_iload_n X dX4_vote_61 rfl ?_
        refine z_callVV3 X (c_X4_votes hJ σ hd hs hy oks bds (by first | omega | assumption | grind)) kX4_102 rfl (by decide) rfl ⟨(Nat.le_of_ble_eq_true rfl), (Nat.le_of_ble_eq_true rfl)⟩ (Nat.le_of_ble_eq_true rfl) ⟨Nat.zero_le _, Nat.zero_le _⟩ dX4_vote_62 (fun σ1 hz9 => ?_)
        obtain ⟨N1, rfl, hT1⟩ := hz9
        have hnN1 : mV N1 0 0 0 = mV Ns 0 0 0 := by rw [hT1.1]; exact n_aEnter _ _ _ _ 0
        have okN1 : rOk (mV N1 0) := (by rw [hT1.1]; exact rk_aEnter oks (by unfold mVoteV; split <;> decide) (by first | omega | grind))
        refine z_aload_n X dX4_vote_65 rfl ?_
        refine z_iconst X dX4_vote_66 ?_
        refine z_iload_n X dX4_vote_67 rfl ?_
        refine z_iload_n X dX4_vote_68 rfl ?_
        refine z_callVI3 X (c_X4_stateOf hJ σ ⟨by decide, by decide⟩ hd hs (by omega) okN1 (by first | omega | assumption | grind) (by omega)) kX4_35 rfl (by decide) rfl ⟨(Nat.le_of_ble_eq_true rfl), (Nat.le_of_ble_eq_true rfl)⟩ (Nat.le_of_ble_eq_true rfl) ⟨Nat.zero_le _, Nat.zero_le _⟩ dX4_vote_69 (fun z9 σ1 hz9 => ?_)
        obtain ⟨rfl, rfl⟩ := hz9
        exact z_iret X hsz hr hlocks dX4_vote_72 ⟨(by rw [show mX_vote (mV N 0) d s y = (0 : Int) from (by unfold mX_vote; grind), if_pos rfl, hT1.1, eNs]), ⟨N1, rfl, (by unfold mP; rw [show mX_vote (mV N 0) d s y = (0 : Int) from (by unfold mX_vote; grind), if_pos rfl, ← hNs, ← eNs]; exact hT1)⟩⟩
      · refine z_iconst X dX4_vote_41 ?_
        refine z_goto X 46 dX4_vote_42 (by decide) ?_
        refine z_callVI1 X (c_X4_holds hJ σ ⟨by decide, by decide⟩) kX4_90 rfl (by decide) rfl ⟨(Nat.le_of_ble_eq_true rfl), (Nat.le_of_ble_eq_true rfl)⟩ (Nat.le_of_ble_eq_true rfl) ⟨Nat.zero_le _, Nat.zero_le _⟩ dX4_vote_46 (fun z9 σ1 hz9 => ?_)
        obtain ⟨rfl, rfl⟩ := hz9
        refine z_ifb_ne X 54 dX4_vote_49 (by decide) (fun h9 => absurd h9 (by decide)) (fun _ => ?_)
        refine z_iconst X dX4_vote_52 ?_
        exact z_iret X hsz hr hlocks dX4_vote_53 ⟨(by rw [show mX_vote (mV N 0) d s y = (2 : Int) from (by unfold mX_vote; grind)]; rfl), ⟨_, rfl, (by unfold mP; rw [show mX_vote (mV N 0) d s y = (2 : Int) from (by unfold mX_vote; grind), if_neg (by decide)])⟩⟩

set_option maxHeartbeats 4000000 in
set_option maxRecDepth 100000 in
theorem c_X4_decide {l : Launch} {D : va_G} {G : zG} {ad : Nat → Nat} (hJ : zInj ad) (σ : zM) {N : Nat → Nat → Int}  {d : Int} (hd : zB d) (ok : rOk (mV N 0)) (bd : Bud (mV N 0)) (pk : pOk (mV N 0)) (h6 : 0 ≤ N 0 2 ∧ N 0 2 ≤ 6) : zKI l D G ad yX4_decide cX4_decide 3 (some .int) 4 [.ref (ad 5), vI d] (zBk σ 5 3 N) (fun z σ9 => z = (if mX_decide (mV N 0) d = 0 then cDec (cSettle (mV N 0) d (cDecV (mV N 0) d)) d else 0) ∧ ∃ N9, σ9 = zBk σ 5 3 N9 ∧ mP N N9 (mX_decide (mV N 0) d) (cSettle (mV N 0) d (cDecV (mV N 0) d))) := by
  intro sz
  refine z_open hJ (by decide +kernel) (Nat.le_of_ble_eq_true rfl) ?_
  intro p e s0 m args below meth c hsz X hr hlocks
  have hn := rk_n ok
  refine z_sub [(0, .ref (ad 5)), (1, vI d)] (zSub_cons rfl (zSub_cons rfl zSub_nil)) ?_
  refine z_aload_n X dX4_decide_0 rfl ?_
  refine z_iload_n X dX4_decide_1 rfl ?_
  refine z_callVI1 X (c_X4_isDeal hJ σ hd ok) kX4_96 rfl (by decide) rfl ⟨(Nat.le_of_ble_eq_true rfl), (Nat.le_of_ble_eq_true rfl)⟩ (Nat.le_of_ble_eq_true rfl) ⟨Nat.zero_le _, Nat.zero_le _⟩ dX4_decide_2 (fun z9 σ1 hz9 => ?_)
  obtain ⟨rfl, rfl⟩ := hz9
  refine z_istore_n X dX4_decide_5 (by decide) ?_
  refine z_sub [(0, .ref (ad 5)), (1, vI d), (2, vI (if cHas (mV N 0) d then 1 else 0))] (zSub_cons rfl (zSub_cons rfl (zSub_cons rfl zSub_nil))) ?_
  refine z_aload_n X dX4_decide_6 rfl ?_
  refine z_iload_n X dX4_decide_7 rfl ?_
  refine z_ifb_ne X 15 dX4_decide_8 (by decide) (fun c_2 => ?_) (fun c_2 => ?_)
  · refine z_aload_n X dX4_decide_15 rfl ?_
    refine z_iload_n X dX4_decide_16 rfl ?_
    refine z_callVI1 X (c_X4_canDecide hJ σ hd ok (by first | omega | assumption | grind)) kX4_106 rfl (by decide) rfl ⟨(Nat.le_of_ble_eq_true rfl), (Nat.le_of_ble_eq_true rfl)⟩ (Nat.le_of_ble_eq_true rfl) ⟨Nat.zero_le _, Nat.zero_le _⟩ dX4_decide_17 (fun z9 σ1 hz9 => ?_)
    obtain ⟨rfl, rfl⟩ := hz9
    refine z_ifb_ne X 27 dX4_decide_20 (by decide) (fun c_4 => ?_) (fun c_4 => ?_)
    · refine z_iconst X dX4_decide_27 ?_
      refine z_callVI1 X (c_X4_holds hJ σ ⟨by decide, by decide⟩) kX4_90 rfl (by decide) rfl ⟨(Nat.le_of_ble_eq_true rfl), (Nat.le_of_ble_eq_true rfl)⟩ (Nat.le_of_ble_eq_true rfl) ⟨Nat.zero_le _, Nat.zero_le _⟩ dX4_decide_28 (fun z9 σ1 hz9 => ?_)
      obtain ⟨rfl, rfl⟩ := hz9
      refine z_ifb_ne X 36 dX4_decide_31 (by decide) (fun _ => ?_) (fun h9 => absurd rfl h9)
      refine z_aload_n X dX4_decide_36 rfl ?_
      refine z_callVV0 X (c_X4_save hJ σ (by first | omega | assumption | grind)) kX4_93 rfl (by decide) rfl ⟨(Nat.le_of_ble_eq_true rfl), (Nat.le_of_ble_eq_true rfl)⟩ (Nat.le_of_ble_eq_true rfl) ⟨Nat.zero_le _, Nat.zero_le _⟩ dX4_decide_37 (fun σ1 hz9 => ?_)
      obtain rfl := hz9
      obtain ⟨Ns, hNs⟩ : ∃ Ns, Ns = mSave (up2 N 0 0 0) := ⟨_, rfl⟩
      rw [← hNs]
      have eNs : mV Ns 0 = mV N 0 := by rw [hNs, mV_save0 (N := up2 N 0 0 0) h6, mV_r0]
      have oks : rOk (mV Ns 0) := by rw [eNs]; exact ok
      have bds : Bud (mV Ns 0) := by rw [eNs]; exact bd
      have pks : pOk (mV Ns 0) := by rw [eNs]; exact pk
      have hns : mV Ns 0 0 0 = mV N 0 0 0 := by rw [eNs]
      have hdv := rg_decV (mV Ns 0) d
      refine z_aload_n X dX4_decide_40 rfl ?_
      refine z_iconst X dX4_decide_41 ?_
      refine z_iload_n X dX4_decide_42 rfl ?_
      refine z_aload_n X dX4_decide_43 rfl ?_
      refine z_iload_n X dX4_decide_44 rfl ?_
      refine z_callVI1 X (c_X4_verdict hJ σ hd oks (by first | omega | assumption | grind)) kX4_109 rfl (by decide) rfl ⟨(Nat.le_of_ble_eq_true rfl), (Nat.le_of_ble_eq_true rfl)⟩ (Nat.le_of_ble_eq_true rfl) ⟨Nat.zero_le _, Nat.zero_le _⟩ dX4_decide_45 (fun z9 σ1 hz9 => ?_)
      obtain ⟨rfl, rfl⟩ := hz9
      refine z_callVV3 X (c_X4_decides hJ σ ⟨by decide, by decide⟩ hd (zB_sm (rg_decV _ _)) (by omega) oks (by first | omega | grind) (by first | omega | assumption | grind) (bud_dc oks bds (by first | omega | assumption | grind) (by first | omega | grind))) kX4_49 rfl (by decide) rfl ⟨(Nat.le_of_ble_eq_true rfl), (Nat.le_of_ble_eq_true rfl)⟩ (Nat.le_of_ble_eq_true rfl) ⟨Nat.zero_le _, Nat.zero_le _⟩ dX4_decide_48 (fun σ1 hz9 => ?_)
      obtain ⟨N1, rfl, hT1⟩ := hz9
      have hnN1 : mV N1 0 0 0 = mV Ns 0 0 0 := by rw [hT1.1]; exact n_settle _ _ _ 0
      have okN1 : rOk (mV N1 0) := (by rw [hT1.1]; exact rk_settle oks (by first | omega | grind))
      have bdN1 : Bud (mV N1 0) := (by rw [hT1.1]; exact bd_settle oks bds (by first | omega | assumption) (by first | omega | grind) (by first | omega | grind))
      refine z_aload_n X dX4_decide_51 rfl ?_
      refine z_iconst X dX4_decide_52 ?_
      refine z_iload_n X dX4_decide_53 rfl ?_
      refine z_iconst X dX4_decide_54 ?_
      refine z_callVI3 X (c_X4_of3 hJ σ ⟨by decide, by decide⟩ hd (by omega) okN1 (by first | omega | assumption)) kX4_24 rfl (by decide) rfl ⟨(Nat.le_of_ble_eq_true rfl), (Nat.le_of_ble_eq_true rfl)⟩ (Nat.le_of_ble_eq_true rfl) ⟨Nat.zero_le _, Nat.zero_le _⟩ dX4_decide_55 (fun z9 σ1 hz9 => ?_)
      obtain ⟨rfl, rfl⟩ := hz9
      exact z_iret X hsz hr hlocks dX4_decide_58 ⟨(by rw [show mX_decide (mV N 0) d = (0 : Int) from (by unfold mX_decide; grind), if_pos rfl, hT1.1, eNs]), ⟨N1, rfl, (by unfold mP; rw [show mX_decide (mV N 0) d = (0 : Int) from (by unfold mX_decide; grind), if_pos rfl, ← hNs, ← eNs]; exact hT1)⟩⟩
    · refine z_iconst X dX4_decide_23 ?_
      refine z_goto X 28 dX4_decide_24 (by decide) ?_
      refine z_callVI1 X (c_X4_holds hJ σ ⟨by decide, by decide⟩) kX4_90 rfl (by decide) rfl ⟨(Nat.le_of_ble_eq_true rfl), (Nat.le_of_ble_eq_true rfl)⟩ (Nat.le_of_ble_eq_true rfl) ⟨Nat.zero_le _, Nat.zero_le _⟩ dX4_decide_28 (fun z9 σ1 hz9 => ?_)
      obtain ⟨rfl, rfl⟩ := hz9
      refine z_ifb_ne X 36 dX4_decide_31 (by decide) (fun h9 => absurd h9 (by decide)) (fun _ => ?_)
      refine z_iconst X dX4_decide_34 ?_
      exact z_iret X hsz hr hlocks dX4_decide_35 ⟨(by rw [show mX_decide (mV N 0) d = (2 : Int) from (by unfold mX_decide; grind)]; rfl), ⟨_, rfl, (by unfold mP; rw [show mX_decide (mV N 0) d = (2 : Int) from (by unfold mX_decide; grind), if_neg (by decide)])⟩⟩
  · refine z_iconst X dX4_decide_11 ?_
    refine z_goto X 28 dX4_decide_12 (by decide) ?_
    refine z_callVI1 X (c_X4_holds hJ σ ⟨by decide, by decide⟩) kX4_90 rfl (by decide) rfl ⟨(Nat.le_of_ble_eq_true rfl), (Nat.le_of_ble_eq_true rfl)⟩ (Nat.le_of_ble_eq_true rfl) ⟨Nat.zero_le _, Nat.zero_le _⟩ dX4_decide_28 (fun z9 σ1 hz9 => ?_)
    obtain ⟨rfl, rfl⟩ := hz9
    refine z_ifb_ne X 36 dX4_decide_31 (by decide) (fun h9 => absurd h9 (by decide)) (fun _ => ?_)
    refine z_iconst X dX4_decide_34 ?_
    exact z_iret X hsz hr hlocks dX4_decide_35 ⟨(by rw [show mX_decide (mV N 0) d = (1 : Int) from (by unfold mX_decide; grind)]; rfl), ⟨_, rfl, (by unfold mP; rw [show mX_decide (mV N 0) d = (1 : Int) from (by unfold mX_decide; grind), if_neg (by decide)])⟩⟩

set_option maxHeartbeats 4000000 in
set_option maxRecDepth 100000 in
theorem c_X4_tell {l : Launch} {D : va_G} {G : zG} {ad : Nat → Nat} (hJ : zInj ad) (σ : zM) {N : Nat → Nat → Int}  {d : Int} (hd : zB d) {s : Int} (hs : zB s) (ok : rOk (mV N 0)) (bd : Bud (mV N 0)) (pk : pOk (mV N 0)) (h6 : 0 ≤ N 0 2 ∧ N 0 2 ≤ 6) : zKI l D G ad yX4_tell cX4_tell 4 (some .int) 4 [.ref (ad 5), vI d, vI s] (zBk σ 5 3 N) (fun z σ9 => z = (if mX_tell (mV N 0) d s = 0 then cSt (aTell (mV N 0) d s) d s else 0) ∧ ∃ N9, σ9 = zBk σ 5 3 N9 ∧ mP N N9 (mX_tell (mV N 0) d s) (aTell (mV N 0) d s)) := by
  intro sz
  refine z_open hJ (by decide +kernel) (Nat.le_of_ble_eq_true rfl) ?_
  intro p e s0 m args below meth c hsz X hr hlocks
  have hn := rk_n ok
  refine z_sub [(0, .ref (ad 5)), (1, vI d), (2, vI s)] (zSub_cons rfl (zSub_cons rfl (zSub_cons rfl zSub_nil))) ?_
  refine z_aload_n X dX4_tell_0 rfl ?_
  refine z_iload_n X dX4_tell_1 rfl ?_
  refine z_callVI1 X (c_X4_isDeal hJ σ hd ok) kX4_96 rfl (by decide) rfl ⟨(Nat.le_of_ble_eq_true rfl), (Nat.le_of_ble_eq_true rfl)⟩ (Nat.le_of_ble_eq_true rfl) ⟨Nat.zero_le _, Nat.zero_le _⟩ dX4_tell_2 (fun z9 σ1 hz9 => ?_)
  obtain ⟨rfl, rfl⟩ := hz9
  refine z_ifb_eq X 19 dX4_tell_5 (by decide) (fun c_2 => ?_) (fun c_2 => ?_)
  · refine z_iconst X dX4_tell_19 ?_
    refine z_istore_n X dX4_tell_20 (by decide) ?_
    refine z_sub [(0, .ref (ad 5)), (1, vI d), (2, vI s), (3, vI 0)] (zSub_cons rfl (zSub_cons rfl (zSub_cons rfl (zSub_cons rfl zSub_nil)))) ?_
    refine z_aload_n X dX4_tell_21 rfl ?_
    refine z_iload_n X dX4_tell_22 rfl ?_
    refine z_if_ne X 30 dX4_tell_23 (by decide) ⟨by decide, by decide⟩ (fun h9 => absurd h9 (by decide)) (fun _ => ?_)
    refine z_iconst X dX4_tell_26 ?_
    refine z_goto X 44 dX4_tell_27 (by decide) ?_
    refine z_callVI1 X (c_X4_holds hJ σ ⟨by decide, by decide⟩) kX4_90 rfl (by decide) rfl ⟨(Nat.le_of_ble_eq_true rfl), (Nat.le_of_ble_eq_true rfl)⟩ (Nat.le_of_ble_eq_true rfl) ⟨Nat.zero_le _, Nat.zero_le _⟩ dX4_tell_44 (fun z9 σ1 hz9 => ?_)
    obtain ⟨rfl, rfl⟩ := hz9
    refine z_ifb_ne X 52 dX4_tell_47 (by decide) (fun h9 => absurd h9 (by decide)) (fun _ => ?_)
    refine z_iconst X dX4_tell_50 ?_
    exact z_iret X hsz hr hlocks dX4_tell_51 ⟨(by rw [show mX_tell (mV N 0) d s = (1 : Int) from (by unfold mX_tell; grind)]; rfl), ⟨_, rfl, (by unfold mP; rw [show mX_tell (mV N 0) d s = (1 : Int) from (by unfold mX_tell; grind), if_neg (by decide)])⟩⟩
  · refine z_iload_n X dX4_tell_8 rfl ?_
    refine z_callSI1 X (c_X4_isSite hJ _ hs) kX4_86 ⟨(Nat.le_of_ble_eq_true rfl), (Nat.le_of_ble_eq_true rfl)⟩ (Nat.le_of_ble_eq_true rfl) ⟨Nat.zero_le _, Nat.zero_le _⟩ dX4_tell_9 (fun z9 σ1 hz9 => ?_)
    obtain ⟨rfl, rfl⟩ := hz9
    refine z_ifb_eq X 19 dX4_tell_12 (by decide) (fun c_5 => ?_) (fun c_5 => ?_)
    · refine z_iconst X dX4_tell_19 ?_
      refine z_istore_n X dX4_tell_20 (by decide) ?_
      refine z_sub [(0, .ref (ad 5)), (1, vI d), (2, vI s), (3, vI 0)] (zSub_cons rfl (zSub_cons rfl (zSub_cons rfl (zSub_cons rfl zSub_nil)))) ?_
      refine z_aload_n X dX4_tell_21 rfl ?_
      refine z_iload_n X dX4_tell_22 rfl ?_
      refine z_if_ne X 30 dX4_tell_23 (by decide) ⟨by decide, by decide⟩ (fun h9 => absurd h9 (by decide)) (fun _ => ?_)
      refine z_iconst X dX4_tell_26 ?_
      refine z_goto X 44 dX4_tell_27 (by decide) ?_
      refine z_callVI1 X (c_X4_holds hJ σ ⟨by decide, by decide⟩) kX4_90 rfl (by decide) rfl ⟨(Nat.le_of_ble_eq_true rfl), (Nat.le_of_ble_eq_true rfl)⟩ (Nat.le_of_ble_eq_true rfl) ⟨Nat.zero_le _, Nat.zero_le _⟩ dX4_tell_44 (fun z9 σ1 hz9 => ?_)
      obtain ⟨rfl, rfl⟩ := hz9
      refine z_ifb_ne X 52 dX4_tell_47 (by decide) (fun h9 => absurd h9 (by decide)) (fun _ => ?_)
      refine z_iconst X dX4_tell_50 ?_
      exact z_iret X hsz hr hlocks dX4_tell_51 ⟨(by rw [show mX_tell (mV N 0) d s = (1 : Int) from (by unfold mX_tell; grind)]; rfl), ⟨_, rfl, (by unfold mP; rw [show mX_tell (mV N 0) d s = (1 : Int) from (by unfold mX_tell; grind), if_neg (by decide)])⟩⟩
    · refine z_iconst X dX4_tell_15 ?_
      refine z_goto X 20 dX4_tell_16 (by decide) ?_
      refine z_istore_n X dX4_tell_20 (by decide) ?_
      refine z_sub [(0, .ref (ad 5)), (1, vI d), (2, vI s), (3, vI 1)] (zSub_cons rfl (zSub_cons rfl (zSub_cons rfl (zSub_cons rfl zSub_nil)))) ?_
      refine z_aload_n X dX4_tell_21 rfl ?_
      refine z_iload_n X dX4_tell_22 rfl ?_
      refine z_if_ne X 30 dX4_tell_23 (by decide) ⟨by decide, by decide⟩ (fun _ => ?_) (fun h9 => absurd h9 (by decide))
      refine z_aload_n X dX4_tell_30 rfl ?_
      refine z_iload_n X dX4_tell_31 rfl ?_
      refine z_iload_n X dX4_tell_32 rfl ?_
      refine z_callVI2 X (c_X4_canTell hJ σ hd hs ok (by first | omega | assumption | grind) (by omega)) kX4_112 rfl (by decide) rfl ⟨(Nat.le_of_ble_eq_true rfl), (Nat.le_of_ble_eq_true rfl)⟩ (Nat.le_of_ble_eq_true rfl) ⟨Nat.zero_le _, Nat.zero_le _⟩ dX4_tell_33 (fun z9 σ1 hz9 => ?_)
      obtain ⟨rfl, rfl⟩ := hz9
      refine z_ifb_ne X 43 dX4_tell_36 (by decide) (fun c_8 => ?_) (fun c_8 => ?_)
      · refine z_iconst X dX4_tell_43 ?_
        refine z_callVI1 X (c_X4_holds hJ σ ⟨by decide, by decide⟩) kX4_90 rfl (by decide) rfl ⟨(Nat.le_of_ble_eq_true rfl), (Nat.le_of_ble_eq_true rfl)⟩ (Nat.le_of_ble_eq_true rfl) ⟨Nat.zero_le _, Nat.zero_le _⟩ dX4_tell_44 (fun z9 σ1 hz9 => ?_)
        obtain ⟨rfl, rfl⟩ := hz9
        refine z_ifb_ne X 52 dX4_tell_47 (by decide) (fun _ => ?_) (fun h9 => absurd rfl h9)
        refine z_aload_n X dX4_tell_52 rfl ?_
        refine z_callVV0 X (c_X4_save hJ σ (by first | omega | assumption | grind)) kX4_93 rfl (by decide) rfl ⟨(Nat.le_of_ble_eq_true rfl), (Nat.le_of_ble_eq_true rfl)⟩ (Nat.le_of_ble_eq_true rfl) ⟨Nat.zero_le _, Nat.zero_le _⟩ dX4_tell_53 (fun σ1 hz9 => ?_)
        obtain rfl := hz9
        obtain ⟨Ns, hNs⟩ : ∃ Ns, Ns = mSave (up2 N 0 0 0) := ⟨_, rfl⟩
        rw [← hNs]
        have eNs : mV Ns 0 = mV N 0 := by rw [hNs, mV_save0 (N := up2 N 0 0 0) h6, mV_r0]
        have oks : rOk (mV Ns 0) := by rw [eNs]; exact ok
        have bds : Bud (mV Ns 0) := by rw [eNs]; exact bd
        have pks : pOk (mV Ns 0) := by rw [eNs]; exact pk
        have hns : mV Ns 0 0 0 = mV N 0 0 0 := by rw [eNs]
        refine z_aload_n X dX4_tell_56 rfl ?_
        refine z_iconst X dX4_tell_57 ?_
        refine z_iload_n X dX4_tell_58 rfl ?_
        refine z_iload_n X dX4_tell_59 rfl ?_
        refine z_callVV3 X (c_X4_tells hJ σ ⟨by decide, by decide⟩ hd hs (by omega) oks bds (by first | omega | assumption | grind) (by omega) (by first | omega | grind)) kX4_52 rfl (by decide) rfl ⟨(Nat.le_of_ble_eq_true rfl), (Nat.le_of_ble_eq_true rfl)⟩ (Nat.le_of_ble_eq_true rfl) ⟨Nat.zero_le _, Nat.zero_le _⟩ dX4_tell_60 (fun σ1 hz9 => ?_)
        obtain ⟨N1, rfl, hT1⟩ := hz9
        have hnN1 : mV N1 0 0 0 = mV Ns 0 0 0 := by rw [hT1.1]; exact n_aTell _ _ _ 0
        have okN1 : rOk (mV N1 0) := (by rw [hT1.1]; exact rk_aTell oks (by first | omega | assumption))
        have bdN1 : Bud (mV N1 0) := (by rw [hT1.1]; exact bd_aTell oks bds (by first | omega | assumption) (by first | omega | grind))
        refine z_aload_n X dX4_tell_63 rfl ?_
        refine z_iconst X dX4_tell_64 ?_
        refine z_iload_n X dX4_tell_65 rfl ?_
        refine z_iload_n X dX4_tell_66 rfl ?_
        refine z_callVI3 X (c_X4_stateOf hJ σ ⟨by decide, by decide⟩ hd hs (by omega) okN1 (by first | omega | assumption | grind) (by omega)) kX4_35 rfl (by decide) rfl ⟨(Nat.le_of_ble_eq_true rfl), (Nat.le_of_ble_eq_true rfl)⟩ (Nat.le_of_ble_eq_true rfl) ⟨Nat.zero_le _, Nat.zero_le _⟩ dX4_tell_67 (fun z9 σ1 hz9 => ?_)
        obtain ⟨rfl, rfl⟩ := hz9
        exact z_iret X hsz hr hlocks dX4_tell_70 ⟨(by rw [show mX_tell (mV N 0) d s = (0 : Int) from (by unfold mX_tell; grind), if_pos rfl, hT1.1, eNs]), ⟨N1, rfl, (by unfold mP; rw [show mX_tell (mV N 0) d s = (0 : Int) from (by unfold mX_tell; grind), if_pos rfl, ← hNs, ← eNs]; exact hT1)⟩⟩
      · refine z_iconst X dX4_tell_39 ?_
        refine z_goto X 44 dX4_tell_40 (by decide) ?_
        refine z_callVI1 X (c_X4_holds hJ σ ⟨by decide, by decide⟩) kX4_90 rfl (by decide) rfl ⟨(Nat.le_of_ble_eq_true rfl), (Nat.le_of_ble_eq_true rfl)⟩ (Nat.le_of_ble_eq_true rfl) ⟨Nat.zero_le _, Nat.zero_le _⟩ dX4_tell_44 (fun z9 σ1 hz9 => ?_)
        obtain ⟨rfl, rfl⟩ := hz9
        refine z_ifb_ne X 52 dX4_tell_47 (by decide) (fun h9 => absurd h9 (by decide)) (fun _ => ?_)
        refine z_iconst X dX4_tell_50 ?_
        exact z_iret X hsz hr hlocks dX4_tell_51 ⟨(by rw [show mX_tell (mV N 0) d s = (2 : Int) from (by unfold mX_tell; grind)]; rfl), ⟨_, rfl, (by unfold mP; rw [show mX_tell (mV N 0) d s = (2 : Int) from (by unfold mX_tell; grind), if_neg (by decide)])⟩⟩

set_option maxHeartbeats 4000000 in
set_option maxRecDepth 100000 in
theorem c_X4_ask {l : Launch} {D : va_G} {G : zG} {ad : Nat → Nat} (hJ : zInj ad) (σ : zM) {N : Nat → Nat → Int}  {d : Int} (hd : zB d) {s : Int} (hs : zB s) {o : Int} (ho : zB o) (ok : rOk (mV N 0)) (bd : Bud (mV N 0)) (pk : pOk (mV N 0)) (h6 : 0 ≤ N 0 2 ∧ N 0 2 ≤ 6) : zKI l D G ad yX4_ask cX4_ask 5 (some .int) 5 [.ref (ad 5), vI d, vI s, vI o] (zBk σ 5 3 N) (fun z σ9 => z = (if mX_ask (mV N 0) d s o = 0 then cSt (aAsk (mV N 0) d s o) d s else 0) ∧ ∃ N9, σ9 = zBk σ 5 3 N9 ∧ mP N N9 (mX_ask (mV N 0) d s o) (aAsk (mV N 0) d s o)) := by
  intro sz
  refine z_open hJ (by decide +kernel) (Nat.le_of_ble_eq_true rfl) ?_
  intro p e s0 m args below meth c hsz X hr hlocks
  have hn := rk_n ok
  refine z_sub [(0, .ref (ad 5)), (1, vI d), (2, vI s), (3, vI o)] (zSub_cons rfl (zSub_cons rfl (zSub_cons rfl (zSub_cons rfl zSub_nil)))) ?_
  refine z_aload_n X dX4_ask_0 rfl ?_
  refine z_iload_n X dX4_ask_1 rfl ?_
  refine z_callVI1 X (c_X4_isDeal hJ σ hd ok) kX4_96 rfl (by decide) rfl ⟨(Nat.le_of_ble_eq_true rfl), (Nat.le_of_ble_eq_true rfl)⟩ (Nat.le_of_ble_eq_true rfl) ⟨Nat.zero_le _, Nat.zero_le _⟩ dX4_ask_2 (fun z9 σ1 hz9 => ?_)
  obtain ⟨rfl, rfl⟩ := hz9
  refine z_ifb_eq X 26 dX4_ask_5 (by decide) (fun c_2 => ?_) (fun c_2 => ?_)
  · refine z_iconst X dX4_ask_26 ?_
    refine z_istore X dX4_ask_27 (by decide) ?_
    refine z_sub [(0, .ref (ad 5)), (1, vI d), (2, vI s), (3, vI o), (4, vI 0)] (zSub_cons rfl (zSub_cons rfl (zSub_cons rfl (zSub_cons rfl (zSub_cons rfl zSub_nil))))) ?_
    refine z_aload_n X dX4_ask_29 rfl ?_
    refine z_iload X dX4_ask_30 rfl ?_
    refine z_if_ne X 39 dX4_ask_32 (by decide) ⟨by decide, by decide⟩ (fun h9 => absurd h9 (by decide)) (fun _ => ?_)
    refine z_iconst X dX4_ask_35 ?_
    refine z_goto X 63 dX4_ask_36 (by decide) ?_
    refine z_callVI1 X (c_X4_holds hJ σ ⟨by decide, by decide⟩) kX4_90 rfl (by decide) rfl ⟨(Nat.le_of_ble_eq_true rfl), (Nat.le_of_ble_eq_true rfl)⟩ (Nat.le_of_ble_eq_true rfl) ⟨Nat.zero_le _, Nat.zero_le _⟩ dX4_ask_63 (fun z9 σ1 hz9 => ?_)
    obtain ⟨rfl, rfl⟩ := hz9
    refine z_ifb_ne X 71 dX4_ask_66 (by decide) (fun h9 => absurd h9 (by decide)) (fun _ => ?_)
    refine z_iconst X dX4_ask_69 ?_
    exact z_iret X hsz hr hlocks dX4_ask_70 ⟨(by rw [show mX_ask (mV N 0) d s o = (1 : Int) from (by unfold mX_ask; grind)]; rfl), ⟨_, rfl, (by unfold mP; rw [show mX_ask (mV N 0) d s o = (1 : Int) from (by unfold mX_ask; grind), if_neg (by decide)])⟩⟩
  · refine z_iload_n X dX4_ask_8 rfl ?_
    refine z_callSI1 X (c_X4_isSite hJ _ hs) kX4_86 ⟨(Nat.le_of_ble_eq_true rfl), (Nat.le_of_ble_eq_true rfl)⟩ (Nat.le_of_ble_eq_true rfl) ⟨Nat.zero_le _, Nat.zero_le _⟩ dX4_ask_9 (fun z9 σ1 hz9 => ?_)
    obtain ⟨rfl, rfl⟩ := hz9
    refine z_ifb_eq X 26 dX4_ask_12 (by decide) (fun c_5 => ?_) (fun c_5 => ?_)
    · refine z_iconst X dX4_ask_26 ?_
      refine z_istore X dX4_ask_27 (by decide) ?_
      refine z_sub [(0, .ref (ad 5)), (1, vI d), (2, vI s), (3, vI o), (4, vI 0)] (zSub_cons rfl (zSub_cons rfl (zSub_cons rfl (zSub_cons rfl (zSub_cons rfl zSub_nil))))) ?_
      refine z_aload_n X dX4_ask_29 rfl ?_
      refine z_iload X dX4_ask_30 rfl ?_
      refine z_if_ne X 39 dX4_ask_32 (by decide) ⟨by decide, by decide⟩ (fun h9 => absurd h9 (by decide)) (fun _ => ?_)
      refine z_iconst X dX4_ask_35 ?_
      refine z_goto X 63 dX4_ask_36 (by decide) ?_
      refine z_callVI1 X (c_X4_holds hJ σ ⟨by decide, by decide⟩) kX4_90 rfl (by decide) rfl ⟨(Nat.le_of_ble_eq_true rfl), (Nat.le_of_ble_eq_true rfl)⟩ (Nat.le_of_ble_eq_true rfl) ⟨Nat.zero_le _, Nat.zero_le _⟩ dX4_ask_63 (fun z9 σ1 hz9 => ?_)
      obtain ⟨rfl, rfl⟩ := hz9
      refine z_ifb_ne X 71 dX4_ask_66 (by decide) (fun h9 => absurd h9 (by decide)) (fun _ => ?_)
      refine z_iconst X dX4_ask_69 ?_
      exact z_iret X hsz hr hlocks dX4_ask_70 ⟨(by rw [show mX_ask (mV N 0) d s o = (1 : Int) from (by unfold mX_ask; grind)]; rfl), ⟨_, rfl, (by unfold mP; rw [show mX_ask (mV N 0) d s o = (1 : Int) from (by unfold mX_ask; grind), if_neg (by decide)])⟩⟩
    · refine z_iload_n X dX4_ask_15 rfl ?_
      refine z_callSI1 X (c_X4_isSite hJ _ ho) kX4_86 ⟨(Nat.le_of_ble_eq_true rfl), (Nat.le_of_ble_eq_true rfl)⟩ (Nat.le_of_ble_eq_true rfl) ⟨Nat.zero_le _, Nat.zero_le _⟩ dX4_ask_16 (fun z9 σ1 hz9 => ?_)
      obtain ⟨rfl, rfl⟩ := hz9
      refine z_ifb_eq X 26 dX4_ask_19 (by decide) (fun c_8 => ?_) (fun c_8 => ?_)
      · refine z_iconst X dX4_ask_26 ?_
        refine z_istore X dX4_ask_27 (by decide) ?_
        refine z_sub [(0, .ref (ad 5)), (1, vI d), (2, vI s), (3, vI o), (4, vI 0)] (zSub_cons rfl (zSub_cons rfl (zSub_cons rfl (zSub_cons rfl (zSub_cons rfl zSub_nil))))) ?_
        refine z_aload_n X dX4_ask_29 rfl ?_
        refine z_iload X dX4_ask_30 rfl ?_
        refine z_if_ne X 39 dX4_ask_32 (by decide) ⟨by decide, by decide⟩ (fun h9 => absurd h9 (by decide)) (fun _ => ?_)
        refine z_iconst X dX4_ask_35 ?_
        refine z_goto X 63 dX4_ask_36 (by decide) ?_
        refine z_callVI1 X (c_X4_holds hJ σ ⟨by decide, by decide⟩) kX4_90 rfl (by decide) rfl ⟨(Nat.le_of_ble_eq_true rfl), (Nat.le_of_ble_eq_true rfl)⟩ (Nat.le_of_ble_eq_true rfl) ⟨Nat.zero_le _, Nat.zero_le _⟩ dX4_ask_63 (fun z9 σ1 hz9 => ?_)
        obtain ⟨rfl, rfl⟩ := hz9
        refine z_ifb_ne X 71 dX4_ask_66 (by decide) (fun h9 => absurd h9 (by decide)) (fun _ => ?_)
        refine z_iconst X dX4_ask_69 ?_
        exact z_iret X hsz hr hlocks dX4_ask_70 ⟨(by rw [show mX_ask (mV N 0) d s o = (1 : Int) from (by unfold mX_ask; grind)]; rfl), ⟨_, rfl, (by unfold mP; rw [show mX_ask (mV N 0) d s o = (1 : Int) from (by unfold mX_ask; grind), if_neg (by decide)])⟩⟩
      · refine z_iconst X dX4_ask_22 ?_
        refine z_goto X 27 dX4_ask_23 (by decide) ?_
        refine z_istore X dX4_ask_27 (by decide) ?_
        refine z_sub [(0, .ref (ad 5)), (1, vI d), (2, vI s), (3, vI o), (4, vI 1)] (zSub_cons rfl (zSub_cons rfl (zSub_cons rfl (zSub_cons rfl (zSub_cons rfl zSub_nil))))) ?_
        refine z_aload_n X dX4_ask_29 rfl ?_
        refine z_iload X dX4_ask_30 rfl ?_
        refine z_if_ne X 39 dX4_ask_32 (by decide) ⟨by decide, by decide⟩ (fun _ => ?_) (fun h9 => absurd h9 (by decide))
        refine z_iload_n X dX4_ask_39 rfl ?_
        refine z_iload_n X dX4_ask_40 rfl ?_
        refine z_icmp_ne X 48 dX4_ask_41 (by decide) hs ho (fun c_10 => ?_) (fun c_10 => ?_)
        · refine z_aload_n X dX4_ask_48 rfl ?_
          refine z_iload_n X dX4_ask_49 rfl ?_
          refine z_iload_n X dX4_ask_50 rfl ?_
          refine z_iload_n X dX4_ask_51 rfl ?_
          refine z_callVI3 X (c_X4_canAsk hJ σ hd hs ho ok (by first | omega | assumption | grind) (by omega) (by omega)) kX4_115 rfl (by decide) rfl ⟨(Nat.le_of_ble_eq_true rfl), (Nat.le_of_ble_eq_true rfl)⟩ (Nat.le_of_ble_eq_true rfl) ⟨Nat.zero_le _, Nat.zero_le _⟩ dX4_ask_52 (fun z9 σ1 hz9 => ?_)
          obtain ⟨rfl, rfl⟩ := hz9
          refine z_ifb_ne X 62 dX4_ask_55 (by decide) (fun c_12 => ?_) (fun c_12 => ?_)
          · refine z_iconst X dX4_ask_62 ?_
            refine z_callVI1 X (c_X4_holds hJ σ ⟨by decide, by decide⟩) kX4_90 rfl (by decide) rfl ⟨(Nat.le_of_ble_eq_true rfl), (Nat.le_of_ble_eq_true rfl)⟩ (Nat.le_of_ble_eq_true rfl) ⟨Nat.zero_le _, Nat.zero_le _⟩ dX4_ask_63 (fun z9 σ1 hz9 => ?_)
            obtain ⟨rfl, rfl⟩ := hz9
            refine z_ifb_ne X 71 dX4_ask_66 (by decide) (fun _ => ?_) (fun h9 => absurd rfl h9)
            refine z_aload_n X dX4_ask_71 rfl ?_
            refine z_callVV0 X (c_X4_save hJ σ (by first | omega | assumption | grind)) kX4_93 rfl (by decide) rfl ⟨(Nat.le_of_ble_eq_true rfl), (Nat.le_of_ble_eq_true rfl)⟩ (Nat.le_of_ble_eq_true rfl) ⟨Nat.zero_le _, Nat.zero_le _⟩ dX4_ask_72 (fun σ1 hz9 => ?_)
            obtain rfl := hz9
            obtain ⟨Ns, hNs⟩ : ∃ Ns, Ns = mSave (up2 N 0 0 0) := ⟨_, rfl⟩
            rw [← hNs]
            have eNs : mV Ns 0 = mV N 0 := by rw [hNs, mV_save0 (N := up2 N 0 0 0) h6, mV_r0]
            have oks : rOk (mV Ns 0) := by rw [eNs]; exact ok
            have bds : Bud (mV Ns 0) := by rw [eNs]; exact bd
            have pks : pOk (mV Ns 0) := by rw [eNs]; exact pk
            have hns : mV Ns 0 0 0 = mV N 0 0 0 := by rw [eNs]
            refine z_aload_n X dX4_ask_75 rfl ?_
            refine z_iconst X dX4_ask_76 ?_
            refine z_iload_n X dX4_ask_77 rfl ?_
            refine z_iload_n X dX4_ask_78 rfl ?_
            refine z_iload_n X dX4_ask_79 rfl ?_
            refine z_callVV4 X (c_X4_asks hJ σ ⟨by decide, by decide⟩ hd hs ho (by omega) oks bds (by first | omega | assumption | grind) (by omega) (by omega) (by omega) (by first | omega | assumption | grind)) kX4_62 rfl (by decide) rfl ⟨(Nat.le_of_ble_eq_true rfl), (Nat.le_of_ble_eq_true rfl)⟩ (Nat.le_of_ble_eq_true rfl) ⟨Nat.zero_le _, Nat.zero_le _⟩ dX4_ask_80 (fun σ1 hz9 => ?_)
            obtain ⟨N1, rfl, hT1⟩ := hz9
            have hnN1 : mV N1 0 0 0 = mV Ns 0 0 0 := by rw [hT1.1]; exact n_aAsk _ _ _ _ 0 (by decide)
            have okN1 : rOk (mV N1 0) := (by rw [hT1.1]; exact rk_aAsk oks (by first | omega | grind) (by first | omega | grind))
            have bdN1 : Bud (mV N1 0) := (by rw [hT1.1]; exact bd_aAsk oks bds (by first | omega | grind) (by first | omega | grind))
            refine z_aload_n X dX4_ask_83 rfl ?_
            refine z_iconst X dX4_ask_84 ?_
            refine z_iload_n X dX4_ask_85 rfl ?_
            refine z_iload_n X dX4_ask_86 rfl ?_
            refine z_callVI3 X (c_X4_stateOf hJ σ ⟨by decide, by decide⟩ hd hs (by omega) okN1 (by first | omega | assumption | grind) (by omega)) kX4_35 rfl (by decide) rfl ⟨(Nat.le_of_ble_eq_true rfl), (Nat.le_of_ble_eq_true rfl)⟩ (Nat.le_of_ble_eq_true rfl) ⟨Nat.zero_le _, Nat.zero_le _⟩ dX4_ask_87 (fun z9 σ1 hz9 => ?_)
            obtain ⟨rfl, rfl⟩ := hz9
            exact z_iret X hsz hr hlocks dX4_ask_90 ⟨(by rw [show mX_ask (mV N 0) d s o = (0 : Int) from (by unfold mX_ask; grind), if_pos rfl, hT1.1, eNs]), ⟨N1, rfl, (by unfold mP; rw [show mX_ask (mV N 0) d s o = (0 : Int) from (by unfold mX_ask; grind), if_pos rfl, ← hNs, ← eNs]; exact hT1)⟩⟩
          · refine z_iconst X dX4_ask_58 ?_
            refine z_goto X 63 dX4_ask_59 (by decide) ?_
            refine z_callVI1 X (c_X4_holds hJ σ ⟨by decide, by decide⟩) kX4_90 rfl (by decide) rfl ⟨(Nat.le_of_ble_eq_true rfl), (Nat.le_of_ble_eq_true rfl)⟩ (Nat.le_of_ble_eq_true rfl) ⟨Nat.zero_le _, Nat.zero_le _⟩ dX4_ask_63 (fun z9 σ1 hz9 => ?_)
            obtain ⟨rfl, rfl⟩ := hz9
            refine z_ifb_ne X 71 dX4_ask_66 (by decide) (fun h9 => absurd h9 (by decide)) (fun _ => ?_)
            refine z_iconst X dX4_ask_69 ?_
            exact z_iret X hsz hr hlocks dX4_ask_70 ⟨(by rw [show mX_ask (mV N 0) d s o = (3 : Int) from (by unfold mX_ask; grind)]; rfl), ⟨_, rfl, (by unfold mP; rw [show mX_ask (mV N 0) d s o = (3 : Int) from (by unfold mX_ask; grind), if_neg (by decide)])⟩⟩
        · refine z_iconst X dX4_ask_44 ?_
          refine z_goto X 63 dX4_ask_45 (by decide) ?_
          refine z_callVI1 X (c_X4_holds hJ σ ⟨by decide, by decide⟩) kX4_90 rfl (by decide) rfl ⟨(Nat.le_of_ble_eq_true rfl), (Nat.le_of_ble_eq_true rfl)⟩ (Nat.le_of_ble_eq_true rfl) ⟨Nat.zero_le _, Nat.zero_le _⟩ dX4_ask_63 (fun z9 σ1 hz9 => ?_)
          obtain ⟨rfl, rfl⟩ := hz9
          refine z_ifb_ne X 71 dX4_ask_66 (by decide) (fun h9 => absurd h9 (by decide)) (fun _ => ?_)
          refine z_iconst X dX4_ask_69 ?_
          exact z_iret X hsz hr hlocks dX4_ask_70 ⟨(by rw [show mX_ask (mV N 0) d s o = (2 : Int) from (by unfold mX_ask; grind)]; rfl), ⟨_, rfl, (by unfold mP; rw [show mX_ask (mV N 0) d s o = (2 : Int) from (by unfold mX_ask; grind), if_neg (by decide)])⟩⟩

set_option maxHeartbeats 4000000 in
set_option maxRecDepth 100000 in
theorem c_X4_comeBack {l : Launch} {D : va_G} {G : zG} {ad : Nat → Nat} (hJ : zInj ad) (σ : zM) {N : Nat → Nat → Int}  {s : Int} (hs : zB s) (ok : rOk (mV N 0)) (bd : Bud (mV N 0)) (pk : pOk (mV N 0)) (h6 : 0 ≤ N 0 2 ∧ N 0 2 ≤ 6) : zKI l D G ad yX4_comeBack cX4_comeBack 3 (some .int) 4 [.ref (ad 5), vI s] (zBk σ 5 3 N) (fun z σ9 => z = (if mX_comeBack (mV N 0) s = 0 then aWkN (mV N 0) s 6 s.toNat - (mV N 0) 6 s.toNat else 0) ∧ ∃ N9, σ9 = zBk σ 5 3 N9 ∧ mP N N9 (mX_comeBack (mV N 0) s) (aWkN (mV N 0) s)) := by
  intro sz
  refine z_open hJ (by decide +kernel) (Nat.le_of_ble_eq_true rfl) ?_
  intro p e s0 m args below meth c hsz X hr hlocks
  have hn := rk_n ok
  refine z_sub [(0, .ref (ad 5)), (1, vI s)] (zSub_cons rfl (zSub_cons rfl zSub_nil)) ?_
  refine z_iload_n X dX4_comeBack_0 rfl ?_
  refine z_callSI1 X (c_X4_isSite hJ _ hs) kX4_86 ⟨(Nat.le_of_ble_eq_true rfl), (Nat.le_of_ble_eq_true rfl)⟩ (Nat.le_of_ble_eq_true rfl) ⟨Nat.zero_le _, Nat.zero_le _⟩ dX4_comeBack_1 (fun z9 σ1 hz9 => ?_)
  obtain ⟨rfl, rfl⟩ := hz9
  refine z_istore_n X dX4_comeBack_4 (by decide) ?_
  refine z_sub [(0, .ref (ad 5)), (1, vI s), (2, vI (if 0 ≤ s ∧ s ≤ 5 then 1 else 0))] (zSub_cons rfl (zSub_cons rfl (zSub_cons rfl zSub_nil))) ?_
  refine z_aload_n X dX4_comeBack_5 rfl ?_
  refine z_iload_n X dX4_comeBack_6 rfl ?_
  refine z_ifb_ne X 14 dX4_comeBack_7 (by decide) (fun c_2 => ?_) (fun c_2 => ?_)
  · refine z_aload_n X dX4_comeBack_14 rfl ?_
    refine z_iconst X dX4_comeBack_15 ?_
    refine z_iload_n X dX4_comeBack_16 rfl ?_
    refine z_callVI2 X (c_X4_isUpNow hJ σ ⟨by decide, by decide⟩ hs (by omega) (by omega)) kX4_58 rfl (by decide) rfl ⟨(Nat.le_of_ble_eq_true rfl), (Nat.le_of_ble_eq_true rfl)⟩ (Nat.le_of_ble_eq_true rfl) ⟨Nat.zero_le _, Nat.zero_le _⟩ dX4_comeBack_17 (fun z9 σ1 hz9 => ?_)
    obtain ⟨rfl, rfl⟩ := hz9
    refine z_ifb_eq X 27 dX4_comeBack_20 (by decide) (fun c_4 => ?_) (fun c_4 => ?_)
    · refine z_iconst X dX4_comeBack_27 ?_
      refine z_callVI1 X (c_X4_holds hJ σ ⟨by decide, by decide⟩) kX4_90 rfl (by decide) rfl ⟨(Nat.le_of_ble_eq_true rfl), (Nat.le_of_ble_eq_true rfl)⟩ (Nat.le_of_ble_eq_true rfl) ⟨Nat.zero_le _, Nat.zero_le _⟩ dX4_comeBack_28 (fun z9 σ1 hz9 => ?_)
      obtain ⟨rfl, rfl⟩ := hz9
      refine z_ifb_ne X 36 dX4_comeBack_31 (by decide) (fun _ => ?_) (fun h9 => absurd rfl h9)
      refine z_aload_n X dX4_comeBack_36 rfl ?_
      refine z_callVV0 X (c_X4_save hJ σ (by first | omega | assumption | grind)) kX4_93 rfl (by decide) rfl ⟨(Nat.le_of_ble_eq_true rfl), (Nat.le_of_ble_eq_true rfl)⟩ (Nat.le_of_ble_eq_true rfl) ⟨Nat.zero_le _, Nat.zero_le _⟩ dX4_comeBack_37 (fun σ1 hz9 => ?_)
      obtain rfl := hz9
      obtain ⟨Ns, hNs⟩ : ∃ Ns, Ns = mSave (up2 N 0 0 0) := ⟨_, rfl⟩
      rw [← hNs]
      have eNs : mV Ns 0 = mV N 0 := by rw [hNs, mV_save0 (N := up2 N 0 0 0) h6, mV_r0]
      have oks : rOk (mV Ns 0) := by rw [eNs]; exact ok
      have bds : Bud (mV Ns 0) := by rw [eNs]; exact bd
      have pks : pOk (mV Ns 0) := by rw [eNs]; exact pk
      have hns : mV Ns 0 0 0 = mV N 0 0 0 := by rw [eNs]
      refine z_aload_n X dX4_comeBack_40 rfl ?_
      refine z_iload_n X dX4_comeBack_41 rfl ?_
      refine z_callVI1 X (c_X4_comes hJ σ hs oks bds (by omega)) kX4_121 rfl (by decide) rfl ⟨(Nat.le_of_ble_eq_true rfl), (Nat.le_of_ble_eq_true rfl)⟩ (Nat.le_of_ble_eq_true rfl) ⟨Nat.zero_le _, Nat.zero_le _⟩ dX4_comeBack_42 (fun z9 σ1 hz9 => ?_)
      obtain ⟨rfl, N1, rfl, hT1⟩ := hz9
      exact z_iret X hsz hr hlocks dX4_comeBack_45 ⟨(by rw [show mX_comeBack (mV N 0) s = (0 : Int) from (by unfold mX_comeBack; grind), if_pos rfl, eNs]), ⟨N1, rfl, (by unfold mP; rw [show mX_comeBack (mV N 0) s = (0 : Int) from (by unfold mX_comeBack; grind), if_pos rfl, ← hNs, ← eNs]; exact hT1)⟩⟩
    · refine z_iconst X dX4_comeBack_23 ?_
      refine z_goto X 28 dX4_comeBack_24 (by decide) ?_
      refine z_callVI1 X (c_X4_holds hJ σ ⟨by decide, by decide⟩) kX4_90 rfl (by decide) rfl ⟨(Nat.le_of_ble_eq_true rfl), (Nat.le_of_ble_eq_true rfl)⟩ (Nat.le_of_ble_eq_true rfl) ⟨Nat.zero_le _, Nat.zero_le _⟩ dX4_comeBack_28 (fun z9 σ1 hz9 => ?_)
      obtain ⟨rfl, rfl⟩ := hz9
      refine z_ifb_ne X 36 dX4_comeBack_31 (by decide) (fun h9 => absurd h9 (by decide)) (fun _ => ?_)
      refine z_iconst X dX4_comeBack_34 ?_
      exact z_iret X hsz hr hlocks dX4_comeBack_35 ⟨(by rw [show mX_comeBack (mV N 0) s = (2 : Int) from (by unfold mX_comeBack; grind)]; rfl), ⟨_, rfl, (by unfold mP; rw [show mX_comeBack (mV N 0) s = (2 : Int) from (by unfold mX_comeBack; grind), if_neg (by decide)])⟩⟩
  · refine z_iconst X dX4_comeBack_10 ?_
    refine z_goto X 28 dX4_comeBack_11 (by decide) ?_
    refine z_callVI1 X (c_X4_holds hJ σ ⟨by decide, by decide⟩) kX4_90 rfl (by decide) rfl ⟨(Nat.le_of_ble_eq_true rfl), (Nat.le_of_ble_eq_true rfl)⟩ (Nat.le_of_ble_eq_true rfl) ⟨Nat.zero_le _, Nat.zero_le _⟩ dX4_comeBack_28 (fun z9 σ1 hz9 => ?_)
    obtain ⟨rfl, rfl⟩ := hz9
    refine z_ifb_ne X 36 dX4_comeBack_31 (by decide) (fun h9 => absurd h9 (by decide)) (fun _ => ?_)
    refine z_iconst X dX4_comeBack_34 ?_
    exact z_iret X hsz hr hlocks dX4_comeBack_35 ⟨(by rw [show mX_comeBack (mV N 0) s = (1 : Int) from (by unfold mX_comeBack; grind)]; rfl), ⟨_, rfl, (by unfold mP; rw [show mX_comeBack (mV N 0) s = (1 : Int) from (by unfold mX_comeBack; grind), if_neg (by decide)])⟩⟩

set_option maxHeartbeats 4000000 in
set_option maxRecDepth 100000 in
theorem c_X4_pass {l : Launch} {D : va_G} {G : zG} {ad : Nat → Nat} (hJ : zInj ad) (σ : zM) {N : Nat → Nat → Int}  {t : Int} (ht : zB t) (ok : rOk (mV N 0)) (bd : Bud (mV N 0)) (pk : pOk (mV N 0)) (h6 : 0 ≤ N 0 2 ∧ N 0 2 ≤ 6) : zKI l D G ad yX4_pass cX4_pass 2 (some .int) 8 [.ref (ad 5), vI t] (zBk σ 5 3 N) (fun z σ9 => z = (if mX_pass (mV N 0) t = 0 then mEnded (aPassL (mV N 0) t.toNat) - mEnded (mV N 0) else 0) ∧ ∃ N9, σ9 = zBk σ 5 3 N9 ∧ mP N N9 (mX_pass (mV N 0) t) (aPassL (mV N 0) t.toNat)) := by
  intro sz
  refine z_open hJ (by decide +kernel) (Nat.le_of_ble_eq_true rfl) ?_
  intro p e s0 m args below meth c hsz X hr hlocks
  have hn := rk_n ok
  refine z_sub [(0, .ref (ad 5)), (1, vI t)] (zSub_cons rfl (zSub_cons rfl zSub_nil)) ?_
  refine z_aload_n X dX4_pass_0 rfl ?_
  refine z_iload_n X dX4_pass_1 rfl ?_
  refine z_iconst X dX4_pass_2 ?_
  refine z_bipush X dX4_pass_3 rfl ?_
  refine z_callSI3 X (c_X4_in hJ _ ht ⟨by decide, by decide⟩ ⟨by decide, by decide⟩) kX4_20 ⟨(Nat.le_of_ble_eq_true rfl), (Nat.le_of_ble_eq_true rfl)⟩ (Nat.le_of_ble_eq_true rfl) ⟨Nat.zero_le _, Nat.zero_le _⟩ dX4_pass_5 (fun z9 σ1 hz9 => ?_)
  obtain ⟨rfl, rfl⟩ := hz9
  refine z_ifb_eq X 15 dX4_pass_8 (by decide) (fun c_2 => ?_) (fun c_2 => ?_)
  · refine z_iconst X dX4_pass_15 ?_
    refine z_callVI1 X (c_X4_holds hJ σ ⟨by decide, by decide⟩) kX4_90 rfl (by decide) rfl ⟨(Nat.le_of_ble_eq_true rfl), (Nat.le_of_ble_eq_true rfl)⟩ (Nat.le_of_ble_eq_true rfl) ⟨Nat.zero_le _, Nat.zero_le _⟩ dX4_pass_16 (fun z9 σ1 hz9 => ?_)
    obtain ⟨rfl, rfl⟩ := hz9
    refine z_ifb_ne X 24 dX4_pass_19 (by decide) (fun h9 => absurd h9 (by decide)) (fun _ => ?_)
    refine z_iconst X dX4_pass_22 ?_
    exact z_iret X hsz hr hlocks dX4_pass_23 ⟨(by rw [show mX_pass (mV N 0) t = (1 : Int) from (by unfold mX_pass; grind)]; rfl), ⟨_, rfl, (by unfold mP; rw [show mX_pass (mV N 0) t = (1 : Int) from (by unfold mX_pass; grind), if_neg (by decide)])⟩⟩
  · refine z_iconst X dX4_pass_11 ?_
    refine z_goto X 16 dX4_pass_12 (by decide) ?_
    refine z_callVI1 X (c_X4_holds hJ σ ⟨by decide, by decide⟩) kX4_90 rfl (by decide) rfl ⟨(Nat.le_of_ble_eq_true rfl), (Nat.le_of_ble_eq_true rfl)⟩ (Nat.le_of_ble_eq_true rfl) ⟨Nat.zero_le _, Nat.zero_le _⟩ dX4_pass_16 (fun z9 σ1 hz9 => ?_)
    obtain ⟨rfl, rfl⟩ := hz9
    refine z_ifb_ne X 24 dX4_pass_19 (by decide) (fun _ => ?_) (fun h9 => absurd rfl h9)
    refine z_aload_n X dX4_pass_24 rfl ?_
    refine z_callVV0 X (c_X4_save hJ σ (by first | omega | assumption | grind)) kX4_93 rfl (by decide) rfl ⟨(Nat.le_of_ble_eq_true rfl), (Nat.le_of_ble_eq_true rfl)⟩ (Nat.le_of_ble_eq_true rfl) ⟨Nat.zero_le _, Nat.zero_le _⟩ dX4_pass_25 (fun σ1 hz9 => ?_)
    obtain rfl := hz9
    obtain ⟨Ns, hNs⟩ : ∃ Ns, Ns = mSave (up2 N 0 0 0) := ⟨_, rfl⟩
    rw [← hNs]
    have eNs : mV Ns 0 = mV N 0 := by rw [hNs, mV_save0 (N := up2 N 0 0 0) h6, mV_r0]
    have oks : rOk (mV Ns 0) := by rw [eNs]; exact ok
    have bds : Bud (mV Ns 0) := by rw [eNs]; exact bd
    have pks : pOk (mV Ns 0) := by rw [eNs]; exact pk
    have hns : mV Ns 0 0 0 = mV N 0 0 0 := by rw [eNs]
    refine z_aload_n X dX4_pass_28 rfl ?_
    refine z_iload_n X dX4_pass_29 rfl ?_
    refine z_callVI1 X (c_X4_passes hJ σ ht oks bds pks (by omega)) kX4_124 rfl (by decide) rfl ⟨(Nat.le_of_ble_eq_true rfl), (Nat.le_of_ble_eq_true rfl)⟩ (Nat.le_of_ble_eq_true rfl) ⟨Nat.zero_le _, Nat.zero_le _⟩ dX4_pass_30 (fun z9 σ1 hz9 => ?_)
    obtain ⟨rfl, N1, rfl, hT1⟩ := hz9
    exact z_iret X hsz hr hlocks dX4_pass_33 ⟨(by rw [show mX_pass (mV N 0) t = (0 : Int) from (by unfold mX_pass; grind), if_pos rfl, eNs]), ⟨N1, rfl, (by unfold mP; rw [show mX_pass (mV N 0) t = (0 : Int) from (by unfold mX_pass; grind), if_pos rfl, ← hNs, ← eNs]; exact hT1)⟩⟩

set_option maxHeartbeats 4000000 in
set_option maxRecDepth 100000 in
theorem c_X4_fallSilent {l : Launch} {D : va_G} {G : zG} {ad : Nat → Nat} (hJ : zInj ad) (σ : zM) {N : Nat → Nat → Int}  {s : Int} (hs : zB s) (ok : rOk (mV N 0)) (bd : Bud (mV N 0)) (pk : pOk (mV N 0)) (h6 : 0 ≤ N 0 2 ∧ N 0 2 ≤ 6) : zKI l D G ad yX4_fallSilent cX4_fallSilent 3 (some .int) 4 [.ref (ad 5), vI s] (zBk σ 5 3 N) (fun z σ9 => z = (if mX_fallSilent (mV N 0) s = 0 then cDoubts (cSil (mV N 0) s) s else 0) ∧ ∃ N9, σ9 = zBk σ 5 3 N9 ∧ mP N N9 (mX_fallSilent (mV N 0) s) (cSil (mV N 0) s)) := by
  intro sz
  refine z_open hJ (by decide +kernel) (Nat.le_of_ble_eq_true rfl) ?_
  intro p e s0 m args below meth c hsz X hr hlocks
  have hn := rk_n ok
  refine z_sub [(0, .ref (ad 5)), (1, vI s)] (zSub_cons rfl (zSub_cons rfl zSub_nil)) ?_
  refine z_iload_n X dX4_fallSilent_0 rfl ?_
  refine z_callSI1 X (c_X4_isSite hJ _ hs) kX4_86 ⟨(Nat.le_of_ble_eq_true rfl), (Nat.le_of_ble_eq_true rfl)⟩ (Nat.le_of_ble_eq_true rfl) ⟨Nat.zero_le _, Nat.zero_le _⟩ dX4_fallSilent_1 (fun z9 σ1 hz9 => ?_)
  obtain ⟨rfl, rfl⟩ := hz9
  refine z_istore_n X dX4_fallSilent_4 (by decide) ?_
  refine z_sub [(0, .ref (ad 5)), (1, vI s), (2, vI (if 0 ≤ s ∧ s ≤ 5 then 1 else 0))] (zSub_cons rfl (zSub_cons rfl (zSub_cons rfl zSub_nil))) ?_
  refine z_aload_n X dX4_fallSilent_5 rfl ?_
  refine z_iload_n X dX4_fallSilent_6 rfl ?_
  refine z_ifb_ne X 14 dX4_fallSilent_7 (by decide) (fun c_2 => ?_) (fun c_2 => ?_)
  · refine z_aload_n X dX4_fallSilent_14 rfl ?_
    refine z_iconst X dX4_fallSilent_15 ?_
    refine z_iload_n X dX4_fallSilent_16 rfl ?_
    refine z_callVI2 X (c_X4_isUpNow hJ σ ⟨by decide, by decide⟩ hs (by omega) (by omega)) kX4_58 rfl (by decide) rfl ⟨(Nat.le_of_ble_eq_true rfl), (Nat.le_of_ble_eq_true rfl)⟩ (Nat.le_of_ble_eq_true rfl) ⟨Nat.zero_le _, Nat.zero_le _⟩ dX4_fallSilent_17 (fun z9 σ1 hz9 => ?_)
    obtain ⟨rfl, rfl⟩ := hz9
    refine z_ifb_ne X 27 dX4_fallSilent_20 (by decide) (fun c_4 => ?_) (fun c_4 => ?_)
    · refine z_iconst X dX4_fallSilent_27 ?_
      refine z_callVI1 X (c_X4_holds hJ σ ⟨by decide, by decide⟩) kX4_90 rfl (by decide) rfl ⟨(Nat.le_of_ble_eq_true rfl), (Nat.le_of_ble_eq_true rfl)⟩ (Nat.le_of_ble_eq_true rfl) ⟨Nat.zero_le _, Nat.zero_le _⟩ dX4_fallSilent_28 (fun z9 σ1 hz9 => ?_)
      obtain ⟨rfl, rfl⟩ := hz9
      refine z_ifb_ne X 36 dX4_fallSilent_31 (by decide) (fun _ => ?_) (fun h9 => absurd rfl h9)
      refine z_aload_n X dX4_fallSilent_36 rfl ?_
      refine z_callVV0 X (c_X4_save hJ σ (by first | omega | assumption | grind)) kX4_93 rfl (by decide) rfl ⟨(Nat.le_of_ble_eq_true rfl), (Nat.le_of_ble_eq_true rfl)⟩ (Nat.le_of_ble_eq_true rfl) ⟨Nat.zero_le _, Nat.zero_le _⟩ dX4_fallSilent_37 (fun σ1 hz9 => ?_)
      obtain rfl := hz9
      obtain ⟨Ns, hNs⟩ : ∃ Ns, Ns = mSave (up2 N 0 0 0) := ⟨_, rfl⟩
      rw [← hNs]
      have eNs : mV Ns 0 = mV N 0 := by rw [hNs, mV_save0 (N := up2 N 0 0 0) h6, mV_r0]
      have oks : rOk (mV Ns 0) := by rw [eNs]; exact ok
      have bds : Bud (mV Ns 0) := by rw [eNs]; exact bd
      have pks : pOk (mV Ns 0) := by rw [eNs]; exact pk
      have hns : mV Ns 0 0 0 = mV N 0 0 0 := by rw [eNs]
      refine z_aload_n X dX4_fallSilent_40 rfl ?_
      refine y_gMod1 X fX4_7 dX4_fallSilent_41 ?_
      refine z_iconst X dX4_fallSilent_44 ?_
      refine z_dup2 X dX4_fallSilent_45 rfl rfl ?_
      refine y_iald X 1 (zArr_6) (by decide) (by omega) (by omega) (by decide) dX4_fallSilent_46 ?_
      refine z_iconst X dX4_fallSilent_47 ?_
      refine z_iload_n X dX4_fallSilent_48 rfl ?_
      refine z_shl X dX4_fallSilent_49 (zShl_eq 1 s) ?_
      refine z_iconst X dX4_fallSilent_50 ?_
      refine z_xor X dX4_fallSilent_51 (zXor_eq (zShl 1 s) (-1)) ?_
      refine z_and X dX4_fallSilent_52 (zAnd_eq (Ns 1 (0 : Int).toNat) (zXor (zShl 1 s) (-1))) ?_
      refine y_iast X 1 (zArr_6) (by decide) (by omega) (by omega) (by decide) dX4_fallSilent_53 ?_
      obtain ⟨Nw, hNw⟩ : ∃ Nw, Nw = (up2 Ns 1 (0 : Int).toNat (zAnd (Ns 1 (0 : Int).toNat) (zXor (zShl 1 s) (-1)))) := ⟨_, rfl⟩
      rw [← hNw]
      have hTw : mTo Ns Nw 0 (cSil (mV Ns 0) s) := by rw [hNw]; exact ml_sil s
      have okw : rOk (mV Nw 0) := by rw [hTw.1]; exact rk_up oks _
      refine z_aload_n X dX4_fallSilent_54 rfl ?_
      refine z_iload_n X dX4_fallSilent_55 rfl ?_
      refine z_callVI1 X (c_X4_inDoubt hJ σ hs okw (by omega)) kX4_118 rfl (by decide) rfl ⟨(Nat.le_of_ble_eq_true rfl), (Nat.le_of_ble_eq_true rfl)⟩ (Nat.le_of_ble_eq_true rfl) ⟨Nat.zero_le _, Nat.zero_le _⟩ dX4_fallSilent_56 (fun z9 σ1 hz9 => ?_)
      obtain ⟨rfl, rfl⟩ := hz9
      exact z_iret X hsz hr hlocks dX4_fallSilent_59 ⟨(by rw [show mX_fallSilent (mV N 0) s = (0 : Int) from (by unfold mX_fallSilent; grind), if_pos rfl, hTw.1, eNs]), ⟨Nw, rfl, (by unfold mP; rw [show mX_fallSilent (mV N 0) s = (0 : Int) from (by unfold mX_fallSilent; grind), if_pos rfl, ← hNs, ← eNs]; exact hTw)⟩⟩
    · refine z_iconst X dX4_fallSilent_23 ?_
      refine z_goto X 28 dX4_fallSilent_24 (by decide) ?_
      refine z_callVI1 X (c_X4_holds hJ σ ⟨by decide, by decide⟩) kX4_90 rfl (by decide) rfl ⟨(Nat.le_of_ble_eq_true rfl), (Nat.le_of_ble_eq_true rfl)⟩ (Nat.le_of_ble_eq_true rfl) ⟨Nat.zero_le _, Nat.zero_le _⟩ dX4_fallSilent_28 (fun z9 σ1 hz9 => ?_)
      obtain ⟨rfl, rfl⟩ := hz9
      refine z_ifb_ne X 36 dX4_fallSilent_31 (by decide) (fun h9 => absurd h9 (by decide)) (fun _ => ?_)
      refine z_iconst X dX4_fallSilent_34 ?_
      exact z_iret X hsz hr hlocks dX4_fallSilent_35 ⟨(by rw [show mX_fallSilent (mV N 0) s = (2 : Int) from (by unfold mX_fallSilent; grind)]; rfl), ⟨_, rfl, (by unfold mP; rw [show mX_fallSilent (mV N 0) s = (2 : Int) from (by unfold mX_fallSilent; grind), if_neg (by decide)])⟩⟩
  · refine z_iconst X dX4_fallSilent_10 ?_
    refine z_goto X 28 dX4_fallSilent_11 (by decide) ?_
    refine z_callVI1 X (c_X4_holds hJ σ ⟨by decide, by decide⟩) kX4_90 rfl (by decide) rfl ⟨(Nat.le_of_ble_eq_true rfl), (Nat.le_of_ble_eq_true rfl)⟩ (Nat.le_of_ble_eq_true rfl) ⟨Nat.zero_le _, Nat.zero_le _⟩ dX4_fallSilent_28 (fun z9 σ1 hz9 => ?_)
    obtain ⟨rfl, rfl⟩ := hz9
    refine z_ifb_ne X 36 dX4_fallSilent_31 (by decide) (fun h9 => absurd h9 (by decide)) (fun _ => ?_)
    refine z_iconst X dX4_fallSilent_34 ?_
    exact z_iret X hsz hr hlocks dX4_fallSilent_35 ⟨(by rw [show mX_fallSilent (mV N 0) s = (1 : Int) from (by unfold mX_fallSilent; grind)]; rfl), ⟨_, rfl, (by unfold mP; rw [show mX_fallSilent (mV N 0) s = (1 : Int) from (by unfold mX_fallSilent; grind), if_neg (by decide)])⟩⟩

set_option maxHeartbeats 4000000 in
set_option maxRecDepth 100000 in
theorem c_X4_setPatience {l : Launch} {D : va_G} {G : zG} {ad : Nat → Nat} (hJ : zInj ad) (σ : zM) {N : Nat → Nat → Int}  {pt : Int} (hpt : zB pt) (ok : rOk (mV N 0)) (bd : Bud (mV N 0)) (pk : pOk (mV N 0)) (h6 : 0 ≤ N 0 2 ∧ N 0 2 ≤ 6) : zKI l D G ad yX4_setPatience cX4_setPatience 3 (some .int) 2 [.ref (ad 5), vI pt] (zBk σ 5 3 N) (fun z σ9 => z = (if mX_setPatience (mV N 0) pt = 0 then (mV N 0) 0 3 else 0) ∧ ∃ N9, σ9 = zBk σ 5 3 N9 ∧ mP N N9 (mX_setPatience (mV N 0) pt) (up2 (mV N 0) 0 3 pt)) := by
  intro sz
  refine z_open hJ (by decide +kernel) (Nat.le_of_ble_eq_true rfl) ?_
  intro p e s0 m args below meth c hsz X hr hlocks
  have hn := rk_n ok
  refine z_sub [(0, .ref (ad 5)), (1, vI pt)] (zSub_cons rfl (zSub_cons rfl zSub_nil)) ?_
  refine z_aload_n X dX4_setPatience_0 rfl ?_
  refine z_iload_n X dX4_setPatience_1 rfl ?_
  refine z_iconst X dX4_setPatience_2 ?_
  refine z_bipush X dX4_setPatience_3 rfl ?_
  refine z_callSI3 X (c_X4_in hJ _ hpt ⟨by decide, by decide⟩ ⟨by decide, by decide⟩) kX4_20 ⟨(Nat.le_of_ble_eq_true rfl), (Nat.le_of_ble_eq_true rfl)⟩ (Nat.le_of_ble_eq_true rfl) ⟨Nat.zero_le _, Nat.zero_le _⟩ dX4_setPatience_5 (fun z9 σ1 hz9 => ?_)
  obtain ⟨rfl, rfl⟩ := hz9
  refine z_ifb_eq X 15 dX4_setPatience_8 (by decide) (fun c_2 => ?_) (fun c_2 => ?_)
  · refine z_iconst X dX4_setPatience_15 ?_
    refine z_callVI1 X (c_X4_holds hJ σ ⟨by decide, by decide⟩) kX4_90 rfl (by decide) rfl ⟨(Nat.le_of_ble_eq_true rfl), (Nat.le_of_ble_eq_true rfl)⟩ (Nat.le_of_ble_eq_true rfl) ⟨Nat.zero_le _, Nat.zero_le _⟩ dX4_setPatience_16 (fun z9 σ1 hz9 => ?_)
    obtain ⟨rfl, rfl⟩ := hz9
    refine z_ifb_ne X 24 dX4_setPatience_19 (by decide) (fun h9 => absurd h9 (by decide)) (fun _ => ?_)
    refine z_iconst X dX4_setPatience_22 ?_
    exact z_iret X hsz hr hlocks dX4_setPatience_23 ⟨(by rw [show mX_setPatience (mV N 0) pt = (1 : Int) from (by unfold mX_setPatience; grind)]; rfl), ⟨_, rfl, (by unfold mP; rw [show mX_setPatience (mV N 0) pt = (1 : Int) from (by unfold mX_setPatience; grind), if_neg (by decide)])⟩⟩
  · refine z_iconst X dX4_setPatience_11 ?_
    refine z_goto X 16 dX4_setPatience_12 (by decide) ?_
    refine z_callVI1 X (c_X4_holds hJ σ ⟨by decide, by decide⟩) kX4_90 rfl (by decide) rfl ⟨(Nat.le_of_ble_eq_true rfl), (Nat.le_of_ble_eq_true rfl)⟩ (Nat.le_of_ble_eq_true rfl) ⟨Nat.zero_le _, Nat.zero_le _⟩ dX4_setPatience_16 (fun z9 σ1 hz9 => ?_)
    obtain ⟨rfl, rfl⟩ := hz9
    refine z_ifb_ne X 24 dX4_setPatience_19 (by decide) (fun _ => ?_) (fun h9 => absurd rfl h9)
    refine z_aload_n X dX4_setPatience_24 rfl ?_
    refine z_callVV0 X (c_X4_save hJ σ (by first | omega | assumption | grind)) kX4_93 rfl (by decide) rfl ⟨(Nat.le_of_ble_eq_true rfl), (Nat.le_of_ble_eq_true rfl)⟩ (Nat.le_of_ble_eq_true rfl) ⟨Nat.zero_le _, Nat.zero_le _⟩ dX4_setPatience_25 (fun σ1 hz9 => ?_)
    obtain rfl := hz9
    obtain ⟨Ns, hNs⟩ : ∃ Ns, Ns = mSave (up2 N 0 0 0) := ⟨_, rfl⟩
    rw [← hNs]
    have eNs : mV Ns 0 = mV N 0 := by rw [hNs, mV_save0 (N := up2 N 0 0 0) h6, mV_r0]
    have oks : rOk (mV Ns 0) := by rw [eNs]; exact ok
    have bds : Bud (mV Ns 0) := by rw [eNs]; exact bd
    have pks : pOk (mV Ns 0) := by rw [eNs]; exact pk
    have hns : mV Ns 0 0 0 = mV N 0 0 0 := by rw [eNs]
    refine z_aload_n X dX4_setPatience_28 rfl ?_
    refine y_gMod1 X fX4_7 dX4_setPatience_29 ?_
    refine z_iconst X dX4_setPatience_32 ?_
    refine y_iald X 1 (zArr_6) (by decide) (by omega) (by omega) (by decide) dX4_setPatience_33 ?_
    refine z_istore_n X dX4_setPatience_34 (by decide) ?_
    refine z_sub [(0, .ref (ad 5)), (1, vI pt), (2, vI (Ns 1 (2 : Int).toNat))] (zSub_cons rfl (zSub_cons rfl (zSub_cons rfl zSub_nil))) ?_
    refine z_aload_n X dX4_setPatience_35 rfl ?_
    refine y_gMod1 X fX4_7 dX4_setPatience_36 ?_
    refine z_iconst X dX4_setPatience_39 ?_
    refine z_iload_n X dX4_setPatience_40 rfl ?_
    refine y_iast X 1 (zArr_6) (by decide) (by omega) (by omega) (by decide) dX4_setPatience_41 ?_
    obtain ⟨Nw, hNw⟩ : ∃ Nw, Nw = (up2 Ns 1 (2 : Int).toNat pt) := ⟨_, rfl⟩
    rw [← hNw]
    have hTw : mTo Ns Nw 0 (up2 (mV Ns 0) 0 3 pt) := by rw [hNw]; exact ml_f3 pt
    refine z_iload_n X dX4_setPatience_42 rfl ?_
    exact z_iret X hsz hr hlocks dX4_setPatience_43 ⟨(by rw [show mX_setPatience (mV N 0) pt = (0 : Int) from (by unfold mX_setPatience; grind), if_pos rfl, ← eNs]; exact fl_f3), ⟨Nw, rfl, (by unfold mP; rw [show mX_setPatience (mV N 0) pt = (0 : Int) from (by unfold mX_setPatience; grind), if_pos rfl, ← hNs, ← eNs]; exact hTw)⟩⟩
