theorem fl_e {N : zNt} {s i : Int} (hs : 0 ≤ s ∧ s < 6) (h0 : 0 ≤ i) (h1 : i < 24) : N 1 (((132 + (25 * s)) + 1) + i).toNat = mV N 0 7 (s * 24 + i).toNat := by
  have q1 : (s * 24 + i).toNat / 24 = s.toNat := by omega
  have q2 : (s * 24 + i).toNat % 24 = i.toNat := by omega
  exact ((mV_rd (by omega) (by decide)).trans (congrArg (N 1) (by unfold mIx; simp only [q1, q2]; simp; omega))).symm
theorem fl_a {N : zNt} : N 1 (1 : Int).toNat = mV N 0 0 2 := ((mV_rd (N := N) (b := 0) (r := 0) (j := 2) (by omega) (by decide)).trans (congrArg (N 1) rfl)).symm
def mX_append (N : zNt) (x : Int) : Int := if ¬ (33 ≤ x ∧ x ≤ 126) then 1 else if N 0 4 = 60 then 2 else 0
def mAppN (N : zNt) (x : Int) : zNt := if mX_append N x = 0 then up2 (up2 (up2 N 0 0 0) 2 (N 0 4).toNat x) 0 4 (N 0 4 + 1) else up2 N 0 0 (mX_append N x)
def mUndoN (N : zNt) : zNt := if 0 < N 0 2 then up2 (mCp (up2 N 0 0 0) (N 0 2) 0) 0 2 (N 0 2 - 1) else up2 N 0 0 1
/-- a deal more: a member's state is what lies there (0), another site's is none -/
def aAddB (N : zNt) (ld mk it : Int) : zNt := up2 (up2 (up2 (up2 (up2 N 1 (N 0 0).toNat ld) 8 (N 0 0).toNat mk) 2 (N 0 0).toNat it) 3 (N 0 0).toNat 0) 0 0 (N 0 0 + 1)
def aAddN (N : zNt) (ld mk it : Int) : zNt := fun r j => if r = 4 ∧ j < 48 ∧ j / 6 = (N 0 0).toNat then (if zAnd (zShr mk (j % 6 : Nat)) 1 = 1 then N 4 j else -1) else aAddB N ld mk it r j
theorem vw_add {A : zNt} {ld mk it : Int} (hn : 0 ≤ A 0 0 ∧ A 0 0 < 8) : vw (aAddB A ld mk it) = aAddN (vw A) ld mk it := by
  funext r j
  have e00 : vw A 0 0 = A 0 0 := by unfold vw; rw [if_neg (fun z => absurd z.1.1 (by decide))]
  have b0 : aAddB A ld mk it 0 0 = A 0 0 + 1 := up2_at _ _ _ _
  have b4 : ∀ i, aAddB A ld mk it 4 i = A 4 i := fun i => by unfold aAddB; rw [up2_rw _ _ (by decide), up2_rw _ _ (by decide), up2_rw _ _ (by decide), up2_rw _ _ (by decide), up2_rw _ _ (by decide)]
  have b8 : ∀ i, aAddB A ld mk it 8 i = if i = (A 0 0).toNat then mk else A 8 i := fun i => by
    unfold aAddB; rw [up2_rw _ _ (by decide), up2_rw _ _ (by decide), up2_rw _ _ (by decide)]
    by_cases e : i = (A 0 0).toNat
    · rw [e, up2_at, if_pos rfl]
    · rw [up2_ne _ _ (fun q => e q.2), up2_rw _ _ (by decide), if_neg e]
  unfold aAddN
  rw [e00]
  by_cases h : r = 4 ∧ j < 48
  · obtain ⟨rfl, hj⟩ := h
    have l1 : vw (aAddB A ld mk it) 4 j = if (((j / 6 : Nat) : Int) < A 0 0 + 1) ∧ ¬ (zAnd (zShr (if j / 6 = (A 0 0).toNat then mk else A 8 (j / 6)) (j % 6 : Nat)) 1 = 1) then -1 else A 4 j := by
      unfold vw mBit
      rw [b0, b4, b8]
      by_cases q : ((j / 6 : Nat) : Int) < A 0 0 + 1
      · simp [q, hj]
      · rw [if_neg (fun z => q z.1.2.2), if_neg (fun z => q z.1)]
    have l2 : vw A 4 j = if (((j / 6 : Nat) : Int) < A 0 0) ∧ ¬ (zAnd (zShr (A 8 (j / 6)) (j % 6 : Nat)) 1 = 1) then -1 else A 4 j := by
      unfold vw mBit
      by_cases q : ((j / 6 : Nat) : Int) < A 0 0
      · simp [q, hj]
      · rw [if_neg (fun z => q z.1.2.2), if_neg (fun z => q z.1)]
    rw [l1]
    by_cases e : j / 6 = (A 0 0).toNat
    · rw [if_pos (show (4 : Nat) = 4 ∧ j < 48 ∧ j / 6 = (A 0 0).toNat from ⟨rfl, hj, e⟩), if_pos e, l2, if_neg (show ¬ ((((j / 6 : Nat) : Int) < A 0 0) ∧ ¬ (zAnd (zShr (A 8 (j / 6)) (j % 6 : Nat)) 1 = 1)) from fun z => by have := z.1; omega)]
      by_cases q : zAnd (zShr mk (j % 6 : Nat)) 1 = 1
      · rw [if_neg (fun z => z.2 q), if_pos q]
      · rw [if_pos ⟨by omega, q⟩, if_neg q]
    · rw [if_neg (show ¬ ((4 : Nat) = 4 ∧ j < 48 ∧ j / 6 = (A 0 0).toNat) from fun z => e z.2.2), if_neg e]
      have l3 : aAddB (vw A) ld mk it 4 j = vw A 4 j := by unfold aAddB; rw [up2_rw _ _ (by decide), up2_rw _ _ (by decide), up2_rw _ _ (by decide), up2_rw _ _ (by decide), up2_rw _ _ (by decide)]
      rw [l3, l2]
      by_cases q : ((j / 6 : Nat) : Int) < A 0 0
      · have q1 : ((j / 6 : Nat) : Int) < A 0 0 + 1 := by omega
        by_cases z : zAnd (zShr (A 8 (j / 6)) (j % 6 : Nat)) 1 = 1
        · rw [if_neg (fun y => y.2 z), if_neg (fun y => y.2 z)]
        · rw [if_pos ⟨q1, z⟩, if_pos ⟨q, z⟩]
      · rw [if_neg (fun z => by have := z.1; omega), if_neg (fun z => q z.1)]
  · rw [if_neg (fun z => h ⟨z.1, z.2.1⟩)]
    have l1 : ∀ B : zNt, vw B r j = B r j := fun B => by unfold vw; rw [if_neg (fun z => h ⟨z.1.1, z.1.2.1⟩)]
    rw [l1]
    unfold aAddB
    rw [e00]
    unfold up2
    rw [l1]
theorem ml_add {N : zNt} {ld mk it : Int} (hn : 0 ≤ mV N 0 0 0 ∧ mV N 0 0 0 < 8) : mTo N (up2 (up2 (up2 (up2 (up2 N 1 ((4 + (4 * (mV N 0 0 0))) + 0).toNat ld) 1 ((4 + (4 * (mV N 0 0 0))) + 1).toNat mk) 1 ((4 + (4 * (mV N 0 0 0))) + 2).toNat it) 1 ((4 + (4 * (mV N 0 0 0))) + 3).toNat 0) 1 (3 : Int).toNat ((mV N 0 0 0) + 1)) 0 (aAddN (mV N 0) ld mk it) := by
  rw [mV_00] at hn ⊢
  have i1 : ((4 + (4 * (mR N 0 0 0))) + 0).toNat = (0 : Int).toNat + mIx 1 (mR N 0 0 0).toNat := by unfold mIx; simp; omega
  have i8 : ((4 + (4 * (mR N 0 0 0))) + 1).toNat = (0 : Int).toNat + mIx 8 (mR N 0 0 0).toNat := by unfold mIx; simp; omega
  have i2 : ((4 + (4 * (mR N 0 0 0))) + 2).toNat = (0 : Int).toNat + mIx 2 (mR N 0 0 0).toNat := by unfold mIx; simp; omega
  have i3 : ((4 + (4 * (mR N 0 0 0))) + 3).toNat = (0 : Int).toNat + mIx 3 (mR N 0 0 0).toNat := by unfold mIx; simp; omega
  refine ⟨?_, mFr_tr (mFr_tr (mFr_tr (mFr_tr (mFr_w (by omega)) (mFr_w (by omega))) (mFr_w (by omega))) (mFr_w (by omega))) (mFr_w (by decide))⟩
  unfold mV
  rw [← vw_add hn, i1, i8, i2, i3, show (3 : Int).toNat = (0 : Int).toNat + mIx 0 0 from rfl, mR_w (by omega), mR_w (by omega), mR_w (by omega), mR_w (by omega), mR_w (by omega)]
  rfl
def mX_begin (V : zNt) (ld mk it : Int) : Int := if ¬ (0 ≤ ld ∧ ld ≤ 5) then 1 else if ¬ ((1 ≤ mk ∧ mk ≤ 63) ∧ 2 ≤ mBits mk 6 ∧ (0 ≤ it ∧ it ≤ 9)) then 2 else if ¬ (V 0 0 < 8 ∧ zAnd (V 0 1) (zOr mk (zShl 1 ld)) = zOr mk (zShl 1 ld)) then 3 else 0
set_option maxHeartbeats 4000000 in
set_option maxRecDepth 100000 in
theorem c_X4_deals {l : Launch} {D : va_G} {G : zG} {ad : Nat → Nat} (hJ : zInj ad) (σ : zM) {N : Nat → Nat → Int}   (ok : rOk (mV N 0)) : zKI l D G ad yX4_deals cX4_deals 1 (some .int) 0 [.ref (ad 5)] (zBk σ 5 3 N) (fun z σ9 => z = (mV N 0) 0 0 ∧ σ9 = (zBk σ 5 3 (up2 N 0 0 (0)))) := by
  intro sz
  refine z_open hJ (by decide +kernel) (Nat.le_of_ble_eq_true rfl) ?_
  intro p e s0 m args below meth c hsz X hr hlocks
  have hn := rk_n ok
  have e00 : ∀ x : Int, mV (up2 N 0 0 x) 0 = mV N 0 := fun x => mV_r0 N 0 x 0
  refine z_sub [(0, .ref (ad 5))] (zSub_cons rfl zSub_nil) ?_
  refine z_aload_n X dX4_deals_0 rfl ?_
  refine z_iconst X dX4_deals_1 ?_
  refine y_pMod0 X fX4_16 dX4_deals_2 ?_
  refine z_aload_n X dX4_deals_5 rfl ?_
  refine y_gMod1 X fX4_7 dX4_deals_6 ?_
  refine z_iconst X dX4_deals_9 ?_
  refine y_iald X 1 (zArr_6) (by decide) (by omega) (by omega) (by decide) dX4_deals_10 ?_
  rw [fl_n0 (N := (up2 N 0 0 0))]
  exact z_iret X hsz hr hlocks dX4_deals_11 ⟨(by first | rfl | ((try simp only [e00] at *); first | rfl | grind)), (congrArg (zBk σ _ _) (by first | rfl | ((try simp only [e00] at *); first | rfl | grind)))⟩

set_option maxHeartbeats 4000000 in
set_option maxRecDepth 100000 in
theorem c_X4_isUp {l : Launch} {D : va_G} {G : zG} {ad : Nat → Nat} (hJ : zInj ad) (σ : zM) {N : Nat → Nat → Int}  {s : Int} (hs : zB s) (ok : rOk (mV N 0)) : zKI l D G ad yX4_isUp cX4_isUp 2 (some .boolean) 2 [.ref (ad 5), vI s] (zBk σ 5 3 N) (fun z σ9 => z = (if cUp (mV N 0) s then 1 else 0) ∧ σ9 = (zBk σ 5 3 (up2 N 0 0 (if 0 ≤ s ∧ s ≤ 5 then 0 else 1)))) := by
  intro sz
  refine z_open hJ (by decide +kernel) (Nat.le_of_ble_eq_true rfl) ?_
  intro p e s0 m args below meth c hsz X hr hlocks
  have hn := rk_n ok
  have e00 : ∀ x : Int, mV (up2 N 0 0 x) 0 = mV N 0 := fun x => mV_r0 N 0 x 0
  refine z_sub [(0, .ref (ad 5)), (1, vI s)] (zSub_cons rfl (zSub_cons rfl zSub_nil)) ?_
  refine z_aload_n X dX4_isUp_0 rfl ?_
  refine z_iload_n X dX4_isUp_1 rfl ?_
  refine z_callSI1 X (c_X4_isSite hJ _ hs) kX4_86 ⟨(Nat.le_of_ble_eq_true rfl), (Nat.le_of_ble_eq_true rfl)⟩ (Nat.le_of_ble_eq_true rfl) ⟨Nat.zero_le _, Nat.zero_le _⟩ dX4_isUp_2 (fun z9 σ1 hz9 => ?_)
  obtain ⟨rfl, rfl⟩ := hz9
  refine z_ifb_eq X 12 dX4_isUp_5 (by decide) (fun c_2 => ?_) (fun c_2 => ?_)
  · refine z_iconst X dX4_isUp_12 ?_
    refine z_callVI1 X (c_X4_holds hJ σ ⟨by decide, by decide⟩) kX4_90 rfl (by decide) rfl ⟨(Nat.le_of_ble_eq_true rfl), (Nat.le_of_ble_eq_true rfl)⟩ (Nat.le_of_ble_eq_true rfl) ⟨Nat.zero_le _, Nat.zero_le _⟩ dX4_isUp_13 (fun z9 σ1 hz9 => ?_)
    obtain ⟨rfl, rfl⟩ := hz9
    refine z_ifb_eq X 32 dX4_isUp_16 (by decide) (fun _ => ?_) (fun h9 => absurd h9 (by decide))
    refine z_iconst X dX4_isUp_32 ?_
    exact z_zret X hsz hr hlocks dX4_isUp_33 (Or.inl rfl) ⟨(by first | rfl | ((try simp only [e00] at *); first | rfl | grind)), (congrArg (zBk σ _ _) (by first | rfl | ((try simp only [e00] at *); first | rfl | grind)))⟩
  · refine z_iconst X dX4_isUp_8 ?_
    refine z_goto X 13 dX4_isUp_9 (by decide) ?_
    refine z_callVI1 X (c_X4_holds hJ σ ⟨by decide, by decide⟩) kX4_90 rfl (by decide) rfl ⟨(Nat.le_of_ble_eq_true rfl), (Nat.le_of_ble_eq_true rfl)⟩ (Nat.le_of_ble_eq_true rfl) ⟨Nat.zero_le _, Nat.zero_le _⟩ dX4_isUp_13 (fun z9 σ1 hz9 => ?_)
    obtain ⟨rfl, rfl⟩ := hz9
    refine z_ifb_eq X 32 dX4_isUp_16 (by decide) (fun h9 => absurd rfl h9) (fun _ => ?_)
    refine z_aload_n X dX4_isUp_19 rfl ?_
    refine z_iconst X dX4_isUp_20 ?_
    refine z_iload_n X dX4_isUp_21 rfl ?_
    refine z_callVI2 X (c_X4_isUpNow hJ σ ⟨by decide, by decide⟩ hs (by omega) (by omega)) kX4_58 rfl (by decide) rfl ⟨(Nat.le_of_ble_eq_true rfl), (Nat.le_of_ble_eq_true rfl)⟩ (Nat.le_of_ble_eq_true rfl) ⟨Nat.zero_le _, Nat.zero_le _⟩ dX4_isUp_22 (fun z9 σ1 hz9 => ?_)
    obtain ⟨rfl, rfl⟩ := hz9
    refine z_ifb_eq X 32 dX4_isUp_25 (by decide) (fun c_6 => ?_) (fun c_6 => ?_)
    · refine z_iconst X dX4_isUp_32 ?_
      exact z_zret X hsz hr hlocks dX4_isUp_33 (Or.inl rfl) ⟨(by first | rfl | ((try simp only [e00] at *); first | rfl | grind)), (congrArg (zBk σ _ _) (by first | rfl | ((try simp only [e00] at *); first | rfl | grind)))⟩
    · refine z_iconst X dX4_isUp_28 ?_
      refine z_goto X 33 dX4_isUp_29 (by decide) ?_
      exact z_zret X hsz hr hlocks dX4_isUp_33 (Or.inr rfl) ⟨(by first | rfl | ((try simp only [e00] at *); first | rfl | grind)), (congrArg (zBk σ _ _) (by first | rfl | ((try simp only [e00] at *); first | rfl | grind)))⟩

set_option maxHeartbeats 4000000 in
set_option maxRecDepth 100000 in
theorem c_X4_state {l : Launch} {D : va_G} {G : zG} {ad : Nat → Nat} (hJ : zInj ad) (σ : zM) {N : Nat → Nat → Int}  {d : Int} (hd : zB d) {s : Int} (hs : zB s) (ok : rOk (mV N 0)) : zKI l D G ad yX4_state cX4_state 3 (some .int) 3 [.ref (ad 5), vI d, vI s] (zBk σ 5 3 N) (fun z σ9 => z = (if cHas (mV N 0) d ∧ (0 ≤ s ∧ s ≤ 5) then cSt (mV N 0) d s else 0) ∧ σ9 = (zBk σ 5 3 (up2 N 0 0 (if cHas (mV N 0) d ∧ (0 ≤ s ∧ s ≤ 5) then 0 else 1)))) := by
  intro sz
  refine z_open hJ (by decide +kernel) (Nat.le_of_ble_eq_true rfl) ?_
  intro p e s0 m args below meth c hsz X hr hlocks
  have hn := rk_n ok
  have e00 : ∀ x : Int, mV (up2 N 0 0 x) 0 = mV N 0 := fun x => mV_r0 N 0 x 0
  refine z_sub [(0, .ref (ad 5)), (1, vI d), (2, vI s)] (zSub_cons rfl (zSub_cons rfl (zSub_cons rfl zSub_nil))) ?_
  refine z_aload_n X dX4_state_0 rfl ?_
  refine z_aload_n X dX4_state_1 rfl ?_
  refine z_iload_n X dX4_state_2 rfl ?_
  refine z_callVI1 X (c_X4_isDeal hJ σ hd ok) kX4_96 rfl (by decide) rfl ⟨(Nat.le_of_ble_eq_true rfl), (Nat.le_of_ble_eq_true rfl)⟩ (Nat.le_of_ble_eq_true rfl) ⟨Nat.zero_le _, Nat.zero_le _⟩ dX4_state_3 (fun z9 σ1 hz9 => ?_)
  obtain ⟨rfl, rfl⟩ := hz9
  refine z_ifb_eq X 20 dX4_state_6 (by decide) (fun c_2 => ?_) (fun c_2 => ?_)
  · refine z_iconst X dX4_state_20 ?_
    refine z_callVI1 X (c_X4_holds hJ σ ⟨by decide, by decide⟩) kX4_90 rfl (by decide) rfl ⟨(Nat.le_of_ble_eq_true rfl), (Nat.le_of_ble_eq_true rfl)⟩ (Nat.le_of_ble_eq_true rfl) ⟨Nat.zero_le _, Nat.zero_le _⟩ dX4_state_21 (fun z9 σ1 hz9 => ?_)
    obtain ⟨rfl, rfl⟩ := hz9
    refine z_ifb_eq X 37 dX4_state_24 (by decide) (fun _ => ?_) (fun h9 => absurd h9 (by decide))
    refine z_iconst X dX4_state_37 ?_
    exact z_iret X hsz hr hlocks dX4_state_38 ⟨(by first | rfl | ((try simp only [e00] at *); first | rfl | grind)), (congrArg (zBk σ _ _) (by first | rfl | ((try simp only [e00] at *); first | rfl | grind)))⟩
  · refine z_iload_n X dX4_state_9 rfl ?_
    refine z_callSI1 X (c_X4_isSite hJ _ hs) kX4_86 ⟨(Nat.le_of_ble_eq_true rfl), (Nat.le_of_ble_eq_true rfl)⟩ (Nat.le_of_ble_eq_true rfl) ⟨Nat.zero_le _, Nat.zero_le _⟩ dX4_state_10 (fun z9 σ1 hz9 => ?_)
    obtain ⟨rfl, rfl⟩ := hz9
    refine z_ifb_eq X 20 dX4_state_13 (by decide) (fun c_5 => ?_) (fun c_5 => ?_)
    · refine z_iconst X dX4_state_20 ?_
      refine z_callVI1 X (c_X4_holds hJ σ ⟨by decide, by decide⟩) kX4_90 rfl (by decide) rfl ⟨(Nat.le_of_ble_eq_true rfl), (Nat.le_of_ble_eq_true rfl)⟩ (Nat.le_of_ble_eq_true rfl) ⟨Nat.zero_le _, Nat.zero_le _⟩ dX4_state_21 (fun z9 σ1 hz9 => ?_)
      obtain ⟨rfl, rfl⟩ := hz9
      refine z_ifb_eq X 37 dX4_state_24 (by decide) (fun _ => ?_) (fun h9 => absurd h9 (by decide))
      refine z_iconst X dX4_state_37 ?_
      exact z_iret X hsz hr hlocks dX4_state_38 ⟨(by first | rfl | ((try simp only [e00] at *); first | rfl | grind)), (congrArg (zBk σ _ _) (by first | rfl | ((try simp only [e00] at *); first | rfl | grind)))⟩
    · refine z_iconst X dX4_state_16 ?_
      refine z_goto X 21 dX4_state_17 (by decide) ?_
      refine z_callVI1 X (c_X4_holds hJ σ ⟨by decide, by decide⟩) kX4_90 rfl (by decide) rfl ⟨(Nat.le_of_ble_eq_true rfl), (Nat.le_of_ble_eq_true rfl)⟩ (Nat.le_of_ble_eq_true rfl) ⟨Nat.zero_le _, Nat.zero_le _⟩ dX4_state_21 (fun z9 σ1 hz9 => ?_)
      obtain ⟨rfl, rfl⟩ := hz9
      refine z_ifb_eq X 37 dX4_state_24 (by decide) (fun h9 => absurd rfl h9) (fun _ => ?_)
      refine z_aload_n X dX4_state_27 rfl ?_
      refine z_iconst X dX4_state_28 ?_
      refine z_iload_n X dX4_state_29 rfl ?_
      refine z_iload_n X dX4_state_30 rfl ?_
      refine z_callVI3 X (c_X4_stateOf hJ σ ⟨by decide, by decide⟩ hd hs (by omega) (by rw [e00]; exact ok) (by first | omega | assumption | grind) (by omega)) kX4_35 rfl (by decide) rfl ⟨(Nat.le_of_ble_eq_true rfl), (Nat.le_of_ble_eq_true rfl)⟩ (Nat.le_of_ble_eq_true rfl) ⟨Nat.zero_le _, Nat.zero_le _⟩ dX4_state_31 (fun z9 σ1 hz9 => ?_)
      obtain ⟨rfl, rfl⟩ := hz9
      refine z_goto X 38 dX4_state_34 (by decide) ?_
      exact z_iret X hsz hr hlocks dX4_state_38 ⟨(by first | rfl | ((try simp only [e00] at *); first | rfl | grind)), (congrArg (zBk σ _ _) (by first | rfl | ((try simp only [e00] at *); first | rfl | grind)))⟩

set_option maxHeartbeats 4000000 in
set_option maxRecDepth 100000 in
theorem c_X4_decision {l : Launch} {D : va_G} {G : zG} {ad : Nat → Nat} (hJ : zInj ad) (σ : zM) {N : Nat → Nat → Int}  {d : Int} (hd : zB d) (ok : rOk (mV N 0)) : zKI l D G ad yX4_decision cX4_decision 2 (some .int) 2 [.ref (ad 5), vI d] (zBk σ 5 3 N) (fun z σ9 => z = (if cHas (mV N 0) d then cDec (mV N 0) d else 0) ∧ σ9 = (zBk σ 5 3 (up2 N 0 0 (if cHas (mV N 0) d then 0 else 1)))) := by
  intro sz
  refine z_open hJ (by decide +kernel) (Nat.le_of_ble_eq_true rfl) ?_
  intro p e s0 m args below meth c hsz X hr hlocks
  have hn := rk_n ok
  have e00 : ∀ x : Int, mV (up2 N 0 0 x) 0 = mV N 0 := fun x => mV_r0 N 0 x 0
  refine z_sub [(0, .ref (ad 5)), (1, vI d)] (zSub_cons rfl (zSub_cons rfl zSub_nil)) ?_
  refine z_aload_n X dX4_decision_0 rfl ?_
  refine z_aload_n X dX4_decision_1 rfl ?_
  refine z_iload_n X dX4_decision_2 rfl ?_
  refine z_callVI1 X (c_X4_isDeal hJ σ hd ok) kX4_96 rfl (by decide) rfl ⟨(Nat.le_of_ble_eq_true rfl), (Nat.le_of_ble_eq_true rfl)⟩ (Nat.le_of_ble_eq_true rfl) ⟨Nat.zero_le _, Nat.zero_le _⟩ dX4_decision_3 (fun z9 σ1 hz9 => ?_)
  obtain ⟨rfl, rfl⟩ := hz9
  refine z_ifb_eq X 13 dX4_decision_6 (by decide) (fun c_2 => ?_) (fun c_2 => ?_)
  · refine z_iconst X dX4_decision_13 ?_
    refine z_callVI1 X (c_X4_holds hJ σ ⟨by decide, by decide⟩) kX4_90 rfl (by decide) rfl ⟨(Nat.le_of_ble_eq_true rfl), (Nat.le_of_ble_eq_true rfl)⟩ (Nat.le_of_ble_eq_true rfl) ⟨Nat.zero_le _, Nat.zero_le _⟩ dX4_decision_14 (fun z9 σ1 hz9 => ?_)
    obtain ⟨rfl, rfl⟩ := hz9
    refine z_ifb_eq X 30 dX4_decision_17 (by decide) (fun _ => ?_) (fun h9 => absurd h9 (by decide))
    refine z_iconst X dX4_decision_30 ?_
    exact z_iret X hsz hr hlocks dX4_decision_31 ⟨(by first | rfl | ((try simp only [e00] at *); first | rfl | grind)), (congrArg (zBk σ _ _) (by first | rfl | ((try simp only [e00] at *); first | rfl | grind)))⟩
  · refine z_iconst X dX4_decision_9 ?_
    refine z_goto X 14 dX4_decision_10 (by decide) ?_
    refine z_callVI1 X (c_X4_holds hJ σ ⟨by decide, by decide⟩) kX4_90 rfl (by decide) rfl ⟨(Nat.le_of_ble_eq_true rfl), (Nat.le_of_ble_eq_true rfl)⟩ (Nat.le_of_ble_eq_true rfl) ⟨Nat.zero_le _, Nat.zero_le _⟩ dX4_decision_14 (fun z9 σ1 hz9 => ?_)
    obtain ⟨rfl, rfl⟩ := hz9
    refine z_ifb_eq X 30 dX4_decision_17 (by decide) (fun h9 => absurd rfl h9) (fun _ => ?_)
    refine z_aload_n X dX4_decision_20 rfl ?_
    refine z_iconst X dX4_decision_21 ?_
    refine z_iload_n X dX4_decision_22 rfl ?_
    refine z_iconst X dX4_decision_23 ?_
    refine z_callVI3 X (c_X4_of3 hJ σ ⟨by decide, by decide⟩ hd (by omega) (by rw [e00]; exact ok) (by first | omega | assumption)) kX4_24 rfl (by decide) rfl ⟨(Nat.le_of_ble_eq_true rfl), (Nat.le_of_ble_eq_true rfl)⟩ (Nat.le_of_ble_eq_true rfl) ⟨Nat.zero_le _, Nat.zero_le _⟩ dX4_decision_24 (fun z9 σ1 hz9 => ?_)
    obtain ⟨rfl, rfl⟩ := hz9
    refine z_goto X 31 dX4_decision_27 (by decide) ?_
    exact z_iret X hsz hr hlocks dX4_decision_31 ⟨(by first | rfl | ((try simp only [e00] at *); first | rfl | grind)), (congrArg (zBk σ _ _) (by first | rfl | ((try simp only [e00] at *); first | rfl | grind)))⟩

set_option maxHeartbeats 4000000 in
set_option maxRecDepth 100000 in
theorem c_X4_leader {l : Launch} {D : va_G} {G : zG} {ad : Nat → Nat} (hJ : zInj ad) (σ : zM) {N : Nat → Nat → Int}  {d : Int} (hd : zB d) (ok : rOk (mV N 0)) : zKI l D G ad yX4_leader cX4_leader 2 (some .int) 2 [.ref (ad 5), vI d] (zBk σ 5 3 N) (fun z σ9 => z = (if cHas (mV N 0) d then cLead (mV N 0) d else 0) ∧ σ9 = (zBk σ 5 3 (up2 N 0 0 (if cHas (mV N 0) d then 0 else 1)))) := by
  intro sz
  refine z_open hJ (by decide +kernel) (Nat.le_of_ble_eq_true rfl) ?_
  intro p e s0 m args below meth c hsz X hr hlocks
  have hn := rk_n ok
  have e00 : ∀ x : Int, mV (up2 N 0 0 x) 0 = mV N 0 := fun x => mV_r0 N 0 x 0
  refine z_sub [(0, .ref (ad 5)), (1, vI d)] (zSub_cons rfl (zSub_cons rfl zSub_nil)) ?_
  refine z_aload_n X dX4_leader_0 rfl ?_
  refine z_aload_n X dX4_leader_1 rfl ?_
  refine z_iload_n X dX4_leader_2 rfl ?_
  refine z_callVI1 X (c_X4_isDeal hJ σ hd ok) kX4_96 rfl (by decide) rfl ⟨(Nat.le_of_ble_eq_true rfl), (Nat.le_of_ble_eq_true rfl)⟩ (Nat.le_of_ble_eq_true rfl) ⟨Nat.zero_le _, Nat.zero_le _⟩ dX4_leader_3 (fun z9 σ1 hz9 => ?_)
  obtain ⟨rfl, rfl⟩ := hz9
  refine z_ifb_eq X 13 dX4_leader_6 (by decide) (fun c_2 => ?_) (fun c_2 => ?_)
  · refine z_iconst X dX4_leader_13 ?_
    refine z_callVI1 X (c_X4_holds hJ σ ⟨by decide, by decide⟩) kX4_90 rfl (by decide) rfl ⟨(Nat.le_of_ble_eq_true rfl), (Nat.le_of_ble_eq_true rfl)⟩ (Nat.le_of_ble_eq_true rfl) ⟨Nat.zero_le _, Nat.zero_le _⟩ dX4_leader_14 (fun z9 σ1 hz9 => ?_)
    obtain ⟨rfl, rfl⟩ := hz9
    refine z_ifb_eq X 30 dX4_leader_17 (by decide) (fun _ => ?_) (fun h9 => absurd h9 (by decide))
    refine z_iconst X dX4_leader_30 ?_
    exact z_iret X hsz hr hlocks dX4_leader_31 ⟨(by first | rfl | ((try simp only [e00] at *); first | rfl | grind)), (congrArg (zBk σ _ _) (by first | rfl | ((try simp only [e00] at *); first | rfl | grind)))⟩
  · refine z_iconst X dX4_leader_9 ?_
    refine z_goto X 14 dX4_leader_10 (by decide) ?_
    refine z_callVI1 X (c_X4_holds hJ σ ⟨by decide, by decide⟩) kX4_90 rfl (by decide) rfl ⟨(Nat.le_of_ble_eq_true rfl), (Nat.le_of_ble_eq_true rfl)⟩ (Nat.le_of_ble_eq_true rfl) ⟨Nat.zero_le _, Nat.zero_le _⟩ dX4_leader_14 (fun z9 σ1 hz9 => ?_)
    obtain ⟨rfl, rfl⟩ := hz9
    refine z_ifb_eq X 30 dX4_leader_17 (by decide) (fun h9 => absurd rfl h9) (fun _ => ?_)
    refine z_aload_n X dX4_leader_20 rfl ?_
    refine z_iconst X dX4_leader_21 ?_
    refine z_iload_n X dX4_leader_22 rfl ?_
    refine z_iconst X dX4_leader_23 ?_
    refine z_callVI3 X (c_X4_of0 hJ σ ⟨by decide, by decide⟩ hd (by omega) (by rw [e00]; exact ok) (by first | omega | assumption)) kX4_24 rfl (by decide) rfl ⟨(Nat.le_of_ble_eq_true rfl), (Nat.le_of_ble_eq_true rfl)⟩ (Nat.le_of_ble_eq_true rfl) ⟨Nat.zero_le _, Nat.zero_le _⟩ dX4_leader_24 (fun z9 σ1 hz9 => ?_)
    obtain ⟨rfl, rfl⟩ := hz9
    refine z_goto X 31 dX4_leader_27 (by decide) ?_
    exact z_iret X hsz hr hlocks dX4_leader_31 ⟨(by first | rfl | ((try simp only [e00] at *); first | rfl | grind)), (congrArg (zBk σ _ _) (by first | rfl | ((try simp only [e00] at *); first | rfl | grind)))⟩

set_option maxHeartbeats 4000000 in
set_option maxRecDepth 100000 in
theorem c_X4_patience {l : Launch} {D : va_G} {G : zG} {ad : Nat → Nat} (hJ : zInj ad) (σ : zM) {N : Nat → Nat → Int}  {d : Int} (hd : zB d) {s : Int} (hs : zB s) (ok : rOk (mV N 0)) : zKI l D G ad yX4_patience cX4_patience 3 (some .int) 4 [.ref (ad 5), vI d, vI s] (zBk σ 5 3 N) (fun z σ9 => z = (if cHas (mV N 0) d ∧ (0 ≤ s ∧ s ≤ 5) then cPat (mV N 0) d s else 0) ∧ σ9 = (zBk σ 5 3 (up2 N 0 0 (if cHas (mV N 0) d ∧ (0 ≤ s ∧ s ≤ 5) then 0 else 1)))) := by
  intro sz
  refine z_open hJ (by decide +kernel) (Nat.le_of_ble_eq_true rfl) ?_
  intro p e s0 m args below meth c hsz X hr hlocks
  have hn := rk_n ok
  have e00 : ∀ x : Int, mV (up2 N 0 0 x) 0 = mV N 0 := fun x => mV_r0 N 0 x 0
  refine z_sub [(0, .ref (ad 5)), (1, vI d), (2, vI s)] (zSub_cons rfl (zSub_cons rfl (zSub_cons rfl zSub_nil))) ?_
  refine z_aload_n X dX4_patience_0 rfl ?_
  refine z_aload_n X dX4_patience_1 rfl ?_
  refine z_iload_n X dX4_patience_2 rfl ?_
  refine z_callVI1 X (c_X4_isDeal hJ σ hd ok) kX4_96 rfl (by decide) rfl ⟨(Nat.le_of_ble_eq_true rfl), (Nat.le_of_ble_eq_true rfl)⟩ (Nat.le_of_ble_eq_true rfl) ⟨Nat.zero_le _, Nat.zero_le _⟩ dX4_patience_3 (fun z9 σ1 hz9 => ?_)
  obtain ⟨rfl, rfl⟩ := hz9
  refine z_ifb_eq X 20 dX4_patience_6 (by decide) (fun c_2 => ?_) (fun c_2 => ?_)
  · refine z_iconst X dX4_patience_20 ?_
    refine z_callVI1 X (c_X4_holds hJ σ ⟨by decide, by decide⟩) kX4_90 rfl (by decide) rfl ⟨(Nat.le_of_ble_eq_true rfl), (Nat.le_of_ble_eq_true rfl)⟩ (Nat.le_of_ble_eq_true rfl) ⟨Nat.zero_le _, Nat.zero_le _⟩ dX4_patience_21 (fun z9 σ1 hz9 => ?_)
    obtain ⟨rfl, rfl⟩ := hz9
    refine z_ifb_eq X 36 dX4_patience_24 (by decide) (fun _ => ?_) (fun h9 => absurd h9 (by decide))
    refine z_iconst X dX4_patience_36 ?_
    exact z_iret X hsz hr hlocks dX4_patience_37 ⟨(by first | rfl | ((try simp only [e00] at *); first | rfl | grind)), (congrArg (zBk σ _ _) (by first | rfl | ((try simp only [e00] at *); first | rfl | grind)))⟩
  · refine z_iload_n X dX4_patience_9 rfl ?_
    refine z_callSI1 X (c_X4_isSite hJ _ hs) kX4_86 ⟨(Nat.le_of_ble_eq_true rfl), (Nat.le_of_ble_eq_true rfl)⟩ (Nat.le_of_ble_eq_true rfl) ⟨Nat.zero_le _, Nat.zero_le _⟩ dX4_patience_10 (fun z9 σ1 hz9 => ?_)
    obtain ⟨rfl, rfl⟩ := hz9
    refine z_ifb_eq X 20 dX4_patience_13 (by decide) (fun c_5 => ?_) (fun c_5 => ?_)
    · refine z_iconst X dX4_patience_20 ?_
      refine z_callVI1 X (c_X4_holds hJ σ ⟨by decide, by decide⟩) kX4_90 rfl (by decide) rfl ⟨(Nat.le_of_ble_eq_true rfl), (Nat.le_of_ble_eq_true rfl)⟩ (Nat.le_of_ble_eq_true rfl) ⟨Nat.zero_le _, Nat.zero_le _⟩ dX4_patience_21 (fun z9 σ1 hz9 => ?_)
      obtain ⟨rfl, rfl⟩ := hz9
      refine z_ifb_eq X 36 dX4_patience_24 (by decide) (fun _ => ?_) (fun h9 => absurd h9 (by decide))
      refine z_iconst X dX4_patience_36 ?_
      exact z_iret X hsz hr hlocks dX4_patience_37 ⟨(by first | rfl | ((try simp only [e00] at *); first | rfl | grind)), (congrArg (zBk σ _ _) (by first | rfl | ((try simp only [e00] at *); first | rfl | grind)))⟩
    · refine z_iconst X dX4_patience_16 ?_
      refine z_goto X 21 dX4_patience_17 (by decide) ?_
      refine z_callVI1 X (c_X4_holds hJ σ ⟨by decide, by decide⟩) kX4_90 rfl (by decide) rfl ⟨(Nat.le_of_ble_eq_true rfl), (Nat.le_of_ble_eq_true rfl)⟩ (Nat.le_of_ble_eq_true rfl) ⟨Nat.zero_le _, Nat.zero_le _⟩ dX4_patience_21 (fun z9 σ1 hz9 => ?_)
      obtain ⟨rfl, rfl⟩ := hz9
      refine z_ifb_eq X 36 dX4_patience_24 (by decide) (fun h9 => absurd rfl h9) (fun _ => ?_)
      refine z_aload_n X dX4_patience_27 rfl ?_
      refine z_iload_n X dX4_patience_28 rfl ?_
      refine z_iload_n X dX4_patience_29 rfl ?_
      refine z_callVI2 X (c_X4_patienceOf hJ σ hd hs (by rw [e00]; exact ok) (by first | omega | assumption | grind) (by omega)) kX4_127 rfl (by decide) rfl ⟨(Nat.le_of_ble_eq_true rfl), (Nat.le_of_ble_eq_true rfl)⟩ (Nat.le_of_ble_eq_true rfl) ⟨Nat.zero_le _, Nat.zero_le _⟩ dX4_patience_30 (fun z9 σ1 hz9 => ?_)
      obtain ⟨rfl, rfl⟩ := hz9
      refine z_goto X 37 dX4_patience_33 (by decide) ?_
      exact z_iret X hsz hr hlocks dX4_patience_37 ⟨(by first | rfl | ((try simp only [e00] at *); first | rfl | grind)), (congrArg (zBk σ _ _) (by first | rfl | ((try simp only [e00] at *); first | rfl | grind)))⟩

set_option maxHeartbeats 4000000 in
set_option maxRecDepth 100000 in
theorem c_X4_open {l : Launch} {D : va_G} {G : zG} {ad : Nat → Nat} (hJ : zInj ad) (σ : zM) {N : Nat → Nat → Int}   (ok : rOk (mV N 0)) : zKI l D G ad yX4_open cX4_open 1 (some .int) 4 [.ref (ad 5)] (zBk σ 5 3 N) (fun z σ9 => z = cOpens (mV N 0) ∧ σ9 = (zBk σ 5 3 (up2 N 0 0 (0)))) := by
  intro sz
  refine z_open hJ (by decide +kernel) (Nat.le_of_ble_eq_true rfl) ?_
  intro p e s0 m args below meth c hsz X hr hlocks
  have hn := rk_n ok
  have e00 : ∀ x : Int, mV (up2 N 0 0 x) 0 = mV N 0 := fun x => mV_r0 N 0 x 0
  refine z_sub [(0, .ref (ad 5))] (zSub_cons rfl zSub_nil) ?_
  refine z_aload_n X dX4_open_0 rfl ?_
  refine z_iconst X dX4_open_1 ?_
  refine y_pMod0 X fX4_16 dX4_open_2 ?_
  refine z_aload_n X dX4_open_5 rfl ?_
  refine z_callVI0 X (c_X4_openDeals hJ σ (by rw [e00]; exact ok)) kX4_130 rfl (by decide) rfl ⟨(Nat.le_of_ble_eq_true rfl), (Nat.le_of_ble_eq_true rfl)⟩ (Nat.le_of_ble_eq_true rfl) ⟨Nat.zero_le _, Nat.zero_le _⟩ dX4_open_6 (fun z9 σ1 hz9 => ?_)
  obtain ⟨rfl, rfl⟩ := hz9
  exact z_iret X hsz hr hlocks dX4_open_9 ⟨(by first | rfl | ((try simp only [e00] at *); first | rfl | grind)), (congrArg (zBk σ _ _) (by first | rfl | ((try simp only [e00] at *); first | rfl | grind)))⟩

set_option maxHeartbeats 4000000 in
set_option maxRecDepth 100000 in
theorem c_X4_stuck {l : Launch} {D : va_G} {G : zG} {ad : Nat → Nat} (hJ : zInj ad) (σ : zM) {N : Nat → Nat → Int}   (ok : rOk (mV N 0)) : zKI l D G ad yX4_stuck cX4_stuck 1 (some .int) 6 [.ref (ad 5)] (zBk σ 5 3 N) (fun z σ9 => z = cStucks (mV N 0) ∧ σ9 = (zBk σ 5 3 (up2 N 0 0 (0)))) := by
  intro sz
  refine z_open hJ (by decide +kernel) (Nat.le_of_ble_eq_true rfl) ?_
  intro p e s0 m args below meth c hsz X hr hlocks
  have hn := rk_n ok
  have e00 : ∀ x : Int, mV (up2 N 0 0 x) 0 = mV N 0 := fun x => mV_r0 N 0 x 0
  refine z_sub [(0, .ref (ad 5))] (zSub_cons rfl zSub_nil) ?_
  refine z_aload_n X dX4_stuck_0 rfl ?_
  refine z_iconst X dX4_stuck_1 ?_
  refine y_pMod0 X fX4_16 dX4_stuck_2 ?_
  refine z_aload_n X dX4_stuck_5 rfl ?_
  refine z_callVI0 X (c_X4_stuckDeals hJ σ (by rw [e00]; exact ok)) kX4_137 rfl (by decide) rfl ⟨(Nat.le_of_ble_eq_true rfl), (Nat.le_of_ble_eq_true rfl)⟩ (Nat.le_of_ble_eq_true rfl) ⟨Nat.zero_le _, Nat.zero_le _⟩ dX4_stuck_6 (fun z9 σ1 hz9 => ?_)
  obtain ⟨rfl, rfl⟩ := hz9
  exact z_iret X hsz hr hlocks dX4_stuck_9 ⟨(by first | rfl | ((try simp only [e00] at *); first | rfl | grind)), (congrArg (zBk σ _ _) (by first | rfl | ((try simp only [e00] at *); first | rfl | grind)))⟩

set_option maxHeartbeats 4000000 in
set_option maxRecDepth 100000 in
theorem c_X4_logLength {l : Launch} {D : va_G} {G : zG} {ad : Nat → Nat} (hJ : zInj ad) (σ : zM) {N : Nat → Nat → Int}  {s : Int} (hs : zB s) (ok : rOk (mV N 0)) : zKI l D G ad yX4_logLength cX4_logLength 2 (some .int) 2 [.ref (ad 5), vI s] (zBk σ 5 3 N) (fun z σ9 => z = (if 0 ≤ s ∧ s ≤ 5 then (mV N 0) 6 s.toNat else 0) ∧ σ9 = (zBk σ 5 3 (up2 N 0 0 (if 0 ≤ s ∧ s ≤ 5 then 0 else 1)))) := by
  intro sz
  refine z_open hJ (by decide +kernel) (Nat.le_of_ble_eq_true rfl) ?_
  intro p e s0 m args below meth c hsz X hr hlocks
  have hn := rk_n ok
  have e00 : ∀ x : Int, mV (up2 N 0 0 x) 0 = mV N 0 := fun x => mV_r0 N 0 x 0
  refine z_sub [(0, .ref (ad 5)), (1, vI s)] (zSub_cons rfl (zSub_cons rfl zSub_nil)) ?_
  refine z_aload_n X dX4_logLength_0 rfl ?_
  refine z_iload_n X dX4_logLength_1 rfl ?_
  refine z_callSI1 X (c_X4_isSite hJ _ hs) kX4_86 ⟨(Nat.le_of_ble_eq_true rfl), (Nat.le_of_ble_eq_true rfl)⟩ (Nat.le_of_ble_eq_true rfl) ⟨Nat.zero_le _, Nat.zero_le _⟩ dX4_logLength_2 (fun z9 σ1 hz9 => ?_)
  obtain ⟨rfl, rfl⟩ := hz9
  refine z_ifb_eq X 12 dX4_logLength_5 (by decide) (fun c_2 => ?_) (fun c_2 => ?_)
  · refine z_iconst X dX4_logLength_12 ?_
    refine z_callVI1 X (c_X4_holds hJ σ ⟨by decide, by decide⟩) kX4_90 rfl (by decide) rfl ⟨(Nat.le_of_ble_eq_true rfl), (Nat.le_of_ble_eq_true rfl)⟩ (Nat.le_of_ble_eq_true rfl) ⟨Nat.zero_le _, Nat.zero_le _⟩ dX4_logLength_13 (fun z9 σ1 hz9 => ?_)
    obtain ⟨rfl, rfl⟩ := hz9
    refine z_ifb_eq X 35 dX4_logLength_16 (by decide) (fun _ => ?_) (fun h9 => absurd h9 (by decide))
    refine z_iconst X dX4_logLength_35 ?_
    exact z_iret X hsz hr hlocks dX4_logLength_36 ⟨(by first | rfl | ((try simp only [e00] at *); first | rfl | grind)), (congrArg (zBk σ _ _) (by first | rfl | ((try simp only [e00] at *); first | rfl | grind)))⟩
  · refine z_iconst X dX4_logLength_8 ?_
    refine z_goto X 13 dX4_logLength_9 (by decide) ?_
    refine z_callVI1 X (c_X4_holds hJ σ ⟨by decide, by decide⟩) kX4_90 rfl (by decide) rfl ⟨(Nat.le_of_ble_eq_true rfl), (Nat.le_of_ble_eq_true rfl)⟩ (Nat.le_of_ble_eq_true rfl) ⟨Nat.zero_le _, Nat.zero_le _⟩ dX4_logLength_13 (fun z9 σ1 hz9 => ?_)
    obtain ⟨rfl, rfl⟩ := hz9
    refine z_ifb_eq X 35 dX4_logLength_16 (by decide) (fun h9 => absurd rfl h9) (fun _ => ?_)
    refine z_aload_n X dX4_logLength_19 rfl ?_
    refine y_gMod1 X fX4_7 dX4_logLength_20 ?_
    refine z_sipush X dX4_logLength_23 rfl ?_
    refine z_bipush X dX4_logLength_26 rfl ?_
    refine z_iload_n X dX4_logLength_28 rfl ?_
    refine z_imul X dX4_logLength_29 ?_
    refine z_iadd X dX4_logLength_30 ?_
    refine y_iald X 1 (zArr_6) (by decide) (by omega) (by omega) (by decide) dX4_logLength_31 ?_
    rw [fl_c (N := up2 N 0 0 0) (s := s) (by omega)]
    refine z_goto X 36 dX4_logLength_32 (by decide) ?_
    exact z_iret X hsz hr hlocks dX4_logLength_36 ⟨(by first | rfl | ((try simp only [e00] at *); first | rfl | grind)), (congrArg (zBk σ _ _) (by first | rfl | ((try simp only [e00] at *); first | rfl | grind)))⟩

set_option maxHeartbeats 4000000 in
set_option maxRecDepth 100000 in
theorem c_X4_log {l : Launch} {D : va_G} {G : zG} {ad : Nat → Nat} (hJ : zInj ad) (σ : zM) {N : Nat → Nat → Int}  {s : Int} (hs : zB s) {i : Int} (hi : zB i) (ok : rOk (mV N 0)) : zKI l D G ad yX4_log cX4_log 3 (some .int) 2 [.ref (ad 5), vI s, vI i] (zBk σ 5 3 N) (fun z σ9 => z = (if (0 ≤ s ∧ s ≤ 5) ∧ 0 ≤ i then (if i < (mV N 0) 6 s.toNat then (mV N 0) 7 (s * 24 + i).toNat else -1) else 0) ∧ σ9 = (zBk σ 5 3 (up2 N 0 0 (if (0 ≤ s ∧ s ≤ 5) ∧ 0 ≤ i then 0 else 1)))) := by
  intro sz
  refine z_open hJ (by decide +kernel) (Nat.le_of_ble_eq_true rfl) ?_
  intro p e s0 m args below meth c hsz X hr hlocks
  have hn := rk_n ok
  have e00 : ∀ x : Int, mV (up2 N 0 0 x) 0 = mV N 0 := fun x => mV_r0 N 0 x 0
  refine z_sub [(0, .ref (ad 5)), (1, vI s), (2, vI i)] (zSub_cons rfl (zSub_cons rfl (zSub_cons rfl zSub_nil))) ?_
  refine z_aload_n X dX4_log_0 rfl ?_
  refine z_iload_n X dX4_log_1 rfl ?_
  refine z_callSI1 X (c_X4_isSite hJ _ hs) kX4_86 ⟨(Nat.le_of_ble_eq_true rfl), (Nat.le_of_ble_eq_true rfl)⟩ (Nat.le_of_ble_eq_true rfl) ⟨Nat.zero_le _, Nat.zero_le _⟩ dX4_log_2 (fun z9 σ1 hz9 => ?_)
  obtain ⟨rfl, rfl⟩ := hz9
  refine z_ifb_eq X 16 dX4_log_5 (by decide) (fun c_2 => ?_) (fun c_2 => ?_)
  · refine z_iconst X dX4_log_16 ?_
    refine z_callVI1 X (c_X4_holds hJ σ ⟨by decide, by decide⟩) kX4_90 rfl (by decide) rfl ⟨(Nat.le_of_ble_eq_true rfl), (Nat.le_of_ble_eq_true rfl)⟩ (Nat.le_of_ble_eq_true rfl) ⟨Nat.zero_le _, Nat.zero_le _⟩ dX4_log_17 (fun z9 σ1 hz9 => ?_)
    obtain ⟨rfl, rfl⟩ := hz9
    refine z_ifb_ne X 25 dX4_log_20 (by decide) (fun h9 => absurd h9 (by decide)) (fun _ => ?_)
    refine z_iconst X dX4_log_23 ?_
    exact z_iret X hsz hr hlocks dX4_log_24 ⟨(by first | rfl | ((try simp only [e00] at *); first | rfl | grind)), (congrArg (zBk σ _ _) (by first | rfl | ((try simp only [e00] at *); first | rfl | grind)))⟩
  · refine z_iload_n X dX4_log_8 rfl ?_
    refine z_if_lt X 16 dX4_log_9 (by decide) hi (fun c_4 => ?_) (fun c_4 => ?_)
    · refine z_iconst X dX4_log_16 ?_
      refine z_callVI1 X (c_X4_holds hJ σ ⟨by decide, by decide⟩) kX4_90 rfl (by decide) rfl ⟨(Nat.le_of_ble_eq_true rfl), (Nat.le_of_ble_eq_true rfl)⟩ (Nat.le_of_ble_eq_true rfl) ⟨Nat.zero_le _, Nat.zero_le _⟩ dX4_log_17 (fun z9 σ1 hz9 => ?_)
      obtain ⟨rfl, rfl⟩ := hz9
      refine z_ifb_ne X 25 dX4_log_20 (by decide) (fun h9 => absurd h9 (by decide)) (fun _ => ?_)
      refine z_iconst X dX4_log_23 ?_
      exact z_iret X hsz hr hlocks dX4_log_24 ⟨(by first | rfl | ((try simp only [e00] at *); first | rfl | grind)), (congrArg (zBk σ _ _) (by first | rfl | ((try simp only [e00] at *); first | rfl | grind)))⟩
    · refine z_iconst X dX4_log_12 ?_
      refine z_goto X 17 dX4_log_13 (by decide) ?_
      refine z_callVI1 X (c_X4_holds hJ σ ⟨by decide, by decide⟩) kX4_90 rfl (by decide) rfl ⟨(Nat.le_of_ble_eq_true rfl), (Nat.le_of_ble_eq_true rfl)⟩ (Nat.le_of_ble_eq_true rfl) ⟨Nat.zero_le _, Nat.zero_le _⟩ dX4_log_17 (fun z9 σ1 hz9 => ?_)
      obtain ⟨rfl, rfl⟩ := hz9
      refine z_ifb_ne X 25 dX4_log_20 (by decide) (fun _ => ?_) (fun h9 => absurd rfl h9)
      refine z_iload_n X dX4_log_25 rfl ?_
      refine z_aload_n X dX4_log_26 rfl ?_
      refine y_gMod1 X fX4_7 dX4_log_27 ?_
      refine z_sipush X dX4_log_30 rfl ?_
      refine z_bipush X dX4_log_33 rfl ?_
      refine z_iload_n X dX4_log_35 rfl ?_
      refine z_imul X dX4_log_36 ?_
      refine z_iadd X dX4_log_37 ?_
      refine y_iald X 1 (zArr_6) (by decide) (by omega) (by omega) (by decide) dX4_log_38 ?_
      rw [fl_c (N := up2 N 0 0 0) (s := s) (by omega)]
      refine z_icmp_ge X 62 dX4_log_39 (by decide) hi (zB_sm (rk_ll (N := mV (up2 N 0 0 0) 0) (by rw [e00]; exact ok) (by omega))) (fun c_7 => ?_) (fun c_7 => ?_)
      · refine z_iconst X dX4_log_62 ?_
        exact z_iret X hsz hr hlocks dX4_log_63 ⟨(by first | rfl | ((try simp only [e00] at *); first | rfl | grind)), (congrArg (zBk σ _ _) (by first | rfl | ((try simp only [e00] at *); first | rfl | grind)))⟩
      · have hl := rk_ll (N := mV (up2 N 0 0 0) 0) (by rw [e00]; exact ok) (s := s.toNat) (by omega)
        refine z_aload_n X dX4_log_42 rfl ?_
        refine y_gMod1 X fX4_7 dX4_log_43 ?_
        refine z_sipush X dX4_log_46 rfl ?_
        refine z_bipush X dX4_log_49 rfl ?_
        refine z_iload_n X dX4_log_51 rfl ?_
        refine z_imul X dX4_log_52 ?_
        refine z_iadd X dX4_log_53 ?_
        refine z_iconst X dX4_log_54 ?_
        refine z_iadd X dX4_log_55 ?_
        refine z_iload_n X dX4_log_56 rfl ?_
        refine z_iadd X dX4_log_57 ?_
        refine y_iald X 1 (zArr_6) (by decide) (by omega) (by omega) (by decide) dX4_log_58 ?_
        rw [fl_e (N := up2 N 0 0 0) (s := s) (i := i) (by omega) (by omega) (by omega)]
        refine z_goto X 63 dX4_log_59 (by decide) ?_
        exact z_iret X hsz hr hlocks dX4_log_63 ⟨(by first | rfl | ((try simp only [e00] at *); first | rfl | grind)), (congrArg (zBk σ _ _) (by first | rfl | ((try simp only [e00] at *); first | rfl | grind)))⟩

set_option maxHeartbeats 4000000 in
set_option maxRecDepth 100000 in
theorem c_X4_held {l : Launch} {D : va_G} {G : zG} {ad : Nat → Nat} (hJ : zInj ad) (σ : zM) {N : Nat → Nat → Int}  {s : Int} (hs : zB s) (ok : rOk (mV N 0)) : zKI l D G ad yX4_held cX4_held 2 (some .int) 4 [.ref (ad 5), vI s] (zBk σ 5 3 N) (fun z σ9 => z = (if 0 ≤ s ∧ s ≤ 5 then cHeld (mV N 0) s ((mV N 0) 0 0).toNat else 0) ∧ σ9 = (zBk σ 5 3 (up2 N 0 0 (if 0 ≤ s ∧ s ≤ 5 then 0 else 1)))) := by
  intro sz
  refine z_open hJ (by decide +kernel) (Nat.le_of_ble_eq_true rfl) ?_
  intro p e s0 m args below meth c hsz X hr hlocks
  have hn := rk_n ok
  have e00 : ∀ x : Int, mV (up2 N 0 0 x) 0 = mV N 0 := fun x => mV_r0 N 0 x 0
  refine z_sub [(0, .ref (ad 5)), (1, vI s)] (zSub_cons rfl (zSub_cons rfl zSub_nil)) ?_
  refine z_aload_n X dX4_held_0 rfl ?_
  refine z_iload_n X dX4_held_1 rfl ?_
  refine z_callSI1 X (c_X4_isSite hJ _ hs) kX4_86 ⟨(Nat.le_of_ble_eq_true rfl), (Nat.le_of_ble_eq_true rfl)⟩ (Nat.le_of_ble_eq_true rfl) ⟨Nat.zero_le _, Nat.zero_le _⟩ dX4_held_2 (fun z9 σ1 hz9 => ?_)
  obtain ⟨rfl, rfl⟩ := hz9
  refine z_ifb_eq X 12 dX4_held_5 (by decide) (fun c_2 => ?_) (fun c_2 => ?_)
  · refine z_iconst X dX4_held_12 ?_
    refine z_callVI1 X (c_X4_holds hJ σ ⟨by decide, by decide⟩) kX4_90 rfl (by decide) rfl ⟨(Nat.le_of_ble_eq_true rfl), (Nat.le_of_ble_eq_true rfl)⟩ (Nat.le_of_ble_eq_true rfl) ⟨Nat.zero_le _, Nat.zero_le _⟩ dX4_held_13 (fun z9 σ1 hz9 => ?_)
    obtain ⟨rfl, rfl⟩ := hz9
    refine z_ifb_eq X 28 dX4_held_16 (by decide) (fun _ => ?_) (fun h9 => absurd h9 (by decide))
    refine z_iconst X dX4_held_28 ?_
    exact z_iret X hsz hr hlocks dX4_held_29 ⟨(by first | rfl | ((try simp only [e00] at *); first | rfl | grind)), (congrArg (zBk σ _ _) (by first | rfl | ((try simp only [e00] at *); first | rfl | grind)))⟩
  · refine z_iconst X dX4_held_8 ?_
    refine z_goto X 13 dX4_held_9 (by decide) ?_
    refine z_callVI1 X (c_X4_holds hJ σ ⟨by decide, by decide⟩) kX4_90 rfl (by decide) rfl ⟨(Nat.le_of_ble_eq_true rfl), (Nat.le_of_ble_eq_true rfl)⟩ (Nat.le_of_ble_eq_true rfl) ⟨Nat.zero_le _, Nat.zero_le _⟩ dX4_held_13 (fun z9 σ1 hz9 => ?_)
    obtain ⟨rfl, rfl⟩ := hz9
    refine z_ifb_eq X 28 dX4_held_16 (by decide) (fun h9 => absurd rfl h9) (fun _ => ?_)
    refine z_aload_n X dX4_held_19 rfl ?_
    refine z_iconst X dX4_held_20 ?_
    refine z_iload_n X dX4_held_21 rfl ?_
    refine z_callVI2 X (c_X4_heldBy hJ σ ⟨by decide, by decide⟩ hs (by omega) (by rw [e00]; exact ok) (by omega)) kX4_38 rfl (by decide) rfl ⟨(Nat.le_of_ble_eq_true rfl), (Nat.le_of_ble_eq_true rfl)⟩ (Nat.le_of_ble_eq_true rfl) ⟨Nat.zero_le _, Nat.zero_le _⟩ dX4_held_22 (fun z9 σ1 hz9 => ?_)
    obtain ⟨rfl, rfl⟩ := hz9
    refine z_goto X 29 dX4_held_25 (by decide) ?_
    exact z_iret X hsz hr hlocks dX4_held_29 ⟨(by first | rfl | ((try simp only [e00] at *); first | rfl | grind)), (congrArg (zBk σ _ _) (by first | rfl | ((try simp only [e00] at *); first | rfl | grind)))⟩

set_option maxHeartbeats 4000000 in
set_option maxRecDepth 100000 in
theorem c_X4_asked {l : Launch} {D : va_G} {G : zG} {ad : Nat → Nat} (hJ : zInj ad) (σ : zM) {N : Nat → Nat → Int}   (ok : rOk (mV N 0)) : zKI l D G ad yX4_asked cX4_asked 1 (some .int) 0 [.ref (ad 5)] (zBk σ 5 3 N) (fun z σ9 => z = (mV N 0) 0 2 ∧ σ9 = (zBk σ 5 3 (up2 N 0 0 (0)))) := by
  intro sz
  refine z_open hJ (by decide +kernel) (Nat.le_of_ble_eq_true rfl) ?_
  intro p e s0 m args below meth c hsz X hr hlocks
  have hn := rk_n ok
  have e00 : ∀ x : Int, mV (up2 N 0 0 x) 0 = mV N 0 := fun x => mV_r0 N 0 x 0
  refine z_sub [(0, .ref (ad 5))] (zSub_cons rfl zSub_nil) ?_
  refine z_aload_n X dX4_asked_0 rfl ?_
  refine z_iconst X dX4_asked_1 ?_
  refine y_pMod0 X fX4_16 dX4_asked_2 ?_
  refine z_aload_n X dX4_asked_5 rfl ?_
  refine y_gMod1 X fX4_7 dX4_asked_6 ?_
  refine z_iconst X dX4_asked_9 ?_
  refine y_iald X 1 (zArr_6) (by decide) (by omega) (by omega) (by decide) dX4_asked_10 ?_
  rw [fl_a (N := (up2 N 0 0 0))]
  exact z_iret X hsz hr hlocks dX4_asked_11 ⟨(by first | rfl | ((try simp only [e00] at *); first | rfl | grind)), (congrArg (zBk σ _ _) (by first | rfl | ((try simp only [e00] at *); first | rfl | grind)))⟩

set_option maxHeartbeats 4000000 in
set_option maxRecDepth 100000 in
theorem c_X4_reason {l : Launch} {D : va_G} {G : zG} {ad : Nat → Nat} (hJ : zInj ad) (σ : zM) {N : Nat → Nat → Int}  {d : Int} (hd : zB d) {s : Int} (hs : zB s) (ok : rOk (mV N 0)) : zKI l D G ad yX4_reason cX4_reason 3 (some .int) 5 [.ref (ad 5), vI d, vI s] (zBk σ 5 3 N) (fun z σ9 => z = (if cHas (mV N 0) d ∧ (0 ≤ s ∧ s ≤ 5) then (if cSt (mV N 0) d s = -1 then 1 else if ¬ cUp (mV N 0) s then 2 else if cSt (mV N 0) d s ≠ 0 then 3 else if mHeld (mV N 0) d s then 4 else 0) else 0) ∧ σ9 = (zBk σ 5 3 (up2 N 0 0 (if cHas (mV N 0) d ∧ (0 ≤ s ∧ s ≤ 5) then 0 else 1)))) := by
  intro sz
  refine z_open hJ (by decide +kernel) (Nat.le_of_ble_eq_true rfl) ?_
  intro p e s0 m args below meth c hsz X hr hlocks
  have hn := rk_n ok
  have e00 : ∀ x : Int, mV (up2 N 0 0 x) 0 = mV N 0 := fun x => mV_r0 N 0 x 0
  refine z_sub [(0, .ref (ad 5)), (1, vI d), (2, vI s)] (zSub_cons rfl (zSub_cons rfl (zSub_cons rfl zSub_nil))) ?_
  refine z_aload_n X dX4_reason_0 rfl ?_
  refine z_aload_n X dX4_reason_1 rfl ?_
  refine z_iload_n X dX4_reason_2 rfl ?_
  refine z_callVI1 X (c_X4_isDeal hJ σ hd ok) kX4_96 rfl (by decide) rfl ⟨(Nat.le_of_ble_eq_true rfl), (Nat.le_of_ble_eq_true rfl)⟩ (Nat.le_of_ble_eq_true rfl) ⟨Nat.zero_le _, Nat.zero_le _⟩ dX4_reason_3 (fun z9 σ1 hz9 => ?_)
  obtain ⟨rfl, rfl⟩ := hz9
  refine z_ifb_eq X 20 dX4_reason_6 (by decide) (fun c_2 => ?_) (fun c_2 => ?_)
  · refine z_iconst X dX4_reason_20 ?_
    refine z_callVI1 X (c_X4_holds hJ σ ⟨by decide, by decide⟩) kX4_90 rfl (by decide) rfl ⟨(Nat.le_of_ble_eq_true rfl), (Nat.le_of_ble_eq_true rfl)⟩ (Nat.le_of_ble_eq_true rfl) ⟨Nat.zero_le _, Nat.zero_le _⟩ dX4_reason_21 (fun z9 σ1 hz9 => ?_)
    obtain ⟨rfl, rfl⟩ := hz9
    refine z_ifb_ne X 29 dX4_reason_24 (by decide) (fun h9 => absurd h9 (by decide)) (fun _ => ?_)
    refine z_iconst X dX4_reason_27 ?_
    exact z_iret X hsz hr hlocks dX4_reason_28 ⟨(by first | rfl | ((try simp only [e00] at *); first | rfl | grind)), (congrArg (zBk σ _ _) (by first | rfl | ((try simp only [e00] at *); first | rfl | grind)))⟩
  · refine z_iload_n X dX4_reason_9 rfl ?_
    refine z_callSI1 X (c_X4_isSite hJ _ hs) kX4_86 ⟨(Nat.le_of_ble_eq_true rfl), (Nat.le_of_ble_eq_true rfl)⟩ (Nat.le_of_ble_eq_true rfl) ⟨Nat.zero_le _, Nat.zero_le _⟩ dX4_reason_10 (fun z9 σ1 hz9 => ?_)
    obtain ⟨rfl, rfl⟩ := hz9
    refine z_ifb_eq X 20 dX4_reason_13 (by decide) (fun c_5 => ?_) (fun c_5 => ?_)
    · refine z_iconst X dX4_reason_20 ?_
      refine z_callVI1 X (c_X4_holds hJ σ ⟨by decide, by decide⟩) kX4_90 rfl (by decide) rfl ⟨(Nat.le_of_ble_eq_true rfl), (Nat.le_of_ble_eq_true rfl)⟩ (Nat.le_of_ble_eq_true rfl) ⟨Nat.zero_le _, Nat.zero_le _⟩ dX4_reason_21 (fun z9 σ1 hz9 => ?_)
      obtain ⟨rfl, rfl⟩ := hz9
      refine z_ifb_ne X 29 dX4_reason_24 (by decide) (fun h9 => absurd h9 (by decide)) (fun _ => ?_)
      refine z_iconst X dX4_reason_27 ?_
      exact z_iret X hsz hr hlocks dX4_reason_28 ⟨(by first | rfl | ((try simp only [e00] at *); first | rfl | grind)), (congrArg (zBk σ _ _) (by first | rfl | ((try simp only [e00] at *); first | rfl | grind)))⟩
    · refine z_iconst X dX4_reason_16 ?_
      refine z_goto X 21 dX4_reason_17 (by decide) ?_
      refine z_callVI1 X (c_X4_holds hJ σ ⟨by decide, by decide⟩) kX4_90 rfl (by decide) rfl ⟨(Nat.le_of_ble_eq_true rfl), (Nat.le_of_ble_eq_true rfl)⟩ (Nat.le_of_ble_eq_true rfl) ⟨Nat.zero_le _, Nat.zero_le _⟩ dX4_reason_21 (fun z9 σ1 hz9 => ?_)
      obtain ⟨rfl, rfl⟩ := hz9
      refine z_ifb_ne X 29 dX4_reason_24 (by decide) (fun _ => ?_) (fun h9 => absurd rfl h9)
      refine z_aload_n X dX4_reason_29 rfl ?_
      refine z_iconst X dX4_reason_30 ?_
      refine z_iload_n X dX4_reason_31 rfl ?_
      refine z_iload_n X dX4_reason_32 rfl ?_
      refine z_callVI3 X (c_X4_isMember hJ σ ⟨by decide, by decide⟩ hd hs (by omega) (by rw [e00]; exact ok) (by first | omega | assumption | grind) (by omega)) kX4_28 rfl (by decide) rfl ⟨(Nat.le_of_ble_eq_true rfl), (Nat.le_of_ble_eq_true rfl)⟩ (Nat.le_of_ble_eq_true rfl) ⟨Nat.zero_le _, Nat.zero_le _⟩ dX4_reason_33 (fun z9 σ1 hz9 => ?_)
      obtain ⟨rfl, rfl⟩ := hz9
      refine z_ifb_ne X 41 dX4_reason_36 (by decide) (fun c_9 => ?_) (fun c_9 => ?_)
      · refine z_aload_n X dX4_reason_41 rfl ?_
        refine z_iconst X dX4_reason_42 ?_
        refine z_iload_n X dX4_reason_43 rfl ?_
        refine z_callVI2 X (c_X4_isUpNow hJ σ ⟨by decide, by decide⟩ hs (by omega) (by omega)) kX4_58 rfl (by decide) rfl ⟨(Nat.le_of_ble_eq_true rfl), (Nat.le_of_ble_eq_true rfl)⟩ (Nat.le_of_ble_eq_true rfl) ⟨Nat.zero_le _, Nat.zero_le _⟩ dX4_reason_44 (fun z9 σ1 hz9 => ?_)
        obtain ⟨rfl, rfl⟩ := hz9
        refine z_ifb_ne X 52 dX4_reason_47 (by decide) (fun c_11 => ?_) (fun c_11 => ?_)
        · refine z_aload_n X dX4_reason_52 rfl ?_
          refine z_iconst X dX4_reason_53 ?_
          refine z_iload_n X dX4_reason_54 rfl ?_
          refine z_iload_n X dX4_reason_55 rfl ?_
          refine z_callVI3 X (c_X4_stateOf hJ σ ⟨by decide, by decide⟩ hd hs (by omega) (by rw [e00]; exact ok) (by first | omega | assumption | grind) (by omega)) kX4_35 rfl (by decide) rfl ⟨(Nat.le_of_ble_eq_true rfl), (Nat.le_of_ble_eq_true rfl)⟩ (Nat.le_of_ble_eq_true rfl) ⟨Nat.zero_le _, Nat.zero_le _⟩ dX4_reason_56 (fun z9 σ1 hz9 => ?_)
          obtain ⟨rfl, rfl⟩ := hz9
          refine z_if_eq X 66 dX4_reason_59 (by decide) (zB_sm (qg_st (by rw [e00]; exact ok) _ _)) (fun c_13 => ?_) (fun c_13 => ?_)
          · refine z_aload_n X dX4_reason_66 rfl ?_
            refine z_iconst X dX4_reason_67 ?_
            refine z_iload_n X dX4_reason_68 rfl ?_
            refine z_iload_n X dX4_reason_69 rfl ?_
            refine z_callVI3 X (c_X4_isHeld hJ σ ⟨by decide, by decide⟩ hd hs (by omega) (by rw [e00]; exact ok) (by first | omega | assumption | grind) (by omega)) kX4_42 rfl (by decide) rfl ⟨(Nat.le_of_ble_eq_true rfl), (Nat.le_of_ble_eq_true rfl)⟩ (Nat.le_of_ble_eq_true rfl) ⟨Nat.zero_le _, Nat.zero_le _⟩ dX4_reason_70 (fun z9 σ1 hz9 => ?_)
            obtain ⟨rfl, rfl⟩ := hz9
            refine z_ifb_eq X 80 dX4_reason_73 (by decide) (fun c_15 => ?_) (fun c_15 => ?_)
            · refine z_iconst X dX4_reason_80 ?_
              exact z_iret X hsz hr hlocks dX4_reason_81 ⟨(by first | rfl | ((try simp only [e00] at *); first | rfl | grind)), (congrArg (zBk σ _ _) (by first | rfl | ((try simp only [e00] at *); first | rfl | grind)))⟩
            · refine z_iconst X dX4_reason_76 ?_
              refine z_goto X 81 dX4_reason_77 (by decide) ?_
              exact z_iret X hsz hr hlocks dX4_reason_81 ⟨(by first | rfl | ((try simp only [e00] at *); first | rfl | grind)), (congrArg (zBk σ _ _) (by first | rfl | ((try simp only [e00] at *); first | rfl | grind)))⟩
          · refine z_iconst X dX4_reason_62 ?_
            refine z_goto X 81 dX4_reason_63 (by decide) ?_
            exact z_iret X hsz hr hlocks dX4_reason_81 ⟨(by first | rfl | ((try simp only [e00] at *); first | rfl | grind)), (congrArg (zBk σ _ _) (by first | rfl | ((try simp only [e00] at *); first | rfl | grind)))⟩
        · refine z_iconst X dX4_reason_50 ?_
          exact z_iret X hsz hr hlocks dX4_reason_51 ⟨(by first | rfl | ((try simp only [e00] at *); first | rfl | grind)), (congrArg (zBk σ _ _) (by first | rfl | ((try simp only [e00] at *); first | rfl | grind)))⟩
      · refine z_iconst X dX4_reason_39 ?_
        exact z_iret X hsz hr hlocks dX4_reason_40 ⟨(by first | rfl | ((try simp only [e00] at *); first | rfl | grind)), (congrArg (zBk σ _ _) (by first | rfl | ((try simp only [e00] at *); first | rfl | grind)))⟩

set_option maxHeartbeats 4000000 in
set_option maxRecDepth 100000 in
theorem c_X4_helper {l : Launch} {D : va_G} {G : zG} {ad : Nat → Nat} (hJ : zInj ad) (σ : zM) {N : Nat → Nat → Int}  {d : Int} (hd : zB d) {s : Int} (hs : zB s) (ok : rOk (mV N 0)) : zKI l D G ad yX4_helper cX4_helper 3 (some .int) 5 [.ref (ad 5), vI d, vI s] (zBk σ 5 3 N) (fun z σ9 => z = (if cHas (mV N 0) d ∧ (0 ≤ s ∧ s ≤ 5) then cHelp (mV N 0) d s else 0) ∧ σ9 = (zBk σ 5 3 (up2 N 0 0 (if cHas (mV N 0) d ∧ (0 ≤ s ∧ s ≤ 5) then 0 else 1)))) := by
  intro sz
  refine z_open hJ (by decide +kernel) (Nat.le_of_ble_eq_true rfl) ?_
  intro p e s0 m args below meth c hsz X hr hlocks
  have hn := rk_n ok
  have e00 : ∀ x : Int, mV (up2 N 0 0 x) 0 = mV N 0 := fun x => mV_r0 N 0 x 0
  refine z_sub [(0, .ref (ad 5)), (1, vI d), (2, vI s)] (zSub_cons rfl (zSub_cons rfl (zSub_cons rfl zSub_nil))) ?_
  refine z_aload_n X dX4_helper_0 rfl ?_
  refine z_aload_n X dX4_helper_1 rfl ?_
  refine z_iload_n X dX4_helper_2 rfl ?_
  refine z_callVI1 X (c_X4_isDeal hJ σ hd ok) kX4_96 rfl (by decide) rfl ⟨(Nat.le_of_ble_eq_true rfl), (Nat.le_of_ble_eq_true rfl)⟩ (Nat.le_of_ble_eq_true rfl) ⟨Nat.zero_le _, Nat.zero_le _⟩ dX4_helper_3 (fun z9 σ1 hz9 => ?_)
  obtain ⟨rfl, rfl⟩ := hz9
  refine z_ifb_eq X 20 dX4_helper_6 (by decide) (fun c_2 => ?_) (fun c_2 => ?_)
  · refine z_iconst X dX4_helper_20 ?_
    refine z_callVI1 X (c_X4_holds hJ σ ⟨by decide, by decide⟩) kX4_90 rfl (by decide) rfl ⟨(Nat.le_of_ble_eq_true rfl), (Nat.le_of_ble_eq_true rfl)⟩ (Nat.le_of_ble_eq_true rfl) ⟨Nat.zero_le _, Nat.zero_le _⟩ dX4_helper_21 (fun z9 σ1 hz9 => ?_)
    obtain ⟨rfl, rfl⟩ := hz9
    refine z_ifb_eq X 36 dX4_helper_24 (by decide) (fun _ => ?_) (fun h9 => absurd h9 (by decide))
    refine z_iconst X dX4_helper_36 ?_
    exact z_iret X hsz hr hlocks dX4_helper_37 ⟨(by first | rfl | ((try simp only [e00] at *); first | rfl | grind)), (congrArg (zBk σ _ _) (by first | rfl | ((try simp only [e00] at *); first | rfl | grind)))⟩
  · refine z_iload_n X dX4_helper_9 rfl ?_
    refine z_callSI1 X (c_X4_isSite hJ _ hs) kX4_86 ⟨(Nat.le_of_ble_eq_true rfl), (Nat.le_of_ble_eq_true rfl)⟩ (Nat.le_of_ble_eq_true rfl) ⟨Nat.zero_le _, Nat.zero_le _⟩ dX4_helper_10 (fun z9 σ1 hz9 => ?_)
    obtain ⟨rfl, rfl⟩ := hz9
    refine z_ifb_eq X 20 dX4_helper_13 (by decide) (fun c_5 => ?_) (fun c_5 => ?_)
    · refine z_iconst X dX4_helper_20 ?_
      refine z_callVI1 X (c_X4_holds hJ σ ⟨by decide, by decide⟩) kX4_90 rfl (by decide) rfl ⟨(Nat.le_of_ble_eq_true rfl), (Nat.le_of_ble_eq_true rfl)⟩ (Nat.le_of_ble_eq_true rfl) ⟨Nat.zero_le _, Nat.zero_le _⟩ dX4_helper_21 (fun z9 σ1 hz9 => ?_)
      obtain ⟨rfl, rfl⟩ := hz9
      refine z_ifb_eq X 36 dX4_helper_24 (by decide) (fun _ => ?_) (fun h9 => absurd h9 (by decide))
      refine z_iconst X dX4_helper_36 ?_
      exact z_iret X hsz hr hlocks dX4_helper_37 ⟨(by first | rfl | ((try simp only [e00] at *); first | rfl | grind)), (congrArg (zBk σ _ _) (by first | rfl | ((try simp only [e00] at *); first | rfl | grind)))⟩
    · refine z_iconst X dX4_helper_16 ?_
      refine z_goto X 21 dX4_helper_17 (by decide) ?_
      refine z_callVI1 X (c_X4_holds hJ σ ⟨by decide, by decide⟩) kX4_90 rfl (by decide) rfl ⟨(Nat.le_of_ble_eq_true rfl), (Nat.le_of_ble_eq_true rfl)⟩ (Nat.le_of_ble_eq_true rfl) ⟨Nat.zero_le _, Nat.zero_le _⟩ dX4_helper_21 (fun z9 σ1 hz9 => ?_)
      obtain ⟨rfl, rfl⟩ := hz9
      refine z_ifb_eq X 36 dX4_helper_24 (by decide) (fun h9 => absurd rfl h9) (fun _ => ?_)
      refine z_aload_n X dX4_helper_27 rfl ?_
      refine z_iload_n X dX4_helper_28 rfl ?_
      refine z_iload_n X dX4_helper_29 rfl ?_
      refine z_callVI2 X (c_X4_helperOf hJ σ hd hs (by rw [e00]; exact ok) (by first | omega | assumption | grind) (by omega)) kX4_134 rfl (by decide) rfl ⟨(Nat.le_of_ble_eq_true rfl), (Nat.le_of_ble_eq_true rfl)⟩ (Nat.le_of_ble_eq_true rfl) ⟨Nat.zero_le _, Nat.zero_le _⟩ dX4_helper_30 (fun z9 σ1 hz9 => ?_)
      obtain ⟨rfl, rfl⟩ := hz9
      refine z_goto X 37 dX4_helper_33 (by decide) ?_
      exact z_iret X hsz hr hlocks dX4_helper_37 ⟨(by first | rfl | ((try simp only [e00] at *); first | rfl | grind)), (congrArg (zBk σ _ _) (by first | rfl | ((try simp only [e00] at *); first | rfl | grind)))⟩

set_option maxHeartbeats 4000000 in
set_option maxRecDepth 100000 in
theorem c_X4_savedStates {l : Launch} {D : va_G} {G : zG} {ad : Nat → Nat} (hJ : zInj ad) (σ : zM) {N : Nat → Nat → Int}   (ok : rOk (mV N 0)) : zKI l D G ad yX4_savedStates cX4_savedStates 1 (some .int) 0 [.ref (ad 5)] (zBk σ 5 3 N) (fun z σ9 => z = N 0 2 ∧ σ9 = (zBk σ 5 3 (up2 N 0 0 (0)))) := by
  intro sz
  refine z_open hJ (by decide +kernel) (Nat.le_of_ble_eq_true rfl) ?_
  intro p e s0 m args below meth c hsz X hr hlocks
  have hn := rk_n ok
  have e00 : ∀ x : Int, mV (up2 N 0 0 x) 0 = mV N 0 := fun x => mV_r0 N 0 x 0
  refine z_sub [(0, .ref (ad 5))] (zSub_cons rfl zSub_nil) ?_
  refine z_aload_n X dX4_savedStates_0 rfl ?_
  refine z_iconst X dX4_savedStates_1 ?_
  refine y_pMod0 X fX4_16 dX4_savedStates_2 ?_
  refine z_aload_n X dX4_savedStates_5 rfl ?_
  refine y_gMod2 X fX4_76 dX4_savedStates_6 ?_
  exact z_iret X hsz hr hlocks dX4_savedStates_9 ⟨(by first | rfl | ((try simp only [e00] at *); first | rfl | grind)), (congrArg (zBk σ _ _) (by first | rfl | ((try simp only [e00] at *); first | rfl | grind)))⟩

set_option maxHeartbeats 4000000 in
set_option maxRecDepth 100000 in
theorem c_X4_clearText {l : Launch} {D : va_G} {G : zG} {ad : Nat → Nat} (hJ : zInj ad) (σ : zM) {N : Nat → Nat → Int}   (ok : rOk (mV N 0)) : zKI l D G ad yX4_clearText cX4_clearText 2 (some .int) 0 [.ref (ad 5)] (zBk σ 5 3 N) (fun z σ9 => z = N 0 4 ∧ σ9 = (zBk σ 5 3 (up2 (up2 N 0 0 0) 0 4 0))) := by
  intro sz
  refine z_open hJ (by decide +kernel) (Nat.le_of_ble_eq_true rfl) ?_
  intro p e s0 m args below meth c hsz X hr hlocks
  have hn := rk_n ok
  have e00 : ∀ x : Int, mV (up2 N 0 0 x) 0 = mV N 0 := fun x => mV_r0 N 0 x 0
  refine z_sub [(0, .ref (ad 5))] (zSub_cons rfl zSub_nil) ?_
  refine z_aload_n X dX4_clearText_0 rfl ?_
  refine z_iconst X dX4_clearText_1 ?_
  refine y_pMod0 X fX4_16 dX4_clearText_2 ?_
  refine z_aload_n X dX4_clearText_5 rfl ?_
  refine y_gMod4 X fX4_140 dX4_clearText_6 ?_
  refine z_istore_n X dX4_clearText_9 (by decide) ?_
  refine z_sub [(0, .ref (ad 5)), (1, vI ((up2 N 0 0 0) 0 4))] (zSub_cons rfl (zSub_cons rfl zSub_nil)) ?_
  refine z_aload_n X dX4_clearText_10 rfl ?_
  refine z_iconst X dX4_clearText_11 ?_
  refine y_pMod4 X fX4_140 dX4_clearText_12 ?_
  refine z_iload_n X dX4_clearText_15 rfl ?_
  exact z_iret X hsz hr hlocks dX4_clearText_16 ⟨(by first | rfl | ((try simp only [e00] at *); first | rfl | grind)), (congrArg (zBk σ _ _) (by first | rfl | ((try simp only [e00] at *); first | rfl | grind)))⟩

set_option maxHeartbeats 4000000 in
set_option maxRecDepth 100000 in
theorem c_X4_append {l : Launch} {D : va_G} {G : zG} {ad : Nat → Nat} (hJ : zInj ad) (σ : zM) {N : Nat → Nat → Int}  {x : Int} (hx : zB x) (h4 : 0 ≤ N 0 4 ∧ N 0 4 ≤ 60) : zKI l D G ad yX4_append cX4_append 2 (some .int) 1 [.ref (ad 5), vI x] (zBk σ 5 3 N) (fun z σ9 => z = (if mX_append N x = 0 then N 0 4 + 1 else 0) ∧ σ9 = (zBk σ 5 3 (mAppN N x))) := by
  intro sz
  refine z_open hJ (by decide +kernel) (Nat.le_of_ble_eq_true rfl) ?_
  intro p e s0 m args below meth c hsz X hr hlocks
  refine z_sub [(0, .ref (ad 5)), (1, vI x)] (zSub_cons rfl (zSub_cons rfl zSub_nil)) ?_
  refine z_aload_n X dX4_append_0 rfl ?_
  refine z_iload_n X dX4_append_1 rfl ?_
  refine z_bipush X dX4_append_2 rfl ?_
  refine z_bipush X dX4_append_4 rfl ?_
  refine z_callSI3 X (c_X4_in hJ _ hx ⟨by decide, by decide⟩ ⟨by decide, by decide⟩) kX4_20 ⟨(Nat.le_of_ble_eq_true rfl), (Nat.le_of_ble_eq_true rfl)⟩ (Nat.le_of_ble_eq_true rfl) ⟨Nat.zero_le _, Nat.zero_le _⟩ dX4_append_6 (fun z9 σ1 hz9 => ?_)
  obtain ⟨rfl, rfl⟩ := hz9
  refine z_ifb_ne X 16 dX4_append_9 (by decide) (fun c_2 => ?_) (fun c_2 => ?_)
  · refine z_aload_n X dX4_append_16 rfl ?_
    refine y_gMod4 X fX4_140 dX4_append_17 ?_
    refine z_bipush X dX4_append_20 rfl ?_
    refine z_icmp_ne X 29 dX4_append_22 (by decide) (by unfold zB; omega) ⟨by decide, by decide⟩ (fun c_3 => ?_) (fun c_3 => ?_)
    · refine z_iconst X dX4_append_29 ?_
      refine z_callVI1 X (c_X4_holds hJ σ ⟨by decide, by decide⟩) kX4_90 rfl (by decide) rfl ⟨(Nat.le_of_ble_eq_true rfl), (Nat.le_of_ble_eq_true rfl)⟩ (Nat.le_of_ble_eq_true rfl) ⟨Nat.zero_le _, Nat.zero_le _⟩ dX4_append_30 (fun z9 σ1 hz9 => ?_)
      obtain ⟨rfl, rfl⟩ := hz9
      refine z_ifb_ne X 38 dX4_append_33 (by decide) (fun _ => ?_) (fun h9 => absurd rfl h9)
      refine z_aload_n X dX4_append_38 rfl ?_
      refine y_gMod3 X fX4_13 dX4_append_39 ?_
      refine z_aload_n X dX4_append_42 rfl ?_
      refine y_gMod4 X fX4_140 dX4_append_43 ?_
      rw [show (up2 N 0 0 0) 0 4 = N 0 4 from rfl]
      refine z_iload_n X dX4_append_46 rfl ?_
      refine y_iast X 2 (zArr_7) (by decide) (by omega) (by omega) (by decide) dX4_append_47 ?_
      refine z_aload_n X dX4_append_48 rfl ?_
      refine z_dup X dX4_append_49 rfl ?_
      refine y_gMod4 X fX4_140 dX4_append_50 ?_
      rw [show (up2 (up2 N 0 0 0) 2 (N 0 4).toNat x) 0 4 = N 0 4 from rfl]
      refine z_iconst X dX4_append_53 ?_
      refine z_iadd X dX4_append_54 ?_
      refine y_pMod4 X fX4_140 dX4_append_55 ?_
      refine z_aload_n X dX4_append_58 rfl ?_
      refine y_gMod4 X fX4_140 dX4_append_59 ?_
      rw [up2_at]
      exact z_iret X hsz hr hlocks dX4_append_62 ⟨(by rw [show mX_append N x = (0 : Int) from (by unfold mX_append; grind)]; rfl), (congrArg (zBk σ _ _) (by unfold mAppN; rw [show mX_append N x = (0 : Int) from (by unfold mX_append; grind)]; rfl))⟩
    · refine z_iconst X dX4_append_25 ?_
      refine z_goto X 30 dX4_append_26 (by decide) ?_
      refine z_callVI1 X (c_X4_holds hJ σ ⟨by decide, by decide⟩) kX4_90 rfl (by decide) rfl ⟨(Nat.le_of_ble_eq_true rfl), (Nat.le_of_ble_eq_true rfl)⟩ (Nat.le_of_ble_eq_true rfl) ⟨Nat.zero_le _, Nat.zero_le _⟩ dX4_append_30 (fun z9 σ1 hz9 => ?_)
      obtain ⟨rfl, rfl⟩ := hz9
      refine z_ifb_ne X 38 dX4_append_33 (by decide) (fun h9 => absurd h9 (by decide)) (fun _ => ?_)
      refine z_iconst X dX4_append_36 ?_
      exact z_iret X hsz hr hlocks dX4_append_37 ⟨(by rw [show mX_append N x = (2 : Int) from (by unfold mX_append; grind)]; rfl), (congrArg (zBk σ _ _) (by unfold mAppN; rw [show mX_append N x = (2 : Int) from (by unfold mX_append; grind)]; rfl))⟩
  · refine z_iconst X dX4_append_12 ?_
    refine z_goto X 30 dX4_append_13 (by decide) ?_
    refine z_callVI1 X (c_X4_holds hJ σ ⟨by decide, by decide⟩) kX4_90 rfl (by decide) rfl ⟨(Nat.le_of_ble_eq_true rfl), (Nat.le_of_ble_eq_true rfl)⟩ (Nat.le_of_ble_eq_true rfl) ⟨Nat.zero_le _, Nat.zero_le _⟩ dX4_append_30 (fun z9 σ1 hz9 => ?_)
    obtain ⟨rfl, rfl⟩ := hz9
    refine z_ifb_ne X 38 dX4_append_33 (by decide) (fun h9 => absurd h9 (by decide)) (fun _ => ?_)
    refine z_iconst X dX4_append_36 ?_
    exact z_iret X hsz hr hlocks dX4_append_37 ⟨(by rw [show mX_append N x = (1 : Int) from (by unfold mX_append; grind)]; rfl), (congrArg (zBk σ _ _) (by unfold mAppN; rw [show mX_append N x = (1 : Int) from (by unfold mX_append; grind)]; rfl))⟩

set_option maxHeartbeats 4000000 in
set_option maxRecDepth 100000 in
theorem c_X4_undo {l : Launch} {D : va_G} {G : zG} {ad : Nat → Nat} (hJ : zInj ad) (σ : zM) {N : Nat → Nat → Int}   (h6 : 0 ≤ N 0 2 ∧ N 0 2 ≤ 6) : zKI l D G ad yX4_undo cX4_undo 1 (some .int) 1 [.ref (ad 5)] (zBk σ 5 3 N) (fun z σ9 => z = (if 0 < N 0 2 then N 0 2 - 1 else 0) ∧ σ9 = (zBk σ 5 3 (mUndoN N))) := by
  intro sz
  refine z_open hJ (by decide +kernel) (Nat.le_of_ble_eq_true rfl) ?_
  intro p e s0 m args below meth c hsz X hr hlocks
  refine z_sub [(0, .ref (ad 5))] (zSub_cons rfl zSub_nil) ?_
  refine z_aload_n X dX4_undo_0 rfl ?_
  refine z_aload_n X dX4_undo_1 rfl ?_
  refine y_gMod2 X fX4_76 dX4_undo_2 ?_
  refine z_if_le X 12 dX4_undo_5 (by decide) (by unfold zB; omega) (fun c_1 => ?_) (fun c_1 => ?_)
  · refine z_iconst X dX4_undo_12 ?_
    refine z_callVI1 X (c_X4_holds hJ σ ⟨by decide, by decide⟩) kX4_90 rfl (by decide) rfl ⟨(Nat.le_of_ble_eq_true rfl), (Nat.le_of_ble_eq_true rfl)⟩ (Nat.le_of_ble_eq_true rfl) ⟨Nat.zero_le _, Nat.zero_le _⟩ dX4_undo_13 (fun z9 σ1 hz9 => ?_)
    obtain ⟨rfl, rfl⟩ := hz9
    refine z_ifb_ne X 21 dX4_undo_16 (by decide) (fun h9 => absurd h9 (by decide)) (fun _ => ?_)
    refine z_iconst X dX4_undo_19 ?_
    exact z_iret X hsz hr hlocks dX4_undo_20 ⟨(by first | rw [if_pos (by assumption)] | rw [if_neg (by omega)]), (congrArg (zBk σ _ _) (by unfold mUndoN; first | rw [if_pos (by assumption)] | rw [if_neg (by omega)]))⟩
  · refine z_iconst X dX4_undo_8 ?_
    refine z_goto X 13 dX4_undo_9 (by decide) ?_
    refine z_callVI1 X (c_X4_holds hJ σ ⟨by decide, by decide⟩) kX4_90 rfl (by decide) rfl ⟨(Nat.le_of_ble_eq_true rfl), (Nat.le_of_ble_eq_true rfl)⟩ (Nat.le_of_ble_eq_true rfl) ⟨Nat.zero_le _, Nat.zero_le _⟩ dX4_undo_13 (fun z9 σ1 hz9 => ?_)
    obtain ⟨rfl, rfl⟩ := hz9
    refine z_ifb_ne X 21 dX4_undo_16 (by decide) (fun _ => ?_) (fun h9 => absurd rfl h9)
    refine z_aload_n X dX4_undo_21 rfl ?_
    refine z_aload_n X dX4_undo_22 rfl ?_
    refine y_gMod2 X fX4_76 dX4_undo_23 ?_
    rw [show (up2 N 0 0 0) 0 2 = N 0 2 from rfl]
    refine z_iconst X dX4_undo_26 ?_
    refine z_callVV2 X (c_X4_copies hJ σ (by unfold zB; omega) ⟨by decide, by decide⟩ (by omega) (by omega) (by omega)) kX4_79 rfl (by decide) rfl ⟨(Nat.le_of_ble_eq_true rfl), (Nat.le_of_ble_eq_true rfl)⟩ (Nat.le_of_ble_eq_true rfl) ⟨Nat.zero_le _, Nat.zero_le _⟩ dX4_undo_27 (fun σ1 hz9 => ?_)
    obtain rfl := hz9
    refine z_aload_n X dX4_undo_30 rfl ?_
    refine z_dup X dX4_undo_31 rfl ?_
    refine y_gMod2 X fX4_76 dX4_undo_32 ?_
    rw [show (mCp (up2 N 0 0 0) (N 0 2) 0) 0 2 = N 0 2 from mCp_r0 _ _ _ _]
    refine z_iconst X dX4_undo_35 ?_
    refine z_isub X dX4_undo_36 ?_
    refine y_pMod2 X fX4_76 dX4_undo_37 ?_
    refine z_aload_n X dX4_undo_40 rfl ?_
    refine y_gMod2 X fX4_76 dX4_undo_41 ?_
    rw [up2_at]
    exact z_iret X hsz hr hlocks dX4_undo_44 ⟨(by first | rw [if_pos (by assumption)] | rw [if_neg (by omega)]), (congrArg (zBk σ _ _) (by unfold mUndoN; first | rw [if_pos (by assumption)] | rw [if_neg (by omega)]))⟩

set_option maxHeartbeats 4000000 in
set_option maxRecDepth 100000 in
theorem c_X4_begin {l : Launch} {D : va_G} {G : zG} {ad : Nat → Nat} (hJ : zInj ad) (σ : zM) {N : Nat → Nat → Int}  {ld : Int} (hld : zB ld) {mk : Int} (hmk : zB mk) {it : Int} (hit : zB it) (ok : rOk (mV N 0)) (bd : Bud (mV N 0)) (pk : pOk (mV N 0)) (h6 : 0 ≤ N 0 2 ∧ N 0 2 ≤ 6) : zKI l D G ad yX4_begin cX4_begin 7 (some .int) 2 [.ref (ad 5), vI ld, vI mk, vI it] (zBk σ 5 3 N) (fun z σ9 => z = (if mX_begin (mV N 0) ld mk it = 0 then (mV N 0) 0 0 else 0) ∧ ∃ N9, σ9 = zBk σ 5 3 N9 ∧ mP N N9 (mX_begin (mV N 0) ld mk it) (aAddN (mV N 0) ld mk it)) := by
  intro sz
  refine z_open hJ (by decide +kernel) (Nat.le_of_ble_eq_true rfl) ?_
  intro p e s0 m args below meth c hsz X hr hlocks
  have hn := rk_n ok
  refine z_sub [(0, .ref (ad 5)), (1, vI ld), (2, vI mk), (3, vI it)] (zSub_cons rfl (zSub_cons rfl (zSub_cons rfl (zSub_cons rfl zSub_nil)))) ?_
  refine z_iload_n X dX4_begin_0 rfl ?_
  refine z_iconst X dX4_begin_1 ?_
  refine z_bipush X dX4_begin_2 rfl ?_
  refine z_callSI3 X (c_X4_in hJ _ hmk ⟨by decide, by decide⟩ ⟨by decide, by decide⟩) kX4_20 ⟨(Nat.le_of_ble_eq_true rfl), (Nat.le_of_ble_eq_true rfl)⟩ (Nat.le_of_ble_eq_true rfl) ⟨Nat.zero_le _, Nat.zero_le _⟩ dX4_begin_4 (fun z9 σ1 hz9 => ?_)
  obtain ⟨rfl, rfl⟩ := hz9
  refine z_ifb_eq X 32 dX4_begin_7 (by decide) (fun c_2 => ?_) (fun c_2 => ?_)
  · refine z_iconst X dX4_begin_32 ?_
    refine z_istore X dX4_begin_33 (by decide) ?_
    refine z_sub [(0, .ref (ad 5)), (1, vI ld), (2, vI mk), (3, vI it), (4, vI 0)] (zSub_cons rfl (zSub_cons rfl (zSub_cons rfl (zSub_cons rfl (zSub_cons rfl zSub_nil))))) ?_
    refine z_iload_n X dX4_begin_35 rfl ?_
    refine z_callSI1 X (c_X4_isSite hJ _ hld) kX4_86 ⟨(Nat.le_of_ble_eq_true rfl), (Nat.le_of_ble_eq_true rfl)⟩ (Nat.le_of_ble_eq_true rfl) ⟨Nat.zero_le _, Nat.zero_le _⟩ dX4_begin_36 (fun z9 σ1 hz9 => ?_)
    obtain ⟨rfl, rfl⟩ := hz9
    refine z_ifb_eq X 82 dX4_begin_39 (by decide) (fun c_4 => ?_) (fun c_4 => ?_)
    · refine z_iconst X dX4_begin_82 ?_
      refine z_istore X dX4_begin_83 (by decide) ?_
      refine z_sub [(0, .ref (ad 5)), (1, vI ld), (2, vI mk), (3, vI it), (4, vI 0), (5, vI 0)] (zSub_cons rfl (zSub_cons rfl (zSub_cons rfl (zSub_cons rfl (zSub_cons rfl (zSub_cons rfl zSub_nil)))))) ?_
      refine z_aload_n X dX4_begin_85 rfl ?_
      refine z_iload_n X dX4_begin_86 rfl ?_
      refine z_callSI1 X (c_X4_isSite hJ _ hld) kX4_86 ⟨(Nat.le_of_ble_eq_true rfl), (Nat.le_of_ble_eq_true rfl)⟩ (Nat.le_of_ble_eq_true rfl) ⟨Nat.zero_le _, Nat.zero_le _⟩ dX4_begin_87 (fun z9 σ1 hz9 => ?_)
      obtain ⟨rfl, rfl⟩ := hz9
      refine z_ifb_ne X 97 dX4_begin_90 (by decide) (fun c_6 => ?_) (fun c_6 => ?_)
      · refine z_iload X dX4_begin_97 rfl ?_
        refine z_if_ne X 106 dX4_begin_99 (by decide) ⟨by decide, by decide⟩ (fun h9 => absurd h9 (by decide)) (fun _ => ?_)
        refine z_iconst X dX4_begin_102 ?_
        refine z_goto X 116 dX4_begin_103 (by decide) ?_
        refine z_callVI1 X (c_X4_holds hJ σ ⟨by decide, by decide⟩) kX4_90 rfl (by decide) rfl ⟨(Nat.le_of_ble_eq_true rfl), (Nat.le_of_ble_eq_true rfl)⟩ (Nat.le_of_ble_eq_true rfl) ⟨Nat.zero_le _, Nat.zero_le _⟩ dX4_begin_116 (fun z9 σ1 hz9 => ?_)
        obtain ⟨rfl, rfl⟩ := hz9
        refine z_ifb_ne X 124 dX4_begin_119 (by decide) (fun h9 => absurd h9 (by decide)) (fun _ => ?_)
        refine z_iconst X dX4_begin_122 ?_
        exact z_iret X hsz hr hlocks dX4_begin_123 ⟨(by rw [show mX_begin (mV N 0) ld mk it = (2 : Int) from (by unfold mX_begin; grind)]; rfl), ⟨_, rfl, (by unfold mP; rw [show mX_begin (mV N 0) ld mk it = (2 : Int) from (by unfold mX_begin; grind), if_neg (by decide)])⟩⟩
      · refine z_iconst X dX4_begin_93 ?_
        refine z_goto X 116 dX4_begin_94 (by decide) ?_
        refine z_callVI1 X (c_X4_holds hJ σ ⟨by decide, by decide⟩) kX4_90 rfl (by decide) rfl ⟨(Nat.le_of_ble_eq_true rfl), (Nat.le_of_ble_eq_true rfl)⟩ (Nat.le_of_ble_eq_true rfl) ⟨Nat.zero_le _, Nat.zero_le _⟩ dX4_begin_116 (fun z9 σ1 hz9 => ?_)
        obtain ⟨rfl, rfl⟩ := hz9
        refine z_ifb_ne X 124 dX4_begin_119 (by decide) (fun h9 => absurd h9 (by decide)) (fun _ => ?_)
        refine z_iconst X dX4_begin_122 ?_
        exact z_iret X hsz hr hlocks dX4_begin_123 ⟨(by rw [show mX_begin (mV N 0) ld mk it = (1 : Int) from (by unfold mX_begin; grind)]; rfl), ⟨_, rfl, (by unfold mP; rw [show mX_begin (mV N 0) ld mk it = (1 : Int) from (by unfold mX_begin; grind), if_neg (by decide)])⟩⟩
    · refine z_iload X dX4_begin_42 rfl ?_
      refine z_if_eq X 82 dX4_begin_44 (by decide) ⟨by decide, by decide⟩ (fun _ => ?_) (fun h9 => absurd h9 (by decide))
      refine z_iconst X dX4_begin_82 ?_
      refine z_istore X dX4_begin_83 (by decide) ?_
      refine z_sub [(0, .ref (ad 5)), (1, vI ld), (2, vI mk), (3, vI it), (4, vI 0), (5, vI 0)] (zSub_cons rfl (zSub_cons rfl (zSub_cons rfl (zSub_cons rfl (zSub_cons rfl (zSub_cons rfl zSub_nil)))))) ?_
      refine z_aload_n X dX4_begin_85 rfl ?_
      refine z_iload_n X dX4_begin_86 rfl ?_
      refine z_callSI1 X (c_X4_isSite hJ _ hld) kX4_86 ⟨(Nat.le_of_ble_eq_true rfl), (Nat.le_of_ble_eq_true rfl)⟩ (Nat.le_of_ble_eq_true rfl) ⟨Nat.zero_le _, Nat.zero_le _⟩ dX4_begin_87 (fun z9 σ1 hz9 => ?_)
      obtain ⟨rfl, rfl⟩ := hz9
      refine z_ifb_ne X 97 dX4_begin_90 (by decide) (fun c_10 => ?_) (fun c_10 => ?_)
      · refine z_iload X dX4_begin_97 rfl ?_
        refine z_if_ne X 106 dX4_begin_99 (by decide) ⟨by decide, by decide⟩ (fun h9 => absurd h9 (by decide)) (fun _ => ?_)
        refine z_iconst X dX4_begin_102 ?_
        refine z_goto X 116 dX4_begin_103 (by decide) ?_
        refine z_callVI1 X (c_X4_holds hJ σ ⟨by decide, by decide⟩) kX4_90 rfl (by decide) rfl ⟨(Nat.le_of_ble_eq_true rfl), (Nat.le_of_ble_eq_true rfl)⟩ (Nat.le_of_ble_eq_true rfl) ⟨Nat.zero_le _, Nat.zero_le _⟩ dX4_begin_116 (fun z9 σ1 hz9 => ?_)
        obtain ⟨rfl, rfl⟩ := hz9
        refine z_ifb_ne X 124 dX4_begin_119 (by decide) (fun h9 => absurd h9 (by decide)) (fun _ => ?_)
        refine z_iconst X dX4_begin_122 ?_
        exact z_iret X hsz hr hlocks dX4_begin_123 ⟨(by rw [show mX_begin (mV N 0) ld mk it = (2 : Int) from (by unfold mX_begin; grind)]; rfl), ⟨_, rfl, (by unfold mP; rw [show mX_begin (mV N 0) ld mk it = (2 : Int) from (by unfold mX_begin; grind), if_neg (by decide)])⟩⟩
      · refine z_iconst X dX4_begin_93 ?_
        refine z_goto X 116 dX4_begin_94 (by decide) ?_
        refine z_callVI1 X (c_X4_holds hJ σ ⟨by decide, by decide⟩) kX4_90 rfl (by decide) rfl ⟨(Nat.le_of_ble_eq_true rfl), (Nat.le_of_ble_eq_true rfl)⟩ (Nat.le_of_ble_eq_true rfl) ⟨Nat.zero_le _, Nat.zero_le _⟩ dX4_begin_116 (fun z9 σ1 hz9 => ?_)
        obtain ⟨rfl, rfl⟩ := hz9
        refine z_ifb_ne X 124 dX4_begin_119 (by decide) (fun h9 => absurd h9 (by decide)) (fun _ => ?_)
        refine z_iconst X dX4_begin_122 ?_
        exact z_iret X hsz hr hlocks dX4_begin_123 ⟨(by rw [show mX_begin (mV N 0) ld mk it = (1 : Int) from (by unfold mX_begin; grind)]; rfl), ⟨_, rfl, (by unfold mP; rw [show mX_begin (mV N 0) ld mk it = (1 : Int) from (by unfold mX_begin; grind), if_neg (by decide)])⟩⟩
  · refine z_iload_n X dX4_begin_10 rfl ?_
    refine z_callSI1 X (c_X4_bits hJ _ hmk) kX4_83 ⟨(Nat.le_of_ble_eq_true rfl), (Nat.le_of_ble_eq_true rfl)⟩ (Nat.le_of_ble_eq_true rfl) ⟨Nat.zero_le _, Nat.zero_le _⟩ dX4_begin_11 (fun z9 σ1 hz9 => ?_)
    obtain ⟨rfl, rfl⟩ := hz9
    refine z_iconst X dX4_begin_14 ?_
    refine z_icmp_lt X 32 dX4_begin_15 (by decide) (zB_sm (rg_bits _)) ⟨by decide, by decide⟩ (fun c_14 => ?_) (fun c_14 => ?_)
    · refine z_iconst X dX4_begin_32 ?_
      refine z_istore X dX4_begin_33 (by decide) ?_
      refine z_sub [(0, .ref (ad 5)), (1, vI ld), (2, vI mk), (3, vI it), (4, vI 0)] (zSub_cons rfl (zSub_cons rfl (zSub_cons rfl (zSub_cons rfl (zSub_cons rfl zSub_nil))))) ?_
      refine z_iload_n X dX4_begin_35 rfl ?_
      refine z_callSI1 X (c_X4_isSite hJ _ hld) kX4_86 ⟨(Nat.le_of_ble_eq_true rfl), (Nat.le_of_ble_eq_true rfl)⟩ (Nat.le_of_ble_eq_true rfl) ⟨Nat.zero_le _, Nat.zero_le _⟩ dX4_begin_36 (fun z9 σ1 hz9 => ?_)
      obtain ⟨rfl, rfl⟩ := hz9
      refine z_ifb_eq X 82 dX4_begin_39 (by decide) (fun c_16 => ?_) (fun c_16 => ?_)
      · refine z_iconst X dX4_begin_82 ?_
        refine z_istore X dX4_begin_83 (by decide) ?_
        refine z_sub [(0, .ref (ad 5)), (1, vI ld), (2, vI mk), (3, vI it), (4, vI 0), (5, vI 0)] (zSub_cons rfl (zSub_cons rfl (zSub_cons rfl (zSub_cons rfl (zSub_cons rfl (zSub_cons rfl zSub_nil)))))) ?_
        refine z_aload_n X dX4_begin_85 rfl ?_
        refine z_iload_n X dX4_begin_86 rfl ?_
        refine z_callSI1 X (c_X4_isSite hJ _ hld) kX4_86 ⟨(Nat.le_of_ble_eq_true rfl), (Nat.le_of_ble_eq_true rfl)⟩ (Nat.le_of_ble_eq_true rfl) ⟨Nat.zero_le _, Nat.zero_le _⟩ dX4_begin_87 (fun z9 σ1 hz9 => ?_)
        obtain ⟨rfl, rfl⟩ := hz9
        refine z_ifb_ne X 97 dX4_begin_90 (by decide) (fun c_18 => ?_) (fun c_18 => ?_)
        · refine z_iload X dX4_begin_97 rfl ?_
          refine z_if_ne X 106 dX4_begin_99 (by decide) ⟨by decide, by decide⟩ (fun h9 => absurd h9 (by decide)) (fun _ => ?_)
          refine z_iconst X dX4_begin_102 ?_
          refine z_goto X 116 dX4_begin_103 (by decide) ?_
          refine z_callVI1 X (c_X4_holds hJ σ ⟨by decide, by decide⟩) kX4_90 rfl (by decide) rfl ⟨(Nat.le_of_ble_eq_true rfl), (Nat.le_of_ble_eq_true rfl)⟩ (Nat.le_of_ble_eq_true rfl) ⟨Nat.zero_le _, Nat.zero_le _⟩ dX4_begin_116 (fun z9 σ1 hz9 => ?_)
          obtain ⟨rfl, rfl⟩ := hz9
          refine z_ifb_ne X 124 dX4_begin_119 (by decide) (fun h9 => absurd h9 (by decide)) (fun _ => ?_)
          refine z_iconst X dX4_begin_122 ?_
          exact z_iret X hsz hr hlocks dX4_begin_123 ⟨(by rw [show mX_begin (mV N 0) ld mk it = (2 : Int) from (by unfold mX_begin; grind)]; rfl), ⟨_, rfl, (by unfold mP; rw [show mX_begin (mV N 0) ld mk it = (2 : Int) from (by unfold mX_begin; grind), if_neg (by decide)])⟩⟩
        · refine z_iconst X dX4_begin_93 ?_
          refine z_goto X 116 dX4_begin_94 (by decide) ?_
          refine z_callVI1 X (c_X4_holds hJ σ ⟨by decide, by decide⟩) kX4_90 rfl (by decide) rfl ⟨(Nat.le_of_ble_eq_true rfl), (Nat.le_of_ble_eq_true rfl)⟩ (Nat.le_of_ble_eq_true rfl) ⟨Nat.zero_le _, Nat.zero_le _⟩ dX4_begin_116 (fun z9 σ1 hz9 => ?_)
          obtain ⟨rfl, rfl⟩ := hz9
          refine z_ifb_ne X 124 dX4_begin_119 (by decide) (fun h9 => absurd h9 (by decide)) (fun _ => ?_)
          refine z_iconst X dX4_begin_122 ?_
          exact z_iret X hsz hr hlocks dX4_begin_123 ⟨(by rw [show mX_begin (mV N 0) ld mk it = (1 : Int) from (by unfold mX_begin; grind)]; rfl), ⟨_, rfl, (by unfold mP; rw [show mX_begin (mV N 0) ld mk it = (1 : Int) from (by unfold mX_begin; grind), if_neg (by decide)])⟩⟩
      · refine z_iload X dX4_begin_42 rfl ?_
        refine z_if_eq X 82 dX4_begin_44 (by decide) ⟨by decide, by decide⟩ (fun _ => ?_) (fun h9 => absurd h9 (by decide))
        refine z_iconst X dX4_begin_82 ?_
        refine z_istore X dX4_begin_83 (by decide) ?_
        refine z_sub [(0, .ref (ad 5)), (1, vI ld), (2, vI mk), (3, vI it), (4, vI 0), (5, vI 0)] (zSub_cons rfl (zSub_cons rfl (zSub_cons rfl (zSub_cons rfl (zSub_cons rfl (zSub_cons rfl zSub_nil)))))) ?_
        refine z_aload_n X dX4_begin_85 rfl ?_
        refine z_iload_n X dX4_begin_86 rfl ?_
        refine z_callSI1 X (c_X4_isSite hJ _ hld) kX4_86 ⟨(Nat.le_of_ble_eq_true rfl), (Nat.le_of_ble_eq_true rfl)⟩ (Nat.le_of_ble_eq_true rfl) ⟨Nat.zero_le _, Nat.zero_le _⟩ dX4_begin_87 (fun z9 σ1 hz9 => ?_)
        obtain ⟨rfl, rfl⟩ := hz9
        refine z_ifb_ne X 97 dX4_begin_90 (by decide) (fun c_22 => ?_) (fun c_22 => ?_)
        · refine z_iload X dX4_begin_97 rfl ?_
          refine z_if_ne X 106 dX4_begin_99 (by decide) ⟨by decide, by decide⟩ (fun h9 => absurd h9 (by decide)) (fun _ => ?_)
          refine z_iconst X dX4_begin_102 ?_
          refine z_goto X 116 dX4_begin_103 (by decide) ?_
          refine z_callVI1 X (c_X4_holds hJ σ ⟨by decide, by decide⟩) kX4_90 rfl (by decide) rfl ⟨(Nat.le_of_ble_eq_true rfl), (Nat.le_of_ble_eq_true rfl)⟩ (Nat.le_of_ble_eq_true rfl) ⟨Nat.zero_le _, Nat.zero_le _⟩ dX4_begin_116 (fun z9 σ1 hz9 => ?_)
          obtain ⟨rfl, rfl⟩ := hz9
          refine z_ifb_ne X 124 dX4_begin_119 (by decide) (fun h9 => absurd h9 (by decide)) (fun _ => ?_)
          refine z_iconst X dX4_begin_122 ?_
          exact z_iret X hsz hr hlocks dX4_begin_123 ⟨(by rw [show mX_begin (mV N 0) ld mk it = (2 : Int) from (by unfold mX_begin; grind)]; rfl), ⟨_, rfl, (by unfold mP; rw [show mX_begin (mV N 0) ld mk it = (2 : Int) from (by unfold mX_begin; grind), if_neg (by decide)])⟩⟩
        · refine z_iconst X dX4_begin_93 ?_
          refine z_goto X 116 dX4_begin_94 (by decide) ?_
          refine z_callVI1 X (c_X4_holds hJ σ ⟨by decide, by decide⟩) kX4_90 rfl (by decide) rfl ⟨(Nat.le_of_ble_eq_true rfl), (Nat.le_of_ble_eq_true rfl)⟩ (Nat.le_of_ble_eq_true rfl) ⟨Nat.zero_le _, Nat.zero_le _⟩ dX4_begin_116 (fun z9 σ1 hz9 => ?_)
          obtain ⟨rfl, rfl⟩ := hz9
          refine z_ifb_ne X 124 dX4_begin_119 (by decide) (fun h9 => absurd h9 (by decide)) (fun _ => ?_)
          refine z_iconst X dX4_begin_122 ?_
          exact z_iret X hsz hr hlocks dX4_begin_123 ⟨(by rw [show mX_begin (mV N 0) ld mk it = (1 : Int) from (by unfold mX_begin; grind)]; rfl), ⟨_, rfl, (by unfold mP; rw [show mX_begin (mV N 0) ld mk it = (1 : Int) from (by unfold mX_begin; grind), if_neg (by decide)])⟩⟩
    · refine z_iload_n X dX4_begin_18 rfl ?_
      refine z_iconst X dX4_begin_19 ?_
      refine z_bipush X dX4_begin_20 rfl ?_
      refine z_callSI3 X (c_X4_in hJ _ hit ⟨by decide, by decide⟩ ⟨by decide, by decide⟩) kX4_20 ⟨(Nat.le_of_ble_eq_true rfl), (Nat.le_of_ble_eq_true rfl)⟩ (Nat.le_of_ble_eq_true rfl) ⟨Nat.zero_le _, Nat.zero_le _⟩ dX4_begin_22 (fun z9 σ1 hz9 => ?_)
      obtain ⟨rfl, rfl⟩ := hz9
      refine z_ifb_eq X 32 dX4_begin_25 (by decide) (fun c_26 => ?_) (fun c_26 => ?_)
      · refine z_iconst X dX4_begin_32 ?_
        refine z_istore X dX4_begin_33 (by decide) ?_
        refine z_sub [(0, .ref (ad 5)), (1, vI ld), (2, vI mk), (3, vI it), (4, vI 0)] (zSub_cons rfl (zSub_cons rfl (zSub_cons rfl (zSub_cons rfl (zSub_cons rfl zSub_nil))))) ?_
        refine z_iload_n X dX4_begin_35 rfl ?_
        refine z_callSI1 X (c_X4_isSite hJ _ hld) kX4_86 ⟨(Nat.le_of_ble_eq_true rfl), (Nat.le_of_ble_eq_true rfl)⟩ (Nat.le_of_ble_eq_true rfl) ⟨Nat.zero_le _, Nat.zero_le _⟩ dX4_begin_36 (fun z9 σ1 hz9 => ?_)
        obtain ⟨rfl, rfl⟩ := hz9
        refine z_ifb_eq X 82 dX4_begin_39 (by decide) (fun c_28 => ?_) (fun c_28 => ?_)
        · refine z_iconst X dX4_begin_82 ?_
          refine z_istore X dX4_begin_83 (by decide) ?_
          refine z_sub [(0, .ref (ad 5)), (1, vI ld), (2, vI mk), (3, vI it), (4, vI 0), (5, vI 0)] (zSub_cons rfl (zSub_cons rfl (zSub_cons rfl (zSub_cons rfl (zSub_cons rfl (zSub_cons rfl zSub_nil)))))) ?_
          refine z_aload_n X dX4_begin_85 rfl ?_
          refine z_iload_n X dX4_begin_86 rfl ?_
          refine z_callSI1 X (c_X4_isSite hJ _ hld) kX4_86 ⟨(Nat.le_of_ble_eq_true rfl), (Nat.le_of_ble_eq_true rfl)⟩ (Nat.le_of_ble_eq_true rfl) ⟨Nat.zero_le _, Nat.zero_le _⟩ dX4_begin_87 (fun z9 σ1 hz9 => ?_)
          obtain ⟨rfl, rfl⟩ := hz9
          refine z_ifb_ne X 97 dX4_begin_90 (by decide) (fun c_30 => ?_) (fun c_30 => ?_)
          · refine z_iload X dX4_begin_97 rfl ?_
            refine z_if_ne X 106 dX4_begin_99 (by decide) ⟨by decide, by decide⟩ (fun h9 => absurd h9 (by decide)) (fun _ => ?_)
            refine z_iconst X dX4_begin_102 ?_
            refine z_goto X 116 dX4_begin_103 (by decide) ?_
            refine z_callVI1 X (c_X4_holds hJ σ ⟨by decide, by decide⟩) kX4_90 rfl (by decide) rfl ⟨(Nat.le_of_ble_eq_true rfl), (Nat.le_of_ble_eq_true rfl)⟩ (Nat.le_of_ble_eq_true rfl) ⟨Nat.zero_le _, Nat.zero_le _⟩ dX4_begin_116 (fun z9 σ1 hz9 => ?_)
            obtain ⟨rfl, rfl⟩ := hz9
            refine z_ifb_ne X 124 dX4_begin_119 (by decide) (fun h9 => absurd h9 (by decide)) (fun _ => ?_)
            refine z_iconst X dX4_begin_122 ?_
            exact z_iret X hsz hr hlocks dX4_begin_123 ⟨(by rw [show mX_begin (mV N 0) ld mk it = (2 : Int) from (by unfold mX_begin; grind)]; rfl), ⟨_, rfl, (by unfold mP; rw [show mX_begin (mV N 0) ld mk it = (2 : Int) from (by unfold mX_begin; grind), if_neg (by decide)])⟩⟩
          · refine z_iconst X dX4_begin_93 ?_
            refine z_goto X 116 dX4_begin_94 (by decide) ?_
            refine z_callVI1 X (c_X4_holds hJ σ ⟨by decide, by decide⟩) kX4_90 rfl (by decide) rfl ⟨(Nat.le_of_ble_eq_true rfl), (Nat.le_of_ble_eq_true rfl)⟩ (Nat.le_of_ble_eq_true rfl) ⟨Nat.zero_le _, Nat.zero_le _⟩ dX4_begin_116 (fun z9 σ1 hz9 => ?_)
            obtain ⟨rfl, rfl⟩ := hz9
            refine z_ifb_ne X 124 dX4_begin_119 (by decide) (fun h9 => absurd h9 (by decide)) (fun _ => ?_)
            refine z_iconst X dX4_begin_122 ?_
            exact z_iret X hsz hr hlocks dX4_begin_123 ⟨(by rw [show mX_begin (mV N 0) ld mk it = (1 : Int) from (by unfold mX_begin; grind)]; rfl), ⟨_, rfl, (by unfold mP; rw [show mX_begin (mV N 0) ld mk it = (1 : Int) from (by unfold mX_begin; grind), if_neg (by decide)])⟩⟩
        · refine z_iload X dX4_begin_42 rfl ?_
          refine z_if_eq X 82 dX4_begin_44 (by decide) ⟨by decide, by decide⟩ (fun _ => ?_) (fun h9 => absurd h9 (by decide))
          refine z_iconst X dX4_begin_82 ?_
          refine z_istore X dX4_begin_83 (by decide) ?_
          refine z_sub [(0, .ref (ad 5)), (1, vI ld), (2, vI mk), (3, vI it), (4, vI 0), (5, vI 0)] (zSub_cons rfl (zSub_cons rfl (zSub_cons rfl (zSub_cons rfl (zSub_cons rfl (zSub_cons rfl zSub_nil)))))) ?_
          refine z_aload_n X dX4_begin_85 rfl ?_
          refine z_iload_n X dX4_begin_86 rfl ?_
          refine z_callSI1 X (c_X4_isSite hJ _ hld) kX4_86 ⟨(Nat.le_of_ble_eq_true rfl), (Nat.le_of_ble_eq_true rfl)⟩ (Nat.le_of_ble_eq_true rfl) ⟨Nat.zero_le _, Nat.zero_le _⟩ dX4_begin_87 (fun z9 σ1 hz9 => ?_)
          obtain ⟨rfl, rfl⟩ := hz9
          refine z_ifb_ne X 97 dX4_begin_90 (by decide) (fun c_34 => ?_) (fun c_34 => ?_)
          · refine z_iload X dX4_begin_97 rfl ?_
            refine z_if_ne X 106 dX4_begin_99 (by decide) ⟨by decide, by decide⟩ (fun h9 => absurd h9 (by decide)) (fun _ => ?_)
            refine z_iconst X dX4_begin_102 ?_
            refine z_goto X 116 dX4_begin_103 (by decide) ?_
            refine z_callVI1 X (c_X4_holds hJ σ ⟨by decide, by decide⟩) kX4_90 rfl (by decide) rfl ⟨(Nat.le_of_ble_eq_true rfl), (Nat.le_of_ble_eq_true rfl)⟩ (Nat.le_of_ble_eq_true rfl) ⟨Nat.zero_le _, Nat.zero_le _⟩ dX4_begin_116 (fun z9 σ1 hz9 => ?_)
            obtain ⟨rfl, rfl⟩ := hz9
            refine z_ifb_ne X 124 dX4_begin_119 (by decide) (fun h9 => absurd h9 (by decide)) (fun _ => ?_)
            refine z_iconst X dX4_begin_122 ?_
            exact z_iret X hsz hr hlocks dX4_begin_123 ⟨(by rw [show mX_begin (mV N 0) ld mk it = (2 : Int) from (by unfold mX_begin; grind)]; rfl), ⟨_, rfl, (by unfold mP; rw [show mX_begin (mV N 0) ld mk it = (2 : Int) from (by unfold mX_begin; grind), if_neg (by decide)])⟩⟩
          · refine z_iconst X dX4_begin_93 ?_
            refine z_goto X 116 dX4_begin_94 (by decide) ?_
            refine z_callVI1 X (c_X4_holds hJ σ ⟨by decide, by decide⟩) kX4_90 rfl (by decide) rfl ⟨(Nat.le_of_ble_eq_true rfl), (Nat.le_of_ble_eq_true rfl)⟩ (Nat.le_of_ble_eq_true rfl) ⟨Nat.zero_le _, Nat.zero_le _⟩ dX4_begin_116 (fun z9 σ1 hz9 => ?_)
            obtain ⟨rfl, rfl⟩ := hz9
            refine z_ifb_ne X 124 dX4_begin_119 (by decide) (fun h9 => absurd h9 (by decide)) (fun _ => ?_)
            refine z_iconst X dX4_begin_122 ?_
            exact z_iret X hsz hr hlocks dX4_begin_123 ⟨(by rw [show mX_begin (mV N 0) ld mk it = (1 : Int) from (by unfold mX_begin; grind)]; rfl), ⟨_, rfl, (by unfold mP; rw [show mX_begin (mV N 0) ld mk it = (1 : Int) from (by unfold mX_begin; grind), if_neg (by decide)])⟩⟩
      · refine z_iconst X dX4_begin_28 ?_
        refine z_goto X 33 dX4_begin_29 (by decide) ?_
        refine z_istore X dX4_begin_33 (by decide) ?_
        refine z_sub [(0, .ref (ad 5)), (1, vI ld), (2, vI mk), (3, vI it), (4, vI 1)] (zSub_cons rfl (zSub_cons rfl (zSub_cons rfl (zSub_cons rfl (zSub_cons rfl zSub_nil))))) ?_
        refine z_iload_n X dX4_begin_35 rfl ?_
        refine z_callSI1 X (c_X4_isSite hJ _ hld) kX4_86 ⟨(Nat.le_of_ble_eq_true rfl), (Nat.le_of_ble_eq_true rfl)⟩ (Nat.le_of_ble_eq_true rfl) ⟨Nat.zero_le _, Nat.zero_le _⟩ dX4_begin_36 (fun z9 σ1 hz9 => ?_)
        obtain ⟨rfl, rfl⟩ := hz9
        refine z_ifb_eq X 82 dX4_begin_39 (by decide) (fun c_38 => ?_) (fun c_38 => ?_)
        · refine z_iconst X dX4_begin_82 ?_
          refine z_istore X dX4_begin_83 (by decide) ?_
          refine z_sub [(0, .ref (ad 5)), (1, vI ld), (2, vI mk), (3, vI it), (4, vI 1), (5, vI 0)] (zSub_cons rfl (zSub_cons rfl (zSub_cons rfl (zSub_cons rfl (zSub_cons rfl (zSub_cons rfl zSub_nil)))))) ?_
          refine z_aload_n X dX4_begin_85 rfl ?_
          refine z_iload_n X dX4_begin_86 rfl ?_
          refine z_callSI1 X (c_X4_isSite hJ _ hld) kX4_86 ⟨(Nat.le_of_ble_eq_true rfl), (Nat.le_of_ble_eq_true rfl)⟩ (Nat.le_of_ble_eq_true rfl) ⟨Nat.zero_le _, Nat.zero_le _⟩ dX4_begin_87 (fun z9 σ1 hz9 => ?_)
          obtain ⟨rfl, rfl⟩ := hz9
          refine z_ifb_ne X 97 dX4_begin_90 (by decide) (fun c_40 => ?_) (fun c_40 => ?_)
          · refine z_iload X dX4_begin_97 rfl ?_
            refine z_if_ne X 106 dX4_begin_99 (by decide) ⟨by decide, by decide⟩ (fun _ => ?_) (fun h9 => absurd h9 (by decide))
            refine z_iload X dX4_begin_106 rfl ?_
            refine z_if_ne X 115 dX4_begin_108 (by decide) ⟨by decide, by decide⟩ (fun h9 => absurd h9 (by decide)) (fun _ => ?_)
            refine z_iconst X dX4_begin_111 ?_
            refine z_goto X 116 dX4_begin_112 (by decide) ?_
            refine z_callVI1 X (c_X4_holds hJ σ ⟨by decide, by decide⟩) kX4_90 rfl (by decide) rfl ⟨(Nat.le_of_ble_eq_true rfl), (Nat.le_of_ble_eq_true rfl)⟩ (Nat.le_of_ble_eq_true rfl) ⟨Nat.zero_le _, Nat.zero_le _⟩ dX4_begin_116 (fun z9 σ1 hz9 => ?_)
            obtain ⟨rfl, rfl⟩ := hz9
            refine z_ifb_ne X 124 dX4_begin_119 (by decide) (fun h9 => absurd h9 (by decide)) (fun _ => ?_)
            refine z_iconst X dX4_begin_122 ?_
            exact z_iret X hsz hr hlocks dX4_begin_123 ⟨(by rw [show mX_begin (mV N 0) ld mk it = (3 : Int) from (by unfold mX_begin; grind)]; rfl), ⟨_, rfl, (by unfold mP; rw [show mX_begin (mV N 0) ld mk it = (3 : Int) from (by unfold mX_begin; grind), if_neg (by decide)])⟩⟩
          · refine z_iconst X dX4_begin_93 ?_
            refine z_goto X 116 dX4_begin_94 (by decide) ?_
            refine z_callVI1 X (c_X4_holds hJ σ ⟨by decide, by decide⟩) kX4_90 rfl (by decide) rfl ⟨(Nat.le_of_ble_eq_true rfl), (Nat.le_of_ble_eq_true rfl)⟩ (Nat.le_of_ble_eq_true rfl) ⟨Nat.zero_le _, Nat.zero_le _⟩ dX4_begin_116 (fun z9 σ1 hz9 => ?_)
            obtain ⟨rfl, rfl⟩ := hz9
            refine z_ifb_ne X 124 dX4_begin_119 (by decide) (fun h9 => absurd h9 (by decide)) (fun _ => ?_)
            refine z_iconst X dX4_begin_122 ?_
            exact z_iret X hsz hr hlocks dX4_begin_123 ⟨(by rw [show mX_begin (mV N 0) ld mk it = (1 : Int) from (by unfold mX_begin; grind)]; rfl), ⟨_, rfl, (by unfold mP; rw [show mX_begin (mV N 0) ld mk it = (1 : Int) from (by unfold mX_begin; grind), if_neg (by decide)])⟩⟩
        · refine z_iload X dX4_begin_42 rfl ?_
          refine z_if_eq X 82 dX4_begin_44 (by decide) ⟨by decide, by decide⟩ (fun h9 => absurd h9 (by decide)) (fun _ => ?_)
          refine z_aload_n X dX4_begin_47 rfl ?_
          refine y_gMod1 X fX4_7 dX4_begin_48 ?_
          refine z_iconst X dX4_begin_51 ?_
          refine y_iald X 1 (zArr_6) (by decide) (by omega) (by omega) (by decide) dX4_begin_52 ?_
          rw [fl_n0 (N := N)]
          refine z_bipush X dX4_begin_53 rfl ?_
          refine z_icmp_ge X 82 dX4_begin_55 (by decide) (zB_sm (rk_n ok)) ⟨by decide, by decide⟩ (fun c_43 => ?_) (fun c_43 => ?_)
          · refine z_iconst X dX4_begin_82 ?_
            refine z_istore X dX4_begin_83 (by decide) ?_
            refine z_sub [(0, .ref (ad 5)), (1, vI ld), (2, vI mk), (3, vI it), (4, vI 1), (5, vI 0)] (zSub_cons rfl (zSub_cons rfl (zSub_cons rfl (zSub_cons rfl (zSub_cons rfl (zSub_cons rfl zSub_nil)))))) ?_
            refine z_aload_n X dX4_begin_85 rfl ?_
            refine z_iload_n X dX4_begin_86 rfl ?_
            refine z_callSI1 X (c_X4_isSite hJ _ hld) kX4_86 ⟨(Nat.le_of_ble_eq_true rfl), (Nat.le_of_ble_eq_true rfl)⟩ (Nat.le_of_ble_eq_true rfl) ⟨Nat.zero_le _, Nat.zero_le _⟩ dX4_begin_87 (fun z9 σ1 hz9 => ?_)
            obtain ⟨rfl, rfl⟩ := hz9
            refine z_ifb_ne X 97 dX4_begin_90 (by decide) (fun c_45 => ?_) (fun c_45 => ?_)
            · refine z_iload X dX4_begin_97 rfl ?_
              refine z_if_ne X 106 dX4_begin_99 (by decide) ⟨by decide, by decide⟩ (fun _ => ?_) (fun h9 => absurd h9 (by decide))
              refine z_iload X dX4_begin_106 rfl ?_
              refine z_if_ne X 115 dX4_begin_108 (by decide) ⟨by decide, by decide⟩ (fun h9 => absurd h9 (by decide)) (fun _ => ?_)
              refine z_iconst X dX4_begin_111 ?_
              refine z_goto X 116 dX4_begin_112 (by decide) ?_
              refine z_callVI1 X (c_X4_holds hJ σ ⟨by decide, by decide⟩) kX4_90 rfl (by decide) rfl ⟨(Nat.le_of_ble_eq_true rfl), (Nat.le_of_ble_eq_true rfl)⟩ (Nat.le_of_ble_eq_true rfl) ⟨Nat.zero_le _, Nat.zero_le _⟩ dX4_begin_116 (fun z9 σ1 hz9 => ?_)
              obtain ⟨rfl, rfl⟩ := hz9
              refine z_ifb_ne X 124 dX4_begin_119 (by decide) (fun h9 => absurd h9 (by decide)) (fun _ => ?_)
              refine z_iconst X dX4_begin_122 ?_
              exact z_iret X hsz hr hlocks dX4_begin_123 ⟨(by rw [show mX_begin (mV N 0) ld mk it = (3 : Int) from (by unfold mX_begin; grind)]; rfl), ⟨_, rfl, (by unfold mP; rw [show mX_begin (mV N 0) ld mk it = (3 : Int) from (by unfold mX_begin; grind), if_neg (by decide)])⟩⟩
            · refine z_iconst X dX4_begin_93 ?_
              refine z_goto X 116 dX4_begin_94 (by decide) ?_
              refine z_callVI1 X (c_X4_holds hJ σ ⟨by decide, by decide⟩) kX4_90 rfl (by decide) rfl ⟨(Nat.le_of_ble_eq_true rfl), (Nat.le_of_ble_eq_true rfl)⟩ (Nat.le_of_ble_eq_true rfl) ⟨Nat.zero_le _, Nat.zero_le _⟩ dX4_begin_116 (fun z9 σ1 hz9 => ?_)
              obtain ⟨rfl, rfl⟩ := hz9
              refine z_ifb_ne X 124 dX4_begin_119 (by decide) (fun h9 => absurd h9 (by decide)) (fun _ => ?_)
              refine z_iconst X dX4_begin_122 ?_
              exact z_iret X hsz hr hlocks dX4_begin_123 ⟨(by rw [show mX_begin (mV N 0) ld mk it = (1 : Int) from (by unfold mX_begin; grind)]; rfl), ⟨_, rfl, (by unfold mP; rw [show mX_begin (mV N 0) ld mk it = (1 : Int) from (by unfold mX_begin; grind), if_neg (by decide)])⟩⟩
          · refine z_aload_n X dX4_begin_58 rfl ?_
            refine y_gMod1 X fX4_7 dX4_begin_59 ?_
            refine z_iconst X dX4_begin_62 ?_
            refine y_iald X 1 (zArr_6) (by decide) (by omega) (by omega) (by decide) dX4_begin_63 ?_
            rw [fl_u (N := N)]
            refine z_iload_n X dX4_begin_64 rfl ?_
            refine z_iconst X dX4_begin_65 ?_
            refine z_iload_n X dX4_begin_66 rfl ?_
            refine z_shl X dX4_begin_67 (zShl_eq 1 ld) ?_
            refine z_or X dX4_begin_68 (zOr_eq mk (zShl 1 ld)) ?_
            refine z_and X dX4_begin_69 (zAnd_eq (mV N 0 0 1) (zOr mk (zShl 1 ld))) ?_
            refine z_iload_n X dX4_begin_70 rfl ?_
            refine z_iconst X dX4_begin_71 ?_
            refine z_iload_n X dX4_begin_72 rfl ?_
            refine z_shl X dX4_begin_73 (zShl_eq 1 ld) ?_
            refine z_or X dX4_begin_74 (zOr_eq mk (zShl 1 ld)) ?_
            refine z_icmp_ne X 82 dX4_begin_75 (by decide) (zB_toInt _) (zB_toInt _) (fun c_48 => ?_) (fun c_48 => ?_)
            · refine z_iconst X dX4_begin_82 ?_
              refine z_istore X dX4_begin_83 (by decide) ?_
              refine z_sub [(0, .ref (ad 5)), (1, vI ld), (2, vI mk), (3, vI it), (4, vI 1), (5, vI 0)] (zSub_cons rfl (zSub_cons rfl (zSub_cons rfl (zSub_cons rfl (zSub_cons rfl (zSub_cons rfl zSub_nil)))))) ?_
              refine z_aload_n X dX4_begin_85 rfl ?_
              refine z_iload_n X dX4_begin_86 rfl ?_
              refine z_callSI1 X (c_X4_isSite hJ _ hld) kX4_86 ⟨(Nat.le_of_ble_eq_true rfl), (Nat.le_of_ble_eq_true rfl)⟩ (Nat.le_of_ble_eq_true rfl) ⟨Nat.zero_le _, Nat.zero_le _⟩ dX4_begin_87 (fun z9 σ1 hz9 => ?_)
              obtain ⟨rfl, rfl⟩ := hz9
              refine z_ifb_ne X 97 dX4_begin_90 (by decide) (fun c_50 => ?_) (fun c_50 => ?_)
              · refine z_iload X dX4_begin_97 rfl ?_
                refine z_if_ne X 106 dX4_begin_99 (by decide) ⟨by decide, by decide⟩ (fun _ => ?_) (fun h9 => absurd h9 (by decide))
                refine z_iload X dX4_begin_106 rfl ?_
                refine z_if_ne X 115 dX4_begin_108 (by decide) ⟨by decide, by decide⟩ (fun h9 => absurd h9 (by decide)) (fun _ => ?_)
                refine z_iconst X dX4_begin_111 ?_
                refine z_goto X 116 dX4_begin_112 (by decide) ?_
                refine z_callVI1 X (c_X4_holds hJ σ ⟨by decide, by decide⟩) kX4_90 rfl (by decide) rfl ⟨(Nat.le_of_ble_eq_true rfl), (Nat.le_of_ble_eq_true rfl)⟩ (Nat.le_of_ble_eq_true rfl) ⟨Nat.zero_le _, Nat.zero_le _⟩ dX4_begin_116 (fun z9 σ1 hz9 => ?_)
                obtain ⟨rfl, rfl⟩ := hz9
                refine z_ifb_ne X 124 dX4_begin_119 (by decide) (fun h9 => absurd h9 (by decide)) (fun _ => ?_)
                refine z_iconst X dX4_begin_122 ?_
                exact z_iret X hsz hr hlocks dX4_begin_123 ⟨(by rw [show mX_begin (mV N 0) ld mk it = (3 : Int) from (by unfold mX_begin; grind)]; rfl), ⟨_, rfl, (by unfold mP; rw [show mX_begin (mV N 0) ld mk it = (3 : Int) from (by unfold mX_begin; grind), if_neg (by decide)])⟩⟩
              · refine z_iconst X dX4_begin_93 ?_
                refine z_goto X 116 dX4_begin_94 (by decide) ?_
                refine z_callVI1 X (c_X4_holds hJ σ ⟨by decide, by decide⟩) kX4_90 rfl (by decide) rfl ⟨(Nat.le_of_ble_eq_true rfl), (Nat.le_of_ble_eq_true rfl)⟩ (Nat.le_of_ble_eq_true rfl) ⟨Nat.zero_le _, Nat.zero_le _⟩ dX4_begin_116 (fun z9 σ1 hz9 => ?_)
                obtain ⟨rfl, rfl⟩ := hz9
                refine z_ifb_ne X 124 dX4_begin_119 (by decide) (fun h9 => absurd h9 (by decide)) (fun _ => ?_)
                refine z_iconst X dX4_begin_122 ?_
                exact z_iret X hsz hr hlocks dX4_begin_123 ⟨(by rw [show mX_begin (mV N 0) ld mk it = (1 : Int) from (by unfold mX_begin; grind)]; rfl), ⟨_, rfl, (by unfold mP; rw [show mX_begin (mV N 0) ld mk it = (1 : Int) from (by unfold mX_begin; grind), if_neg (by decide)])⟩⟩
            · refine z_iconst X dX4_begin_78 ?_
              refine z_goto X 83 dX4_begin_79 (by decide) ?_
              refine z_istore X dX4_begin_83 (by decide) ?_
              refine z_sub [(0, .ref (ad 5)), (1, vI ld), (2, vI mk), (3, vI it), (4, vI 1), (5, vI 1)] (zSub_cons rfl (zSub_cons rfl (zSub_cons rfl (zSub_cons rfl (zSub_cons rfl (zSub_cons rfl zSub_nil)))))) ?_
              refine z_aload_n X dX4_begin_85 rfl ?_
              refine z_iload_n X dX4_begin_86 rfl ?_
              refine z_callSI1 X (c_X4_isSite hJ _ hld) kX4_86 ⟨(Nat.le_of_ble_eq_true rfl), (Nat.le_of_ble_eq_true rfl)⟩ (Nat.le_of_ble_eq_true rfl) ⟨Nat.zero_le _, Nat.zero_le _⟩ dX4_begin_87 (fun z9 σ1 hz9 => ?_)
              obtain ⟨rfl, rfl⟩ := hz9
              refine z_ifb_ne X 97 dX4_begin_90 (by decide) (fun c_54 => ?_) (fun c_54 => ?_)
              · refine z_iload X dX4_begin_97 rfl ?_
                refine z_if_ne X 106 dX4_begin_99 (by decide) ⟨by decide, by decide⟩ (fun _ => ?_) (fun h9 => absurd h9 (by decide))
                refine z_iload X dX4_begin_106 rfl ?_
                refine z_if_ne X 115 dX4_begin_108 (by decide) ⟨by decide, by decide⟩ (fun _ => ?_) (fun h9 => absurd h9 (by decide))
                refine z_iconst X dX4_begin_115 ?_
                refine z_callVI1 X (c_X4_holds hJ σ ⟨by decide, by decide⟩) kX4_90 rfl (by decide) rfl ⟨(Nat.le_of_ble_eq_true rfl), (Nat.le_of_ble_eq_true rfl)⟩ (Nat.le_of_ble_eq_true rfl) ⟨Nat.zero_le _, Nat.zero_le _⟩ dX4_begin_116 (fun z9 σ1 hz9 => ?_)
                obtain ⟨rfl, rfl⟩ := hz9
                refine z_ifb_ne X 124 dX4_begin_119 (by decide) (fun _ => ?_) (fun h9 => absurd rfl h9)
                refine z_aload_n X dX4_begin_124 rfl ?_
                refine z_callVV0 X (c_X4_save hJ σ (by first | omega | assumption | grind)) kX4_93 rfl (by decide) rfl ⟨(Nat.le_of_ble_eq_true rfl), (Nat.le_of_ble_eq_true rfl)⟩ (Nat.le_of_ble_eq_true rfl) ⟨Nat.zero_le _, Nat.zero_le _⟩ dX4_begin_125 (fun σ1 hz9 => ?_)
                obtain rfl := hz9
                obtain ⟨Ns, hNs⟩ : ∃ Ns, Ns = mSave (up2 N 0 0 0) := ⟨_, rfl⟩
                rw [← hNs]
                have eNs : mV Ns 0 = mV N 0 := by rw [hNs, mV_save0 (N := up2 N 0 0 0) h6, mV_r0]
                have oks : rOk (mV Ns 0) := by rw [eNs]; exact ok
                have bds : Bud (mV Ns 0) := by rw [eNs]; exact bd
                have pks : pOk (mV Ns 0) := by rw [eNs]; exact pk
                have hns : mV Ns 0 0 0 = mV N 0 0 0 := by rw [eNs]
                refine z_iconst X dX4_begin_128 ?_
                refine z_iconst X dX4_begin_129 ?_
                refine z_aload_n X dX4_begin_130 rfl ?_
                refine y_gMod1 X fX4_7 dX4_begin_131 ?_
                refine z_iconst X dX4_begin_134 ?_
                refine y_iald X 1 (zArr_6) (by decide) (by omega) (by omega) (by decide) dX4_begin_135 ?_
                rw [fl_n0 (N := Ns)]
                refine z_imul X dX4_begin_136 ?_
                refine z_iadd X dX4_begin_137 ?_
                refine z_istore X dX4_begin_138 (by decide) ?_
                refine z_sub [(0, .ref (ad 5)), (1, vI ld), (2, vI mk), (3, vI it), (4, vI 1), (5, vI 1), (6, vI (4 + (4 * (mV Ns 0 0 0))))] (zSub_cons rfl (zSub_cons rfl (zSub_cons rfl (zSub_cons rfl (zSub_cons rfl (zSub_cons rfl (zSub_cons rfl zSub_nil))))))) ?_
                refine z_aload_n X dX4_begin_140 rfl ?_
                refine y_gMod1 X fX4_7 dX4_begin_141 ?_
                refine z_iload X dX4_begin_144 rfl ?_
                refine z_iconst X dX4_begin_146 ?_
                refine z_iadd X dX4_begin_147 ?_
                refine z_iload_n X dX4_begin_148 rfl ?_
                refine y_iast X 1 (zArr_6) (by decide) (by omega) (by omega) (by decide) dX4_begin_149 ?_
                refine z_aload_n X dX4_begin_150 rfl ?_
                refine y_gMod1 X fX4_7 dX4_begin_151 ?_
                refine z_iload X dX4_begin_154 rfl ?_
                refine z_iconst X dX4_begin_156 ?_
                refine z_iadd X dX4_begin_157 ?_
                refine z_iload_n X dX4_begin_158 rfl ?_
                refine y_iast X 1 (zArr_6) (by decide) (by omega) (by omega) (by decide) dX4_begin_159 ?_
                refine z_aload_n X dX4_begin_160 rfl ?_
                refine y_gMod1 X fX4_7 dX4_begin_161 ?_
                refine z_iload X dX4_begin_164 rfl ?_
                refine z_iconst X dX4_begin_166 ?_
                refine z_iadd X dX4_begin_167 ?_
                refine z_iload_n X dX4_begin_168 rfl ?_
                refine y_iast X 1 (zArr_6) (by decide) (by omega) (by omega) (by decide) dX4_begin_169 ?_
                refine z_aload_n X dX4_begin_170 rfl ?_
                refine y_gMod1 X fX4_7 dX4_begin_171 ?_
                refine z_iload X dX4_begin_174 rfl ?_
                refine z_iconst X dX4_begin_176 ?_
                refine z_iadd X dX4_begin_177 ?_
                refine z_iconst X dX4_begin_178 ?_
                refine y_iast X 1 (zArr_6) (by decide) (by omega) (by omega) (by decide) dX4_begin_179 ?_
                refine z_aload_n X dX4_begin_180 rfl ?_
                refine y_gMod1 X fX4_7 dX4_begin_181 ?_
                refine z_iconst X dX4_begin_184 ?_
                refine z_dup2 X dX4_begin_185 rfl rfl ?_
                refine y_iald X 1 (zArr_6) (by decide) (by omega) (by omega) (by decide) dX4_begin_186 ?_
                rw [show (up2 (up2 (up2 (up2 Ns 1 ((4 + (4 * (mV Ns 0 0 0))) + 0).toNat ld) 1 ((4 + (4 * (mV Ns 0 0 0))) + 1).toNat mk) 1 ((4 + (4 * (mV Ns 0 0 0))) + 2).toNat it) 1 ((4 + (4 * (mV Ns 0 0 0))) + 3).toNat 0) 1 (3 : Int).toNat = mV Ns 0 0 0 from by rw [up2_ne _ _ (by omega), up2_ne _ _ (by omega), up2_ne _ _ (by omega), up2_ne _ _ (by omega)]; exact fl_n0]
                refine z_iconst X dX4_begin_187 ?_
                refine z_iadd X dX4_begin_188 ?_
                refine y_iast X 1 (zArr_6) (by decide) (by omega) (by omega) (by decide) dX4_begin_189 ?_
                refine z_aload_n X dX4_begin_190 rfl ?_
                refine y_gMod1 X fX4_7 dX4_begin_191 ?_
                refine z_iconst X dX4_begin_194 ?_
                refine y_iald X 1 (zArr_6) (by decide) (by omega) (by omega) (by decide) dX4_begin_195 ?_
                rw [up2_at]
                refine z_iconst X dX4_begin_196 ?_
                refine z_isub X dX4_begin_197 ?_
                exact z_iret X hsz hr hlocks dX4_begin_198 ⟨(by rw [show mX_begin (mV N 0) ld mk it = (0 : Int) from (by unfold mX_begin; grind), if_pos rfl, eNs]; omega), ⟨_, rfl, (by unfold mP; rw [show mX_begin (mV N 0) ld mk it = (0 : Int) from (by unfold mX_begin; grind), if_pos rfl, ← hNs, ← eNs]; exact ml_add (by omega))⟩⟩
              · refine z_iconst X dX4_begin_93 ?_
                refine z_goto X 116 dX4_begin_94 (by decide) ?_
                refine z_callVI1 X (c_X4_holds hJ σ ⟨by decide, by decide⟩) kX4_90 rfl (by decide) rfl ⟨(Nat.le_of_ble_eq_true rfl), (Nat.le_of_ble_eq_true rfl)⟩ (Nat.le_of_ble_eq_true rfl) ⟨Nat.zero_le _, Nat.zero_le _⟩ dX4_begin_116 (fun z9 σ1 hz9 => ?_)
                obtain ⟨rfl, rfl⟩ := hz9
                refine z_ifb_ne X 124 dX4_begin_119 (by decide) (fun h9 => absurd h9 (by decide)) (fun _ => ?_)
                refine z_iconst X dX4_begin_122 ?_
                exact z_iret X hsz hr hlocks dX4_begin_123 ⟨(by rw [show mX_begin (mV N 0) ld mk it = (1 : Int) from (by unfold mX_begin; grind)]; rfl), ⟨_, rfl, (by unfold mP; rw [show mX_begin (mV N 0) ld mk it = (1 : Int) from (by unfold mX_begin; grind), if_neg (by decide)])⟩⟩
