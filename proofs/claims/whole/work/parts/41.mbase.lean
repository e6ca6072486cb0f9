theorem zIff {P Q : Prop} {i : Decidable P} {j : Decidable Q} (h : P ↔ Q) : @ite Int P i 1 0 = @ite Int Q j 1 0 := by
  by_cases q : P
  · rw [if_pos q, if_pos (h.mp q)]
  · rw [if_neg q, if_neg (fun z => q (h.mpr z))]
theorem mBit_V {N : zNt} {b : Int} {d s : Nat} : mBit (mV N b) d s ↔ mBit (mR N b) d s := by
  have e : mV N b 8 d = mR N b 8 d := by unfold mV vw; rw [if_neg (fun z => absurd z.1.1 (by decide))]
  show zAnd (zShr (mV N b 8 d) s) 1 = 1 ↔ _
  rw [e]
theorem ml_mem {N : zNt} {b d s : Int} (ok : rOk (mV N b)) (hd : cHas (mV N b) d) (hs : 0 ≤ s ∧ s < 6) : zAnd (zShr (mV N b 8 d.toNat) s) 1 = 1 ↔ cSt (mV N b) d s ≠ -1 := by
  have hn := rk_n ok
  have h := rk_bt ok (j := (d * 6 + s).toNat) (by omega) (by omega)
  have e1 : (d * 6 + s).toNat / 6 = d.toNat := by omega
  have e2 : (((d * 6 + s).toNat % 6 : Nat) : Int) = s := by omega
  unfold mBit at h
  rw [e1, e2] at h
  have hst := rk_st ok (j := (d * 6 + s).toNat) (by omega)
  unfold cSt
  rw [if_pos ⟨hd.1, hd.2, hs.1, hs.2⟩, h]
  omega
theorem ml_bit {N : zNt} {b d s : Int} (ok : rOk (mV N b)) (h : cSt (mV N b) d s ≠ -1) : mBit (mR N b) ((d * 6 + s).toNat / 6) ((d * 6 + s).toNat % 6) := by
  have hn := rk_n ok
  have hin := cSt_in h
  have hq := rk_bt ok (j := (d * 6 + s).toNat) (by omega) (by omega)
  have hst := rk_st ok (j := (d * 6 + s).toNat) (by omega)
  refine mBit_V.mp (hq.mpr ?_)
  unfold cSt at h
  rw [if_pos hin] at h
  omega
theorem ml_stv {N : zNt} {b d s : Int} (ok : rOk (mV N b)) (hb0 : 0 ≤ b ∧ b ≤ 1974) (hd : cHas (mV N b) d) (hs : 0 ≤ s ∧ s < 6) (h : cSt (mV N b) d s ≠ -1) : N 1 (((b + 36) + (6 * d)) + s).toNat = cSt (mV N b) d s := by
  have hn := rk_n ok
  unfold cSt
  rw [if_pos ⟨hd.1, hd.2, hs.1, hs.2⟩, mV_4 (by omega) (by omega), if_pos (ml_bit ok h)]
  exact congrArg (N 1) (by omega)
theorem ml_cnt {N : zNt} {b s : Int} (hb0 : 0 ≤ b ∧ b ≤ 1974) (hs6 : 0 ≤ s ∧ s < 6) : mV N b 6 s.toNat = N 1 ((b + 132) + (25 * s)).toNat :=
  (mV_rd (by omega) (by decide)).trans (congrArg (N 1) (by unfold mIx; simp; omega))
theorem ml_logs {N : zNt} {b s e2 : Int} (hb0 : 0 ≤ b ∧ b ≤ 1974) (hs6 : 0 ≤ s ∧ s < 6) (hc0 : 0 ≤ mV N b 6 s.toNat) (hc : mV N b 6 s.toNat < 24) : mTo N (up2 (up2 N 1 ((b + 132) + (25 * s)).toNat (N 1 ((b + 132) + (25 * s)).toNat + 1)) 1 (((b + 132) + (25 * s)) + (N 1 ((b + 132) + (25 * s)).toNat + 1)).toNat e2) b (cWrite (mV N b) s e2) := by
  have e0 := ml_cnt (N := N) hb0 hs6
  have h1 := mTo_w (N := N) (b := b) (r := 6) (j := s.toNat) (I := ((b + 132) + (25 * s)).toNat) (x := mV N b 6 s.toNat + 1) (by omega) (by unfold mIx; simp; omega) (by decide) (fun h9 => absurd h9 (by decide))
  rw [← e0]
  have h2 := mTo_w (N := up2 N 1 ((b + 132) + (25 * s)).toNat (mV N b 6 s.toNat + 1)) (b := b) (r := 7) (j := (s * 24 + mV N b 6 s.toNat).toNat) (I := (((b + 132) + (25 * s)) + (mV N b 6 s.toNat + 1)).toNat) (x := e2) (by omega) (by
    have q1 : (s * 24 + mV N b 6 s.toNat).toNat / 24 = s.toNat := by omega
    have q2 : (s * 24 + mV N b 6 s.toNat).toNat % 24 = (mV N b 6 s.toNat).toNat := by omega
    unfold mIx; simp only [q1, q2]; simp; omega) (by decide) (fun h9 => absurd h9 (by decide))
  refine ⟨?_, mFr_tr h1.2 h2.2⟩
  rw [h2.1, h1.1]
  unfold cWrite
  rw [if_pos ⟨hs6.1, hs6.2, hc⟩]
  exact up2_comm _ _ _ (by decide)
/-- a member gets into a state, as the reference has it: its patience is 0 where it isn't in doubt -/
def aEnter0 (N : zNt) (d s v : Int) : zNt := up2 (up2 N 4 (d * 6 + s).toNat v) 5 (d * 6 + s).toNat (if v = 1 then N 0 3 else 0)
def aEnter (N : zNt) (d s v : Int) : zNt := cWrite (aEnter0 N d s v) s (10 * d + v)
theorem ml_gets {N : zNt} {b d s v y : Int} (hb0 : 0 ≤ b ∧ b ≤ 1974) (ok : rOk (mV N b)) (hin : 0 ≤ d ∧ d < mV N b 0 0 ∧ 0 ≤ s ∧ s < 6) (hm : cSt (mV N b) d s ≠ -1) : mTo N (up2 (up2 N 1 (((b + 36) + (6 * d)) + s).toNat v) 1 (((b + 84) + (6 * d)) + s).toNat y) b (up2 (up2 (mV N b) 4 (d * 6 + s).toNat v) 5 (d * 6 + s).toNat y) := by
  have hn := rk_n ok
  have h1 := mTo_w (N := N) (b := b) (r := 4) (j := (d * 6 + s).toNat) (I := (((b + 36) + (6 * d)) + s).toNat) (x := v) (by omega) (by unfold mIx; simp; omega) (by decide) (fun _ _ _ => ml_bit ok hm)
  have h2 := mTo_w (N := up2 N 1 (((b + 36) + (6 * d)) + s).toNat v) (b := b) (r := 5) (j := (d * 6 + s).toNat) (I := (((b + 84) + (6 * d)) + s).toNat) (x := y) (by omega) (by unfold mIx; simp; omega) (by decide) (fun h9 => absurd h9 (by decide))
  exact ⟨by rw [h2.1, h1.1], mFr_tr h1.2 h2.2⟩
theorem ml_gets1 {N : zNt} {b d s v : Int} (hb0 : 0 ≤ b ∧ b ≤ 1974) (ok : rOk (mV N b)) (hin : 0 ≤ d ∧ d < mV N b 0 0 ∧ 0 ≤ s ∧ s < 6) (hm : cSt (mV N b) d s ≠ -1) (h1 : v = 1) : mTo N (up2 (up2 N 1 (((b + 36) + (6 * d)) + s).toNat v) 1 (((b + 84) + (6 * d)) + s).toNat ((up2 N 1 (((b + 36) + (6 * d)) + s).toNat v) 1 (b + 2).toNat)) b (aEnter0 (mV N b) d s v) := by
  have e : up2 N 1 (((b + 36) + (6 * d)) + s).toNat v 1 (b + 2).toNat = mV N b 0 3 := by
    rw [up2_ne _ _ (by omega)]
    exact ((mV_rd (by omega) (by decide)).trans (congrArg (N 1) (by unfold mIx; simp; omega))).symm
  rw [e]
  unfold aEnter0
  rw [if_pos h1]
  exact ml_gets hb0 ok hin hm
theorem ml_gets0 {N : zNt} {b d s v : Int} (hb0 : 0 ≤ b ∧ b ≤ 1974) (ok : rOk (mV N b)) (hin : 0 ≤ d ∧ d < mV N b 0 0 ∧ 0 ≤ s ∧ s < 6) (hm : cSt (mV N b) d s ≠ -1) (h1 : v ≠ 1) : mTo N (up2 (up2 N 1 (((b + 36) + (6 * d)) + s).toNat v) 1 (((b + 84) + (6 * d)) + s).toNat 0) b (aEnter0 (mV N b) d s v) := by
  unfold aEnter0
  rw [if_neg h1]
  exact ml_gets hb0 ok hin hm
theorem n_aEnter (N : zNt) (d s v : Int) (j : Nat) : aEnter N d s v 0 j = N 0 j := by
  unfold aEnter aEnter0
  rw [n_write]; simp [up2]
theorem rk_w0 {N N1 : zNt} (ok : rOk N) (h0 : ∀ j, N1 0 j = N 0 j) (h1 : ∀ j, N1 1 j = N 1 j) (h2 : ∀ j, N1 2 j = N 2 j) (h3 : ∀ j, j < 8 → (0 ≤ N1 3 j ∧ N1 3 j ≤ 3) ∧ N1 3 j ≠ 1) (h4 : ∀ j : Nat, j < 48 → (-1 ≤ N1 4 j ∧ N1 4 j ≤ 3) ∧ (0 ≤ N 4 j ↔ 0 ≤ N1 4 j) ∧ (6 * N 0 0 ≤ (j : Int) → N1 4 j = N 4 j)) (h5 : ∀ j, j < 48 → 0 ≤ N1 5 j ∧ N1 5 j ≤ 20) (h6 : ∀ s, s < 6 → 0 ≤ N1 6 s ∧ N1 6 s ≤ 24) (h8 : ∀ j, N1 8 j = N 8 j) : rOk N1 := by
  refine ⟨by rw [h0]; exact ok.1, fun d hd => ⟨by rw [h1]; exact rk_ld ok hd, by rw [h2]; exact rk_it ok hd, h3 d hd⟩, fun j hj => ⟨(h4 j hj).1, h5 j hj⟩, h6, by rw [h0]; exact rk_fr ok, fun j hj => ?_⟩
  have e : mBit N1 (j / 6) (j % 6) ↔ mBit N (j / 6) (j % 6) := by show zAnd (zShr (N1 8 (j / 6)) _) 1 = 1 ↔ _; rw [h8]
  rw [e, h0]
  exact ⟨fun hn => (rk_bt ok hj hn).trans (h4 j hj).2.1, fun hn => ((h4 j hj).2.2 hn).trans (rk_z ok hj hn)⟩
theorem rk_r3 {N : zNt} (ok : rOk N) (j : Nat) {x : Int} (h : (0 ≤ x ∧ x ≤ 3) ∧ x ≠ 1) : rOk (up2 N 3 j x) :=
  rk_w0 ok (fun _ => up2_rw _ _ (by decide) _) (fun _ => up2_rw _ _ (by decide) _) (fun _ => up2_rw _ _ (by decide) _) (fun i hi => by
    by_cases e : i = j
    · rw [e, up2_at]; exact h
    · rw [up2_ne _ _ (fun q => e q.2)]; exact ⟨rk_dc ok hi, rk_d1 ok hi⟩) (fun i hi => by rw [up2_rw _ _ (by decide)]; exact ⟨rk_st ok hi, Iff.rfl, fun _ => rfl⟩) (fun i hi => by rw [up2_rw _ _ (by decide)]; exact rk_pt ok hi) (fun i hi => by rw [up2_rw _ _ (by decide)]; exact rk_ll ok hi) (fun _ => up2_rw _ _ (by decide) _)
theorem rk_write {N : zNt} (ok : rOk N) (s e : Int) : rOk (cWrite N s e) := by
  unfold cWrite
  split
  · rename_i h
    have q := rk_ll ok (s := s.toNat) (by omega)
    refine rk_w0 ok (fun _ => by simp [up2]) (fun _ => by simp [up2]) (fun _ => by simp [up2]) (fun i hi => by rw [up2_rw _ _ (by decide), up2_rw _ _ (by decide)]; exact ⟨rk_dc ok hi, rk_d1 ok hi⟩) (fun i hi => by rw [up2_rw _ _ (by decide), up2_rw _ _ (by decide)]; exact ⟨rk_st ok hi, Iff.rfl, fun _ => rfl⟩) (fun i hi => by rw [up2_rw _ _ (by decide), up2_rw _ _ (by decide)]; exact rk_pt ok hi) (fun i hi => ?_) (fun _ => by simp [up2])
    by_cases e : i = s.toNat
    · rw [e, up2_at]; omega
    · rw [up2_ne _ _ (fun q => e q.2), up2_rw _ _ (by decide)]; exact rk_ll ok hi
  · exact ok
theorem rk_settle {N : zNt} (ok : rOk N) {d v : Int} (hv : (0 ≤ v ∧ v ≤ 3) ∧ v ≠ 1) : rOk (cSettle N d v) := by
  unfold cSettle; split
  · exact rk_write (rk_r3 ok _ hv) _ _
  · exact ok
theorem rk_aEnter {N : zNt} (ok : rOk N) {d s v : Int} (hv : 0 ≤ v ∧ v ≤ 3) (hm : cSt N d s ≠ -1) : rOk (aEnter N d s v) := by
  have hn := rk_n ok
  have hf := rk_fr ok
  have hin := cSt_in hm
  have hst := rk_st ok (j := (d * 6 + s).toNat) (by omega)
  have h4 : 0 ≤ N 4 (d * 6 + s).toNat := by unfold cSt at hm; rw [if_pos hin] at hm; omega
  refine rk_write ?_ _ _
  unfold aEnter0
  refine rk_w0 ok (fun _ => by simp [up2]) (fun _ => by simp [up2]) (fun _ => by simp [up2]) (fun i hi => by rw [up2_rw _ _ (by decide), up2_rw _ _ (by decide)]; exact ⟨rk_dc ok hi, rk_d1 ok hi⟩) (fun i hi => ?_) (fun i hi => ?_) (fun i hi => by rw [up2_rw _ _ (by decide), up2_rw _ _ (by decide)]; exact rk_ll ok hi) (fun _ => by simp [up2])
  · rw [up2_rw _ _ (by decide)]
    by_cases e : i = (d * 6 + s).toNat
    · rw [e, up2_at]; exact ⟨by omega, ⟨fun _ => hv.1, fun _ => h4⟩, fun h9 => by omega⟩
    · rw [up2_ne _ _ (fun q => e q.2)]; exact ⟨rk_st ok hi, Iff.rfl, fun _ => rfl⟩
  · by_cases e : i = (d * 6 + s).toNat
    · rw [e, up2_at]; split <;> omega
    · rw [up2_ne _ _ (fun q => e q.2), up2_rw _ _ (by decide)]; exact rk_pt ok hi
set_option maxHeartbeats 4000000 in
set_option maxRecDepth 100000 in
theorem c_X4_in {l : Launch} {D : va_G} {G : zG} {ad : Nat → Nat} (hJ : zInj ad) (σ : zM) {x : Int} (hx : zB x) {lo : Int} (hlo : zB lo) {hi : Int} (hhi : zB hi)  : zKI l D G ad yX4_in cX4_in 3 (some .boolean) 0 [vI x, vI lo, vI hi] σ (fun z σ9 => z = (if lo ≤ x ∧ x ≤ hi then 1 else 0) ∧ σ9 = σ) := by
  intro sz
  refine z_open hJ (by decide +kernel) (Nat.le_of_ble_eq_true rfl) ?_
  intro p e s0 m args below meth c hsz X hr hlocks
  refine z_sub [(0, vI x), (1, vI lo), (2, vI hi)] (zSub_cons rfl (zSub_cons rfl (zSub_cons rfl zSub_nil))) ?_
  refine z_iload_n X dX4_in_0 rfl ?_
  refine z_iload_n X dX4_in_1 rfl ?_
  refine z_icmp_lt X 14 dX4_in_2 (by decide) hx hlo (fun c_1 => ?_) (fun c_1 => ?_)
  · refine z_iconst X dX4_in_14 ?_
    exact z_zret X hsz hr hlocks dX4_in_15 (Or.inl rfl) ⟨(by first | rfl | ((try simp only [cEnd]); split <;> first | rfl | omega | (exfalso; omega)) | (simp [cEnd, c_1]; done) | (simp_all [cEnd]; done)), rfl⟩
  · refine z_iload_n X dX4_in_5 rfl ?_
    refine z_iload_n X dX4_in_6 rfl ?_
    refine z_icmp_gt X 14 dX4_in_7 (by decide) hx hhi (fun c_2 => ?_) (fun c_2 => ?_)
    · refine z_iconst X dX4_in_14 ?_
      exact z_zret X hsz hr hlocks dX4_in_15 (Or.inl rfl) ⟨(by first | rfl | ((try simp only [cEnd]); split <;> first | rfl | omega | (exfalso; omega)) | (simp [cEnd, c_1, c_2]; done) | (simp_all [cEnd]; done)), rfl⟩
    · refine z_iconst X dX4_in_10 ?_
      refine z_goto X 15 dX4_in_11 (by decide) ?_
      exact z_zret X hsz hr hlocks dX4_in_15 (Or.inr rfl) ⟨(by first | rfl | ((try simp only [cEnd]); split <;> first | rfl | omega | (exfalso; omega)) | (simp [cEnd, c_1, c_2]; done) | (simp_all [cEnd]; done)), rfl⟩

set_option maxHeartbeats 4000000 in
set_option maxRecDepth 100000 in
theorem c_X4_isSite {l : Launch} {D : va_G} {G : zG} {ad : Nat → Nat} (hJ : zInj ad) (σ : zM) {s : Int} (hs : zB s)  : zKI l D G ad yX4_isSite cX4_isSite 1 (some .boolean) 1 [vI s] σ (fun z σ9 => z = (if 0 ≤ s ∧ s ≤ 5 then 1 else 0) ∧ σ9 = σ) := by
  intro sz
  refine z_open hJ (by decide +kernel) (Nat.le_of_ble_eq_true rfl) ?_
  intro p e s0 m args below meth c hsz X hr hlocks
  refine z_sub [(0, vI s)] (zSub_cons rfl zSub_nil) ?_
  refine z_iload_n X dX4_isSite_0 rfl ?_
  refine z_iconst X dX4_isSite_1 ?_
  refine z_iconst X dX4_isSite_2 ?_
  refine z_callSI3 X (c_X4_in hJ _ hs ⟨by decide, by decide⟩ ⟨by decide, by decide⟩) kX4_20 ⟨(Nat.le_of_ble_eq_true rfl), (Nat.le_of_ble_eq_true rfl)⟩ (Nat.le_of_ble_eq_true rfl) ⟨Nat.zero_le _, Nat.zero_le _⟩ dX4_isSite_3 (fun z9 σ1 hz9 => ?_)
  obtain ⟨rfl, rfl⟩ := hz9
  exact z_zret X hsz hr hlocks dX4_isSite_6 zB01 ⟨(by first | rfl | ((try simp only [cEnd]); split <;> first | rfl | omega | (exfalso; omega)) | (simp [cEnd]; done) | (simp_all [cEnd]; done)), rfl⟩

set_option maxHeartbeats 4000000 in
set_option maxRecDepth 100000 in
theorem c_X4_thrown {l : Launch} {D : va_G} {G : zG} {ad : Nat → Nat} (hJ : zInj ad) (σ : zM) {N : Nat → Nat → Int}    : zKI l D G ad yX4_thrown cX4_thrown 1 (some .int) 0 [.ref (ad 5)] (zBk σ 5 3 N) (fun z σ9 => z = N 0 0 ∧ σ9 = (zBk σ 5 3 N)) := by
  intro sz
  refine z_open hJ (by decide +kernel) (Nat.le_of_ble_eq_true rfl) ?_
  intro p e s0 m args below meth c hsz X hr hlocks
  refine z_sub [(0, .ref (ad 5))] (zSub_cons rfl zSub_nil) ?_
  refine z_aload_n X dX4_thrown_0 rfl ?_
  refine y_gMod0 X fX4_16 dX4_thrown_1 ?_
  exact z_iret X hsz hr hlocks dX4_thrown_4 ⟨(by first | rfl | ((try simp only [cEnd]); split <;> first | rfl | omega | (exfalso; omega)) | (simp [cEnd]; done) | (simp_all [cEnd]; done)), rfl⟩

set_option maxHeartbeats 4000000 in
set_option maxRecDepth 100000 in
theorem c_X4_holds {l : Launch} {D : va_G} {G : zG} {ad : Nat → Nat} (hJ : zInj ad) (σ : zM) {N : Nat → Nat → Int}  {x : Int} (hx : zB x)  : zKI l D G ad yX4_holds cX4_holds 2 (some .boolean) 0 [.ref (ad 5), vI x] (zBk σ 5 3 N) (fun z σ9 => z = (if x = 0 then 1 else 0) ∧ σ9 = (zBk σ 5 3 (up2 N 0 0 x))) := by
  intro sz
  refine z_open hJ (by decide +kernel) (Nat.le_of_ble_eq_true rfl) ?_
  intro p e s0 m args below meth c hsz X hr hlocks
  refine z_sub [(0, .ref (ad 5)), (1, vI x)] (zSub_cons rfl (zSub_cons rfl zSub_nil)) ?_
  refine z_aload_n X dX4_holds_0 rfl ?_
  refine z_iload_n X dX4_holds_1 rfl ?_
  refine y_pMod0 X fX4_16 dX4_holds_2 ?_
  refine z_iload_n X dX4_holds_5 rfl ?_
  refine z_if_ne X 13 dX4_holds_6 (by decide) hx (fun c_1 => ?_) (fun c_1 => ?_)
  · refine z_iconst X dX4_holds_13 ?_
    exact z_zret X hsz hr hlocks dX4_holds_14 (Or.inl rfl) ⟨(by first | rfl | ((try simp only [cEnd]); split <;> first | rfl | omega | (exfalso; omega)) | (simp [cEnd, c_1]; done) | (simp_all [cEnd]; done)), (congrArg (zBk σ _ _) (by first | rfl | ((try simp only [cEnd]); split <;> first | rfl | omega | (exfalso; omega)) | (simp [cEnd, c_1]; done) | (simp_all [cEnd]; done)))⟩
  · refine z_iconst X dX4_holds_9 ?_
    refine z_goto X 14 dX4_holds_10 (by decide) ?_
    exact z_zret X hsz hr hlocks dX4_holds_14 (Or.inr rfl) ⟨(by first | rfl | ((try simp only [cEnd]); split <;> first | rfl | omega | (exfalso; omega)) | (simp [cEnd, c_1]; done) | (simp_all [cEnd]; done)), (congrArg (zBk σ _ _) (by first | rfl | ((try simp only [cEnd]); split <;> first | rfl | omega | (exfalso; omega)) | (simp [cEnd, c_1]; done) | (simp_all [cEnd]; done)))⟩

set_option maxHeartbeats 4000000 in
set_option maxRecDepth 100000 in
theorem c_X4_isDeal {l : Launch} {D : va_G} {G : zG} {ad : Nat → Nat} (hJ : zInj ad) (σ : zM) {N : Nat → Nat → Int}  {d : Int} (hd : zB d) (ok : rOk (mV N 0)) : zKI l D G ad yX4_isDeal cX4_isDeal 2 (some .boolean) 1 [.ref (ad 5), vI d] (zBk σ 5 3 N) (fun z σ9 => z = (if cHas (mV N 0) d then 1 else 0) ∧ σ9 = (zBk σ 5 3 N)) := by
  intro sz
  refine z_open hJ (by decide +kernel) (Nat.le_of_ble_eq_true rfl) ?_
  intro p e s0 m args below meth c hsz X hr hlocks
  have hn := rk_n ok
  have e0 : mV N 0 0 0 = N 1 (3 : Int).toNat := mV_rd (by omega) (by decide)
  refine z_sub [(0, .ref (ad 5)), (1, vI d)] (zSub_cons rfl (zSub_cons rfl zSub_nil)) ?_
  refine z_iload_n X dX4_isDeal_0 rfl ?_
  refine z_iconst X dX4_isDeal_1 ?_
  refine z_aload_n X dX4_isDeal_2 rfl ?_
  refine y_gMod1 X fX4_7 dX4_isDeal_3 ?_
  refine z_iconst X dX4_isDeal_6 ?_
  refine y_iald X 1 (zArr_6) (by decide) (by omega) (by omega) (by decide) dX4_isDeal_7 ?_
  rw [← e0]
  refine z_iconst X dX4_isDeal_8 ?_
  refine z_isub X dX4_isDeal_9 ?_
  refine z_callSI3 X (c_X4_in hJ _ hd ⟨by decide, by decide⟩ (by first | assumption | (unfold zB at *; omega))) kX4_20 ⟨(Nat.le_of_ble_eq_true rfl), (Nat.le_of_ble_eq_true rfl)⟩ (Nat.le_of_ble_eq_true rfl) ⟨Nat.zero_le _, Nat.zero_le _⟩ dX4_isDeal_10 (fun z9 σ1 hz9 => ?_)
  obtain ⟨rfl, rfl⟩ := hz9
  exact z_zret X hsz hr hlocks dX4_isDeal_13 zB01 ⟨(zIff (by constructor <;> intro h9 <;> omega)), rfl⟩

set_option maxHeartbeats 4000000 in
set_option maxRecDepth 100000 in
theorem c_X4_of {l : Launch} {D : va_G} {G : zG} {ad : Nat → Nat} (hJ : zInj ad) (σ : zM) {N : Nat → Nat → Int}  {b : Int} (hb : zB b) {d : Int} (hd : zB d) {w : Int} (hw : zB w) (hb0 : 0 ≤ b ∧ b ≤ 1974) (hd8 : 0 ≤ d ∧ d < 8) (hw4 : 0 ≤ w ∧ w ≤ 3) : zKI l D G ad yX4_of cX4_of 4 (some .int) 0 [.ref (ad 5), vI b, vI d, vI w] (zBk σ 5 3 N) (fun z σ9 => z = N 1 (((b + 4) + (4 * d)) + w).toNat ∧ σ9 = (zBk σ 5 3 N)) := by
  intro sz
  refine z_open hJ (by decide +kernel) (Nat.le_of_ble_eq_true rfl) ?_
  intro p e s0 m args below meth c hsz X hr hlocks
  refine z_sub [(0, .ref (ad 5)), (1, vI b), (2, vI d), (3, vI w)] (zSub_cons rfl (zSub_cons rfl (zSub_cons rfl (zSub_cons rfl zSub_nil)))) ?_
  refine z_aload_n X dX4_of_0 rfl ?_
  refine y_gMod1 X fX4_7 dX4_of_1 ?_
  refine z_iload_n X dX4_of_4 rfl ?_
  refine z_iconst X dX4_of_5 ?_
  refine z_iadd X dX4_of_6 ?_
  refine z_iconst X dX4_of_7 ?_
  refine z_iload_n X dX4_of_8 rfl ?_
  refine z_imul X dX4_of_9 ?_
  refine z_iadd X dX4_of_10 ?_
  refine z_iload_n X dX4_of_11 rfl ?_
  refine z_iadd X dX4_of_12 ?_
  refine y_iald X 1 (zArr_6) (by decide) (by omega) (by omega) (by decide) dX4_of_13 ?_
  exact z_iret X hsz hr hlocks dX4_of_14 ⟨(by first | rfl | ((try simp only [cEnd]); split <;> first | rfl | omega | (exfalso; omega)) | (simp [cEnd]; done) | (simp_all [cEnd]; done)), rfl⟩


theorem ml_of {N : zNt} {b d : Int} {w : Int} (r : Nat) (hb0 : 0 ≤ b ∧ b ≤ 1974) (hd8 : 0 ≤ d ∧ d < 8) (h : mIn r d.toNat) (hr : r ≠ 4) (hI : b.toNat + mIx r d.toNat = (((b + 4) + (4 * d)) + w).toNat) : N 1 (((b + 4) + (4 * d)) + w).toNat = mV N b r d.toNat := by
  rw [mV_rd h hr, hI]
theorem c_X4_of0 {l : Launch} {D : va_G} {G : zG} {ad : Nat → Nat} (hJ : zInj ad) (σ : zM) {N : Nat → Nat → Int} {b d : Int} (hb : zB b) (hd : zB d) (hb0 : 0 ≤ b ∧ b ≤ 1974) (ok : rOk (mV N b)) (hc : cHas (mV N b) d) : zKI l D G ad yX4_of cX4_of 4 (some .int) 0 [.ref (ad 5), vI b, vI d, vI 0] (zBk σ 5 3 N) (fun z σ9 => z = cLead (mV N b) d ∧ σ9 = zBk σ 5 3 N) := by
  have hn := rk_n ok
  rw [show cLead (mV N b) d = N 1 (((b + 4) + (4 * d)) + 0).toNat from ((if_pos hc : cLead (mV N b) d = mV N b 1 d.toNat)).trans (ml_of 1 hb0 ⟨by omega, by omega⟩ (by omega) (by decide) (by unfold mIx; simp; omega)).symm]
  exact c_X4_of hJ σ hb hd ⟨by decide, by decide⟩ hb0 ⟨by omega, by omega⟩ ⟨by decide, by decide⟩
theorem c_X4_of3 {l : Launch} {D : va_G} {G : zG} {ad : Nat → Nat} (hJ : zInj ad) (σ : zM) {N : Nat → Nat → Int} {b d : Int} (hb : zB b) (hd : zB d) (hb0 : 0 ≤ b ∧ b ≤ 1974) (ok : rOk (mV N b)) (hc : cHas (mV N b) d) : zKI l D G ad yX4_of cX4_of 4 (some .int) 0 [.ref (ad 5), vI b, vI d, vI 3] (zBk σ 5 3 N) (fun z σ9 => z = cDec (mV N b) d ∧ σ9 = zBk σ 5 3 N) := by
  have hn := rk_n ok
  rw [show cDec (mV N b) d = N 1 (((b + 4) + (4 * d)) + 3).toNat from ((if_pos hc : cDec (mV N b) d = mV N b 3 d.toNat)).trans (ml_of 3 hb0 ⟨by omega, by omega⟩ (by omega) (by decide) (by unfold mIx; simp; omega)).symm]
  exact c_X4_of hJ σ hb hd ⟨by decide, by decide⟩ hb0 ⟨by omega, by omega⟩ ⟨by decide, by decide⟩
theorem c_X4_of2 {l : Launch} {D : va_G} {G : zG} {ad : Nat → Nat} (hJ : zInj ad) (σ : zM) {N : Nat → Nat → Int} {b d : Int} (hb : zB b) (hd : zB d) (hb0 : 0 ≤ b ∧ b ≤ 1974) (ok : rOk (mV N b)) (hc : cHas (mV N b) d) : zKI l D G ad yX4_of cX4_of 4 (some .int) 0 [.ref (ad 5), vI b, vI d, vI 2] (zBk σ 5 3 N) (fun z σ9 => z = mV N b 2 d.toNat ∧ σ9 = zBk σ 5 3 N) := by
  have hn := rk_n ok
  rw [show mV N b 2 d.toNat = N 1 (((b + 4) + (4 * d)) + 2).toNat from (ml_of 2 hb0 ⟨by omega, by omega⟩ (by omega) (by decide) (by unfold mIx; simp; omega)).symm]
  exact c_X4_of hJ σ hb hd ⟨by decide, by decide⟩ hb0 ⟨by omega, by omega⟩ ⟨by decide, by decide⟩
theorem c_X4_of1 {l : Launch} {D : va_G} {G : zG} {ad : Nat → Nat} (hJ : zInj ad) (σ : zM) {N : Nat → Nat → Int} {b d : Int} (hb : zB b) (hd : zB d) (hb0 : 0 ≤ b ∧ b ≤ 1974) (ok : rOk (mV N b)) (hc : cHas (mV N b) d) : zKI l D G ad yX4_of cX4_of 4 (some .int) 0 [.ref (ad 5), vI b, vI d, vI 1] (zBk σ 5 3 N) (fun z σ9 => z = mV N b 8 d.toNat ∧ σ9 = zBk σ 5 3 N) := by
  have hn := rk_n ok
  rw [show mV N b 8 d.toNat = N 1 (((b + 4) + (4 * d)) + 1).toNat from (ml_of 8 hb0 ⟨by omega, by omega⟩ (by omega) (by decide) (by unfold mIx; simp; omega)).symm]
  exact c_X4_of hJ σ hb hd ⟨by decide, by decide⟩ hb0 ⟨by omega, by omega⟩ ⟨by decide, by decide⟩

set_option maxHeartbeats 4000000 in
set_option maxRecDepth 100000 in
theorem c_X4_isUpNow {l : Launch} {D : va_G} {G : zG} {ad : Nat → Nat} (hJ : zInj ad) (σ : zM) {N : Nat → Nat → Int}  {b : Int} (hb : zB b) {s : Int} (hs : zB s) (hb0 : 0 ≤ b ∧ b ≤ 1974) (hs6 : 0 ≤ s ∧ s < 6) : zKI l D G ad yX4_isUpNow cX4_isUpNow 3 (some .boolean) 0 [.ref (ad 5), vI b, vI s] (zBk σ 5 3 N) (fun z σ9 => z = (if cUp (mV N b) s then 1 else 0) ∧ σ9 = (zBk σ 5 3 N)) := by
  intro sz
  refine z_open hJ (by decide +kernel) (Nat.le_of_ble_eq_true rfl) ?_
  intro p e s0 m args below meth c hsz X hr hlocks
  have e0 : mV N b 0 1 = N 1 (b + 0).toNat := (mV_rd (by omega) (by decide)).trans (congrArg (N 1) (by unfold mIx; simp))
  refine z_sub [(0, .ref (ad 5)), (1, vI b), (2, vI s)] (zSub_cons rfl (zSub_cons rfl (zSub_cons rfl zSub_nil))) ?_
  refine z_aload_n X dX4_isUpNow_0 rfl ?_
  refine y_gMod1 X fX4_7 dX4_isUpNow_1 ?_
  refine z_iload_n X dX4_isUpNow_4 rfl ?_
  refine z_iconst X dX4_isUpNow_5 ?_
  refine z_iadd X dX4_isUpNow_6 ?_
  refine y_iald X 1 (zArr_6) (by decide) (by omega) (by omega) (by decide) dX4_isUpNow_7 ?_
  refine z_iload_n X dX4_isUpNow_8 rfl ?_
  refine z_shr X dX4_isUpNow_9 (zShr_eq (N 1 (b + 0).toNat) s) ?_
  refine z_iconst X dX4_isUpNow_10 ?_
  refine z_and X dX4_isUpNow_11 (zAnd_eq (zShr (N 1 (b + 0).toNat) s) 1) ?_
  refine z_iconst X dX4_isUpNow_12 ?_
  refine z_icmp_ne X 20 dX4_isUpNow_13 (by decide) (zB_toInt _) ⟨by decide, by decide⟩ (fun c_1 => ?_) (fun c_1 => ?_)
  · refine z_iconst X dX4_isUpNow_20 ?_
    exact z_zret X hsz hr hlocks dX4_isUpNow_21 (Or.inl rfl) ⟨(if_neg (fun h9 => c_1 (by have h8 := h9.2.2; rw [e0] at h8; exact bit_ne.mpr h8))).symm, rfl⟩
  · refine z_iconst X dX4_isUpNow_16 ?_
    refine z_goto X 21 dX4_isUpNow_17 (by decide) ?_
    exact z_zret X hsz hr hlocks dX4_isUpNow_21 (Or.inr rfl) ⟨(if_pos ⟨hs6.1, hs6.2, by rw [e0]; exact bit_ne.mp c_1⟩).symm, rfl⟩

set_option maxHeartbeats 4000000 in
set_option maxRecDepth 100000 in
theorem c_X4_isMember {l : Launch} {D : va_G} {G : zG} {ad : Nat → Nat} (hJ : zInj ad) (σ : zM) {N : Nat → Nat → Int}  {b : Int} (hb : zB b) {d : Int} (hd : zB d) {s : Int} (hs : zB s) (hb0 : 0 ≤ b ∧ b ≤ 1974) (ok : rOk (mV N b)) (hd8 : cHas (mV N b) d) (hs6 : 0 ≤ s ∧ s < 6) : zKI l D G ad yX4_isMember cX4_isMember 4 (some .boolean) 1 [.ref (ad 5), vI b, vI d, vI s] (zBk σ 5 3 N) (fun z σ9 => z = (if cSt (mV N b) d s ≠ -1 then 1 else 0) ∧ σ9 = (zBk σ 5 3 N)) := by
  intro sz
  refine z_open hJ (by decide +kernel) (Nat.le_of_ble_eq_true rfl) ?_
  intro p e s0 m args below meth c hsz X hr hlocks
  have hn := rk_n ok
  refine z_sub [(0, .ref (ad 5)), (1, vI b), (2, vI d), (3, vI s)] (zSub_cons rfl (zSub_cons rfl (zSub_cons rfl (zSub_cons rfl zSub_nil)))) ?_
  refine z_aload_n X dX4_isMember_0 rfl ?_
  refine z_iload_n X dX4_isMember_1 rfl ?_
  refine z_iload_n X dX4_isMember_2 rfl ?_
  refine z_iconst X dX4_isMember_3 ?_
  refine z_callVI3 X (c_X4_of1 hJ σ hb hd (by omega) ok (by first | omega | assumption)) kX4_24 rfl (by decide) rfl ⟨(Nat.le_of_ble_eq_true rfl), (Nat.le_of_ble_eq_true rfl)⟩ (Nat.le_of_ble_eq_true rfl) ⟨Nat.zero_le _, Nat.zero_le _⟩ dX4_isMember_4 (fun z9 σ1 hz9 => ?_)
  obtain ⟨rfl, rfl⟩ := hz9
  refine z_iload_n X dX4_isMember_7 rfl ?_
  refine z_shr X dX4_isMember_8 (zShr_eq (mV N b 8 d.toNat) s) ?_
  refine z_iconst X dX4_isMember_9 ?_
  refine z_and X dX4_isMember_10 (zAnd_eq (zShr (mV N b 8 d.toNat) s) 1) ?_
  refine z_iconst X dX4_isMember_11 ?_
  refine z_icmp_ne X 19 dX4_isMember_12 (by decide) (zB_toInt _) ⟨by decide, by decide⟩ (fun c_2 => ?_) (fun c_2 => ?_)
  · refine z_iconst X dX4_isMember_19 ?_
    exact z_zret X hsz hr hlocks dX4_isMember_20 (Or.inl rfl) ⟨(if_neg (fun h9 => c_2 ((ml_mem ok hd8 hs6).mpr h9))).symm, rfl⟩
  · refine z_iconst X dX4_isMember_15 ?_
    refine z_goto X 20 dX4_isMember_16 (by decide) ?_
    exact z_zret X hsz hr hlocks dX4_isMember_20 (Or.inr rfl) ⟨(if_pos ((ml_mem ok hd8 hs6).mp c_2)).symm, rfl⟩

set_option maxHeartbeats 4000000 in
set_option maxRecDepth 100000 in
theorem c_X4_stateOf {l : Launch} {D : va_G} {G : zG} {ad : Nat → Nat} (hJ : zInj ad) (σ : zM) {N : Nat → Nat → Int}  {b : Int} (hb : zB b) {d : Int} (hd : zB d) {s : Int} (hs : zB s) (hb0 : 0 ≤ b ∧ b ≤ 1974) (ok : rOk (mV N b)) (hd8 : cHas (mV N b) d) (hs6 : 0 ≤ s ∧ s < 6) : zKI l D G ad yX4_stateOf cX4_stateOf 4 (some .int) 2 [.ref (ad 5), vI b, vI d, vI s] (zBk σ 5 3 N) (fun z σ9 => z = cSt (mV N b) d s ∧ σ9 = (zBk σ 5 3 N)) := by
  intro sz
  refine z_open hJ (by decide +kernel) (Nat.le_of_ble_eq_true rfl) ?_
  intro p e s0 m args below meth c hsz X hr hlocks
  have hn := rk_n ok
  refine z_sub [(0, .ref (ad 5)), (1, vI b), (2, vI d), (3, vI s)] (zSub_cons rfl (zSub_cons rfl (zSub_cons rfl (zSub_cons rfl zSub_nil)))) ?_
  refine z_aload_n X dX4_stateOf_0 rfl ?_
  refine z_iload_n X dX4_stateOf_1 rfl ?_
  refine z_iload_n X dX4_stateOf_2 rfl ?_
  refine z_iload_n X dX4_stateOf_3 rfl ?_
  refine z_callVI3 X (c_X4_isMember hJ σ hb hd hs (by omega) ok (by first | omega | assumption) (by omega)) kX4_28 rfl (by decide) rfl ⟨(Nat.le_of_ble_eq_true rfl), (Nat.le_of_ble_eq_true rfl)⟩ (Nat.le_of_ble_eq_true rfl) ⟨Nat.zero_le _, Nat.zero_le _⟩ dX4_stateOf_4 (fun z9 σ1 hz9 => ?_)
  obtain ⟨rfl, rfl⟩ := hz9
  refine z_ifb_eq X 29 dX4_stateOf_7 (by decide) (fun c_2 => ?_) (fun c_2 => ?_)
  · refine z_iconst X dX4_stateOf_29 ?_
    exact z_iret X hsz hr hlocks dX4_stateOf_30 ⟨(by omega), rfl⟩
  · refine z_aload_n X dX4_stateOf_10 rfl ?_
    refine y_gMod1 X fX4_7 dX4_stateOf_11 ?_
    refine z_iload_n X dX4_stateOf_14 rfl ?_
    refine z_bipush X dX4_stateOf_15 rfl ?_
    refine z_iadd X dX4_stateOf_17 ?_
    refine z_bipush X dX4_stateOf_18 rfl ?_
    refine z_iload_n X dX4_stateOf_20 rfl ?_
    refine z_imul X dX4_stateOf_21 ?_
    refine z_iadd X dX4_stateOf_22 ?_
    refine z_iload_n X dX4_stateOf_23 rfl ?_
    refine z_iadd X dX4_stateOf_24 ?_
    refine y_iald X 1 (zArr_6) (by decide) (by omega) (by omega) (by decide) dX4_stateOf_25 ?_
    refine z_goto X 30 dX4_stateOf_26 (by decide) ?_
    exact z_iret X hsz hr hlocks dX4_stateOf_30 ⟨(ml_stv ok hb0 hd8 hs6 c_2), rfl⟩

set_option maxHeartbeats 4000000 in
set_option maxRecDepth 100000 in
theorem c_X4_logs {l : Launch} {D : va_G} {G : zG} {ad : Nat → Nat} (hJ : zInj ad) (σ : zM) {N : Nat → Nat → Int}  {b : Int} (hb : zB b) {s : Int} (hs : zB s) {e2 : Int} (he2 : zB e2) (hb0 : 0 ≤ b ∧ b ≤ 1974) (hs6 : 0 ≤ s ∧ s < 6) (hc0 : 0 ≤ mV N b 6 s.toNat) (hc : mV N b 6 s.toNat < 24) : zKV l D G ad yX4_logs cX4_logs 5 none 0 [.ref (ad 5), vI b, vI s, vI e2] (zBk σ 5 3 N) (fun σ9 => ∃ N9, σ9 = zBk σ 5 3 N9 ∧ mTo N N9 b (cWrite (mV N b) s e2)) := by
  intro sz
  refine z_open hJ (by decide +kernel) (Nat.le_of_ble_eq_true rfl) ?_
  intro p e s0 m args below meth c hsz X hr hlocks
  have e0 := ml_cnt (N := N) hb0 hs6
  refine z_sub [(0, .ref (ad 5)), (1, vI b), (2, vI s), (3, vI e2)] (zSub_cons rfl (zSub_cons rfl (zSub_cons rfl (zSub_cons rfl zSub_nil)))) ?_
  refine z_iload_n X dX4_logs_0 rfl ?_
  refine z_sipush X dX4_logs_1 rfl ?_
  refine z_iadd X dX4_logs_4 ?_
  refine z_bipush X dX4_logs_5 rfl ?_
  refine z_iload_n X dX4_logs_7 rfl ?_
  refine z_imul X dX4_logs_8 ?_
  refine z_iadd X dX4_logs_9 ?_
  refine z_istore X dX4_logs_10 (by decide) ?_
  refine z_sub [(0, .ref (ad 5)), (1, vI b), (2, vI s), (3, vI e2), (4, vI ((b + 132) + (25 * s)))] (zSub_cons rfl (zSub_cons rfl (zSub_cons rfl (zSub_cons rfl (zSub_cons rfl zSub_nil))))) ?_
  refine z_aload_n X dX4_logs_12 rfl ?_
  refine y_gMod1 X fX4_7 dX4_logs_13 ?_
  refine z_iload X dX4_logs_16 rfl ?_
  refine z_dup2 X dX4_logs_18 rfl rfl ?_
  refine y_iald X 1 (zArr_6) (by decide) (by omega) (by omega) (by decide) dX4_logs_19 ?_
  refine z_iconst X dX4_logs_20 ?_
  refine z_iadd X dX4_logs_21 ?_
  refine y_iast X 1 (zArr_6) (by decide) (by omega) (by omega) (by decide) dX4_logs_22 ?_
  refine z_aload_n X dX4_logs_23 rfl ?_
  refine y_gMod1 X fX4_7 dX4_logs_24 ?_
  refine z_iload X dX4_logs_27 rfl ?_
  refine z_aload_n X dX4_logs_29 rfl ?_
  refine y_gMod1 X fX4_7 dX4_logs_30 ?_
  refine z_iload X dX4_logs_33 rfl ?_
  refine y_iald X 1 (zArr_6) (by decide) (by omega) (by omega) (by decide) dX4_logs_35 ?_
  rw [up2_at]
  refine z_iadd X dX4_logs_36 ?_
  refine z_iload_n X dX4_logs_37 rfl ?_
  refine y_iast X 1 (zArr_6) (by decide) (by omega) (by omega) (by decide) dX4_logs_38 ?_
  exact z_vret X hsz hr hlocks dX4_logs_39 ⟨_, rfl, ml_logs hb0 hs6 hc0 hc⟩

set_option maxHeartbeats 4000000 in
set_option maxRecDepth 100000 in
theorem c_X4_gets {l : Launch} {D : va_G} {G : zG} {ad : Nat → Nat} (hJ : zInj ad) (σ : zM) {N : Nat → Nat → Int}  {b : Int} (hb : zB b) {d : Int} (hd : zB d) {s : Int} (hs : zB s) {v : Int} (hv : zB v) (hb0 : 0 ≤ b ∧ b ≤ 1974) (ok : rOk (mV N b)) (hv3 : 0 ≤ v ∧ v ≤ 3) (hm : cSt (mV N b) d s ≠ -1) (hc : mV N b 6 s.toNat < 24) : zKV l D G ad yX4_gets cX4_gets 5 none 1 [.ref (ad 5), vI b, vI d, vI s, vI v] (zBk σ 5 3 N) (fun σ9 => ∃ N9, σ9 = zBk σ 5 3 N9 ∧ mTo N N9 b (aEnter (mV N b) d s v)) := by
  intro sz
  refine z_open hJ (by decide +kernel) (Nat.le_of_ble_eq_true rfl) ?_
  intro p e s0 m args below meth c hsz X hr hlocks
  have hn := rk_n ok
  have hin := cSt_in hm
  have hl := rk_ll ok (s := s.toNat) (by omega)
  refine z_sub [(0, .ref (ad 5)), (1, vI b), (2, vI d), (3, vI s), (4, vI v)] (zSub_cons rfl (zSub_cons rfl (zSub_cons rfl (zSub_cons rfl (zSub_cons rfl zSub_nil))))) ?_
  refine z_aload_n X dX4_gets_0 rfl ?_
  refine y_gMod1 X fX4_7 dX4_gets_1 ?_
  refine z_iload_n X dX4_gets_4 rfl ?_
  refine z_bipush X dX4_gets_5 rfl ?_
  refine z_iadd X dX4_gets_7 ?_
  refine z_bipush X dX4_gets_8 rfl ?_
  refine z_iload_n X dX4_gets_10 rfl ?_
  refine z_imul X dX4_gets_11 ?_
  refine z_iadd X dX4_gets_12 ?_
  refine z_iload_n X dX4_gets_13 rfl ?_
  refine z_iadd X dX4_gets_14 ?_
  refine z_iload X dX4_gets_15 rfl ?_
  refine y_iast X 1 (zArr_6) (by decide) (by omega) (by omega) (by decide) dX4_gets_17 ?_
  refine z_aload_n X dX4_gets_18 rfl ?_
  refine y_gMod1 X fX4_7 dX4_gets_19 ?_
  refine z_iload_n X dX4_gets_22 rfl ?_
  refine z_bipush X dX4_gets_23 rfl ?_
  refine z_iadd X dX4_gets_25 ?_
  refine z_bipush X dX4_gets_26 rfl ?_
  refine z_iload_n X dX4_gets_28 rfl ?_
  refine z_imul X dX4_gets_29 ?_
  refine z_iadd X dX4_gets_30 ?_
  refine z_iload_n X dX4_gets_31 rfl ?_
  refine z_iadd X dX4_gets_32 ?_
  refine z_iload X dX4_gets_33 rfl ?_
  refine z_iconst X dX4_gets_35 ?_
  refine z_icmp_ne X 50 dX4_gets_36 (by decide) hv ⟨by decide, by decide⟩ (fun c_1 => ?_) (fun c_1 => ?_)
  · refine z_iconst X dX4_gets_50 ?_
    refine y_iast X 1 (zArr_6) (by decide) (by omega) (by omega) (by decide) dX4_gets_51 ?_
    obtain ⟨Nw, hNw⟩ : ∃ Nw, Nw = (up2 (up2 N 1 (((b + 36) + (6 * d)) + s).toNat v) 1 (((b + 84) + (6 * d)) + s).toNat 0) := ⟨_, rfl⟩
    rw [← hNw]
    have hTw : mTo N Nw b (aEnter0 (mV N b) d s v) := by rw [hNw]; exact ml_gets0 hb0 ok hin hm c_1
    have e6 : mV Nw b 6 s.toNat = mV N b 6 s.toNat := by rw [hTw.1]; exact up2_rw _ _ (by decide) _ |>.trans (up2_rw _ _ (by decide) _)
    refine z_aload_n X dX4_gets_52 rfl ?_
    refine z_iload_n X dX4_gets_53 rfl ?_
    refine z_iload_n X dX4_gets_54 rfl ?_
    refine z_bipush X dX4_gets_55 rfl ?_
    refine z_iload_n X dX4_gets_57 rfl ?_
    refine z_imul X dX4_gets_58 ?_
    refine z_iload X dX4_gets_59 rfl ?_
    refine z_iadd X dX4_gets_61 ?_
    refine z_callVV3 X (c_X4_logs hJ σ hb hs (by first | assumption | (unfold zB at *; omega)) (by omega) (by omega) (by first | omega | assumption) (by first | omega | assumption)) kX4_31 rfl (by decide) rfl ⟨(Nat.le_of_ble_eq_true rfl), (Nat.le_of_ble_eq_true rfl)⟩ (Nat.le_of_ble_eq_true rfl) ⟨Nat.zero_le _, Nat.zero_le _⟩ dX4_gets_62 (fun σ1 hz9 => ?_)
    obtain ⟨N1, rfl, hT1⟩ := hz9
    exact z_vret X hsz hr hlocks dX4_gets_65 ⟨N1, rfl, by rw [hT1.1, hTw.1]; rfl, mFr_tr hTw.2 hT1.2⟩
  · refine z_aload_n X dX4_gets_39 rfl ?_
    refine y_gMod1 X fX4_7 dX4_gets_40 ?_
    refine z_iload_n X dX4_gets_43 rfl ?_
    refine z_iconst X dX4_gets_44 ?_
    refine z_iadd X dX4_gets_45 ?_
    refine y_iald X 1 (zArr_6) (by decide) (by omega) (by omega) (by decide) dX4_gets_46 ?_
    refine z_goto X 51 dX4_gets_47 (by decide) ?_
    refine y_iast X 1 (zArr_6) (by decide) (by omega) (by omega) (by decide) dX4_gets_51 ?_
    obtain ⟨Nw, hNw⟩ : ∃ Nw, Nw = (up2 (up2 N 1 (((b + 36) + (6 * d)) + s).toNat v) 1 (((b + 84) + (6 * d)) + s).toNat ((up2 N 1 (((b + 36) + (6 * d)) + s).toNat v) 1 (b + 2).toNat)) := ⟨_, rfl⟩
    rw [← hNw]
    have hTw : mTo N Nw b (aEnter0 (mV N b) d s v) := by rw [hNw]; exact ml_gets1 hb0 ok hin hm c_1
    have e6 : mV Nw b 6 s.toNat = mV N b 6 s.toNat := by rw [hTw.1]; exact up2_rw _ _ (by decide) _ |>.trans (up2_rw _ _ (by decide) _)
    refine z_aload_n X dX4_gets_52 rfl ?_
    refine z_iload_n X dX4_gets_53 rfl ?_
    refine z_iload_n X dX4_gets_54 rfl ?_
    refine z_bipush X dX4_gets_55 rfl ?_
    refine z_iload_n X dX4_gets_57 rfl ?_
    refine z_imul X dX4_gets_58 ?_
    refine z_iload X dX4_gets_59 rfl ?_
    refine z_iadd X dX4_gets_61 ?_
    refine z_callVV3 X (c_X4_logs hJ σ hb hs (by first | assumption | (unfold zB at *; omega)) (by omega) (by omega) (by first | omega | assumption) (by first | omega | assumption)) kX4_31 rfl (by decide) rfl ⟨(Nat.le_of_ble_eq_true rfl), (Nat.le_of_ble_eq_true rfl)⟩ (Nat.le_of_ble_eq_true rfl) ⟨Nat.zero_le _, Nat.zero_le _⟩ dX4_gets_62 (fun σ1 hz9 => ?_)
    obtain ⟨N2, rfl, hT2⟩ := hz9
    exact z_vret X hsz hr hlocks dX4_gets_65 ⟨N2, rfl, by rw [hT2.1, hTw.1]; rfl, mFr_tr hTw.2 hT2.2⟩

set_option maxHeartbeats 4000000 in
set_option maxRecDepth 100000 in
theorem c_X4_decides {l : Launch} {D : va_G} {G : zG} {ad : Nat → Nat} (hJ : zInj ad) (σ : zM) {N : Nat → Nat → Int}  {b : Int} (hb : zB b) {d : Int} (hd : zB d) {v : Int} (hv : zB v) (hb0 : 0 ≤ b ∧ b ≤ 1974) (ok : rOk (mV N b)) (hv3 : (0 ≤ v ∧ v ≤ 3) ∧ v ≠ 1) (hd8 : cHas (mV N b) d) (hc : mV N b 6 (cLead (mV N b) d).toNat < 24) : zKV l D G ad yX4_decides cX4_decides 4 none 1 [.ref (ad 5), vI b, vI d, vI v] (zBk σ 5 3 N) (fun σ9 => ∃ N9, σ9 = zBk σ 5 3 N9 ∧ mTo N N9 b (cSettle (mV N b) d v)) := by
  intro sz
  refine z_open hJ (by decide +kernel) (Nat.le_of_ble_eq_true rfl) ?_
  intro p e s0 m args below meth c hsz X hr hlocks
  have hn := rk_n ok
  have hcl : cLead (mV N b) d = mV N b 1 d.toNat := if_pos hd8
  rw [hcl] at hc
  refine z_sub [(0, .ref (ad 5)), (1, vI b), (2, vI d), (3, vI v)] (zSub_cons rfl (zSub_cons rfl (zSub_cons rfl (zSub_cons rfl zSub_nil)))) ?_
  refine z_aload_n X dX4_decides_0 rfl ?_
  refine y_gMod1 X fX4_7 dX4_decides_1 ?_
  refine z_iload_n X dX4_decides_4 rfl ?_
  refine z_iconst X dX4_decides_5 ?_
  refine z_iadd X dX4_decides_6 ?_
  refine z_iconst X dX4_decides_7 ?_
  refine z_iload_n X dX4_decides_8 rfl ?_
  refine z_imul X dX4_decides_9 ?_
  refine z_iadd X dX4_decides_10 ?_
  refine z_iconst X dX4_decides_11 ?_
  refine z_iadd X dX4_decides_12 ?_
  refine z_iload_n X dX4_decides_13 rfl ?_
  refine y_iast X 1 (zArr_6) (by decide) (by omega) (by omega) (by decide) dX4_decides_14 ?_
  obtain ⟨Nw, hNw⟩ : ∃ Nw, Nw = (up2 N 1 (((b + 4) + (4 * d)) + 3).toNat v) := ⟨_, rfl⟩
  rw [← hNw]
  have hTw : mTo N Nw b (up2 (mV N b) 3 d.toNat v) := by rw [hNw]; exact mTo_w (by omega) (by unfold mIx; simp; omega) (by decide) (fun h9 => absurd h9 (by decide))
  have hnw : mV Nw b 0 0 = mV N b 0 0 := by rw [hTw.1]; exact up2_rw _ _ (by decide) _
  have okw : rOk (mV Nw b) := by rw [hTw.1]; exact rk_r3 ok _ hv3
  have el : cLead (mV Nw b) d = mV N b 1 d.toNat := by rw [hTw.1]; unfold cLead; rw [if_pos (show cHas (up2 (mV N b) 3 d.toNat v) d from hd8)]; exact up2_rw _ _ (by decide) _
  have hl := rk_ld ok (d := d.toNat) (by omega)
  have hl2 := rk_ll ok (s := (mV N b 1 d.toNat).toNat) (by omega)
  have e6 : mV Nw b 6 (mV N b 1 d.toNat).toNat = mV N b 6 (mV N b 1 d.toNat).toNat := by rw [hTw.1]; exact up2_rw _ _ (by decide) _
  refine z_aload_n X dX4_decides_15 rfl ?_
  refine z_iload_n X dX4_decides_16 rfl ?_
  refine z_aload_n X dX4_decides_17 rfl ?_
  refine z_iload_n X dX4_decides_18 rfl ?_
  refine z_iload_n X dX4_decides_19 rfl ?_
  refine z_iconst X dX4_decides_20 ?_
  refine z_callVI3 X (c_X4_of0 hJ σ hb hd (by omega) okw (by first | omega | assumption)) kX4_24 rfl (by decide) rfl ⟨(Nat.le_of_ble_eq_true rfl), (Nat.le_of_ble_eq_true rfl)⟩ (Nat.le_of_ble_eq_true rfl) ⟨Nat.zero_le _, Nat.zero_le _⟩ dX4_decides_21 (fun z9 σ1 hz9 => ?_)
  obtain ⟨rfl, rfl⟩ := hz9
  rw [el]
  refine z_bipush X dX4_decides_24 rfl ?_
  refine z_iload_n X dX4_decides_26 rfl ?_
  refine z_imul X dX4_decides_27 ?_
  refine z_iload_n X dX4_decides_28 rfl ?_
  refine z_iadd X dX4_decides_29 ?_
  refine z_iconst X dX4_decides_30 ?_
  refine z_iadd X dX4_decides_31 ?_
  refine z_callVV3 X (c_X4_logs hJ σ hb (zB_sm hl) (by first | assumption | (unfold zB at *; omega)) (by omega) (by omega) (by first | omega | assumption) (by first | omega | assumption)) kX4_31 rfl (by decide) rfl ⟨(Nat.le_of_ble_eq_true rfl), (Nat.le_of_ble_eq_true rfl)⟩ (Nat.le_of_ble_eq_true rfl) ⟨Nat.zero_le _, Nat.zero_le _⟩ dX4_decides_32 (fun σ1 hz9 => ?_)
  obtain ⟨N1, rfl, hT1⟩ := hz9
  exact z_vret X hsz hr hlocks dX4_decides_35 ⟨N1, rfl, by rw [hT1.1, hTw.1]; exact (if_pos hd8).symm, mFr_tr hTw.2 hT1.2⟩
