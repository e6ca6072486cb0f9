def pX (N : zNt) (j0 : Nat) : Prop := 1 ≤ N 0 3 ∧ ∀ j, j < 48 → j ≠ j0 → N 4 j = 1 → 1 ≤ N 5 j
def pOk (N : zNt) : Prop := 1 ≤ N 0 3 ∧ ∀ j, j < 48 → N 4 j = 1 → 1 ≤ N 5 j
theorem pk_px {N : zNt} (h : pOk N) (j0 : Nat) : pX N j0 := ⟨h.1, fun j hj _ => h.2 j hj⟩
theorem pk_of {N : zNt} {j0 : Nat} (h : pX N j0) (h0 : N 4 j0 = 1 → 1 ≤ N 5 j0) : pOk N := ⟨h.1, fun j hj h4 => by
  by_cases e : j = j0
  · rw [e] at h4 ⊢; exact h0 h4
  · exact h.2 j hj e h4⟩
theorem px_r5 {N : zNt} {j0 : Nat} (h : pOk N) (x : Int) : pX (up2 N 5 j0 x) j0 := ⟨by rw [up2_rw _ _ (by decide)]; exact h.1, fun j hj hne h4 => by
  rw [up2_ne _ _ (fun q => hne q.2)]
  rw [up2_rw _ _ (by decide)] at h4
  exact h.2 j hj h4⟩
theorem px_cg {N M : zNt} {j0 : Nat} (h : pX N j0) (h3 : M 0 3 = N 0 3) (h4 : ∀ j, M 4 j = N 4 j) (h5 : ∀ j, M 5 j = N 5 j) : pX M j0 := ⟨by rw [h3]; exact h.1, fun j hj hne q => by rw [h5]; exact h.2 j hj hne (by rw [← h4]; exact q)⟩
theorem px_aEnter {N : zNt} {j0 : Nat} (h : pX N j0) (d s v : Int) : pX (aEnter N d s v) j0 := by
  refine ⟨by rw [n_aEnter]; exact h.1, fun j hj hne q => ?_⟩
  unfold aEnter at q ⊢
  rw [cWrite_r (by decide) (by decide)] at q ⊢
  unfold aEnter0 at q ⊢
  rw [up2_rw _ _ (by decide)] at q
  by_cases e : j = (d * 6 + s).toNat
  · rw [e, up2_at] at q
    rw [e, up2_at, if_pos q]; exact h.1
  · rw [up2_ne _ _ (fun z => e z.2)] at q
    rw [up2_ne _ _ (fun z => e z.2), up2_rw _ _ (by decide)]
    exact h.2 j hj hne q
theorem px_settle {N : zNt} {j0 : Nat} (h : pX N j0) (d v : Int) : pX (cSettle N d v) j0 := by
  refine px_cg h (n_settle _ _ _ _) (fun j => ?_) (fun j => ?_)
  · unfold cSettle; split
    · rw [cWrite_r (by decide) (by decide), up2_rw _ _ (by decide)]
    · rfl
  · unfold cSettle; split
    · rw [cWrite_r (by decide) (by decide), up2_rw _ _ (by decide)]
    · rfl
theorem rk_aAsk {N : zNt} (ok : rOk N) {d s o : Int} (hd : cHas N d) (hm : cSt N d s = 1) : rOk (aAsk N d s o) := rk_aAsk3 (rk_ask1 ok) hd hm
theorem bd_aAsk {N : zNt} (ok : rOk N) (bd : Bud N) {d s o : Int} (hd : cHas N d) (hm : cSt N d s = 1) : Bud (aAsk N d s o) := bd_aAsk3 (rk_ask1 ok) (bd_ask1 bd) hd hm
theorem px_aAsk {N : zNt} {j0 : Nat} (h : pX N j0) (d s o : Int) : pX (aAsk N d s o) j0 := by
  have h1 : pX (cAsk1 N) j0 := px_cg h rfl (fun _ => rfl) (fun _ => rfl)
  unfold aAsk aAsk3; split
  · have h2 : pX (cAsk2 (cAsk1 N) d) j0 := by unfold cAsk2; split; exact px_settle h1 _ _; exact h1
    unfold aTell; split
    · exact px_aEnter h2 _ _ _
    · exact h2
  · split
    · unfold aAsk2; split
      · exact px_aEnter (px_aEnter h1 _ _ _) _ _ _
      · exact px_aEnter h1 _ _ _
    · exact h1
theorem rk_r5 {N : zNt} (ok : rOk N) (j : Nat) {x : Int} (h : 0 ≤ x ∧ x ≤ 20) : rOk (up2 N 5 j x) :=
  rk_w0 ok (fun _ => up2_rw _ _ (by decide) _) (fun _ => up2_rw _ _ (by decide) _) (fun _ => up2_rw _ _ (by decide) _) (fun i hi => by rw [up2_rw _ _ (by decide)]; exact ⟨rk_dc ok hi, rk_d1 ok hi⟩) (fun i hi => by rw [up2_rw _ _ (by decide)]; exact ⟨rk_st ok hi, Iff.rfl, fun _ => rfl⟩) (fun i hi => by
    by_cases e : i = j
    · rw [e, up2_at]; exact h
    · rw [up2_ne _ _ (fun q => e q.2)]; exact rk_pt ok hi) (fun i hi => by rw [up2_rw _ _ (by decide)]; exact rk_ll ok hi) (fun _ => up2_rw _ _ (by decide) _)
theorem st_r5 (N : zNt) (j : Nat) (x : Int) (d s : Int) : cSt (up2 N 5 j x) d s = cSt N d s := rfl
theorem bd_r5 {N : zNt} (bd : Bud N) (j : Nat) (x : Int) : Bud (up2 N 5 j x) := bd
def aAskL (N : zNt) (d s : Int) : Nat → zNt
  | 0 => N
  | o + 1 => if cSt (aAskL N d s o) d s = 1 ∧ (o : Int) ≠ s ∧ cUp (aAskL N d s o) o then aAsk (aAskL N d s o) d s o else aAskL N d s o
theorem aAskL_step {N : zNt} {d s i : Int} (h : 0 ≤ i) : aAskL N d s (i + 1).toNat = if cSt (aAskL N d s i.toNat) d s = 1 ∧ i ≠ s ∧ cUp (aAskL N d s i.toNat) i then aAsk (aAskL N d s i.toNat) d s i else aAskL N d s i.toNat := by
  rw [show (i + 1).toNat = i.toNat + 1 by omega, aAskL, Int.toNat_of_nonneg h]
theorem aAskL_stop0 {N : zNt} {d s : Int} {i : Nat} (h : cSt (aAskL N d s i) d s ≠ 1) : ∀ k, aAskL N d s (i + k) = aAskL N d s i
  | 0 => rfl
  | k + 1 => by
    have q := aAskL_stop0 h k
    rw [← Nat.add_assoc, aAskL, q, if_neg (fun z => h z.1)]
theorem aAskL_stop {N : zNt} {d s i : Int} (hi : i ≤ 6) (h : cSt (aAskL N d s i.toNat) d s ≠ 1) : aAskL N d s i.toNat = aAskL N d s 6 := by
  have q := aAskL_stop0 h (6 - i.toNat)
  rw [show i.toNat + (6 - i.toNat) = 6 by omega] at q
  exact q.symm
def aAskF (N : zNt) (d s : Int) : zNt := up2 N 5 (d * 6 + s).toNat (if cSt N d s = 1 then N 0 3 else 0)
def aAskA (N : zNt) (d s : Int) : zNt := aAskF (aAskL N d s 6) d s
theorem n_aAskL (N : zNt) (d s : Int) (j : Nat) (hj : j ≠ 2) : ∀ o, aAskL N d s o 0 j = N 0 j
  | 0 => rfl
  | o + 1 => by
    rw [aAskL]; split
    · rw [n_aAsk _ _ _ _ _ hj, n_aAskL N d s j hj o]
    · exact n_aAskL N d s j hj o
theorem n_aAskA (N : zNt) (d s : Int) : aAskA N d s 0 0 = N 0 0 := by
  unfold aAskA aAskF
  rw [up2_rw _ _ (by decide), n_aAskL _ _ _ _ (by decide)]
theorem iv_aAskL {N : zNt} {d s : Int} {j0 : Nat} (ok : rOk N) (bd : Bud N) (hd : cHas N d) (px : pX N j0) : ∀ o, rOk (aAskL N d s o) ∧ Bud (aAskL N d s o) ∧ pX (aAskL N d s o) j0
  | 0 => ⟨ok, bd, px⟩
  | o + 1 => by
    have h := iv_aAskL (s := s) ok bd hd px o
    rw [aAskL]; split
    · rename_i q
      have hd2 : cHas (aAskL N d s o) d := by unfold cHas; rw [n_aAskL _ _ _ _ (by decide)]; exact hd
      exact ⟨rk_aAsk3 (rk_ask1 h.1) hd2 q.1, bd_aAsk3 (rk_ask1 h.1) (bd_ask1 h.2.1) hd2 q.1, px_aAsk h.2.2 _ _ _⟩
    · exact h
theorem iv_aAskA {N : zNt} {d s : Int} (ok : rOk N) (bd : Bud N) (hd : cHas N d) (hs : 0 ≤ s ∧ s < 6) (px : pX N (d * 6 + s).toNat) : rOk (aAskA N d s) ∧ Bud (aAskA N d s) ∧ pOk (aAskA N d s) := by
  have hn := rk_n ok
  have h := iv_aAskL (s := s) ok bd hd px 6
  have hf := rk_fr h.1
  have e0 : aAskL N d s 6 0 0 = N 0 0 := n_aAskL _ _ _ _ (by decide) _
  unfold aAskA aAskF
  refine ⟨rk_r5 h.1 _ (by split <;> omega), bd_r5 h.2.1 _ _, pk_of (j0 := (d * 6 + s).toNat) ⟨by rw [up2_rw _ _ (by decide)]; exact h.2.2.1, fun j hj hne q => ?_⟩ (fun q => ?_)⟩
  · rw [up2_ne _ _ (fun z => hne z.2)]
    rw [up2_rw _ _ (by decide)] at q
    exact h.2.2.2 j hj hne q
  · rw [up2_at]
    rw [up2_rw _ _ (by decide)] at q
    rw [if_pos (by unfold cSt; rw [if_pos (by omega)]; exact q)]
    exact h.2.2.1
theorem fl_fr {N : zNt} {b : Int} (hb0 : 0 ≤ b) : N 1 (b + 2).toNat = mV N b 0 3 := ((mV_rd (by omega) (by decide)).trans (congrArg (N 1) (by unfold mIx; simp; omega))).symm
theorem ml_askF {N M : zNt} {b d s x : Int} (hb0 : 0 ≤ b ∧ b ≤ 1974) (hn : 0 ≤ mV N b 0 0 ∧ mV N b 0 0 ≤ 8) (hd : cHas (mV N b) d) (hs : 0 ≤ s ∧ s < 6) (h0 : mV M b 0 0 = mV N b 0 0) (h : mTo N M b (aAskL (mV N b) d s 6)) (hx : x = if cSt (mV M b) d s = 1 then mV M b 0 3 else 0) : mTo N (up2 M 1 (((b + 84) + (6 * d)) + s).toNat x) b (aAskA (mV N b) d s) := by
  have h1 := mTo_w (N := M) (b := b) (r := 5) (j := (d * 6 + s).toNat) (I := (((b + 84) + (6 * d)) + s).toNat) (x := x) (by omega) (by unfold mIx; simp; omega) (by decide) (fun h9 => absurd h9 (by decide))
  refine ⟨?_, mFr_tr h.2 h1.2⟩
  rw [h1.1, hx, h.1]; rfl
def aTk (N : zNt) (k : Int) : zNt := if cUp N (k % 6) ∧ cSt N (k / 6) (k % 6) = 1 then (if N 5 k.toNat - 1 = 0 then aAskA (up2 N 5 k.toNat (N 5 k.toNat - 1)) (k / 6) (k % 6) else up2 N 5 k.toNat (N 5 k.toNat - 1)) else N
def aTkL (N : zNt) : Nat → zNt
  | 0 => N
  | k + 1 => aTk (aTkL N k) k
theorem aTkL_step {N : zNt} {i : Int} (h : 0 ≤ i) : aTkL N (i + 1).toNat = aTk (aTkL N i.toNat) i := by
  rw [show (i + 1).toNat = i.toNat + 1 by omega, aTkL, Int.toNat_of_nonneg h]
def aTick (N : zNt) : zNt := aTkL N (6 * N 0 0).toNat
theorem st_k {N : zNt} {k : Int} (hk0 : k < 6 * N 0 0) (h0 : 0 ≤ k) : cSt N (k / 6) (k % 6) = N 4 k.toNat := by
  unfold cSt
  rw [if_pos (by omega), show (k / 6 * 6 + k % 6).toNat = k.toNat by omega]
theorem n_aTk (N : zNt) (k : Int) : aTk N k 0 0 = N 0 0 := by
  unfold aTk; split
  · split
    · rw [n_aAskA, up2_rw _ _ (by decide)]
    · rw [up2_rw _ _ (by decide)]
  · rfl
theorem n_aTkL (N : zNt) : ∀ k, aTkL N k 0 0 = N 0 0
  | 0 => rfl
  | k + 1 => by rw [aTkL, n_aTk, n_aTkL N k]
theorem n_aTick (N : zNt) : aTick N 0 0 = N 0 0 := n_aTkL N _
theorem iv_aTk {N : zNt} {k : Int} (ok : rOk N) (bd : Bud N) (pk : pOk N) (h0 : 0 ≤ k) (hk : k < 6 * N 0 0) : rOk (aTk N k) ∧ Bud (aTk N k) ∧ pOk (aTk N k) := by
  have hn := rk_n ok
  unfold aTk; split
  · rename_i h
    have h4 : N 4 k.toNat = 1 := by rw [← st_k hk h0]; exact h.2
    have hp := pk.2 k.toNat (by omega) h4
    have hr := rk_pt ok (j := k.toNat) (by omega)
    have ok1 := rk_r5 ok k.toNat (x := N 5 k.toNat - 1) (by omega)
    have px1 := px_r5 (j0 := k.toNat) pk (N 5 k.toNat - 1)
    split
    · exact iv_aAskA ok1 (bd_r5 bd _ _) ⟨by omega, by rw [up2_rw _ _ (by decide)]; omega⟩ (by omega) (by rw [show (k / 6 * 6 + k % 6).toNat = k.toNat by omega]; exact px1)
    · exact ⟨ok1, bd_r5 bd _ _, pk_of px1 (fun _ => by rw [up2_at]; omega)⟩
  · exact ⟨ok, bd, pk⟩
theorem iv_aTkL {N : zNt} (ok : rOk N) (bd : Bud N) (pk : pOk N) : ∀ k : Nat, (k : Int) ≤ 6 * N 0 0 → rOk (aTkL N k) ∧ Bud (aTkL N k) ∧ pOk (aTkL N k)
  | 0, _ => ⟨ok, bd, pk⟩
  | k + 1, h => by
    have q := iv_aTkL ok bd pk k (by omega)
    rw [aTkL]
    exact iv_aTk q.1 q.2.1 q.2.2 (by omega) (by rw [n_aTkL]; omega)
theorem iv_aTick {N : zNt} (ok : rOk N) (bd : Bud N) (pk : pOk N) : rOk (aTick N) ∧ Bud (aTick N) ∧ pOk (aTick N) := iv_aTkL ok bd pk _ (by have := rk_n ok; omega)
theorem fl_p5 {N : zNt} {b k : Int} (hb0 : 0 ≤ b ∧ b ≤ 1974) (h0 : 0 ≤ k) (hk : k < 48) : N 1 ((b + 84) + k).toNat = mV N b 5 k.toNat := ((mV_rd (by omega) (by decide)).trans (congrArg (N 1) (by unfold mIx; simp; omega))).symm
theorem ml_p5 {N : zNt} {b k x : Int} (hb0 : 0 ≤ b ∧ b ≤ 1974) (h0 : 0 ≤ k) (hk : k < 48) : mTo N (up2 N 1 ((b + 84) + k).toNat x) b (up2 (mV N b) 5 k.toNat x) := mTo_w (by omega) (by unfold mIx; simp; omega) (by decide) (fun h9 => absurd h9 (by decide))
set_option maxHeartbeats 4000000 in
set_option maxRecDepth 100000 in
theorem c_X4_asksAll {l : Launch} {D : va_G} {G : zG} {ad : Nat → Nat} (hJ : zInj ad) (σ : zM) {N : Nat → Nat → Int}  {b : Int} (hb : zB b) {d : Int} (hd : zB d) {s : Int} (hs : zB s) (hb0 : 0 ≤ b ∧ b ≤ 1974) (ok : rOk (mV N b)) (bd : Bud (mV N b)) (hd8 : cHas (mV N b) d) (hs6 : 0 ≤ s ∧ s < 6) : zKV l D G ad yX4_asksAll cX4_asksAll 5 none 5 [.ref (ad 5), vI b, vI d, vI s] (zBk σ 5 3 N) (fun σ9 => ∃ N9, σ9 = zBk σ 5 3 N9 ∧ mTo N N9 b (aAskA (mV N b) d s)) := by
  intro sz
  refine z_open hJ (by decide +kernel) (Nat.le_of_ble_eq_true rfl) ?_
  intro p e s0 m args below meth c hsz X hr hlocks
  have hn2 := rk_n ok
  refine z_sub [(0, .ref (ad 5)), (1, vI b), (2, vI d), (3, vI s)] (zSub_cons rfl (zSub_cons rfl (zSub_cons rfl (zSub_cons rfl zSub_nil)))) ?_
  refine z_iconst X dX4_asksAll_0 ?_
  refine z_istore X dX4_asksAll_1 (by decide) ?_
  refine z_sub [(0, .ref (ad 5)), (1, vI b), (2, vI d), (3, vI s), (4, vI 0)] (zSub_cons rfl (zSub_cons rfl (zSub_cons rfl (zSub_cons rfl (zSub_cons rfl zSub_nil))))) ?_
  refine z_sub [(0, .ref (ad 5)), (1, vI b), (2, vI d), (3, vI s), (4, vI 0)] (zSub_cons rfl (zSub_cons rfl (zSub_cons rfl (zSub_cons rfl (zSub_cons rfl zSub_nil))))) ?_
  refine zFor (S := zNt) 6 (fun i M => mTo N M b (aAskL (mV N b) d s i.toNat) ∧ rOk (mV M b) ∧ Bud (mV M b) ∧ mV M b 0 0 = mV N b 0 0) (fun i M => zV p l e (zRm 5) s0 m args below meth c 5 D G ad 0 0 (zE below (zQV D G ad sz (fun σ9 => ∃ N9, σ9 = zBk σ 5 3 N9 ∧ mTo N N9 b (aAskA (mV N b) d s))) args s0 ad) 3 [(0, .ref (ad 5)), (1, vI b), (2, vI d), (3, vI s), (4, vI i)] [] (zBk σ 5 3 M)) (fun i M i0 i1 hv ih => ?_) N (by omega) ⟨mTo_rf, ok, bd, rfl⟩
  have hn3 := hv.2.2.2
  refine z_iload X dX4_asksAll_3 rfl ?_
  refine z_bipush X dX4_asksAll_5 rfl ?_
  refine z_icmp_ge X 52 dX4_asksAll_7 (by decide) (by first | assumption | (unfold zB at *; omega)) ⟨by decide, by decide⟩ (fun c_1 => ?_) (fun c_1 => ?_)
  · have hend : mV M b = aAskL (mV N b) d s 6 := by first | (rw [hv.1.1, show i = 6 by omega]; rfl) | exact hv.1.1.trans (aAskL_stop (by omega) (by rw [← hv.1.1]; omega))
    refine z_aload_n X dX4_asksAll_52 rfl ?_
    refine y_gMod1 X fX4_7 dX4_asksAll_53 ?_
    refine z_iload_n X dX4_asksAll_56 rfl ?_
    refine z_bipush X dX4_asksAll_57 rfl ?_
    refine z_iadd X dX4_asksAll_59 ?_
    refine z_bipush X dX4_asksAll_60 rfl ?_
    refine z_iload_n X dX4_asksAll_62 rfl ?_
    refine z_imul X dX4_asksAll_63 ?_
    refine z_iadd X dX4_asksAll_64 ?_
    refine z_iload_n X dX4_asksAll_65 rfl ?_
    refine z_iadd X dX4_asksAll_66 ?_
    refine z_aload_n X dX4_asksAll_67 rfl ?_
    refine z_iload_n X dX4_asksAll_68 rfl ?_
    refine z_iload_n X dX4_asksAll_69 rfl ?_
    refine z_iload_n X dX4_asksAll_70 rfl ?_
    refine z_callVI3 X (c_X4_stateOf hJ σ hb hd hs (by omega) hv.2.1 (by first | omega | assumption) (by omega)) kX4_35 rfl (by decide) rfl ⟨(Nat.le_of_ble_eq_true rfl), (Nat.le_of_ble_eq_true rfl)⟩ (Nat.le_of_ble_eq_true rfl) ⟨Nat.zero_le _, Nat.zero_le _⟩ dX4_asksAll_71 (fun z9 σ1 hz9 => ?_)
    obtain ⟨rfl, rfl⟩ := hz9
    refine z_iconst X dX4_asksAll_74 ?_
    refine z_icmp_ne X 89 dX4_asksAll_75 (by decide) (zB_sm (qg_st hv.2.1 _ _)) ⟨by decide, by decide⟩ (fun c_3 => ?_) (fun c_3 => ?_)
    · refine z_iconst X dX4_asksAll_89 ?_
      refine y_iast X 1 (zArr_6) (by decide) (by omega) (by omega) (by decide) dX4_asksAll_90 ?_
      exact z_vret X hsz hr hlocks dX4_asksAll_91 ⟨_, rfl, ml_askF hb0 hn2 hd8 hs6 hv.2.2.2 ⟨hend, hv.1.2⟩ (by first | (rw [if_pos (by assumption)]; exact (fl_fr (by omega))) | exact (if_neg (by assumption)).symm)⟩
    · refine z_aload_n X dX4_asksAll_78 rfl ?_
      refine y_gMod1 X fX4_7 dX4_asksAll_79 ?_
      refine z_iload_n X dX4_asksAll_82 rfl ?_
      refine z_iconst X dX4_asksAll_83 ?_
      refine z_iadd X dX4_asksAll_84 ?_
      refine y_iald X 1 (zArr_6) (by decide) (by omega) (by omega) (by decide) dX4_asksAll_85 ?_
      refine z_goto X 90 dX4_asksAll_86 (by decide) ?_
      refine y_iast X 1 (zArr_6) (by decide) (by omega) (by omega) (by decide) dX4_asksAll_90 ?_
      exact z_vret X hsz hr hlocks dX4_asksAll_91 ⟨_, rfl, ml_askF hb0 hn2 hd8 hs6 hv.2.2.2 ⟨hend, hv.1.2⟩ (by first | (rw [if_pos (by assumption)]; exact (fl_fr (by omega))) | exact (if_neg (by assumption)).symm)⟩
  · refine z_aload_n X dX4_asksAll_10 rfl ?_
    refine z_iload_n X dX4_asksAll_11 rfl ?_
    refine z_iload_n X dX4_asksAll_12 rfl ?_
    refine z_iload_n X dX4_asksAll_13 rfl ?_
    refine z_callVI3 X (c_X4_stateOf hJ σ hb hd hs (by omega) hv.2.1 (by first | omega | assumption) (by omega)) kX4_35 rfl (by decide) rfl ⟨(Nat.le_of_ble_eq_true rfl), (Nat.le_of_ble_eq_true rfl)⟩ (Nat.le_of_ble_eq_true rfl) ⟨Nat.zero_le _, Nat.zero_le _⟩ dX4_asksAll_14 (fun z9 σ1 hz9 => ?_)
    obtain ⟨rfl, rfl⟩ := hz9
    refine z_iconst X dX4_asksAll_17 ?_
    refine z_icmp_ne X 52 dX4_asksAll_18 (by decide) (zB_sm (qg_st hv.2.1 _ _)) ⟨by decide, by decide⟩ (fun c_5 => ?_) (fun c_5 => ?_)
    · have hend : mV M b = aAskL (mV N b) d s 6 := by first | (rw [hv.1.1, show i = 6 by omega]; rfl) | exact hv.1.1.trans (aAskL_stop (by omega) (by rw [← hv.1.1]; omega))
      refine z_aload_n X dX4_asksAll_52 rfl ?_
      refine y_gMod1 X fX4_7 dX4_asksAll_53 ?_
      refine z_iload_n X dX4_asksAll_56 rfl ?_
      refine z_bipush X dX4_asksAll_57 rfl ?_
      refine z_iadd X dX4_asksAll_59 ?_
      refine z_bipush X dX4_asksAll_60 rfl ?_
      refine z_iload_n X dX4_asksAll_62 rfl ?_
      refine z_imul X dX4_asksAll_63 ?_
      refine z_iadd X dX4_asksAll_64 ?_
      refine z_iload_n X dX4_asksAll_65 rfl ?_
      refine z_iadd X dX4_asksAll_66 ?_
      refine z_aload_n X dX4_asksAll_67 rfl ?_
      refine z_iload_n X dX4_asksAll_68 rfl ?_
      refine z_iload_n X dX4_asksAll_69 rfl ?_
      refine z_iload_n X dX4_asksAll_70 rfl ?_
      refine z_callVI3 X (c_X4_stateOf hJ σ hb hd hs (by omega) hv.2.1 (by first | omega | assumption) (by omega)) kX4_35 rfl (by decide) rfl ⟨(Nat.le_of_ble_eq_true rfl), (Nat.le_of_ble_eq_true rfl)⟩ (Nat.le_of_ble_eq_true rfl) ⟨Nat.zero_le _, Nat.zero_le _⟩ dX4_asksAll_71 (fun z9 σ1 hz9 => ?_)
      obtain ⟨rfl, rfl⟩ := hz9
      refine z_iconst X dX4_asksAll_74 ?_
      refine z_icmp_ne X 89 dX4_asksAll_75 (by decide) (zB_sm (qg_st hv.2.1 _ _)) ⟨by decide, by decide⟩ (fun c_7 => ?_) (fun c_7 => ?_)
      · refine z_iconst X dX4_asksAll_89 ?_
        refine y_iast X 1 (zArr_6) (by decide) (by omega) (by omega) (by decide) dX4_asksAll_90 ?_
        exact z_vret X hsz hr hlocks dX4_asksAll_91 ⟨_, rfl, ml_askF hb0 hn2 hd8 hs6 hv.2.2.2 ⟨hend, hv.1.2⟩ (by first | (rw [if_pos (by assumption)]; exact (fl_fr (by omega))) | exact (if_neg (by assumption)).symm)⟩
      · refine z_aload_n X dX4_asksAll_78 rfl ?_
        refine y_gMod1 X fX4_7 dX4_asksAll_79 ?_
        refine z_iload_n X dX4_asksAll_82 rfl ?_
        refine z_iconst X dX4_asksAll_83 ?_
        refine z_iadd X dX4_asksAll_84 ?_
        refine y_iald X 1 (zArr_6) (by decide) (by omega) (by omega) (by decide) dX4_asksAll_85 ?_
        refine z_goto X 90 dX4_asksAll_86 (by decide) ?_
        refine y_iast X 1 (zArr_6) (by decide) (by omega) (by omega) (by decide) dX4_asksAll_90 ?_
        exact z_vret X hsz hr hlocks dX4_asksAll_91 ⟨_, rfl, ml_askF hb0 hn2 hd8 hs6 hv.2.2.2 ⟨hend, hv.1.2⟩ (by first | (rw [if_pos (by assumption)]; exact (fl_fr (by omega))) | exact (if_neg (by assumption)).symm)⟩
    · refine z_iload X dX4_asksAll_21 rfl ?_
      refine z_iload_n X dX4_asksAll_23 rfl ?_
      refine z_icmp_eq X 46 dX4_asksAll_24 (by decide) (by first | assumption | (unfold zB at *; omega)) hs (fun c_8 => ?_) (fun c_8 => ?_)
      · refine z_iinc X dX4_asksAll_46 rfl (by decide) ?_
        refine z_sub [(0, .ref (ad 5)), (1, vI b), (2, vI d), (3, vI s), (4, vI (i + 1))] (zSub_cons rfl (zSub_cons rfl (zSub_cons rfl (zSub_cons rfl (zSub_cons rfl zSub_nil))))) ?_
        refine z_goto X 3 dX4_asksAll_49 (by decide) ?_
        refine z_sub [(0, .ref (ad 5)), (1, vI b), (2, vI d), (3, vI s), (4, vI (i + 1))] (zSub_cons rfl (zSub_cons rfl (zSub_cons rfl (zSub_cons rfl (zSub_cons rfl zSub_nil))))) ?_
        exact ih (by omega) M ⟨⟨by rw [aAskL_step i0, ← hv.1.1, if_neg (by grind)], hv.1.2⟩, hv.2⟩
      · refine z_aload_n X dX4_asksAll_27 rfl ?_
        refine z_iload_n X dX4_asksAll_28 rfl ?_
        refine z_iload X dX4_asksAll_29 rfl ?_
        refine z_callVI2 X (c_X4_isUpNow hJ σ hb (by first | assumption | (unfold zB at *; omega)) (by omega) (by omega)) kX4_58 rfl (by decide) rfl ⟨(Nat.le_of_ble_eq_true rfl), (Nat.le_of_ble_eq_true rfl)⟩ (Nat.le_of_ble_eq_true rfl) ⟨Nat.zero_le _, Nat.zero_le _⟩ dX4_asksAll_31 (fun z9 σ1 hz9 => ?_)
        obtain ⟨rfl, rfl⟩ := hz9
        refine z_ifb_eq X 46 dX4_asksAll_34 (by decide) (fun c_10 => ?_) (fun c_10 => ?_)
        · refine z_iinc X dX4_asksAll_46 rfl (by decide) ?_
          refine z_sub [(0, .ref (ad 5)), (1, vI b), (2, vI d), (3, vI s), (4, vI (i + 1))] (zSub_cons rfl (zSub_cons rfl (zSub_cons rfl (zSub_cons rfl (zSub_cons rfl zSub_nil))))) ?_
          refine z_goto X 3 dX4_asksAll_49 (by decide) ?_
          refine z_sub [(0, .ref (ad 5)), (1, vI b), (2, vI d), (3, vI s), (4, vI (i + 1))] (zSub_cons rfl (zSub_cons rfl (zSub_cons rfl (zSub_cons rfl (zSub_cons rfl zSub_nil))))) ?_
          exact ih (by omega) M ⟨⟨by rw [aAskL_step i0, ← hv.1.1, if_neg (by grind)], hv.1.2⟩, hv.2⟩
        · refine z_aload_n X dX4_asksAll_37 rfl ?_
          refine z_iload_n X dX4_asksAll_38 rfl ?_
          refine z_iload_n X dX4_asksAll_39 rfl ?_
          refine z_iload_n X dX4_asksAll_40 rfl ?_
          refine z_iload X dX4_asksAll_41 rfl ?_
          refine z_callVV4 X (c_X4_asks hJ σ hb hd hs (by first | assumption | (unfold zB at *; omega)) (by omega) hv.2.1 hv.2.2.1 (by first | omega | assumption) (by omega) (by omega) (by omega) (by first | omega | assumption)) kX4_62 rfl (by decide) rfl ⟨(Nat.le_of_ble_eq_true rfl), (Nat.le_of_ble_eq_true rfl)⟩ (Nat.le_of_ble_eq_true rfl) ⟨Nat.zero_le _, Nat.zero_le _⟩ dX4_asksAll_43 (fun σ1 hz9 => ?_)
          obtain ⟨N1, rfl, hT1⟩ := hz9
          have hnN1 : mV N1 b 0 0 = mV M b 0 0 := by rw [hT1.1]; exact n_aAsk _ _ _ _ 0 (by decide)
          have okN1 : rOk (mV N1 b) := (by rw [hT1.1]; exact rk_aAsk hv.2.1 (by first | omega | grind) (by first | omega | grind))
          have bdN1 : Bud (mV N1 b) := (by rw [hT1.1]; exact bd_aAsk hv.2.1 hv.2.2.1 (by first | omega | grind) (by first | omega | grind))
          refine z_iinc X dX4_asksAll_46 rfl (by decide) ?_
          refine z_sub [(0, .ref (ad 5)), (1, vI b), (2, vI d), (3, vI s), (4, vI (i + 1))] (zSub_cons rfl (zSub_cons rfl (zSub_cons rfl (zSub_cons rfl (zSub_cons rfl zSub_nil))))) ?_
          refine z_goto X 3 dX4_asksAll_49 (by decide) ?_
          refine z_sub [(0, .ref (ad 5)), (1, vI b), (2, vI d), (3, vI s), (4, vI (i + 1))] (zSub_cons rfl (zSub_cons rfl (zSub_cons rfl (zSub_cons rfl (zSub_cons rfl zSub_nil))))) ?_
          exact ih (by omega) N1 ⟨⟨by rw [hT1.1, aAskL_step i0, ← hv.1.1, if_pos (by grind)], mFr_tr hv.1.2 hT1.2⟩, okN1, bdN1, hnN1.trans hv.2.2.2⟩

set_option maxHeartbeats 4000000 in
set_option maxRecDepth 100000 in
theorem c_X4_ticks {l : Launch} {D : va_G} {G : zG} {ad : Nat → Nat} (hJ : zInj ad) (σ : zM) {N : Nat → Nat → Int}  {b : Int} (hb : zB b) (hb0 : 0 ≤ b ∧ b ≤ 1974) (ok : rOk (mV N b)) (bd : Bud (mV N b)) (pk : pOk (mV N b)) : zKV l D G ad yX4_ticks cX4_ticks 5 none 6 [.ref (ad 5), vI b] (zBk σ 5 3 N) (fun σ9 => ∃ N9, σ9 = zBk σ 5 3 N9 ∧ mTo N N9 b (aTick (mV N b))) := by
  intro sz
  refine z_open hJ (by decide +kernel) (Nat.le_of_ble_eq_true rfl) ?_
  intro p e s0 m args below meth c hsz X hr hlocks
  have hn2 := rk_n ok
  refine z_sub [(0, .ref (ad 5)), (1, vI b)] (zSub_cons rfl (zSub_cons rfl zSub_nil)) ?_
  refine z_iconst X dX4_ticks_0 ?_
  refine z_istore_n X dX4_ticks_1 (by decide) ?_
  refine z_sub [(0, .ref (ad 5)), (1, vI b), (2, vI 0)] (zSub_cons rfl (zSub_cons rfl (zSub_cons rfl zSub_nil))) ?_
  refine z_sub [(0, .ref (ad 5)), (1, vI b), (2, vI 0)] (zSub_cons rfl (zSub_cons rfl (zSub_cons rfl zSub_nil))) ?_
  refine zFor (S := zNt) (6 * mV N b 0 0) (fun i M => mTo N M b (aTkL (mV N b) i.toNat) ∧ rOk (mV M b) ∧ Bud (mV M b) ∧ pOk (mV M b) ∧ mV M b 0 0 = mV N b 0 0) (fun i M => zV p l e (zRm 6) s0 m args below meth c 5 D G ad 0 0 (zE below (zQV D G ad sz (fun σ9 => ∃ N9, σ9 = zBk σ 5 3 N9 ∧ mTo N N9 b (aTick (mV N b)))) args s0 ad) 2 [(0, .ref (ad 5)), (1, vI b), (2, vI i)] [] (zBk σ 5 3 M)) (fun i M i0 i1 hv ih => ?_) N (by omega) ⟨mTo_rf, ok, bd, pk, rfl⟩
  have hn3 := hv.2.2.2.2
  have hk6 : 0 ≤ i % 6 ∧ i % 6 < 6 := by omega
  refine z_iload_n X dX4_ticks_2 rfl ?_
  refine z_bipush X dX4_ticks_3 rfl ?_
  refine z_aload_n X dX4_ticks_5 rfl ?_
  refine y_gMod1 X fX4_7 dX4_ticks_6 ?_
  refine z_iload_n X dX4_ticks_9 rfl ?_
  refine z_iconst X dX4_ticks_10 ?_
  refine z_iadd X dX4_ticks_11 ?_
  refine y_iald X 1 (zArr_6) (by decide) (by omega) (by omega) (by decide) dX4_ticks_12 ?_
  rw [fl_n (N := M) (b := b) (by omega)]
  refine z_imul X dX4_ticks_13 ?_
  refine z_icmp_ge X 93 dX4_ticks_14 (by decide) (by first | assumption | (unfold zB at *; omega)) (by first | assumption | (unfold zB at *; omega)) (fun c_1 => ?_) (fun c_1 => ?_)
  · exact z_vret X hsz hr hlocks dX4_ticks_93 ⟨M, rfl, by rw [hv.1.1, show i = 6 * mV N b 0 0 by omega]; rfl, hv.1.2⟩
  · have hk0 : i < 6 * mV M b 0 0 := by omega
    have hk48 : i < 48 := by omega
    have hdk : cHas (mV M b) (i / 6) := ⟨by omega, by omega⟩
    refine z_iload_n X dX4_ticks_17 rfl ?_
    refine z_bipush X dX4_ticks_18 rfl ?_
    refine z_idiv6 X (by omega) (by omega) dX4_ticks_20 ?_
    refine z_istore_n X dX4_ticks_21 (by decide) ?_
    refine z_sub [(0, .ref (ad 5)), (1, vI b), (2, vI i), (3, vI (i / 6))] (zSub_cons rfl (zSub_cons rfl (zSub_cons rfl (zSub_cons rfl zSub_nil)))) ?_
    refine z_iload_n X dX4_ticks_22 rfl ?_
    refine z_bipush X dX4_ticks_23 rfl ?_
    refine z_irem6 X (by omega) (by omega) dX4_ticks_25 ?_
    refine z_istore X dX4_ticks_26 (by decide) ?_
    refine z_sub [(0, .ref (ad 5)), (1, vI b), (2, vI i), (3, vI (i / 6)), (4, vI (i % 6))] (zSub_cons rfl (zSub_cons rfl (zSub_cons rfl (zSub_cons rfl (zSub_cons rfl zSub_nil))))) ?_
    refine z_aload_n X dX4_ticks_28 rfl ?_
    refine z_iload_n X dX4_ticks_29 rfl ?_
    refine z_iload X dX4_ticks_30 rfl ?_
    refine z_callVI2 X (c_X4_isUpNow hJ σ hb (by unfold zB; omega) (by omega) (by omega)) kX4_58 rfl (by decide) rfl ⟨(Nat.le_of_ble_eq_true rfl), (Nat.le_of_ble_eq_true rfl)⟩ (Nat.le_of_ble_eq_true rfl) ⟨Nat.zero_le _, Nat.zero_le _⟩ dX4_ticks_32 (fun z9 σ1 hz9 => ?_)
    obtain ⟨rfl, rfl⟩ := hz9
    refine z_ifb_eq X 87 dX4_ticks_35 (by decide) (fun c_3 => ?_) (fun c_3 => ?_)
    · refine z_iinc X dX4_ticks_87 rfl (by decide) ?_
      refine z_sub [(0, .ref (ad 5)), (1, vI b), (2, vI (i + 1)), (3, vI (i / 6)), (4, vI (i % 6))] (zSub_cons rfl (zSub_cons rfl (zSub_cons rfl (zSub_cons rfl (zSub_cons rfl zSub_nil))))) ?_
      refine z_goto X 2 dX4_ticks_90 (by decide) ?_
      refine z_sub [(0, .ref (ad 5)), (1, vI b), (2, vI (i + 1))] (zSub_cons rfl (zSub_cons rfl (zSub_cons rfl zSub_nil))) ?_
      exact ih (by omega) M ⟨⟨by rw [aTkL_step i0, ← hv.1.1]; unfold aTk; rw [if_neg (by grind)], hv.1.2⟩, hv.2⟩
    · refine z_aload_n X dX4_ticks_38 rfl ?_
      refine z_iload_n X dX4_ticks_39 rfl ?_
      refine z_iload_n X dX4_ticks_40 rfl ?_
      refine z_iload X dX4_ticks_41 rfl ?_
      refine z_callVI3 X (c_X4_stateOf hJ σ hb (by unfold zB; omega) (by unfold zB; omega) (by omega) hv.2.1 (by first | omega | assumption) (by omega)) kX4_35 rfl (by decide) rfl ⟨(Nat.le_of_ble_eq_true rfl), (Nat.le_of_ble_eq_true rfl)⟩ (Nat.le_of_ble_eq_true rfl) ⟨Nat.zero_le _, Nat.zero_le _⟩ dX4_ticks_43 (fun z9 σ1 hz9 => ?_)
      obtain ⟨rfl, rfl⟩ := hz9
      refine z_iconst X dX4_ticks_46 ?_
      refine z_icmp_ne X 87 dX4_ticks_47 (by decide) (zB_sm (qg_st hv.2.1 _ _)) ⟨by decide, by decide⟩ (fun c_5 => ?_) (fun c_5 => ?_)
      · refine z_iinc X dX4_ticks_87 rfl (by decide) ?_
        refine z_sub [(0, .ref (ad 5)), (1, vI b), (2, vI (i + 1)), (3, vI (i / 6)), (4, vI (i % 6))] (zSub_cons rfl (zSub_cons rfl (zSub_cons rfl (zSub_cons rfl (zSub_cons rfl zSub_nil))))) ?_
        refine z_goto X 2 dX4_ticks_90 (by decide) ?_
        refine z_sub [(0, .ref (ad 5)), (1, vI b), (2, vI (i + 1))] (zSub_cons rfl (zSub_cons rfl (zSub_cons rfl zSub_nil))) ?_
        exact ih (by omega) M ⟨⟨by rw [aTkL_step i0, ← hv.1.1]; unfold aTk; rw [if_neg (by grind)], hv.1.2⟩, hv.2⟩
      · refine z_aload_n X dX4_ticks_50 rfl ?_
        refine y_gMod1 X fX4_7 dX4_ticks_51 ?_
        refine z_iload_n X dX4_ticks_54 rfl ?_
        refine z_bipush X dX4_ticks_55 rfl ?_
        refine z_iadd X dX4_ticks_57 ?_
        refine z_iload_n X dX4_ticks_58 rfl ?_
        refine z_iadd X dX4_ticks_59 ?_
        refine z_dup2 X dX4_ticks_60 rfl rfl ?_
        refine y_iald X 1 (zArr_6) (by decide) (by omega) (by omega) (by decide) dX4_ticks_61 ?_
        refine z_iconst X dX4_ticks_62 ?_
        refine z_isub X dX4_ticks_63 ?_
        refine y_iast X 1 (zArr_6) (by decide) (by omega) (by omega) (by decide) dX4_ticks_64 ?_
        obtain ⟨Nw, hNw⟩ : ∃ Nw, Nw = (up2 M 1 ((b + 84) + i).toNat ((M 1 ((b + 84) + i).toNat) - 1)) := ⟨_, rfl⟩
        rw [← hNw]
        have hTw : mTo M Nw b (up2 (mV M b) 5 i.toNat (mV M b 5 i.toNat - 1)) := by rw [hNw, fl_p5 (N := M) hb0 i0 hk48]; exact ml_p5 hb0 i0 hk48
        have hnw : mV Nw b 0 0 = mV M b 0 0 := by rw [hTw.1]; exact up2_rw _ _ (by decide) _
        have hp1 := hv.2.2.2.1.2 i.toNat (by omega) (by have h9 := st_k (N := mV M b) hk0 i0; omega)
        have hpr := rk_pt hv.2.1 (j := i.toNat) (by omega)
        have okw : rOk (mV Nw b) := by rw [hTw.1]; exact rk_r5 hv.2.1 _ (by omega)
        have bdw : Bud (mV Nw b) := by rw [hTw.1]; exact bd_r5 hv.2.2.1 _ _
        have pxw : pX (mV Nw b) i.toNat := by rw [hTw.1]; exact px_r5 hv.2.2.2.1 _
        have pxk : pX (mV Nw b) (i / 6 * 6 + i % 6).toNat := by rw [show (i / 6 * 6 + i % 6).toNat = i.toNat by omega]; exact pxw
        have hdw : cHas (mV Nw b) (i / 6) := ⟨by omega, by omega⟩
        refine z_aload_n X dX4_ticks_65 rfl ?_
        refine y_gMod1 X fX4_7 dX4_ticks_66 ?_
        refine z_iload_n X dX4_ticks_69 rfl ?_
        refine z_bipush X dX4_ticks_70 rfl ?_
        refine z_iadd X dX4_ticks_72 ?_
        refine z_iload_n X dX4_ticks_73 rfl ?_
        refine z_iadd X dX4_ticks_74 ?_
        refine y_iald X 1 (zArr_6) (by decide) (by omega) (by omega) (by decide) dX4_ticks_75 ?_
        rw [show Nw 1 ((b + 84) + i).toNat = mV M b 5 i.toNat - 1 from by rw [fl_p5 (N := Nw) hb0 i0 hk48, hTw.1, up2_at]]
        refine z_if_ne X 87 dX4_ticks_76 (by decide) (by unfold zB; omega) (fun c_6 => ?_) (fun c_6 => ?_)
        · refine z_iinc X dX4_ticks_87 rfl (by decide) ?_
          refine z_sub [(0, .ref (ad 5)), (1, vI b), (2, vI (i + 1)), (3, vI (i / 6)), (4, vI (i % 6))] (zSub_cons rfl (zSub_cons rfl (zSub_cons rfl (zSub_cons rfl (zSub_cons rfl zSub_nil))))) ?_
          refine z_goto X 2 dX4_ticks_90 (by decide) ?_
          refine z_sub [(0, .ref (ad 5)), (1, vI b), (2, vI (i + 1))] (zSub_cons rfl (zSub_cons rfl (zSub_cons rfl zSub_nil))) ?_
          exact ih (by omega) Nw ⟨⟨by rw [hTw.1, aTkL_step i0, ← hv.1.1]; unfold aTk; rw [if_pos (by grind), if_neg (by assumption)], mFr_tr hv.1.2 hTw.2⟩, okw, bdw, pk_of pxw (fun _ => by rw [hTw.1, up2_at]; omega), hnw.trans hv.2.2.2.2⟩
        · refine z_aload_n X dX4_ticks_79 rfl ?_
          refine z_iload_n X dX4_ticks_80 rfl ?_
          refine z_iload_n X dX4_ticks_81 rfl ?_
          refine z_iload X dX4_ticks_82 rfl ?_
          refine z_callVV3 X (c_X4_asksAll hJ σ hb (by unfold zB; omega) (by unfold zB; omega) (by omega) okw bdw (by first | omega | assumption) (by omega)) kX4_65 rfl (by decide) rfl ⟨(Nat.le_of_ble_eq_true rfl), (Nat.le_of_ble_eq_true rfl)⟩ (Nat.le_of_ble_eq_true rfl) ⟨Nat.zero_le _, Nat.zero_le _⟩ dX4_ticks_84 (fun σ1 hz9 => ?_)
          obtain ⟨N1, rfl, hT1⟩ := hz9
          have hnN1 : mV N1 b 0 0 = mV Nw b 0 0 := by rw [hT1.1]; exact n_aAskA _ _ _
          have okN1 : rOk (mV N1 b) := (by rw [hT1.1]; exact (iv_aAskA okw bdw (by assumption) (by assumption) (by assumption)).1)
          have bdN1 : Bud (mV N1 b) := (by rw [hT1.1]; exact (iv_aAskA okw bdw (by assumption) (by assumption) (by assumption)).2.1)
          refine z_iinc X dX4_ticks_87 rfl (by decide) ?_
          refine z_sub [(0, .ref (ad 5)), (1, vI b), (2, vI (i + 1)), (3, vI (i / 6)), (4, vI (i % 6))] (zSub_cons rfl (zSub_cons rfl (zSub_cons rfl (zSub_cons rfl (zSub_cons rfl zSub_nil))))) ?_
          refine z_goto X 2 dX4_ticks_90 (by decide) ?_
          refine z_sub [(0, .ref (ad 5)), (1, vI b), (2, vI (i + 1))] (zSub_cons rfl (zSub_cons rfl (zSub_cons rfl zSub_nil))) ?_
          exact ih (by omega) N1 ⟨⟨by rw [hT1.1, hTw.1, aTkL_step i0, ← hv.1.1]; unfold aTk; rw [if_pos (by grind), if_pos (by assumption)], mFr_tr hv.1.2 (mFr_tr hTw.2 hT1.2)⟩, okN1, bdN1, (by rw [hT1.1]; exact (iv_aAskA okw bdw hdw hk6 pxk).2.2), (hnN1.trans hnw).trans hv.2.2.2.2⟩
