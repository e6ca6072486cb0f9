/-- the parser's own part -/
def mk (N : zNt) : zNt := fun r j => if r = 0 ∨ r = 2 then N r j else 0
theorem mk_0 (N : zNt) (j : Nat) : mk N 0 j = N 0 j := rfl
theorem mk_2 (N : zNt) (j : Nat) : mk N 2 j = N 2 j := rfl
theorem mk_w (N : zNt) (f : Nat) (x : Int) : mk (up2 N 0 f x) = up2 (mk N) 0 f x := by
  funext r j
  unfold mk up2
  by_cases e : r = 0 ∧ j = f
  · rw [if_pos e, if_pos (Or.inl e.1), if_pos e]
  · rw [if_neg e, if_neg e]
theorem mk_cg {N M : zNt} (h0 : ∀ j, M 0 j = N 0 j) (h2 : ∀ j, M 2 j = N 2 j) : mk M = mk N := by
  funext r j
  unfold mk
  split
  · rename_i e
    rcases e with e | e <;> subst e
    · exact h0 j
    · exact h2 j
  · rfl
theorem mk_S (N : zNt) : rS (mk N) = rS N := rfl
theorem mk_hd (N : zNt) : mk (rHd N) = rHd (mk N) := by unfold rHd; rw [mk_w, mk_w]; rfl
theorem mk_tk (N : zNt) (x : Int) : mk (rTk N x) = rTk (mk N) x := by unfold rTk; rw [mk_w]; rfl
theorem mk_dg (N : zNt) (m : Int) : rDg (mk N) m = rDg N m := rfl
theorem mk_dn (N : zNt) (m : Int) : mk (rDgN N m) = rDgN (mk N) m := by unfold rDgN; rw [mk_w]; rfl
theorem mk_ds (N : zNt) (f : Nat) (m : Int) : mk (rDs N f m) = rDs (mk N) f m := by unfold rDs; rw [mk_w, mk_dn]; rfl
theorem mk_ti (N : zNt) : mk (rTiN N) = rTiN (mk N) := by
  unfold rTiN
  rw [mk_S, ← mk_ds, mk_S, mk_dg]
  split
  · rfl
  · split
    · rw [mk_w, mk_dn]; rfl
    · rfl
theorem mk_ac (N : zNt) : mk (rAcN N) = rAcN (mk N) := by
  unfold rAcN
  rw [mk_S, ← mk_hd]
  split
  · exact mk_ti _
  · split
    · exact mk_ds _ _ _
    · split
      · unfold rVN rThN
        rw [mk_dg, ← mk_ds, mk_dg, ← mk_ds, mk_S]
        split
        · rfl
        · split
          · rfl
          · split
            · exact mk_w _ _ _
            · exact mk_ds _ _ _
      · exact mk_w _ _ _
theorem mk_c (N : zNt) : rAc (mk N) = rAc N := by
  unfold rAc
  rw [mk_S, ← mk_hd]
  unfold rVc
  rw [mk_dg, mk_dg, ← mk_ds, mk_dg, ← mk_ds]
  rfl
theorem rg_D {N : zNt} {m : Int} (h : rDg N m ≠ -1) : 0 ≤ rDg N m ∧ rDg N m ≤ m := by
  unfold rDg at h ⊢
  split
  · omega
  · rename_i q; rw [if_neg q] at h; exact absurd rfl h
theorem rTiN_6 (A : zNt) : rTiN A 0 6 = A 0 6 := by
  unfold rTiN
  split
  · rfl
  · split <;> rfl
theorem rTiN_7 {A : zNt} (h : rTi A) : 1 ≤ rTiN A 0 7 ∧ rTiN A 0 7 ≤ 20 := by
  have e : rDg A 9 = rS A - 48 := by unfold rDg; rw [if_pos ⟨by omega, by omega⟩]
  unfold rTiN
  rw [if_neg (fun q => q h)]
  split
  · rename_i q
    rw [up2_at]
    have e2 : rDg (rDs A 7 9) 9 = rS (rDs A 7 9) - 48 := by unfold rDg; rw [if_pos ⟨q.1.1, by omega⟩]
    omega
  · have : rDs A 7 9 0 7 = rDg A 9 := up2_at _ _ _ _
    omega
theorem rAc_pr {N : zNt} (ok : qOk N) (h : rAc N = true) : rPr (rAcN N) := by
  unfold rPr rAcN
  unfold rAc at h
  by_cases h1 : rS N = 116
  · rw [if_pos h1] at h
    rw [if_pos h1]
    have q := rTiN_7 (of_decide_eq_true h)
    have e : rTiN (rHd N) 0 6 = rS N := (rTiN_6 _).trans rfl
    left; omega
  · rw [if_neg h1] at h
    rw [if_neg h1]
    by_cases h2 : rS N = 120 ∨ rS N = 117
    · rw [if_pos h2] at h
      rw [if_pos h2]
      have q := rg_D (of_decide_eq_true h)
      have e6 : rDs (rHd N) 7 5 0 6 = rS N := rfl
      have e7 : rDs (rHd N) 7 5 0 7 = rDg (rHd N) 5 := rfl
      rw [e6, e7]
      right; left; omega
    · rw [if_neg h2] at h
      rw [if_neg h2]
      by_cases h3 : rS N = 121 ∨ rS N = 110 ∨ rS N = 100 ∨ rS N = 103 ∨ rS N = 97
      · rw [if_pos h3] at h
        rw [if_pos h3]
        unfold rVc at h
        unfold rVN
        by_cases h4 : rDg (rHd N) 7 = -1 ∨ rS N = 100
        · rw [if_pos h4] at h
          rw [if_pos h4]
          have q := rg_D (of_decide_eq_true h)
          have q0 := of_decide_eq_true h
          have e6 : rDs (rHd N) 7 7 0 6 = rS N := rfl
          have e7 : rDs (rHd N) 7 7 0 7 = rDg (rHd N) 7 := rfl
          rw [e6, e7]
          right; right; left; omega
        · rw [if_neg h4] at h
          rw [if_neg h4]
          have q7 := rg_D (N := rHd N) (m := 7) (fun z => h4 (Or.inl z))
          by_cases h5 : rDg (rDs (rHd N) 7 7) 5 = -1 ∨ rS N ≠ 97
          · rw [if_pos h5] at h
            rw [if_pos h5]
            have q := rg_D (of_decide_eq_true h)
            have q0 := of_decide_eq_true h
            have e6 : rDs (rDs (rHd N) 7 7) 8 5 0 6 = rS N := rfl
            have e7 : rDs (rDs (rHd N) 7 7) 8 5 0 7 = rDg (rHd N) 7 := rfl
            have e8 : rDs (rDs (rHd N) 7 7) 8 5 0 8 = rDg (rDs (rHd N) 7 7) 5 := rfl
            rw [e6, e7, e8]
            right; right; right; left; omega
          · rw [if_neg h5] at h
            rw [if_neg h5]
            have q := of_decide_eq_true h
            have q8 := rg_D (N := rDs (rHd N) 7 7) (m := 5) (fun z => h5 (Or.inl z))
            have q9 := rg_D q.2
            unfold rThN
            rw [if_neg q.1]
            have e6 : rDs (rDs (rDs (rHd N) 7 7) 8 5) 9 5 0 6 = rS N := rfl
            have e7 : rDs (rDs (rDs (rHd N) 7 7) 8 5) 9 5 0 7 = rDg (rHd N) 7 := rfl
            have e8 : rDs (rDs (rDs (rHd N) 7 7) 8 5) 9 5 0 8 = rDg (rDs (rHd N) 7 7) 5 := rfl
            have e9 : rDs (rDs (rDs (rHd N) 7 7) 8 5) 9 5 0 9 = rDg (rDs (rDs (rHd N) 7 7) 8 5) 5 := rfl
            have ne : rDg (rDs (rDs (rHd N) 7 7) 8 5) 5 ≠ rDg (rDs (rHd N) 7 7) 5 := by
              intro z
              apply q.1
              rw [← z]
              unfold rDg
              unfold rDg at q
              split
              · rfl
              · rename_i y; exact absurd (if_neg y) q.2
            rw [e6, e7, e8, e9]
            right; right; right; right; omega
      · rw [if_neg h3] at h; exact absurd h (by decide)
theorem mV_fr {N M : zNt} {b : Int} (h : rFr N M) : mV M b = mV N b := mV_cg (fun i _ => h.2 1 _ (by decide))
theorem rFr_AA : ∀ (f : Nat) (N : zNt), rFr N (rAA f N).2
  | 0, N => rFr_rf N
  | f + 1, N => by
    rw [rAA]
    split
    · split
      · exact rFr_ac N
      · split
        · exact rFr_tr (rFr_tr (rFr_ac N) (rFr_tk _ _)) (rFr_AA f _)
        · exact rFr_ac N
    · exact rFr_ac N
theorem qk_cg {N M : zNt} (ok : qOk N) (h0 : ∀ j, M 0 j = N 0 j) (h2 : ∀ j, M 2 j = N 2 j) : qOk M := ⟨by rw [h0, h0]; exact ok.1, fun j hj => by rw [h2]; exact ok.2 j hj⟩
theorem rAc_adv {N : zNt} (h : rAc N = true) : N 0 5 + 1 ≤ rAcN N 0 5 := by
  have e : rHd N 0 5 = N 0 5 + 1 := up2_at _ _ _ _
  rw [← e]
  unfold rAcN
  unfold rAc at h
  split
  · exact rTi_5 _
  · rename_i h1
    rw [if_neg h1] at h
    split
    · exact rDs_5 _ _ _ (by decide)
    · rename_i h2
      rw [if_neg h2] at h
      split
      · have h1 := rDs_5 (rHd N) 7 7 (by decide)
        have h2 := rDs_5 (rDs (rHd N) 7 7) 8 5 (by decide)
        have h3 := rDs_5 (rDs (rDs (rHd N) 7 7) 8 5) 9 5 (by decide)
        unfold rVN rThN
        split
        · exact h1
        · split
          · omega
          · split
            · rw [up2_ne _ _ (by decide)]; omega
            · omega
      · rename_i h3
        rw [if_neg h3] at h; exact absurd h (by decide)
theorem rTk_5 (N : zNt) (x : Int) : N 0 5 ≤ rTk N x 0 5 := by
  unfold rTk
  rw [up2_at]
  split <;> omega
/-- the actions are run as long as they can be -/
def rRun : Nat → zNt → zNt → Int × zNt
  | 0, _, V => (0, V)
  | f + 1, P, V => if rAc P = true ∧ mCan (rAcN P 0 6) (rAcN P 0 7) (rAcN P 0 8) (rAcN P 0 9) V = true then ((rRun f (rTk (rAcN P) 59) (mDo (rAcN P 0 6) (rAcN P 0 7) (rAcN P 0 8) (rAcN P 0 9) V)).1 + 1, (rRun f (rTk (rAcN P) 59) (mDo (rAcN P 0 6) (rAcN P 0 7) (rAcN P 0 8) (rAcN P 0 9) V)).2) else (0, V)
def rI (Ns M : zNt) : Prop := (∀ j, (j < 5 ∨ 9 < j) → M 0 j = Ns 0 j) ∧ (∀ j, M 2 j = Ns 2 j) ∧ ∀ j, 282 ≤ j → M 1 j = Ns 1 j
def rEnd (Ns M : zNt) : Prop := (∀ j, (j < 4 ∨ 9 < j) → M 0 j = Ns 0 j) ∧ M 0 4 = 0 ∧ (∀ j, M 2 j = Ns 2 j) ∧ ∀ j, 282 ≤ j → M 1 j = Ns 1 j
def rInv (Ns V : zNt) (i : Int) (M : zNt) : Prop := qOk M ∧ i ≤ M 0 5 ∧ rI Ns M ∧ (rOk (mV M 0) ∧ Bud (mV M 0) ∧ pOk (mV M 0)) ∧ i + (rRun (61 - i).toNat (mk M) (mV M 0)).1 = (rRun 61 (mk (up2 Ns 0 5 0)) V).1 ∧ (rRun (61 - i).toNat (mk M) (mV M 0)).2 = (rRun 61 (mk (up2 Ns 0 5 0)) V).2
theorem rI_fr {Ns M K : zNt} (h : rI Ns M) (f : rFr M K) : rI Ns K := ⟨fun j q => (f.1 j q).trans (h.1 j q), fun j => (f.2 2 j (by decide)).trans (h.2.1 j), fun j q => (f.2 1 j (by decide)).trans (h.2.2 j q)⟩
theorem rRun_h6 {N : zNt} (h6 : 0 ≤ N 0 2 ∧ N 0 2 ≤ 6) : 0 ≤ up2 (rAA 61 (up2 N 0 5 0)).2 0 0 0 0 2 ∧ up2 (rAA 61 (up2 N 0 5 0)).2 0 0 0 0 2 ≤ 6 := by
  rw [up2_ne _ _ (by decide), (rFr_AA 61 (up2 N 0 5 0)).1 2 (by decide)]
  exact h6
theorem rRun_start {N Ns : zNt} (tq : qTx N) (h6 : 0 ≤ N 0 2 ∧ N 0 2 ≤ 6) (ok : rOk (mV N 0)) (bd : Bud (mV N 0)) (pk : pOk (mV N 0)) (hNs : Ns = mSave (up2 (rAA 61 (up2 N 0 5 0)).2 0 0 0)) : rInv Ns (mV N 0) 0 (up2 Ns 0 5 0) := by
  have f := rFr_AA 61 (up2 N 0 5 0)
  have e2 : ∀ j, Ns 2 j = N 2 j := fun j => by rw [hNs, mSave_r2, up2_rw _ _ (by decide), f.2 2 j (by decide), up2_rw _ _ (by decide)]
  have e4 : Ns 0 4 = N 0 4 := by rw [hNs, mSave_r0, if_neg (by decide), up2_ne _ _ (by decide), f.1 4 (by decide)]; rfl
  have tx : qTx Ns := ⟨by rw [e4]; exact tq.1, fun j hj => by rw [e2]; exact tq.2 j hj⟩
  have eV : mV (up2 Ns 0 5 0) 0 = mV N 0 := by rw [mV_r0, hNs, mV_save0 (rRun_h6 h6), mV_r0, mV_fr f, mV_r0]
  refine ⟨qk_0 tx, Int.le_of_eq (up2_at _ _ _ _).symm, ⟨fun j q => up2_ne _ _ (by omega), fun j => up2_rw _ _ (by decide) _, fun j _ => up2_rw _ _ (by decide) _⟩, ?_, ?_, ?_⟩
  · rw [eV]; exact ⟨ok, bd, pk⟩
  · rw [eV, Int.zero_add]; rfl
  · rw [eV]; rfl
theorem rRun_step {Ns V M N1 : zNt} {i : Int} (i0 : 0 ≤ i) (i1 : i ≤ 60) (hv : rInv Ns V i M) (h : rAc M = true) (hc : mCan (rAcN M 0 6) (rAcN M 0 7) (rAcN M 0 8) (rAcN M 0 9) (mV (rAcN M) 0) = true) (hT : mTo (rAcN M) N1 0 (mDo (rAcN M 0 6) (rAcN M 0 7) (rAcN M 0 8) (rAcN M 0 9) (mV (rAcN M) 0))) : rInv Ns V (i + 1) (rTk N1 59) := by
  have eV : mV (rAcN M) 0 = mV M 0 := mV_fr (rFr_ac M)
  rw [eV] at hc hT
  have eK : mV (rTk N1 59) 0 = mDo (rAcN M 0 6) (rAcN M 0 7) (rAcN M 0 8) (rAcN M 0 9) (mV M 0) := (mV_fr (rFr_tk _ _)).trans hT.1
  have eP : mk (rTk N1 59) = rTk (rAcN (mk M)) 59 := by rw [mk_tk, mk_cg hT.2.1 hT.2.2.1, mk_ac]
  have iv := iv_mDo hv.2.2.2.1.1 hv.2.2.2.1.2.1 hv.2.2.2.1.2.2 (rAc_pr hv.1 h) hc
  have er : rRun (61 - i).toNat (mk M) (mV M 0) = ((rRun (61 - (i + 1)).toNat (mk (rTk N1 59)) (mV (rTk N1 59) 0)).1 + 1, (rRun (61 - (i + 1)).toNat (mk (rTk N1 59)) (mV (rTk N1 59) 0)).2) := by
    rw [show (61 - i).toNat = (61 - (i + 1)).toNat + 1 by omega, rRun, mk_c, ← mk_ac, mk_0, mk_0, mk_0, mk_0, if_pos ⟨h, hc⟩, eP, mk_ac, eK]
  refine ⟨qk_tk (qk_cg (qk_ac hv.1) hT.2.1 hT.2.2.1) (by decide), ?_, rI_fr ⟨fun j q => ((hT.2.1 j).trans ((rFr_ac M).1 j q)).trans (hv.2.2.1.1 j q), fun j => ((hT.2.2.1 j).trans ((rFr_ac M).2 2 j (by decide))).trans (hv.2.2.1.2.1 j), fun j q => ((hT.2.2.2 j (fun z => by have := z.2; simp at this; omega)).trans ((rFr_ac M).2 1 j (by decide))).trans (hv.2.2.1.2.2 j q)⟩ (rFr_tk _ _), by rw [eK]; exact iv, ?_, ?_⟩
  · have h1 := rAc_adv h
    have h2 := rTk_5 N1 59
    have h3 := hT.2.1 5
    have h4 := hv.2.1
    omega
  · have := hv.2.2.2.2.1
    rw [er] at this
    show _ = (rRun 61 (mk (up2 Ns 0 5 0)) V).1
    rw [← this]
    show _ = i + (_ + 1)
    omega
  · have := hv.2.2.2.2.2
    rw [er] at this
    exact this
theorem rRun_lt {Ns V M : zNt} {i : Int} (hv : rInv Ns V i M) (h : rAc M = true) : i < 60 := by
  have h1 := rAc_adv h
  have h2 := qk_at (qk_ac hv.1)
  have h3 := hv.2.1
  omega
theorem rRun_end {Ns V M : zNt} {i : Int} (i0 : 0 ≤ i) (i1 : i ≤ 60) (hv : rInv Ns V i M) (h : ¬ rAc M = true ∨ ¬ mCan (rAcN M 0 6) (rAcN M 0 7) (rAcN M 0 8) (rAcN M 0 9) (mV M 0) = true) : i = (rRun 61 (mk (up2 Ns 0 5 0)) V).1 ∧ rEnd Ns (up2 (rAcN M) 0 4 0) ∧ mV (up2 (rAcN M) 0 4 0) 0 = (rRun 61 (mk (up2 Ns 0 5 0)) V).2 := by
  have er : rRun (61 - i).toNat (mk M) (mV M 0) = (0, mV M 0) := by
    rw [show (61 - i).toNat = (61 - (i + 1)).toNat + 1 by omega, rRun, mk_c, ← mk_ac, mk_0, mk_0, mk_0, mk_0, if_neg (fun z => by rcases h with h | h; exact h z.1; exact h z.2)]
  have h1 := hv.2.2.2.2.1
  have h2 := hv.2.2.2.2.2
  rw [er] at h1 h2
  have hI := rI_fr hv.2.2.1 (rFr_ac M)
  refine ⟨by rw [← h1]; exact (Int.add_zero i).symm, ⟨fun j q => ?_, up2_at _ _ _ _, fun j => by rw [up2_rw _ _ (by decide)]; exact hI.2.1 j, fun j q => by rw [up2_rw _ _ (by decide)]; exact hI.2.2 j q⟩, by rw [mV_r0, mV_fr (rFr_ac M)]; exact h2⟩
  rw [up2_ne _ _ (by omega)]
  exact hI.1 j (by omega)
set_option maxHeartbeats 4000000 in
set_option maxRecDepth 100000 in
theorem c_X4_run {l : Launch} {D : va_G} {G : zG} {ad : Nat → Nat} (hJ : zInj ad) (σ : zM) {N : Nat → Nat → Int}   (tq : qTx N) (h6 : 0 ≤ N 0 2 ∧ N 0 2 ≤ 6) (ok : rOk (mV N 0)) (bd : Bud (mV N 0)) (pk : pOk (mV N 0)) : zKI l D G ad yX4_run cX4_run 2 (some .int) 9 [.ref (ad 5)] (zBk σ 5 3 N) (fun z σ9 => z = (if (rAA 61 (up2 N 0 5 0)).1 = true then (rRun 61 (mk (up2 (mSave (up2 (rAA 61 (up2 N 0 5 0)).2 0 0 0)) 0 5 0)) (mV N 0)).1 else 0) ∧ ∃ N9, σ9 = zBk σ 5 3 N9 ∧ (if (rAA 61 (up2 N 0 5 0)).1 = true then rEnd (mSave (up2 (rAA 61 (up2 N 0 5 0)).2 0 0 0)) N9 ∧ mV N9 0 = (rRun 61 (mk (up2 (mSave (up2 (rAA 61 (up2 N 0 5 0)).2 0 0 0)) 0 5 0)) (mV N 0)).2 else N9 = up2 (rAA 61 (up2 N 0 5 0)).2 0 0 1)) := by
  intro sz
  refine z_open hJ (by decide +kernel) (Nat.le_of_ble_eq_true rfl) ?_
  intro p e s0 m args below meth c hsz X hr hlocks
  refine z_sub [(0, .ref (ad 5))] (zSub_cons rfl zSub_nil) ?_
  refine z_aload_n X dX4_run_0 rfl ?_
  refine z_aload_n X dX4_run_1 rfl ?_
  refine z_callVI0 X (c_X4_areActions hJ _ (by first | exact tq | exact qx_w tq _)) kX4_174 rfl (by decide) rfl ⟨(Nat.le_of_ble_eq_true rfl), (Nat.le_of_ble_eq_true rfl)⟩ (Nat.le_of_ble_eq_true rfl) ⟨Nat.zero_le _, Nat.zero_le _⟩ dX4_run_2 (fun z9 σ1 hz9 => ?_)
  obtain ⟨rfl, rfl⟩ := hz9
  refine z_ifb_eq X 12 dX4_run_5 (by decide) (fun c_2 => ?_) (fun c_2 => ?_)
  · refine z_iconst X dX4_run_12 ?_
    refine z_callVI1 X (c_X4_holds hJ _ ⟨by decide, by decide⟩) kX4_90 rfl (by decide) rfl ⟨(Nat.le_of_ble_eq_true rfl), (Nat.le_of_ble_eq_true rfl)⟩ (Nat.le_of_ble_eq_true rfl) ⟨Nat.zero_le _, Nat.zero_le _⟩ dX4_run_13 (fun z9 σ1 hz9 => ?_)
    obtain ⟨rfl, rfl⟩ := hz9
    refine z_ifb_ne X 21 dX4_run_16 (by decide) (fun h9 => absurd h9 (by decide)) (fun _ => ?_)
    refine z_iconst X dX4_run_19 ?_
    exact z_iret X hsz hr hlocks dX4_run_20 ⟨(if_neg c_2).symm, ⟨_, rfl, (by rw [if_neg c_2])⟩⟩
  · refine z_iconst X dX4_run_8 ?_
    refine z_goto X 13 dX4_run_9 (by decide) ?_
    refine z_callVI1 X (c_X4_holds hJ _ ⟨by decide, by decide⟩) kX4_90 rfl (by decide) rfl ⟨(Nat.le_of_ble_eq_true rfl), (Nat.le_of_ble_eq_true rfl)⟩ (Nat.le_of_ble_eq_true rfl) ⟨Nat.zero_le _, Nat.zero_le _⟩ dX4_run_13 (fun z9 σ1 hz9 => ?_)
    obtain ⟨rfl, rfl⟩ := hz9
    refine z_ifb_ne X 21 dX4_run_16 (by decide) (fun _ => ?_) (fun h9 => absurd rfl h9)
    refine z_aload_n X dX4_run_21 rfl ?_
    refine z_callVV0 X (c_X4_save hJ _ (rRun_h6 h6)) kX4_93 rfl (by decide) rfl ⟨(Nat.le_of_ble_eq_true rfl), (Nat.le_of_ble_eq_true rfl)⟩ (Nat.le_of_ble_eq_true rfl) ⟨Nat.zero_le _, Nat.zero_le _⟩ dX4_run_22 (fun σ1 hz9 => ?_)
    obtain rfl := hz9
    obtain ⟨Ns, hNs⟩ : ∃ Ns, Ns = mSave (up2 (rAA 61 (up2 N 0 5 0)).2 0 0 0) := ⟨_, rfl⟩
    rw [← hNs]
    have hs0 := rRun_start tq h6 ok bd pk hNs
    refine z_aload_n X dX4_run_25 rfl ?_
    refine z_iconst X dX4_run_26 ?_
    refine y_pMod5 X fX4_143 dX4_run_27 ?_
    refine z_iconst X dX4_run_30 ?_
    refine z_istore_n X dX4_run_31 (by decide) ?_
    refine z_sub [(0, .ref (ad 5)), (1, vI 0)] (zSub_cons rfl (zSub_cons rfl zSub_nil)) ?_
    refine z_sub [(0, .ref (ad 5)), (1, vI 0)] (zSub_cons rfl (zSub_cons rfl zSub_nil)) ?_
    refine zFor (S := zNt) 60 (fun i M => rInv Ns (mV N 0) i M) (fun i M => zV p l e (zRm 9) s0 m args below meth c 2 D G ad 0 0 (zE below (zQI D G ad sz (fun z σ9 => z = (if (rAA 61 (up2 N 0 5 0)).1 = true then (rRun 61 (mk (up2 Ns 0 5 0)) (mV N 0)).1 else 0) ∧ ∃ N9, σ9 = zBk σ 5 3 N9 ∧ (if (rAA 61 (up2 N 0 5 0)).1 = true then rEnd Ns N9 ∧ mV N9 0 = (rRun 61 (mk (up2 Ns 0 5 0)) (mV N 0)).2 else N9 = up2 (rAA 61 (up2 N 0 5 0)).2 0 0 1))) args s0 ad) 32 [(0, .ref (ad 5)), (1, vI i)] [] (zBk σ 5 3 M)) (fun i M i0 i1 hv ih => ?_) (up2 Ns 0 5 0) (by decide) hs0
    refine z_aload_n X dX4_run_32 rfl ?_
    refine z_callVI0 X (c_X4_readsAction hJ _ hv.1) kX4_171 rfl (by decide) rfl ⟨(Nat.le_of_ble_eq_true rfl), (Nat.le_of_ble_eq_true rfl)⟩ (Nat.le_of_ble_eq_true rfl) ⟨Nat.zero_le _, Nat.zero_le _⟩ dX4_run_33 (fun z9 σ1 hz9 => ?_)
    obtain ⟨rfl, rfl⟩ := hz9
    refine z_ifb_eq X 63 dX4_run_36 (by decide) (fun c_7 => ?_) (fun c_7 => ?_)
    · refine z_aload_n X dX4_run_63 rfl ?_
      refine z_iconst X dX4_run_64 ?_
      refine y_pMod4 X fX4_140 dX4_run_65 ?_
      refine z_iload_n X dX4_run_68 rfl ?_
      exact z_iret X hsz hr hlocks dX4_run_69 ⟨(by rw [if_pos c_2]; exact (rRun_end i0 i1 hv (Or.inl c_7)).1), ⟨_, rfl, (by rw [if_pos c_2]; exact (rRun_end i0 i1 hv (Or.inl c_7)).2)⟩⟩
    · have prx := rAc_pr hv.1 c_7
      have hlt := rRun_lt hv c_7
      have eV : mV (rAcN M) 0 = mV M 0 := mV_fr (rFr_ac M)
      have okx : rOk (mV (rAcN M) 0) := by rw [eV]; exact hv.2.2.2.1.1
      have bdx : Bud (mV (rAcN M) 0) := by rw [eV]; exact hv.2.2.2.1.2.1
      have pkx : pOk (mV (rAcN M) 0) := by rw [eV]; exact hv.2.2.2.1.2.2
      refine z_aload_n X dX4_run_39 rfl ?_
      refine z_callVI0 X (c_X4_can hJ _ okx prx) kX4_177 rfl (by decide) rfl ⟨(Nat.le_of_ble_eq_true rfl), (Nat.le_of_ble_eq_true rfl)⟩ (Nat.le_of_ble_eq_true rfl) ⟨Nat.zero_le _, Nat.zero_le _⟩ dX4_run_40 (fun z9 σ1 hz9 => ?_)
      obtain ⟨rfl, rfl⟩ := hz9
      refine z_ifb_eq X 63 dX4_run_43 (by decide) (fun c_9 => ?_) (fun c_9 => ?_)
      · refine z_aload_n X dX4_run_63 rfl ?_
        refine z_iconst X dX4_run_64 ?_
        refine y_pMod4 X fX4_140 dX4_run_65 ?_
        refine z_iload_n X dX4_run_68 rfl ?_
        exact z_iret X hsz hr hlocks dX4_run_69 ⟨(by rw [if_pos c_2]; exact (rRun_end i0 i1 hv (Or.inr (by rw [← eV]; exact c_9))).1), ⟨_, rfl, (by rw [if_pos c_2]; exact (rRun_end i0 i1 hv (Or.inr (by rw [← eV]; exact c_9))).2)⟩⟩
      · refine z_aload_n X dX4_run_46 rfl ?_
        refine z_callVV0 X (c_X4_does hJ _ okx bdx pkx prx c_9) kX4_180 rfl (by decide) rfl ⟨(Nat.le_of_ble_eq_true rfl), (Nat.le_of_ble_eq_true rfl)⟩ (Nat.le_of_ble_eq_true rfl) ⟨Nat.zero_le _, Nat.zero_le _⟩ dX4_run_47 (fun σ1 hz9 => ?_)
        obtain ⟨N1, rfl, hT1⟩ := hz9
        refine z_iinc X dX4_run_50 rfl (by decide) ?_
        refine z_sub [(0, .ref (ad 5)), (1, vI (i + 1))] (zSub_cons rfl (zSub_cons rfl zSub_nil)) ?_
        have qN : qOk N1 := qk_cg (qk_ac hv.1) hT1.2.1 hT1.2.2.1
        refine z_aload_n X dX4_run_53 rfl ?_
        refine z_bipush X dX4_run_54 rfl ?_
        refine z_callVI1 X (c_X4_takes hJ _ qN ⟨by decide, by decide⟩ (by decide)) kX4_158 rfl (by decide) rfl ⟨(Nat.le_of_ble_eq_true rfl), (Nat.le_of_ble_eq_true rfl)⟩ (Nat.le_of_ble_eq_true rfl) ⟨Nat.zero_le _, Nat.zero_le _⟩ dX4_run_56 (fun z9 σ1 hz9 => ?_)
        obtain ⟨rfl, rfl⟩ := hz9
        refine z_pop X dX4_run_59 rfl ?_
        refine z_goto X 32 dX4_run_60 (by decide) ?_
        refine z_sub [(0, .ref (ad 5)), (1, vI (i + 1))] (zSub_cons rfl (zSub_cons rfl zSub_nil)) ?_
        exact ih (by omega) (rTk N1 59) (rRun_step i0 i1 hv c_7 c_9 hT1)
