/-! THE CASES, on: the forecast, the text, the run, the undo, and the plain questions -/
section CS
variable {σ σa σ2 : zM} {z z' : Int}
theorem cs_ticksToEnd (g : gI σ) {d s : Int} (hw : z = ((if cHas (gA σ) d ∧ (0 ≤ s ∧ s ≤ 5) then 0 else 1)) ∧ (((if cHas (gA σ) d ∧ (0 ≤ s ∧ s ≤ 5) then 0 else 1)) = (0 : Int) → ∃ W, σa = zSL (zBk σ 16 8 W) 72 0 (iI (cTte (gA σ) d s)).toInt64) ∧ (((if cHas (gA σ) d ∧ (0 ≤ s ∧ s ≤ 5) then 0 else 1)) ≠ (0 : Int) → σa = σ)) (hz : z' = (if cHas (mV (gM σa) 0) d ∧ (0 ≤ s ∧ s ≤ 5) then (if cSt (mV (gM σa) 0) d s = -1 then -1 else zFind (fun i => decide (2 ≤ cSt (aPassL (mV (gM σa) 0) i.toNat) d s)) 41) else 0) ∧ ∃ N9, σ2 = zBk σa 5 3 N9 ∧ mQ (gM σa) N9 (if cHas (mV (gM σa) 0) d ∧ (0 ≤ s ∧ s ≤ 5) then 0 else 1)) : wEnd z z' σ2 := by
  have hx : ∃ x : Int, x = (if cHas (gA σ) d ∧ (0 ≤ s ∧ s ≤ 5) then 0 else 1) := ⟨_, rfl⟩
  obtain ⟨x, hx⟩ := hx
  rw [← hx] at hw
  have eo : ∀ a, ¬ (16 ≤ a ∧ a < 24) → σa.1 a = σ.1 a := fun a ha => by
    by_cases q : x = 0
    · obtain ⟨W, e⟩ := hw.2.1 q
      rw [e]
      show (zBk σ 16 8 W).1 a = σ.1 a
      exact zBk_out (by omega)
    · rw [hw.2.2 q]
  have gc : gC σ σa := gC_of (fun a h1 h2 => eo a (by omega))
  rw [mV_gC gc] at hz
  have hd := nr_has g.1.2.1 d
  obtain ⟨ez, N9, e2, q0, q1, q2, q3⟩ := hz
  refine ⟨?_, fun h0 => ?_, ?_⟩
  · rw [e2, gM_r _ _ (by decide), q0, hw.1, hx]
    exact if_cg (and_congr hd.symm Iff.rfl) rfl rfl
  · have hx0 : x = 0 := hw.1.symm.trans h0
    obtain ⟨W, e⟩ := hw.2.1 hx0
    have hc := if01 (hx.symm.trans hx0)
    rw [e2]
    show σa.2 72 0 = _
    rw [e, zSL_at, ez, if_pos ⟨hd.mp hc.1, hc.2⟩, sr_tte g.1 hc.1]
  · rw [e2]
    exact gI_q g eo (by rw [q1 2 (by decide), gc 0 (by decide)]) (by rw [q1 4 (by decide), gc 0 (by decide)]) (fun j hj => by rw [q3 j hj, gc 1 (by decide)]) (fun j => by rw [q2, gc 2 (by decide)])
theorem cs_append (g : gI σ) {x : Int} (hw : wPo σ (zBk σ 3 2 (tAddN (gT σ) x)) (tX_app (gT σ) x) ((tAddN (gT σ) x) 0 1) z σa) (hz : z' = (if mX_append (gM σa) x = 0 then gM σa 0 4 + 1 else 0) ∧ σ2 = zBk σa 5 3 (mAppN (gM σa) x)) : wEnd z z' σ2 := by
  have gc : gC σ σa := gC_M hw (fun a a1 a2 => zBk_out (by omega))
  obtain ⟨tk, q4, q2⟩ := g.2.2.2.2.1
  obtain ⟨x1, x2⟩ := g.2.2.2.2.2
  have e4 : gM σa 0 4 = gT σ 0 1 := by rw [gc 0 (by decide), x1]
  have ex : mX_append (gM σa) x = tX_app (gT σ) x := by
    unfold mX_append tX_app
    rw [e4]
    have := tk.1
    exact if_cg Iff.rfl rfl (if_cg (by omega) rfl rfl)
  obtain ⟨ez, e2⟩ := hz
  rw [ex] at ez
  by_cases h : tX_app (gT σ) x = 0
  · have hr : (33 ≤ x ∧ x ≤ 126) ∧ ¬ 60 ≤ gT σ 0 1 := by
      unfold tX_app at h
      split at h
      · exact absurd h (by decide)
      · split at h
        · exact absurd h (by decide)
        · rename_i p q; exact ⟨Decidable.not_not.mp p, q⟩
    have ea := hw.2.1 h
    have eN : mAppN (gM σa) x = up2 (up2 (up2 (gM σa) 0 0 0) 2 (gM σa 0 4).toNat x) 0 4 (gM σa 0 4 + 1) := by unfold mAppN; rw [ex, if_pos h]
    have eT' : tAddN (gT σ) x = up2 (up2 (gT σ) 1 (gT σ 0 1).toNat x) 0 1 (gT σ 0 1 + 1) := by unfold tAddN; rw [if_neg hr.2]
    have eT : ∀ r, r < 2 → gT σa r = tAddN (gT σ) x r := fun r hr => by
      rw [ea]
      show (zBk σ 3 2 _).1 (3 + r) = _
      exact zBk_row hr
    have t0 := tk.1
    refine ⟨?_, fun _ => ?_, ?_⟩
    · rw [e2, gM_r _ _ (by decide), eN, up2_ne _ _ (by decide), up2_rw _ _ (by decide), up2_at, hw.1, h]
    · rw [e2]
      show σa.2 72 0 = _
      rw [ea, zSL_at, ez, if_pos h, eT', up2_at, e4]
    · rw [e2, eN, e4]
      refine gI_gen g (fun a h1 h2 => ?_) ?_ (fun j _ => ?_) (tOk_cg eT (tk_add tk (by omega))) ?_ ?_
      · rw [ea]
        show (zBk σ 3 2 _).1 a = _
        exact zBk_out (by omega)
      · rw [up2_ne _ _ (by decide), up2_rw _ _ (by decide), up2_ne _ _ (by decide), gc 0 (by decide)]
      · rw [up2_rw _ _ (by decide), up2_rw _ _ (by decide), up2_rw _ _ (by decide), gc 1 (by decide)]
      · refine ⟨by rw [up2_at]; omega, fun j hj => ?_⟩
        rw [up2_rw _ _ (by decide)]
        by_cases w : j = (gT σ 0 1).toNat
        · rw [w, up2_at]; omega
        · rw [up2_ne _ _ (by omega), up2_rw _ _ (by decide), gc 2 (by decide)]; exact q2 j hj
      · unfold gTx
        rw [eT 0 (by decide), eT 1 (by decide), eT', up2_at, up2_at]
        refine ⟨rfl, fun j hj => ?_⟩
        rw [up2_rw (r := 0) (a := 1) _ _ (by decide), up2_rw (r := 0) (a := 2) _ _ (by decide)]
        by_cases w : j = (gT σ 0 1).toNat
        · rw [w, up2_at, up2_at]
        · rw [up2_ne _ _ (by omega), up2_ne _ _ (by omega), up2_rw _ _ (by decide), gc 2 (by decide)]
          exact x2 j (by omega)
  · have ea := hw.2.2 h
    have eN : mAppN (gM σa) x = up2 (gM σa) 0 0 (mX_append (gM σa) x) := by unfold mAppN; rw [ex, if_neg h]
    refine ⟨?_, fun h0 => absurd (hw.1.symm.trans h0) h, ?_⟩
    · rw [e2, gM_r _ _ (by decide), eN, up2_at, ex]; exact hw.1.symm
    · rw [e2, eN]; exact gI_th g (fun a _ => by rw [ea]) _
theorem cs_undo (g : gI σ) (hw : wPo σ (zBk (zBk σ 8 8 (zRd σ ((gH σ) 1 ((gH σ) 0 1 - 1).toNat).toNat)) 1 2 (up2 (gH σ) 0 1 ((gH σ) 0 1 - 1))) (if (gH σ) 0 1 = 0 then 1 else 0) ((gH σ) 0 1 - 1) z σa) (hz : z' = (if 0 < gM σa 0 2 then gM σa 0 2 - 1 else 0) ∧ σ2 = zBk σa 5 3 (mUndoN (gM σa))) : wEnd z z' σ2 := by
  have gc : gC σ σa := gC_M hw (fun a a1 a2 => by rw [zBk_out (by omega), zBk_out (by omega)])
  obtain ⟨g1, g2, g3, g4, ⟨tk, q4, q2⟩, x1, x2⟩ := g
  have gg : gI σ := ⟨g1, g2, g3, g4, ⟨tk, q4, q2⟩, x1, x2⟩
  have e22 : gM σa 0 2 = gH σ 0 1 := by rw [gc 0 (by decide), g3]
  have h6 := g2.1
  obtain ⟨ez, e2⟩ := hz
  by_cases h : gH σ 0 1 = 0
  · rw [if_pos h] at hw
    have ea := hw.2.2 (by decide)
    have eN : mUndoN (gM σa) = up2 (gM σa) 0 0 1 := by unfold mUndoN; rw [if_neg (by omega)]
    refine ⟨?_, fun h0 => absurd (hw.1.symm.trans h0) (by decide), ?_⟩
    · rw [e2, gM_r _ _ (by decide), eN, up2_at]; exact hw.1.symm
    · rw [e2, eN]; exact gI_th gg (fun a _ => by rw [ea]) _
  · rw [if_neg h] at hw
    have ea := hw.2.1 rfl
    have eN : mUndoN (gM σa) = up2 (mCp (up2 (gM σa) 0 0 0) (gM σa 0 2) 0) 0 2 (gM σa 0 2 - 1) := by unfold mUndoN; rw [if_pos (by omega)]
    refine ⟨?_, fun _ => ?_, ?_⟩
    · rw [e2, gM_r _ _ (by decide), eN, up2_ne _ _ (by decide), mCp_r0, up2_at]; exact hw.1.symm
    · rw [e2]
      show σa.2 72 0 = _
      rw [ea, zSL_at, ez, if_pos (by omega), e22]
    · rw [e2, eN, e22]
      have eH : ∀ r, r < 2 → gH σa r = up2 (gH σ) 0 1 (gH σ 0 1 - 1) r := fun r hr => by
        rw [ea]
        show (zBk _ 1 2 _).1 (1 + r) = _
        exact zBk_row hr
      have eA : ∀ r, r < 8 → gA σa r = zRd σ (gH σ 1 (gH σ 0 1 - 1).toNat).toNat r := fun r hr => by
        rw [ea]
        show (zBk _ 1 2 _).1 (8 + r) = _
        rw [zBk_out (by omega), zBk_row hr]
      have eT : ∀ r, r < 2 → gT σa r = gT σ r := fun r hr => by
        rw [ea]
        show (zBk _ 1 2 _).1 (3 + r) = σ.1 (3 + r)
        rw [zBk_out (by omega), zBk_out (by omega)]
      have e8 : ∀ q, 24 ≤ q → ∀ r, zRd σa q r = zRd σ q r := fun q hq r => by
        rw [ea]
        show (zBk _ 1 2 _).1 (q + r) = σ.1 (q + r)
        rw [zBk_out (by omega), zBk_out (by omega)]
      have c0 := mCp_at (up2 (gM σa) 0 0 0) (gH σ 0 1) 0
      rw [show (282 : Int) * 0 = 0 by omega] at c0
      have w := g4 (gH σ 0 1 - 1).toNat (by omega)
      rw [show (((gH σ 0 1 - 1).toNat : Nat) : Int) + 1 = gH σ 0 1 by omega] at w
      refine gI_bk ?_ (hOk_cg eH (hk_up g2 (by omega))) ?_ (fun i hi => ?_) (tOk_cg eT tk) ?_ ?_
      · rw [mV_r0, c0, mV_r0, mV_gC gc]
        exact sR_cg eA w
      · rw [eH 0 (by decide), up2_at, up2_at]
      · rw [eH 0 (by decide), up2_at] at hi
        rw [eH 1 (by decide), up2_rw _ _ (by decide), mV_r0, mCp_ne _ (by omega) (by decide) (by omega), mV_r0, mV_gC gc]
        have hz := hk_z g2 (j := i) (by omega)
        exact sR_cg (fun r _ => e8 _ (by omega) r) (g4 i (by omega))
      · unfold qTx
        rw [up2_ne _ _ (by decide), mCp_r0, up2_ne _ _ (by decide), gc 0 (by decide)]
        exact ⟨q4, fun j hj => by rw [up2_rw _ _ (by decide), mCp_r2, up2_rw _ _ (by decide), gc 2 (by decide)]; exact q2 j hj⟩
      · unfold gTx
        rw [eT 0 (by decide), eT 1 (by decide), up2_ne _ _ (by decide), mCp_r0, up2_ne _ _ (by decide), gc 0 (by decide)]
        exact ⟨x1, fun j hj => by rw [up2_rw _ _ (by decide), mCp_r2, up2_rw _ _ (by decide), gc 2 (by decide)]; exact x2 j hj⟩
theorem cs_run (g : gI σ) (hw : wPo σ (zBk (zBk (fSv σ) 8 8 ((cRl (gT σ) (gT σ 0 1 + 1).toNat 0 0 (gA σ)).2)) 3 2 (up2 (gT σ) 0 1 0)) (if tCom (gT σ) then 0 else 1) ((cRl (gT σ) (gT σ 0 1 + 1).toNat 0 0 (gA σ)).1) z σa) (hz : z' = (if (rAA 61 (up2 (gM σa) 0 5 0)).1 = true then (rRun 61 (mk (up2 (mSave (up2 (rAA 61 (up2 (gM σa) 0 5 0)).2 0 0 0)) 0 5 0)) (mV (gM σa) 0)).1 else 0) ∧ ∃ N9, σ2 = zBk σa 5 3 N9 ∧ (if (rAA 61 (up2 (gM σa) 0 5 0)).1 = true then rEnd (mSave (up2 (rAA 61 (up2 (gM σa) 0 5 0)).2 0 0 0)) N9 ∧ mV N9 0 = (rRun 61 (mk (up2 (mSave (up2 (rAA 61 (up2 (gM σa) 0 5 0)).2 0 0 0)) 0 5 0)) (mV (gM σa) 0)).2 else N9 = up2 (rAA 61 (up2 (gM σa) 0 5 0)).2 0 0 1)) : wEnd z z' σ2 := by
  have g2 := g.2.1
  have gc : gC σ σa := gC_M hw (fun a a1 a2 => by rw [zBk_out (by omega), zBk_out (by omega)]; exact fSv_t g2 (by omega))
  obtain ⟨tk, q4, q2⟩ := g.2.2.2.2.1
  obtain ⟨x1, x2⟩ := g.2.2.2.2.2
  have tg : gTx (gT σ) (up2 (gM σa) 0 5 0) := by
    unfold gTx
    rw [up2_ne _ _ (by decide), gc 0 (by decide)]
    exact ⟨x1, fun j hj => by rw [up2_rw _ _ (by decide), gc 2 (by decide)]; exact x2 j hj⟩
  have aa := (aa_all tk tg (up2_at _ _ _ _)).1
  have fr := rFr_AA 61 (up2 (gM σa) 0 5 0)
  generalize hB : rAA 61 (up2 (gM σa) 0 5 0) = B at hz aa fr
  have r0 : ∀ j, (j < 5 ∨ 9 < j) → B.2 0 j = gM σ 0 j := fun j hj => by rw [fr.1 j hj, up2_ne _ _ (by omega), gc 0 (by decide)]
  have r1 : ∀ j, B.2 1 j = gM σ 1 j := fun j => by rw [fr.2 1 j (by decide), up2_rw _ _ (by decide), gc 1 (by decide)]
  have r2 : ∀ j, B.2 2 j = gM σ 2 j := fun j => by rw [fr.2 2 j (by decide), up2_rw _ _ (by decide), gc 2 (by decide)]
  obtain ⟨ez, N9, e2, hN⟩ := hz
  rw [mV_gC gc] at ez hN
  by_cases co : tCom (gT σ)
  · have hb := aa.mpr co
    rw [if_pos hb] at ez hN
    rw [if_pos co] at hw
    have ea := hw.2.1 rfl
    obtain ⟨hE, hV⟩ := hN
    have hP0 : (mk (up2 (mSave (up2 B.2 0 0 0)) 0 5 0)) 0 4 = gM σ 0 4 := by
      rw [mk_0, up2_ne _ _ (by decide), mSave_r0, if_neg (by decide), up2_ne _ _ (by decide), r0 4 (Or.inl (by decide))]
    have hP2 : ∀ j, (mk (up2 (mSave (up2 B.2 0 0 0)) 0 5 0)) 2 j = gM σ 2 j := fun j => by
      rw [mk_2, up2_rw _ _ (by decide), mSave_r2, up2_rw _ _ (by decide), r2]
    have hP5 : (mk (up2 (mSave (up2 B.2 0 0 0)) 0 5 0)) 0 5 = 0 := by rw [mk_0, up2_at]
    have re := run_eq tk co 61 (mk (up2 (mSave (up2 B.2 0 0 0)) 0 5 0)) (gA σ) (mV (gM σ) 0) 0 hP5 ⟨⟨by rw [hP0]; exact x1, fun j hj => by rw [hP2]; exact x2 j hj⟩, by rw [hP5]; decide⟩ ⟨⟨by rw [hP5, hP0]; omega, by rw [hP0]; exact q4.2⟩, fun j hj => by rw [hP2]; exact q2 j hj⟩ tk.1.1 rfl g.1 (by have := tk.1; omega)
    rw [show gT σ 0 1 + 1 - 0 = gT σ 0 1 + 1 by omega] at re
    rw [← hV] at re
    refine ⟨?_, fun _ => ?_, ?_⟩
    · rw [e2, gM_r _ _ (by decide), hE.1 0 (Or.inl (by decide)), mSave_r0, if_neg (by decide), up2_at]; exact hw.1.symm
    · rw [e2]
      show σa.2 72 0 = _
      rw [ea, zSL_at, ez, re.1]
    · rw [e2]
      have er : ∀ a, ¬ (8 ≤ a ∧ a < 16) → ¬ (3 ≤ a ∧ a < 5) → σa.1 a = (fSv σ).1 a := fun a h1 h2 => by
        rw [ea]
        show (zBk _ 3 2 _).1 a = _
        rw [zBk_out (by omega), zBk_out (by omega)]
      have eT : ∀ r, r < 2 → gT σa r = up2 (gT σ) 0 1 0 r := fun r hr => by
        rw [ea]
        show (zBk _ 3 2 _).1 (3 + r) = _
        exact zBk_row hr
      refine gI_mut (N := up2 B.2 0 0 0) g re.2 (fun r hr => ?_) (fun r hr => er _ (by omega) (by omega)) (fun q hq r hr => er _ (by omega) (by omega)) ?_ (fun b => ?_) rfl (hE.1 2 (Or.inl (by decide))) (fun j hj => hE.2.2.2 j hj) (tOk_cg eT (tk_clear tk)) ?_ ?_
      · rw [ea]
        show (zBk _ 3 2 _).1 (8 + r) = _
        rw [zBk_out (by omega), zBk_row hr]
      · rw [up2_ne _ _ (by decide), r0 2 (Or.inl (by decide))]
      · rw [mV_r0]
        exact mV_cg (fun i _ => r1 _)
      · unfold qTx
        rw [hE.2.1]
        exact ⟨by decide, fun j hj => by rw [hE.2.2.1, mSave_r2, up2_rw _ _ (by decide), r2]; exact q2 j hj⟩
      · unfold gTx
        rw [eT 0 (by decide), up2_at, hE.2.1]
        exact ⟨rfl, fun j hj => by omega⟩
  · have hb : ¬ B.1 = true := fun w => co (aa.mp w)
    rw [if_neg hb] at ez hN
    rw [if_neg co] at hw
    have ea := hw.2.2 (by decide)
    refine ⟨?_, fun h0 => absurd (hw.1.symm.trans h0) (by decide), ?_⟩
    · rw [e2, gM_r _ _ (by decide), hN, up2_at]; exact hw.1.symm
    · rw [e2]
      refine gI_q g (fun a _ => by rw [ea]) ?_ ?_ (fun j _ => ?_) (fun j => ?_)
      · rw [hN, up2_ne _ _ (by decide), r0 2 (Or.inl (by decide))]
      · rw [hN, up2_ne _ _ (by decide), r0 4 (Or.inl (by decide))]
      · rw [hN, up2_rw _ _ (by decide), r1]
      · rw [hN, up2_rw _ _ (by decide), r2]
/-- the plain questions -/
theorem cs_plain (g : gI σ) (e2 : σ2 = zBk σ 5 3 (up2 (gM σ) 0 0 0)) : gI σ2 := by
  rw [e2]; exact gI_th g (fun _ _ => rfl) 0
theorem cs_deals (g : gI σ) : gA σ 0 0 = mV (gM σ) 0 0 0 := nr_n g.1.2.1
theorem cs_open (g : gI σ) : cOpens (gA σ) = cOpens (mV (gM σ) 0) := nr_opens g.1.2.1
theorem cs_stuck (g : gI σ) : cStucks (gA σ) = cStucks (mV (gM σ) 0) := nr_stucks g.1.2.1
theorem cs_asked (g : gI σ) : gA σ 0 2 = mV (gM σ) 0 0 2 := nr_0 g.1.2.1 (by decide)
theorem cs_digest (g : gI σ) : cHash (gA σ) = cHash (mV (gM σ) 0) := nr_hash g.1.2.1 (ok_n g.1.1).1
theorem cs_doubtShare (g : gI σ) : fShare (gA σ) = mShare (mV (gM σ) 0) := by
  unfold fShare mShare
  rw [nr_mems g.1.2.2.1 g.1.2.1, nr_dbs g.1.2.2.1 g.1.2.1]
  have h : 0 ≤ mMems (mV (gM σ) 0) := (zSum_01' (fun i => by split <;> decide) _).1
  by_cases q : mMems (mV (gM σ) 0) = 0
  · rw [if_neg (by omega), if_pos q]
  · rw [if_pos (by omega), if_neg q]
theorem cs_savedStates (g : gI σ) : gH σ 0 1 = gM σ 0 2 := g.2.2.1
theorem cs_clearText (g : gI σ) (ea : σa = zBk σ 3 2 (up2 (gT σ) 0 1 0)) (e2 : σ2 = zBk σa 5 3 (up2 (up2 (gM σa) 0 0 0) 0 4 0)) : gT σ 0 1 = gM σa 0 4 ∧ gI σ2 := by
  have eo : ∀ a, ¬ (3 ≤ a ∧ a < 5) → σa.1 a = σ.1 a := fun a h => by rw [ea]; exact zBk_out (by omega)
  have gc : gC σ σa := gC_of (fun a h1 h2 => eo a (by omega))
  obtain ⟨tk, q4, q2⟩ := g.2.2.2.2.1
  obtain ⟨x1, x2⟩ := g.2.2.2.2.2
  have eT : ∀ r, r < 2 → gT σa r = up2 (gT σ) 0 1 0 r := fun r hr => by rw [ea]; exact zBk_row hr
  refine ⟨by rw [gc 0 (by decide)]; exact x1, ?_⟩
  rw [e2]
  refine gI_gen g (fun a h1 h2 => eo a (by omega)) ?_ (fun j _ => ?_) (tOk_cg eT (tk_clear tk)) ?_ ?_
  · rw [up2_ne _ _ (by decide), up2_ne _ _ (by decide), gc 0 (by decide)]
  · rw [up2_rw _ _ (by decide), up2_rw _ _ (by decide), gc 1 (by decide)]
  · refine ⟨by rw [up2_at]; decide, fun j hj => ?_⟩
    rw [up2_rw _ _ (by decide), up2_rw _ _ (by decide), gc 2 (by decide)]; exact q2 j hj
  · unfold gTx
    rw [eT 0 (by decide), up2_at, up2_at]
    exact ⟨rfl, fun j hj => by omega⟩
theorem cs_firstError (g : gI σ) (e2 : σ2 = zBk σ 5 3 ((rAA 61 (up2 (up2 (gM σ) 0 0 0) 0 5 0)).2)) : tErr (gT σ) = (rAA 61 (up2 (up2 (gM σ) 0 0 0) 0 5 0)).2 0 5 ∧ gI σ2 := by
  obtain ⟨tk, q4, q2⟩ := g.2.2.2.2.1
  obtain ⟨x1, x2⟩ := g.2.2.2.2.2
  have tg : gTx (gT σ) (up2 (up2 (gM σ) 0 0 0) 0 5 0) := by
    unfold gTx
    rw [up2_ne _ _ (by decide), up2_ne _ _ (by decide)]
    exact ⟨x1, fun j hj => by rw [up2_rw _ _ (by decide), up2_rw _ _ (by decide)]; exact x2 j hj⟩
  have aa := (aa_all tk tg (up2_at _ _ _ _)).2
  have fr := rFr_AA 61 (up2 (up2 (gM σ) 0 0 0) 0 5 0)
  refine ⟨aa.symm, ?_⟩
  rw [e2]
  refine gI_q g (fun _ _ => rfl) ?_ ?_ (fun j _ => ?_) (fun j => ?_)
  · rw [fr.1 2 (Or.inl (by decide)), up2_ne _ _ (by decide), up2_ne _ _ (by decide)]
  · rw [fr.1 4 (Or.inl (by decide)), up2_ne _ _ (by decide), up2_ne _ _ (by decide)]
  · rw [fr.2 1 j (by decide), up2_rw _ _ (by decide), up2_rw _ _ (by decide)]
  · rw [fr.2 2 j (by decide), up2_rw _ _ (by decide), up2_rw _ _ (by decide)]
theorem cs_dig (g : gI σ) {x : Int64} (e2 : σ2 = zBk (zSL σ 5 10 x) 5 3 (up2 (gM σ) 0 0 0)) : gI σ2 := by
  rw [e2]; exact gI_th (σa := zSL σ 5 10 x) g (fun _ _ => rfl) 0
end CS
