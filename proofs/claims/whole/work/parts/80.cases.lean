/-! THE CASES: a wrapper's call and the reference's, compared -/
def wEnd (z z' : Int) (σ2 : zM) : Prop := gM σ2 0 0 = z ∧ (z = 0 → σ2.2 72 0 = (iI z').toInt64) ∧ gI σ2
theorem gM_r (σa : zM) (N : zNt) {r : Nat} (hr : r < 3) : gM (zBk σa 5 3 N) r = N r := by funext j; exact zRd_bk hr j
theorem wEnd_M {σ σa σ2 : zM} {z z' x ans ans' : Int} {A' F : zNt} (g : gI σ) (hw : wPo σ (zBk (fSv σ) 8 8 A') x ans z σa) (hz : z' = (if x = 0 then ans' else 0) ∧ ∃ N9, σ2 = zBk σa 5 3 N9 ∧ mP (gM σa) N9 x F) (hs : x = 0 → sR A' F ∧ ans = ans') : wEnd z z' σ2 := by
  obtain ⟨ez, N9, e2, hp⟩ := hz
  refine ⟨?_, fun h0 => ?_, by rw [e2]; exact gI_M g hw hp (fun q => (hs q).1)⟩
  · rw [e2, gM_r _ _ (by decide), mP_th hp]; exact hw.1.symm
  · have hx : x = 0 := hw.1.symm.trans h0
    rw [e2]
    show σa.2 72 0 = _
    rw [hw.2.1 hx, zSL_at, ez, if_pos hx, (hs hx).2]
theorem mX_v0 {V : zNt} {d s y : Int} (h : mX_vote V d s y = 0) : cCanVote V d s := by
  unfold mX_vote at h
  split at h
  · exact absurd h (by decide)
  · split at h
    · exact absurd h (by decide)
    · rename_i q; exact Decidable.not_not.mp q
theorem mX_d0 {V : zNt} {d : Int} (h : mX_decide V d = 0) : cCanDecide V d := by
  unfold mX_decide at h
  split at h
  · exact absurd h (by decide)
  · split at h
    · exact absurd h (by decide)
    · rename_i q; exact Decidable.not_not.mp q
theorem mX_t0 {V : zNt} {d s : Int} (h : mX_tell V d s = 0) : cCanTell V d s := by
  unfold mX_tell at h
  split at h
  · exact absurd h (by decide)
  · split at h
    · exact absurd h (by decide)
    · rename_i q; exact Decidable.not_not.mp q
theorem mX_a0 {V : zNt} {d s o : Int} (h : mX_ask V d s o = 0) : cCanAsk V d s o := by
  unfold mX_ask at h
  split at h
  · exact absurd h (by decide)
  · split at h
    · exact absurd h (by decide)
    · split at h
      · exact absurd h (by decide)
      · rename_i p q; exact ⟨p, Decidable.not_not.mp q⟩
theorem mX_f0 {V : zNt} {s : Int} (h : mX_fallSilent V s = 0) : cUp V s := by
  unfold mX_fallSilent at h
  split at h
  · exact absurd h (by decide)
  · split at h
    · exact absurd h (by decide)
    · rename_i q; exact Decidable.not_not.mp q
theorem mX_c0 {V : zNt} {s : Int} (h : mX_comeBack V s = 0) : cCanWk V s := by
  unfold mX_comeBack at h
  split at h
  · exact absurd h (by decide)
  · split at h
    · exact absurd h (by decide)
    · rename_i p q
      have p := Decidable.not_not.mp p
      exact ⟨⟨p.1, by omega⟩, q⟩
theorem mX_b0 {V : zNt} {ld mk it : Int} (h : mX_begin V ld mk it = 0) : (0 ≤ ld ∧ ld ≤ 5) ∧ (0 ≤ it ∧ it ≤ 9) ∧ cCanBegin V ld mk := by
  unfold mX_begin at h
  split at h
  · exact absurd h (by decide)
  · split at h
    · exact absurd h (by decide)
    · split at h
      · exact absurd h (by decide)
      · rename_i p q r
        exact ⟨Decidable.not_not.mp p, (Decidable.not_not.mp q).2.2, Decidable.not_not.mp r⟩
theorem mX_s0 {V : zNt} {t : Int} (h : mX_setPatience V t = 0) : 1 ≤ t ∧ t ≤ 20 := by
  unfold mX_setPatience at h
  split at h
  · exact absurd h (by decide)
  · rename_i q; exact Decidable.not_not.mp q
section CS
variable {σ σa σ2 : zM} {z z' : Int}
theorem cs_begin (g : gI σ) {ld mk it : Int} (hw : wPo σ (zBk (fSv σ) 8 8 (cAddN (gA σ) ld mk it)) (mX_begin (gA σ) ld mk it) (cAddR (gA σ) ld mk) z σa) (hz : z' = (if mX_begin (mV (gM σa) 0) ld mk it = 0 then (mV (gM σa) 0) 0 0 else 0) ∧ ∃ N9, σ2 = zBk σa 5 3 N9 ∧ mP (gM σa) N9 (mX_begin (mV (gM σa) 0) ld mk it) (aAddN (mV (gM σa) 0) ld mk it)) : wEnd z z' σ2 := by
  rw [mV_gC (gC_S g hw), ← mx_begin g.1.2.1] at hz
  refine wEnd_M g hw hz (fun q => ?_)
  have h := mX_b0 q
  refine ⟨sr_add g.1 h.1 h.2.1 h.2.2, ?_⟩
  unfold cAddR
  rw [if_pos h.2.2, nr_n g.1.2.1]
theorem cs_vote (g : gI σ) {d s y : Int} (hw : wPo σ (zBk (fSv σ) 8 8 (cVoteN (gA σ) d s y)) (mX_vote (gA σ) d s y) (cVoteR (gA σ) d s y) z σa) (hz : z' = (if mX_vote (mV (gM σa) 0) d s y = 0 then cSt (aEnter (mV (gM σa) 0) d s (mVoteV (mV (gM σa) 0) d s y)) d s else 0) ∧ ∃ N9, σ2 = zBk σa 5 3 N9 ∧ mP (gM σa) N9 (mX_vote (mV (gM σa) 0) d s y) (aEnter (mV (gM σa) 0) d s (mVoteV (mV (gM σa) 0) d s y))) : wEnd z z' σ2 := by
  rw [mV_gC (gC_S g hw), ← mx_vote g.1.2.1] at hz
  exact wEnd_M g hw hz (fun q => ⟨sr_vote g.1 y (mX_v0 q), sr_voteR g.1 y (mX_v0 q)⟩)
theorem cs_decide (g : gI σ) {d : Int} (hw : wPo σ (zBk (fSv σ) 8 8 (cDecideN (gA σ) d)) (mX_decide (gA σ) d) (cDecideR (gA σ) d) z σa) (hz : z' = (if mX_decide (mV (gM σa) 0) d = 0 then cDec (cSettle (mV (gM σa) 0) d (cDecV (mV (gM σa) 0) d)) d else 0) ∧ ∃ N9, σ2 = zBk σa 5 3 N9 ∧ mP (gM σa) N9 (mX_decide (mV (gM σa) 0) d) (cSettle (mV (gM σa) 0) d (cDecV (mV (gM σa) 0) d))) : wEnd z z' σ2 := by
  rw [mV_gC (gC_S g hw), ← mx_decide g.1.2.1] at hz
  exact wEnd_M g hw hz (fun q => ⟨sr_decide g.1 (mX_d0 q), sr_decideR g.1 (mX_d0 q)⟩)
theorem cs_tell (g : gI σ) {d s : Int} (hw : wPo σ (zBk (fSv σ) 8 8 (cTellN (gA σ) d s)) (mX_tell (gA σ) d s) (cTellR (gA σ) d s) z σa) (hz : z' = (if mX_tell (mV (gM σa) 0) d s = 0 then cSt (aTell (mV (gM σa) 0) d s) d s else 0) ∧ ∃ N9, σ2 = zBk σa 5 3 N9 ∧ mP (gM σa) N9 (mX_tell (mV (gM σa) 0) d s) (aTell (mV (gM σa) 0) d s)) : wEnd z z' σ2 := by
  rw [mV_gC (gC_S g hw), ← mx_tell g.1.2.1] at hz
  exact wEnd_M g hw hz (fun q => ⟨sr_tell g.1 (mX_t0 q), sr_tellR g.1 (mX_t0 q)⟩)
theorem cs_ask (g : gI σ) {d s o : Int} (hw : wPo σ (zBk (fSv σ) 8 8 (cAskN (gA σ) d s o)) (mX_ask (gA σ) d s o) (cAskR (gA σ) d s o) z σa) (hz : z' = (if mX_ask (mV (gM σa) 0) d s o = 0 then cSt (aAsk (mV (gM σa) 0) d s o) d s else 0) ∧ ∃ N9, σ2 = zBk σa 5 3 N9 ∧ mP (gM σa) N9 (mX_ask (mV (gM σa) 0) d s o) (aAsk (mV (gM σa) 0) d s o)) : wEnd z z' σ2 := by
  rw [mV_gC (gC_S g hw), ← mx_ask g.1.2.1] at hz
  exact wEnd_M g hw hz (fun q => ⟨sr_ask g.1 (mX_a0 q), sr_askR g.1 (mX_a0 q)⟩)
theorem cs_fallSilent (g : gI σ) {s : Int} (hw : wPo σ (zBk (fSv σ) 8 8 (cSilN (gA σ) s)) (mX_fallSilent (gA σ) s) (cSilR (gA σ) s) z σa) (hz : z' = (if mX_fallSilent (mV (gM σa) 0) s = 0 then cDoubts (cSil (mV (gM σa) 0) s) s else 0) ∧ ∃ N9, σ2 = zBk σa 5 3 N9 ∧ mP (gM σa) N9 (mX_fallSilent (mV (gM σa) 0) s) (cSil (mV (gM σa) 0) s)) : wEnd z z' σ2 := by
  rw [mV_gC (gC_S g hw), ← mx_fallSilent g.1.2.1] at hz
  exact wEnd_M g hw hz (fun q => ⟨sr_sil g.1 (mX_f0 q), sr_silR g.1 (mX_f0 q)⟩)
theorem cs_comeBack (g : gI σ) {s : Int} (hw : wPo σ (zBk (fSv σ) 8 8 (cWkN (gA σ) s)) (mX_comeBack (gA σ) s) (cWkR (gA σ) s) z σa) (hz : z' = (if mX_comeBack (mV (gM σa) 0) s = 0 then aWkN (mV (gM σa) 0) s 6 s.toNat - (mV (gM σa) 0) 6 s.toNat else 0) ∧ ∃ N9, σ2 = zBk σa 5 3 N9 ∧ mP (gM σa) N9 (mX_comeBack (mV (gM σa) 0) s) (aWkN (mV (gM σa) 0) s)) : wEnd z z' σ2 := by
  rw [mV_gC (gC_S g hw), ← mx_comeBack g.1.2.1] at hz
  exact wEnd_M g hw hz (fun q => ⟨sr_wk g.1 (mX_c0 q), sr_wkR g.1 (mX_c0 q)⟩)
theorem cs_pass (g : gI σ) {t : Int} (hw : wPo σ (zBk (fSv σ) 8 8 (cPassN (gA σ) t)) (mX_pass (gA σ) t) (cPassR (gA σ) t) z σa) (hz : z' = (if mX_pass (mV (gM σa) 0) t = 0 then mEnded (aPassL (mV (gM σa) 0) t.toNat) - mEnded (mV (gM σa) 0) else 0) ∧ ∃ N9, σ2 = zBk σa 5 3 N9 ∧ mP (gM σa) N9 (mX_pass (mV (gM σa) 0) t) (aPassL (mV (gM σa) 0) t.toNat)) : wEnd z z' σ2 := by
  rw [mV_gC (gC_S g hw)] at hz
  exact wEnd_M g hw hz (fun q => ⟨sr_pass g.1 t, sr_passR g.1 t⟩)
theorem cs_setPatience (g : gI σ) {t : Int} (hw : wPo σ (zBk (fSv σ) 8 8 (up2 (gA σ) 0 3 t)) (mX_setPatience (gA σ) t) (gA σ 0 3) z σa) (hz : z' = (if mX_setPatience (mV (gM σa) 0) t = 0 then (mV (gM σa) 0) 0 3 else 0) ∧ ∃ N9, σ2 = zBk σa 5 3 N9 ∧ mP (gM σa) N9 (mX_setPatience (mV (gM σa) 0) t) (up2 (mV (gM σa) 0) 0 3 t)) : wEnd z z' σ2 := by
  rw [mV_gC (gC_S g hw)] at hz
  exact wEnd_M g hw hz (fun q => ⟨sr_fresh g.1 (mX_s0 q), nr_0 g.1.2.1 (by decide)⟩)
/-- queries -/
theorem wE_same {x ans : Int} (hw : wPo σ σ x ans z σa) : ∀ a, σa.1 a = σ.1 a := fun a => by
  by_cases q : x = 0
  · rw [hw.2.1 q]; rfl
  · rw [hw.2.2 q]
theorem gC_Q {x ans : Int} (hw : wPo σ σ x ans z σa) : gC σ σa := gC_of (fun a _ _ => wE_same hw a)
theorem wEnd_Q (g : gI σ) {x ans x' : Int} (hw : wPo σ σ x ans z σa) (hz : σ2 = zBk σa 5 3 (up2 (gM σa) 0 0 x')) (hx : x' = x) (ha : x = 0 → ans = z') : wEnd z z' σ2 := by
  refine ⟨?_, fun h0 => ?_, by rw [hz]; exact gI_th g (fun a _ => wE_same hw a) x'⟩
  · rw [hz, gM_r _ _ (by decide), up2_at, hx]; exact hw.1.symm
  · have h : x = 0 := hw.1.symm.trans h0
    rw [hz]
    show σa.2 72 0 = _
    rw [hw.2.1 h, zSL_at, ha h]
theorem if01 {P : Prop} [Decidable P] (h : (if P then (0 : Int) else 1) = 0) : P := by
  apply Classical.byContradiction
  intro q
  rw [if_neg q] at h
  exact absurd h (by decide)
theorem cs_isUp (g : gI σ) {s : Int} (hw : wPo σ σ (if 0 ≤ s ∧ s ≤ 5 then 0 else 1) (if cUp (gA σ) s then 1 else 0) z σa) (hz : z' = (if cUp (mV (gM σa) 0) s then 1 else 0) ∧ σ2 = zBk σa 5 3 (up2 (gM σa) 0 0 (if 0 ≤ s ∧ s ≤ 5 then 0 else 1))) : wEnd z z' σ2 := by
  rw [mV_gC (gC_Q hw)] at hz
  exact wEnd_Q g hw hz.2 rfl (fun _ => by rw [hz.1]; exact if_cg (nr_up g.1.2.1 s) rfl rfl)
theorem cs_state (g : gI σ) {d s : Int} (hw : wPo σ σ (if cHas (gA σ) d ∧ (0 ≤ s ∧ s ≤ 5) then 0 else 1) (cSt (gA σ) d s) z σa) (hz : z' = (if cHas (mV (gM σa) 0) d ∧ (0 ≤ s ∧ s ≤ 5) then cSt (mV (gM σa) 0) d s else 0) ∧ σ2 = zBk σa 5 3 (up2 (gM σa) 0 0 (if cHas (mV (gM σa) 0) d ∧ (0 ≤ s ∧ s ≤ 5) then 0 else 1))) : wEnd z z' σ2 := by
  rw [mV_gC (gC_Q hw)] at hz
  have hd := nr_has g.1.2.1 d
  exact wEnd_Q g hw hz.2 (if_cg (and_congr hd.symm Iff.rfl) rfl rfl) (fun q => by rw [hz.1, if_pos ⟨hd.mp (if01 q).1, (if01 q).2⟩]; exact nr_st g.1.2.1 d s)
theorem cs_decision (g : gI σ) {d : Int} (hw : wPo σ σ (if cHas (gA σ) d then 0 else 1) (cDec (gA σ) d) z σa) (hz : z' = (if cHas (mV (gM σa) 0) d then cDec (mV (gM σa) 0) d else 0) ∧ σ2 = zBk σa 5 3 (up2 (gM σa) 0 0 (if cHas (mV (gM σa) 0) d then 0 else 1))) : wEnd z z' σ2 := by
  rw [mV_gC (gC_Q hw)] at hz
  have hd := nr_has g.1.2.1 d
  exact wEnd_Q g hw hz.2 (if_cg hd.symm rfl rfl) (fun q => by rw [hz.1, if_pos (hd.mp (if01 q))]; exact nr_dec g.1.2.1 d)
theorem cs_leader (g : gI σ) {d : Int} (hw : wPo σ σ (if cHas (gA σ) d then 0 else 1) (cLead (gA σ) d) z σa) (hz : z' = (if cHas (mV (gM σa) 0) d then cLead (mV (gM σa) 0) d else 0) ∧ σ2 = zBk σa 5 3 (up2 (gM σa) 0 0 (if cHas (mV (gM σa) 0) d then 0 else 1))) : wEnd z z' σ2 := by
  rw [mV_gC (gC_Q hw)] at hz
  have hd := nr_has g.1.2.1 d
  exact wEnd_Q g hw hz.2 (if_cg hd.symm rfl rfl) (fun q => by rw [hz.1, if_pos (hd.mp (if01 q))]; exact nr_lead g.1.2.1 d)
theorem cs_patience (g : gI σ) {d s : Int} (hw : wPo σ σ (if cHas (gA σ) d ∧ (0 ≤ s ∧ s ≤ 5) then 0 else 1) (cPat (gA σ) d s) z σa) (hz : z' = (if cHas (mV (gM σa) 0) d ∧ (0 ≤ s ∧ s ≤ 5) then cPat (mV (gM σa) 0) d s else 0) ∧ σ2 = zBk σa 5 3 (up2 (gM σa) 0 0 (if cHas (mV (gM σa) 0) d ∧ (0 ≤ s ∧ s ≤ 5) then 0 else 1))) : wEnd z z' σ2 := by
  rw [mV_gC (gC_Q hw)] at hz
  have hd := nr_has g.1.2.1 d
  exact wEnd_Q g hw hz.2 (if_cg (and_congr hd.symm Iff.rfl) rfl rfl) (fun q => by rw [hz.1, if_pos ⟨hd.mp (if01 q).1, (if01 q).2⟩]; exact nr_pat g.1.2.1 d s)
theorem cs_logLength (g : gI σ) {s : Int} (hw : wPo σ σ (if 0 ≤ s ∧ s ≤ 5 then 0 else 1) (cEnt (gA σ) s) z σa) (hz : z' = (if 0 ≤ s ∧ s ≤ 5 then (mV (gM σa) 0) 6 s.toNat else 0) ∧ σ2 = zBk σa 5 3 (up2 (gM σa) 0 0 (if 0 ≤ s ∧ s ≤ 5 then 0 else 1))) : wEnd z z' σ2 := by
  rw [mV_gC (gC_Q hw)] at hz
  refine wEnd_Q g hw hz.2 rfl (fun q => ?_)
  have h := if01 q
  rw [hz.1, if_pos h, nr_ent g.1.2.1]
  unfold cEnt
  rw [if_pos ⟨h.1, by omega⟩]
theorem cs_log (g : gI σ) {s i : Int} (hw : wPo σ σ (if (0 ≤ s ∧ s ≤ 5) ∧ 0 ≤ i then 0 else 1) (cEntry (gA σ) s i) z σa) (hz : z' = (if (0 ≤ s ∧ s ≤ 5) ∧ 0 ≤ i then (if i < (mV (gM σa) 0) 6 s.toNat then (mV (gM σa) 0) 7 (s * 24 + i).toNat else -1) else 0) ∧ σ2 = zBk σa 5 3 (up2 (gM σa) 0 0 (if (0 ≤ s ∧ s ≤ 5) ∧ 0 ≤ i then 0 else 1))) : wEnd z z' σ2 := by
  rw [mV_gC (gC_Q hw)] at hz
  refine wEnd_Q g hw hz.2 rfl (fun q => ?_)
  have h := if01 q
  rw [hz.1, if_pos h, nr_entry g.1.2.1]
  unfold cEntry
  have e : cEnt (mV (gM σ) 0) s = mV (gM σ) 0 6 s.toNat := if_pos ⟨h.1.1, by omega⟩
  rw [e]
  exact if_cg ⟨fun w => w.2, fun w => ⟨h.2, w⟩⟩ rfl rfl
theorem cs_held (g : gI σ) {s : Int} (hw : wPo σ σ (if 0 ≤ s ∧ s ≤ 5 then 0 else 1) (cHeld (gA σ) s (gA σ 0 0).toNat) z σa) (hz : z' = (if 0 ≤ s ∧ s ≤ 5 then cHeld (mV (gM σa) 0) s ((mV (gM σa) 0) 0 0).toNat else 0) ∧ σ2 = zBk σa 5 3 (up2 (gM σa) 0 0 (if 0 ≤ s ∧ s ≤ 5 then 0 else 1))) : wEnd z z' σ2 := by
  rw [mV_gC (gC_Q hw)] at hz
  refine wEnd_Q g hw hz.2 rfl (fun q => ?_)
  have hn := ok_n g.1.1
  rw [hz.1, if_pos (if01 q), ← nr_n g.1.2.1, nr_held g.1.2.1 s _ (by omega)]
theorem cs_reason (g : gI σ) {d s : Int} (hw : wPo σ σ (if cHas (gA σ) d ∧ (0 ≤ s ∧ s ≤ 5) then 0 else 1) (cReas (gA σ) d s) z σa) (hz : z' = (if cHas (mV (gM σa) 0) d ∧ (0 ≤ s ∧ s ≤ 5) then (if cSt (mV (gM σa) 0) d s = -1 then 1 else if ¬ cUp (mV (gM σa) 0) s then 2 else if cSt (mV (gM σa) 0) d s ≠ 0 then 3 else if mHeld (mV (gM σa) 0) d s then 4 else 0) else 0) ∧ σ2 = zBk σa 5 3 (up2 (gM σa) 0 0 (if cHas (mV (gM σa) 0) d ∧ (0 ≤ s ∧ s ≤ 5) then 0 else 1))) : wEnd z z' σ2 := by
  rw [mV_gC (gC_Q hw)] at hz
  have hd := nr_has g.1.2.1 d
  exact wEnd_Q g hw hz.2 (if_cg (and_congr hd.symm Iff.rfl) rfl rfl) (fun q => by rw [hz.1, if_pos ⟨hd.mp (if01 q).1, (if01 q).2⟩]; exact nr_reas g.1.1 g.1.2.1)
theorem cs_helper (g : gI σ) {d s : Int} (hw : wPo σ σ (if cHas (gA σ) d ∧ (0 ≤ s ∧ s ≤ 5) then 0 else 1) (cHelp (gA σ) d s) z σa) (hz : z' = (if cHas (mV (gM σa) 0) d ∧ (0 ≤ s ∧ s ≤ 5) then cHelp (mV (gM σa) 0) d s else 0) ∧ σ2 = zBk σa 5 3 (up2 (gM σa) 0 0 (if cHas (mV (gM σa) 0) d ∧ (0 ≤ s ∧ s ≤ 5) then 0 else 1))) : wEnd z z' σ2 := by
  rw [mV_gC (gC_Q hw)] at hz
  have hd := nr_has g.1.2.1 d
  exact wEnd_Q g hw hz.2 (if_cg (and_congr hd.symm Iff.rfl) rfl rfl) (fun q => by rw [hz.1, if_pos ⟨hd.mp (if01 q).1, (if01 q).2⟩]; exact nr_help g.1.2.1 d s)
end CS
