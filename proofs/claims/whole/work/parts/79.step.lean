/-! THE STEPS of the invariant, a call each -/
theorem gI_bk {σa : zM} {N : zNt} (h1 : sR (gA σa) (mV N 0)) (h2 : hOk (gH σa)) (h3 : gH σa 0 1 = N 0 2) (h4 : ∀ i : Nat, (i : Int) < gH σa 0 1 → sR (zRd σa (gH σa 1 i).toNat) (mV N (282 * ((i : Int) + 1)))) (h5 : tOk (gT σa)) (h6 : qTx N) (h7 : gTx (gT σa) N) : gI (zBk σa 5 3 N) := by
  have eA : gA (zBk σa 5 3 N) = gA σa := zRd_of (fun r => by omega)
  have eH : ∀ r, r < 2 → gH (zBk σa 5 3 N) r = gH σa r := fun r hr => zRd_o r (by omega)
  have eT : ∀ r, r < 2 → gT (zBk σa 5 3 N) r = gT σa r := fun r hr => zRd_o r (by omega)
  have eM : ∀ r, r < 3 → gM (zBk σa 5 3 N) r = N r := fun r hr => by funext j; exact zRd_bk hr j
  have eV : ∀ b, mV (gM (zBk σa 5 3 N)) b = mV N b := fun b => mV_cg (fun i _ => by rw [eM 1 (by decide)])
  refine ⟨by rw [eA, eV]; exact h1, hOk_cg eH h2, by rw [eH 0 (by decide), eM 0 (by decide)]; exact h3, fun i hi => ?_, ⟨tOk_cg eT h5, ?_⟩, ?_⟩
  · rw [eH 0 (by decide)] at hi
    rw [eH 1 (by decide), eV]
    have hz := hk_z h2 (j := i) (by have := h2.1; omega)
    rw [zRd_of (fun r => by have := hz.2; omega)]
    exact h4 i hi
  · unfold qTx at h6 ⊢
    rw [eM 0 (by decide), eM 2 (by decide)]; exact h6
  · unfold gTx at h7 ⊢
    rw [eT 0 (by decide), eT 1 (by decide), eM 0 (by decide), eM 2 (by decide)]; exact h7
/-- the reference isn't touched -/
def gC (σ σa : zM) : Prop := ∀ r, r < 3 → gM σa r = gM σ r
theorem mV_gC {σ σa : zM} (h : gC σ σa) (b : Int) : mV (gM σa) b = mV (gM σ) b := mV_cg (fun i _ => by rw [h 1 (by decide)])
theorem qTx_gC {σ σa : zM} (h : gC σ σa) (q : qTx (gM σ)) : qTx (gM σa) := by
  unfold qTx at q ⊢
  rw [h 0 (by decide), h 2 (by decide)]; exact q
theorem gI_pre {σ σa : zM} (g : gI σ) (h : gC σ σa) : (rOk (mV (gM σa) 0) ∧ Bud (mV (gM σa) 0) ∧ pOk (mV (gM σa) 0)) ∧ (0 ≤ gM σa 0 2 ∧ gM σa 0 2 ≤ 6) ∧ qTx (gM σa) := by
  rw [mV_gC h, h 0 (by decide), ← g.2.2.1]
  exact ⟨g.1.2.2, g.2.1.1, qTx_gC h g.2.2.2.2.1.2⟩
theorem gI_f {σ : zM} (g : gI σ) : fI σ := ⟨g.1.1, g.2.1, g.2.2.2.2.1.1⟩
/-- no Net changes (the forecast apart) -/
theorem gI_gen {σ σa : zM} {N : zNt} (g : gI σ) (eo : ∀ a, ¬ (3 ≤ a ∧ a < 8) → ¬ (16 ≤ a ∧ a < 24) → σa.1 a = σ.1 a) (e2 : N 0 2 = gM σ 0 2) (er : ∀ j, j < 1974 → N 1 j = gM σ 1 j) (ht : tOk (gT σa)) (hq : qTx N) (hx : gTx (gT σa) N) : gI (zBk σa 5 3 N) := by
  obtain ⟨g1, g2, g3, g4, -, -⟩ := g
  have eA : ∀ r, r < 8 → gA σa r = gA σ r := fun r hr => eo (8 + r) (by omega) (by omega)
  have eH : ∀ r, r < 2 → gH σa r = gH σ r := fun r hr => eo (1 + r) (by omega) (by omega)
  have eV : ∀ q : Nat, q ≤ 6 → mV N (282 * (q : Int)) = mV (gM σ) (282 * (q : Int)) := fun q hq => mV_cg (fun i hi => er _ (by omega))
  have eV0 := eV 0 (by decide)
  rw [show (282 : Int) * ((0 : Nat) : Int) = 0 by omega] at eV0
  refine gI_bk (by rw [eV0]; exact sR_cg eA g1) (hOk_cg eH g2) (by rw [eH 0 (by decide), e2]; exact g3) (fun i hi => ?_) ht hq hx
  rw [eH 0 (by decide)] at hi
  have h6 := g2.1
  have hz := hk_z g2 (j := i) (by omega)
  rw [eH 1 (by decide)]
  have ev := eV (i + 1) (by omega)
  rw [show (((i + 1 : Nat) : Int)) = (i : Int) + 1 by omega] at ev
  rw [ev]
  exact sR_cg (fun r hr => eo _ (by have := hz.2; omega) (by have := hz.2; omega)) (g4 i hi)
/-- a query -/
theorem gI_q {σ σa : zM} {N : zNt} (g : gI σ) (eo : ∀ a, ¬ (16 ≤ a ∧ a < 24) → σa.1 a = σ.1 a) (e2 : N 0 2 = gM σ 0 2) (e4 : N 0 4 = gM σ 0 4) (er : ∀ j, j < 1974 → N 1 j = gM σ 1 j) (e22 : ∀ j, N 2 j = gM σ 2 j) : gI (zBk σa 5 3 N) := by
  have eT : ∀ r, r < 2 → gT σa r = gT σ r := fun r hr => eo (3 + r) (by omega)
  obtain ⟨tk, q⟩ := g.2.2.2.2.1
  have x := g.2.2.2.2.2
  refine gI_gen g (fun a _ h => eo a h) e2 er (tOk_cg eT tk) ?_ ?_
  · unfold qTx at q ⊢
    rw [e4]; exact ⟨q.1, fun j hj => by rw [e22]; exact q.2 j hj⟩
  · unfold gTx at x ⊢
    rw [eT 0 (by decide), eT 1 (by decide), e4]
    exact ⟨x.1, fun j hj => by rw [e22]; exact x.2 j hj⟩
theorem gC_of {σ σa : zM} (eo : ∀ a, 5 ≤ a → a < 8 → σa.1 a = σ.1 a) : gC σ σa := fun r hr => eo (5 + r) (by omega) (by omega)
theorem gI_th {σ σa : zM} (g : gI σ) (eo : ∀ a, ¬ (16 ≤ a ∧ a < 24) → σa.1 a = σ.1 a) (x : Int) : gI (zBk σa 5 3 (up2 (gM σa) 0 0 x)) := by
  have gc : gC σ σa := gC_of (fun a h1 h2 => eo a (by omega))
  exact gI_q g eo (by rw [up2_ne _ _ (by decide), gc 0 (by decide)]) (by rw [up2_ne _ _ (by decide), gc 0 (by decide)]) (fun j _ => by rw [up2_rw _ _ (by decide), gc 1 (by decide)]) (fun j => by rw [up2_rw _ _ (by decide), gc 2 (by decide)])
/-- a call that can be undone -/
theorem gI_mut {σ σa : zM} {A' F N N9 : zNt} (g : gI σ) (hs : sR A' F) (eA : ∀ r, r < 8 → gA σa r = A' r) (eH : ∀ r, r < 2 → gH σa r = gH (fSv σ) r) (eS : ∀ q, 24 ≤ q → ∀ r, r < 8 → zRd σa q r = zRd (fSv σ) q r) (n2 : N 0 2 = gM σ 0 2) (nV : ∀ b, mV N b = mV (gM σ) b) (v0 : mV N9 0 = F) (c2 : N9 0 2 = mSave N 0 2) (v1 : ∀ j, 282 ≤ j → N9 1 j = mSave N 1 j) (ht : tOk (gT σa)) (hq : qTx N9) (hx : gTx (gT σa) N9) : gI (zBk σa 5 3 N9) := by
  obtain ⟨s1, s2, s3, s4⟩ := gI_save g
  have h6 : 0 ≤ gM σ 0 2 ∧ gM σ 0 2 ≤ 6 := by rw [← g.2.2.1]; exact g.2.1.1
  have h6N : 0 ≤ N 0 2 ∧ N 0 2 ≤ 6 := by rw [n2]; exact h6
  have ec : mCnt N = mCnt (gM σ) := by unfold mCnt; rw [n2]
  refine gI_bk (by rw [v0]; exact sR_cg eA hs) (hOk_cg eH s2) (by rw [eH 0 (by decide), c2, mSave_r0, if_pos rfl, ec]; exact s3) (fun i hi => ?_) ht hq hx
  rw [eH 0 (by decide)] at hi
  rw [eH 1 (by decide)]
  have hz := hk_z s2 (j := i) (by have := s2.1; omega)
  have ev : mV N9 (282 * ((i : Int) + 1)) = mV (mSave (gM σ)) (282 * ((i : Int) + 1)) := by
    rw [mV_cg (N := mSave N) (fun k hk => v1 _ (by omega)), mSave_b h6N _ (by omega), mSave_b h6 _ (by omega), ec, n2, nV, nV, nV]
  rw [ev]
  exact sR_cg (eS _ (by have := hz.2; omega)) (s4 i hi)
theorem fSv_t {σ : zM} (h : hOk (gH σ)) {a : Nat} (ha : 3 ≤ a ∧ a < 24) : (fSv σ).1 a = σ.1 a := by
  have hp := hk_pre h
  obtain ⟨k, e, k3, k9⟩ := hk_blk hp.1 (j := (hPre (gH σ) 0 1).toNat) (by omega)
  unfold fSv
  rw [zBk_out (by omega), zBk_out (by omega)]
theorem mP_th {N N9 F : zNt} {x : Int} (h : mP N N9 x F) : N9 0 0 = x := by
  unfold mP at h
  split at h
  · rename_i q
    rw [h.2.1, mSave_r0, if_neg (by decide), up2_at, q]
  · rw [h, up2_at]
theorem gI_M {σ σa : zM} {x ans z : Int} {A' F N9 : zNt} (g : gI σ) (hw : wPo σ (zBk (fSv σ) 8 8 A') x ans z σa) (hp : mP (gM σa) N9 x F) (hs : x = 0 → sR A' F) : gI (zBk σa 5 3 N9) := by
  by_cases q : x = 0
  · have ea := hw.2.1 q
    unfold mP at hp
    rw [if_pos q] at hp
    have e1 : σa.1 = (zBk (fSv σ) 8 8 A').1 := by rw [ea]; rfl
    have er : ∀ a, ¬ (8 ≤ a ∧ a < 16) → σa.1 a = (fSv σ).1 a := fun a h => by rw [e1]; exact zBk_out (by omega)
    have gc : gC σ σa := gC_of (fun a h1 h2 => by rw [er a (by omega)]; exact fSv_t g.2.1 (by omega))
    have eT : ∀ r, r < 2 → gT σa r = gT σ r := fun r hr => by
      show σa.1 (3 + r) = σ.1 (3 + r)
      rw [er _ (by omega)]; exact fSv_t g.2.1 (by omega)
    have e24 : N9 0 4 = gM σ 0 4 := by rw [hp.2.1, mSave_r0, if_neg (by decide), up2_ne _ _ (by decide), gc 0 (by decide)]
    have e22 : ∀ j, N9 2 j = gM σ 2 j := fun j => by rw [hp.2.2.1, mSave_r2, up2_rw _ _ (by decide), gc 2 (by decide)]
    obtain ⟨tk, tq⟩ := g.2.2.2.2.1
    have tx := g.2.2.2.2.2
    refine gI_mut (N := up2 (gM σa) 0 0 0) g (hs q) (fun r hr => ?_) (fun r hr => er _ (by omega)) (fun q hq r hr => er _ (by omega)) (by rw [up2_ne _ _ (by decide), gc 0 (by decide)]) (fun b => by rw [mV_r0, mV_gC gc]) hp.1 (hp.2.1 2) (fun j hj => hp.2.2.2 j (by rw [show (0 : Int).toNat = 0 from rfl]; omega)) (tOk_cg eT tk) ?_ ?_
    · show σa.1 (8 + r) = A' r
      rw [e1]; exact zBk_row (by omega)
    · unfold qTx at tq ⊢
      rw [e24]; exact ⟨tq.1, fun j hj => by rw [e22]; exact tq.2 j hj⟩
    · unfold gTx at tx ⊢
      rw [eT 0 (by decide), eT 1 (by decide), e24]
      exact ⟨tx.1, fun j hj => by rw [e22]; exact tx.2 j hj⟩
  · have ea := hw.2.2 q
    unfold mP at hp
    rw [if_neg q] at hp
    rw [hp, ea]
    exact gI_th g (fun _ _ => rfl) x
theorem gC_M {σ σa σ1 : zM} {x ans z : Int} (hw : wPo σ σ1 x ans z σa) (h1 : ∀ a, 5 ≤ a → a < 8 → σ1.1 a = σ.1 a) : gC σ σa := by
  by_cases q : x = 0
  · refine gC_of (fun a a1 a2 => ?_)
    rw [hw.2.1 q]; exact h1 a a1 a2
  · rw [hw.2.2 q]; exact gC_of (fun _ _ _ => rfl)
theorem gC_S {σ σa : zM} {x ans z : Int} {A' : zNt} (g : gI σ) (hw : wPo σ (zBk (fSv σ) 8 8 A') x ans z σa) : gC σ σa :=
  gC_M hw (fun a a1 a2 => by rw [zBk_out (by omega)]; exact fSv_t g.2.1 (by omega))
