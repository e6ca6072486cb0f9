/-! THE INVARIANT of the law's loop: the class (cells 0 to 4, Nets 8 to 71) and the reference (cells 5 to 7) side by side -/
def gH (σ : zM) : zNt := zRd σ 1
def gT (σ : zM) : zNt := zRd σ 3
def gM (σ : zM) : zNt := zRd σ 5
def gA (σ : zM) : zNt := zRd σ 8
def gTx (T M : zNt) : Prop := T 0 1 = M 0 4 ∧ ∀ j : Nat, (j : Int) < T 0 1 → T 1 j = M 2 j
def gI (σ : zM) : Prop := sR (gA σ) (mV (gM σ) 0) ∧ hOk (gH σ) ∧ gH σ 0 1 = gM σ 0 2 ∧ (∀ i : Nat, (i : Int) < gH σ 0 1 → sR (zRd σ (gH σ 1 i).toNat) (mV (gM σ) (282 * ((i : Int) + 1)))) ∧ (tOk (gT σ) ∧ qTx (gM σ)) ∧ gTx (gT σ) (gM σ)
theorem zRd_o {σ : zM} {k n q : Nat} {N : zNt} (r : Nat) (h : ¬ (k ≤ q + r ∧ q + r < k + n)) : zRd (zBk σ k n N) q r = zRd σ q r := by
  funext j; exact congrFun (zBk_out h) j
theorem zRd_of {σ : zM} {k n q : Nat} {N : zNt} (h : ∀ r, ¬ (k ≤ q + r ∧ q + r < k + n)) : zRd (zBk σ k n N) q = zRd σ q := by
  funext r; exact zRd_o r (h r)
/-- a relation of Nets reads 8 rows only -/
theorem cOk_cg {A A' : zNt} (h : ∀ r, r < 8 → A' r = A r) (ok : cOk A) : cOk A' := by
  unfold cOk at ok ⊢
  rw [h 0 (by decide), h 1 (by decide), h 2 (by decide), h 3 (by decide), h 4 (by decide), h 5 (by decide), h 6 (by decide)]
  exact ok
theorem nRel_cg {A A' B : zNt} (h : ∀ r, r < 8 → A' r = A r) (n : nRel A B) : nRel A' B := by
  unfold nRel at n ⊢
  rw [h 0 (by decide), h 1 (by decide), h 2 (by decide), h 3 (by decide), h 4 (by decide), h 5 (by decide), h 6 (by decide), h 7 (by decide)]
  exact n
theorem sR_cg {A A' B : zNt} (h : ∀ r, r < 8 → A' r = A r) (s : sR A B) : sR A' B := ⟨cOk_cg h s.1, nRel_cg h s.2.1, s.2.2⟩
theorem hOk_cg {A A' : zNt} (h : ∀ r, r < 2 → A' r = A r) (ok : hOk A) : hOk A' := by
  unfold hOk at ok ⊢
  rw [h 0 (by decide), h 1 (by decide)]
  exact ok
theorem tOk_cg {A A' : zNt} (h : ∀ r, r < 2 → A' r = A r) (ok : tOk A) : tOk A' := by
  unfold tOk at ok ⊢
  rw [h 0 (by decide), h 1 (by decide)]
  exact ok
/-- what the class's save makes of the world -/
def fSv (σ : zM) : zM := zBk (zBk σ ((hPre (gH σ)) 1 (hPre (gH σ) 0 1).toNat).toNat 8 (gA σ)) 1 2 (up2 (hPre (gH σ)) 0 1 (hPre (gH σ) 0 1 + 1))
theorem hk_pre {N : zNt} (h : hOk N) : hOk (hPre N) ∧ 0 ≤ hPre N 0 1 ∧ hPre N 0 1 < 6 := by
  unfold hPre
  split
  · exact ⟨h, h.1.1, by assumption⟩
  · exact ⟨hk_rot h, by unfold hRot; rw [up2_at]; decide⟩
theorem hk_up {N : zNt} (h : hOk N) {x : Int} (hx : 0 ≤ x ∧ x ≤ 6) : hOk (up2 N 0 1 x) := ⟨by rw [up2_at]; exact hx, fun j hj => by rw [up2_rw _ _ (by decide)]; exact h.2.1 j hj, fun i j hi hj q => by rw [up2_rw _ _ (by decide), up2_rw _ _ (by decide)] at q; exact h.2.2 i j hi hj q⟩
/-- a saved Net's block: apart from the law's net, the history, the text, the reference -/
theorem hk_blk {N : zNt} (h : hOk N) {j : Nat} (hj : j < 6) : ∃ k, (N 1 j).toNat = 8 * k ∧ 3 ≤ k ∧ k < 9 := by
  obtain ⟨⟨h1, h2, h3⟩, h4⟩ := h.2.1 j hj
  exact ⟨(N 1 j).toNat / 8, by omega, by omega, by omega⟩
theorem fSv_H {σ : zM} (h : hOk (gH σ)) : ∀ r, r < 2 → gH (fSv σ) r = up2 (hPre (gH σ)) 0 1 (hPre (gH σ) 0 1 + 1) r := fun r hr => by
  unfold fSv gH
  funext j
  exact zRd_bk hr j
theorem fSv_lo {σ : zM} (h : hOk (gH σ)) {q : Nat} (hq : 3 ≤ q) (hq2 : q + 8 ≤ 24) : ∀ r, r < 8 → zRd (fSv σ) q r = zRd σ q r := fun r hr => by
  have hp := hk_pre h
  obtain ⟨k, e, k3, k9⟩ := hk_blk hp.1 (j := (hPre (gH σ) 0 1).toNat) (by omega)
  unfold fSv
  rw [zRd_o r (by omega), e, zRd_o r (by omega)]
theorem gI_save {σ : zM} (g : gI σ) : sR (gA (fSv σ)) (mV (gM σ) 0) ∧ hOk (gH (fSv σ)) ∧ gH (fSv σ) 0 1 = mCnt (gM σ) ∧ ∀ i : Nat, (i : Int) < gH (fSv σ) 0 1 → sR (zRd (fSv σ) (gH (fSv σ) 1 i).toNat) (mV (mSave (gM σ)) (282 * ((i : Int) + 1))) := by
  obtain ⟨g1, g2, g3, g4, -⟩ := g
  have hp := hk_pre g2
  have eH := fSv_H g2
  have h6 : 0 ≤ gM σ 0 2 ∧ gM σ 0 2 ≤ 6 := by rw [← g3]; exact g2.1
  have e01 : gH (fSv σ) 0 1 = hPre (gH σ) 0 1 + 1 := by rw [eH 0 (by decide), up2_at]
  have e1 : ∀ j, gH (fSv σ) 1 j = hPre (gH σ) 1 j := fun j => by rw [eH 1 (by decide), up2_rw _ _ (by decide)]
  have ec : hPre (gH σ) 0 1 + 1 = mCnt (gM σ) := by
    unfold mCnt hPre
    rw [← g3]
    by_cases z : gH σ 0 1 < 6
    · rw [if_pos z, if_pos z]
    · rw [if_neg z, if_neg z]; unfold hRot; rw [up2_at]; have := g2.1; omega
  refine ⟨sR_cg (fSv_lo g2 (q := 8) (by decide) (by decide)) g1, hOk_cg eH (hk_up hp.1 (by omega)), by rw [e01, ec], fun i hi => ?_⟩
  rw [e01] at hi
  rw [e1, mSave_b h6 _ (by omega)]
  obtain ⟨k, ek, k3, k9⟩ := hk_blk hp.1 (j := (hPre (gH σ) 0 1).toNat) (by omega)
  obtain ⟨k', ek', k3', k9'⟩ := hk_blk hp.1 (j := i) (by omega)
  by_cases z : (i : Int) = hPre (gH σ) 0 1
  · rw [if_pos (by omega)]
    have ei : i = (hPre (gH σ) 0 1).toNat := by omega
    refine sR_cg (fun r hr => ?_) g1
    unfold fSv
    rw [zRd_o r (by omega), ei]
    funext j
    exact zRd_bk hr j
  · rw [if_neg (by omega)]
    have hne : k ≠ k' := fun w => by
      have v1 := hk_v hp.1 (j := (hPre (gH σ) 0 1).toNat) (by omega)
      have v2 := hk_v hp.1 (j := i) (by omega)
      have := hp.1.2.2 i (hPre (gH σ) 0 1).toNat (by omega) (by omega) (by omega)
      omega
    have eb : ∀ r, r < 8 → zRd (fSv σ) (hPre (gH σ) 1 i).toNat r = zRd σ (hPre (gH σ) 1 i).toNat r := fun r hr => by
      unfold fSv
      rw [zRd_o r (by omega), zRd_o r (by omega)]
    refine sR_cg eb ?_
    by_cases c : gH σ 0 1 < 6
    · have ep : hPre (gH σ) = gH σ := if_pos c
      rw [ep] at hi z ⊢
      rw [if_neg (by omega)]
      exact g4 i (by omega)
    · have ep : hPre (gH σ) = hRot (gH σ) := if_neg c
      have e5 : hRot (gH σ) 0 1 = 5 := up2_at _ _ _ _
      rw [ep, e5] at hi z
      have hc := g2.1
      rw [ep, hRot_1 _ (by omega), show (i + 1) % 6 = i + 1 by omega, if_pos (by omega)]
      have w := g4 (i + 1) (by omega)
      rw [show (((i + 1 : Nat) : Int) + 1) = ((i : Int) + 1) + 1 by omega] at w
      exact w
