/-! THE CLASS'S STATE in the world: its net (gA), its history (gH); what a save makes of them (fSv) -/
def mBits (x : Int) : Nat → Int
  | 0 => 0
  | n + 1 => mBits x n + zAnd (zShr x n) 1
theorem mBits_step {x i : Int} (h : 0 ≤ i) : mBits x (i + 1).toNat = mBits x i.toNat + zAnd (zShr x i) 1 := by
  rw [show (i + 1).toNat = i.toNat + 1 by omega, mBits, Int.toNat_of_nonneg h]
def gH (σ : zM) : zNt := zRd σ 1
def gA (σ : zM) : zNt := fun r j => if r < 8 then σ.1 (8 + r) j else 0
theorem zRd_o {σ : zM} {k n q : Nat} {N : zNt} (r : Nat) (h : ¬ (k ≤ q + r ∧ q + r < k + n)) : zRd (zBk σ k n N) q r = zRd σ q r := by
  funext j; exact congrFun (zBk_out h) j
theorem zRd_of {σ : zM} {k n q : Nat} {N : zNt} (h : ∀ r, ¬ (k ≤ q + r ∧ q + r < k + n)) : zRd (zBk σ k n N) q = zRd σ q := by
  funext r; exact zRd_o r (h r)
theorem cOk_cg {A A' : zNt} (h : ∀ r, r < 8 → A' r = A r) (ok : cOk A) : cOk A' := by
  unfold cOk at ok ⊢
  rw [h 0 (by decide), h 1 (by decide), h 2 (by decide), h 3 (by decide), h 4 (by decide), h 5 (by decide), h 6 (by decide)]
  exact ok
theorem hOk_cg {A A' : zNt} (h : ∀ r, r < 2 → A' r = A r) (ok : hOk A) : hOk A' := by
  unfold hOk at ok ⊢
  rw [h 0 (by decide), h 1 (by decide)]
  exact ok
/-- what the class's save makes of the world -/
def fSv (σ : zM) : zM := zBk (zBk σ ((hPre (gH σ)) 1 (hPre (gH σ) 0 1).toNat).toNat 8 (zRd σ 8)) 1 2 (up2 (hPre (gH σ)) 0 1 (hPre (gH σ) 0 1 + 1))
theorem hk_pre {N : zNt} (h : hOk N) : hOk (hPre N) ∧ 0 ≤ hPre N 0 1 ∧ hPre N 0 1 < 6 := by
  unfold hPre
  split
  · exact ⟨h, h.1.1, by assumption⟩
  · exact ⟨hk_rot h, by unfold hRot; rw [up2_at]; decide⟩
theorem hk_up {N : zNt} (h : hOk N) {x : Int} (hx : 0 ≤ x ∧ x ≤ 6) : hOk (up2 N 0 1 x) := ⟨by rw [up2_at]; exact hx, fun j hj => by rw [up2_rw _ _ (by decide)]; exact h.2.1 j hj, fun i j hi hj q => by rw [up2_rw _ _ (by decide), up2_rw _ _ (by decide)] at q; exact h.2.2 i j hi hj q⟩
/-- a saved Net's block: apart from the law's net, the history, the text, the reference -/
theorem hk_blk {N : zNt} (h : hOk N) {j : Nat} (hj : j < 6) : ∃ k, (N 1 j).toNat = 8 * k ∧ 3 ≤ k ∧ k < 9 := by
  obtain ⟨⟨h1, h2, h3⟩, h4⟩ := h.2.1 j hj
  exact ⟨(N 1 j).toNat / 8, by omega, by omega, by omega⟩
theorem fSv_H {σ : zM} (h : hOk (gH σ)) : ∀ r, r < 2 → gH (fSv σ) r = up2 (hPre (gH σ)) 0 1 (hPre (gH σ) 0 1 + 1) r := fun r hr => by
  unfold fSv gH
  funext j
  exact zRd_bk hr j
theorem fSv_lo {σ : zM} (h : hOk (gH σ)) {q : Nat} (hq : 3 ≤ q) (hq2 : q + 8 ≤ 24) : ∀ r, r < 8 → zRd (fSv σ) q r = zRd σ q r := fun r hr => by
  have hp := hk_pre h
  obtain ⟨k, e, k3, k9⟩ := hk_blk hp.1 (j := (hPre (gH σ) 0 1).toNat) (by omega)
  unfold fSv
  rw [zRd_o r (by omega), e, zRd_o r (by omega)]
theorem zn8 : zNet 8 := ⟨by decide, by decide, by decide⟩
theorem zn16 : zNet 16 := ⟨by decide, by decide, by decide⟩
theorem zBk_cg {σ : zM} {k n : Nat} {N N' : zNt} (h : ∀ r, r < n → N r = N' r) : zBk σ k n N = zBk σ k n N' := by
  unfold zBk
  refine congrArg (fun z => (z, σ.2)) (funext fun a => funext fun b => ?_)
  by_cases q : k ≤ a ∧ a < k + n
  · rw [if_pos q, if_pos q, h (a - k) (by omega)]
  · rw [if_neg q, if_neg q]
theorem gA_bk (σ : zM) : zBk σ 8 8 (gA σ) = σ := (zBk_cg (N' := zRd σ 8) (fun r hr => by funext j; exact if_pos hr)).trans (zBk_rd σ 8 8)
theorem gH_bk (σ : zM) : zBk σ 1 2 (gH σ) = σ := zBk_rd σ 1 2
theorem zKI_at {l : Launch} {D : va_G} {G : zG} {ad : Nat → Nat} {y : MethodName} {b : ByteArray} {mL : Nat} {r : Option FieldType} {d : Nat} {av : List Value} {S S' : zM} {Post : Int → zM → Prop} (e : S' = S) (h : zKI l D G ad y b mL r d av S' Post) : zKI l D G ad y b mL r d av S Post := by subst e; exact h
theorem zKV_at {l : Launch} {D : va_G} {G : zG} {ad : Nat → Nat} {y : MethodName} {b : ByteArray} {mL : Nat} {r : Option FieldType} {d : Nat} {av : List Value} {S S' : zM} {Post : zM → Prop} (e : S' = S) (h : zKV l D G ad y b mL r d av S' Post) : zKV l D G ad y b mL r d av S Post := by subst e; exact h
theorem zKL_at {l : Launch} {D : va_G} {G : zG} {ad : Nat → Nat} {y : MethodName} {b : ByteArray} {mL : Nat} {r : Option FieldType} {d : Nat} {av : List Value} {S S' : zM} {Post : Int64 → zM → Prop} (e : S' = S) (h : zKL l D G ad y b mL r d av S' Post) : zKL l D G ad y b mL r d av S Post := by subst e; exact h
def fI (σ : zM) : Prop := cOk (gA σ) ∧ hOk (gH σ) ∧ True
theorem fSv_bk8 {σ : zM} (h : hOk (gH σ)) : zBk (fSv σ) 8 8 (gA σ) = fSv σ := (zBk_cg (fun r hr => by
  have e := fSv_lo h (q := 8) (by decide) (by decide) r hr
  funext j
  rw [congrFun e j]
  exact if_pos hr)).trans (zBk_rd (fSv σ) 8 8)
