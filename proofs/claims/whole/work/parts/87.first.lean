/-! THE START: the first world, as the small machine has it -/
def sg0 : zM := (fun k => if k = 2 then (fun j => ((24 + 8 * j : Nat) : Int)) else if k = 6 then (fun j => if j = 0 then 63 else if j = 2 then 3 else 0) else if (8 ≤ k ∧ k < 72) ∧ k % 8 = 0 then (fun j => if j = 1 then 63 else if j = 3 then 3 else 0) else fun _ => 0, fun _ _ => 0)
theorem g0_A : gA sg0 = fun r j => if r = 0 ∧ j = 1 then 63 else if r = 0 ∧ j = 3 then 3 else gA sg0 r j := by
  funext r j
  by_cases h : r = 0 ∧ j = 1
  · rw [if_pos h, h.1, h.2]; rfl
  · rw [if_neg h]
    by_cases h : r = 0 ∧ j = 3
    · rw [if_pos h, h.1, h.2]; rfl
    · rw [if_neg h]
theorem g0_cOk : cOk (gA sg0) := by unfold cOk; decide +kernel
theorem g0_B0 : mV (gM sg0) 0 0 0 = 0 := by decide +kernel
theorem g0_rOk : rOk (mV (gM sg0) 0) := by unfold rOk; decide +kernel
theorem g0_pOk : pOk (mV (gM sg0) 0) := by unfold pOk; decide +kernel
theorem g0_bud : Bud (mV (gM sg0) 0) := fun s h0 h6 => by
  have e : bud (mV (gM sg0) 0) s = 0 := by unfold bud; rw [g0_B0]; rfl
  rw [e]
  have q : ∀ k : Nat, k < 6 → mV (gM sg0) 0 6 k ≤ 0 := by decide +kernel
  exact q s.toNat (by omega)
theorem g0_rel : nRel (gA sg0) (mV (gM sg0) 0) := by
  have n0 : gA sg0 0 0 = 0 := by decide +kernel
  have n6 : ∀ s : Nat, s < 6 → gA sg0 6 s = 0 := by decide +kernel
  refine ⟨by decide +kernel, fun d hd => ?_, fun j hj => ?_, by decide +kernel, fun s i hs hi => ?_⟩
  · rw [n0] at hd; omega
  · rw [n0] at hj; omega
  · rw [n6 s hs] at hi; omega
theorem g0_H1 (j : Nat) : gH sg0 1 j = ((24 + 8 * j : Nat) : Int) := rfl
theorem g0_H0 : gH sg0 0 1 = 0 := rfl
theorem gI_0 : gI sg0 := by
  refine ⟨⟨g0_cOk, g0_rel, g0_rOk, g0_bud, g0_pOk⟩, ⟨by rw [g0_H0]; decide, fun j hj => ?_, fun i j hi hj h => ?_⟩, rfl, fun i hi => ?_, ⟨by unfold tOk; decide +kernel, by unfold qTx; decide +kernel⟩, ⟨rfl, fun j hj => ?_⟩⟩
  · rw [g0_H1]; unfold zNet; omega
  · rw [g0_H1, g0_H1] at h; omega
  · rw [g0_H0] at hi; omega
  · exact absurd hj (by show ¬ (j : Int) < 0; omega)
def prm (k : Nat) : Nat := if k = 0 then 0 else if k ≤ 2 then k + 16 else if k ≤ 7 then k + 64 else if k < 24 then k - 7 else if k < 72 then k - 5 else 72
theorem prm_inj : ∀ i, i < 73 → ∀ j, j < 73 → prm i = prm j → i = j := by decide +kernel
/-- the cells' addresses, by the small machine's numbers -/
def adF (w0 : Nat) (u0 : Nat → Nat) (w5 : Nat) (u5 : Nat → Nat) (w72 : Nat) : Nat → Nat := fun k => ([w0, u0 1, u0 2, u0 3, u0 4, w5, u5 6, u5 7, u0 8, u0 9, u0 10, u0 11, u0 12, u0 13, u0 14, u0 15, u0 16, u0 17, u0 18, u0 19, u0 20, u0 21, u0 22, u0 23, u0 24, u0 25, u0 26, u0 27, u0 28, u0 29, u0 30, u0 31, u0 32, u0 33, u0 34, u0 35, u0 36, u0 37, u0 38, u0 39, u0 40, u0 41, u0 42, u0 43, u0 44, u0 45, u0 46, u0 47, u0 48, u0 49, u0 50, u0 51, u0 52, u0 53, u0 54, u0 55, u0 56, u0 57, u0 58, u0 59, u0 60, u0 61, u0 62, u0 63, u0 64, u0 65, u0 66, u0 67, u0 68, u0 69, u0 70, u0 71, w72] : List Nat)[k]?.getD 0
def wsT (G : zG) (w0 : Nat) (u0 : Nat → Nat) (w5 : Nat) (u5 : Nat → Nat) (w72 : Nat) : va_W := ([] ++ ((w0, E3 u0) :: N3 G u0)) ++ ((w5, E4 u5) :: N4 G u5) ++ [(w72, .inl (G.2.2, 1, .inr (.inl (fun _ => 0))))]
theorem arr_cg {cA : ClassId} {n : Nat} {f g : Nat → Value} (h : ∀ j, j < n → f j = g j) : arrV cA n f = arrV cA n g := by
  unfold arrV
  congr 2
  funext j
  exact h j.val j.isLt
theorem sw_2 {w0 w5 w72 : Nat} {u0 u5 : Nat → Nat} : ∀ j, j < 6 → hRow u0 j = some (adF w0 u0 w5 u5 w72 (24 + 8 * j)) := fun j hj => match j, hj with
  | 0, _ => rfl
  | 1, _ => rfl
  | 2, _ => rfl
  | 3, _ => rfl
  | 4, _ => rfl
  | 5, _ => rfl
  | j + 6, h => absurd h (by omega)
theorem sw_6 : sIni = fun j => iI (if j = 0 then 63 else if j = 2 then 3 else 0) := by
  funext j
  unfold sIni upd
  by_cases h2 : j = 2
  · subst h2; rfl
  · by_cases h0 : j = 0
    · subst h0; rfl
    · simp [h0, h2]
def eT (ad : Nat → Nat) (G : zG) (u0 : Nat → Nat) (k : Nat) : va_E := if k = 2 then hE G (hRow u0) else if k = 6 then .inl (G.1, 2256, .inl sIni) else zC ad G k (sg0.1 k) (sg0.2 k)
set_option maxRecDepth 100000 in
set_option maxHeartbeats 4000000 in
theorem sw_k (G : zG) (w0 : Nat) (u0 : Nat → Nat) (w5 : Nat) (u5 : Nat → Nat) (w72 : Nat) : ∀ k, k < 73 → (wsT G w0 u0 w5 u5 w72)[prm k]? = some (adF w0 u0 w5 u5 w72 k, eT (adF w0 u0 w5 u5 w72) G u0 k) := fun k hk => match k, hk with
  | 0, _ => rfl
  | 1, _ => rfl
  | 2, _ => rfl
  | 3, _ => rfl
  | 4, _ => rfl
  | 5, _ => rfl
  | 6, _ => rfl
  | 7, _ => rfl
  | 8, _ => rfl
  | 9, _ => rfl
  | 10, _ => rfl
  | 11, _ => rfl
  | 12, _ => rfl
  | 13, _ => rfl
  | 14, _ => rfl
  | 15, _ => rfl
  | 16, _ => rfl
  | 17, _ => rfl
  | 18, _ => rfl
  | 19, _ => rfl
  | 20, _ => rfl
  | 21, _ => rfl
  | 22, _ => rfl
  | 23, _ => rfl
  | 24, _ => rfl
  | 25, _ => rfl
  | 26, _ => rfl
  | 27, _ => rfl
  | 28, _ => rfl
  | 29, _ => rfl
  | 30, _ => rfl
  | 31, _ => rfl
  | 32, _ => rfl
  | 33, _ => rfl
  | 34, _ => rfl
  | 35, _ => rfl
  | 36, _ => rfl
  | 37, _ => rfl
  | 38, _ => rfl
  | 39, _ => rfl
  | 40, _ => rfl
  | 41, _ => rfl
  | 42, _ => rfl
  | 43, _ => rfl
  | 44, _ => rfl
  | 45, _ => rfl
  | 46, _ => rfl
  | 47, _ => rfl
  | 48, _ => rfl
  | 49, _ => rfl
  | 50, _ => rfl
  | 51, _ => rfl
  | 52, _ => rfl
  | 53, _ => rfl
  | 54, _ => rfl
  | 55, _ => rfl
  | 56, _ => rfl
  | 57, _ => rfl
  | 58, _ => rfl
  | 59, _ => rfl
  | 60, _ => rfl
  | 61, _ => rfl
  | 62, _ => rfl
  | 63, _ => rfl
  | 64, _ => rfl
  | 65, _ => rfl
  | 66, _ => rfl
  | 67, _ => rfl
  | 68, _ => rfl
  | 69, _ => rfl
  | 70, _ => rfl
  | 71, _ => rfl
  | 72, _ => rfl
  | k + 73, h => absurd h (by omega)
theorem sw_P {D : va_G} {G : zG} {w0 : Nat} {u0 : Nat → Nat} {w5 : Nat} {u5 : Nat → Nat} {w72 : Nat} {H : Heap} (h : va_P D vwCl (wsT G w0 u0 w5 u5 w72) H) : va_P D vwCl (zW (adF w0 u0 w5 u5 w72) G sg0) H := fun k q hq => by
  rcases Nat.lt_or_ge k 73 with hk | hk
  · rw [zW_get hk] at hq
    cases hq
    have h1 := h (prm k) _ (sw_k G w0 u0 w5 u5 w72 k hk)
    unfold eT at h1
    by_cases e2 : k = 2
    · subst e2
      rw [if_pos rfl] at h1
      refine Eq.trans h1 (congrArg some ?_)
      refine Eq.trans (vp_cell_q _ _ _) (Eq.trans ?_ (vp_cell_q _ _ _).symm)
      refine arr_cg (fun j hj => ?_)
      show va_rf (hRow u0 j) = va_rf (some (adF w0 u0 w5 u5 w72 (((24 + 8 * j : Nat) : Int)).toNat))
      rw [sw_2 j hj]
      rfl
    · rw [if_neg e2] at h1
      by_cases e6 : k = 6
      · subst e6
        rw [if_pos rfl, sw_6] at h1
        exact h1
      · rw [if_neg e6] at h1
        exact h1
  · rw [List.getElem?_eq_none (by rw [zW_len]; exact hk)] at hq
    cases hq
theorem sw_J {A : Nat → Prop} {G : zG} {w0 : Nat} {u0 : Nat → Nat} {w5 : Nat} {u5 : Nat → Nat} {w72 : Nat} (h : va_D A (wsT G w0 u0 w5 u5 w72)) : zInj (adF w0 u0 w5 u5 w72) ∧ ∀ k, k < 73 → A (adF w0 u0 w5 u5 w72 k) :=
  ⟨fun i j hi hj e => prm_inj i hi j hj (h.1 _ _ _ _ (sw_k G w0 u0 w5 u5 w72 i hi) (sw_k G w0 u0 w5 u5 w72 j hj) e), fun k hk => h.2 _ _ (sw_k G w0 u0 w5 u5 w72 k hk)⟩
