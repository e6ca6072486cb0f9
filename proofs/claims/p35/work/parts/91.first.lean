/-! THE START: the first world, as the small machine has it -/
def sg0 : zM := (fun k => if k = 2 then (fun j => ((24 + 8 * j : Nat) : Int)) else if (8 ≤ k ∧ k < 72) ∧ k % 8 = 0 then (fun j => if j = 1 then 63 else if j = 3 then 3 else 0) else fun _ => 0, fun _ _ => 0)
theorem g0_cOk : cOk (gA sg0) := by unfold cOk; decide +kernel
theorem g0_jN : jN (gA sg0) := jN_0 g0_cOk (by decide +kernel) (by decide +kernel)
theorem g0_H1 (j : Nat) : gH sg0 1 j = ((24 + 8 * j : Nat) : Int) := rfl
theorem g0_H0 : gH sg0 0 1 = 0 := rfl
theorem g0_fI : fI sg0 := by
  refine ⟨g0_cOk, ⟨by rw [g0_H0]; decide, fun j hj => ?_, fun i j hi hj h => ?_⟩, trivial⟩
  · rw [g0_H1]; unfold zNet; omega
  · rw [g0_H1, g0_H1] at h; omega
def prm (k : Nat) : Nat := if k = 0 then 0 else if k ≤ 2 then k + 16 else if k ≤ 6 then k + 64 else if k < 24 then k - 7 else k - 5
theorem prm_inj : ∀ i, i < 72 → ∀ j, j < 72 → i ≠ 7 → j ≠ 7 → prm i = prm j → i = j := by decide +kernel
/-- the cells' addresses, by the small machine's numbers -/
def adF (w0 : Nat) (u0 : Nat → Nat) (w5 w6 : Nat) : Nat → Nat := fun k => ([w0, u0 1, u0 2, u0 3, u0 4, w5, w6, 0, u0 8, u0 9, u0 10, u0 11, u0 12, u0 13, u0 14, u0 15, u0 16, u0 17, u0 18, u0 19, u0 20, u0 21, u0 22, u0 23, u0 24, u0 25, u0 26, u0 27, u0 28, u0 29, u0 30, u0 31, u0 32, u0 33, u0 34, u0 35, u0 36, u0 37, u0 38, u0 39, u0 40, u0 41, u0 42, u0 43, u0 44, u0 45, u0 46, u0 47, u0 48, u0 49, u0 50, u0 51, u0 52, u0 53, u0 54, u0 55, u0 56, u0 57, u0 58, u0 59, u0 60, u0 61, u0 62, u0 63, u0 64, u0 65, u0 66, u0 67, u0 68, u0 69, u0 70, u0 71] : List Nat)[k]?.getD 0
def wsT (G : zG) (w0 : Nat) (u0 : Nat → Nat) (w5 w6 : Nat) : va_W := ([] ++ ((w0, E3 u0) :: N3 G u0)) ++ [(w5, .inl (G.1, 48, .inl (fun _ => iI 0)))] ++ [(w6, .inl (G.1, 8, .inl (fun _ => iI 0)))]
theorem arr_cg {cA : ClassId} {n : Nat} {f g : Nat → Value} (h : ∀ j, j < n → f j = g j) : arrV cA n f = arrV cA n g := by
  unfold arrV
  congr 2
  funext j
  exact h j.val j.isLt
theorem sw_2 {w0 w5 w6 : Nat} {u0 : Nat → Nat} : ∀ j, j < 6 → hRow u0 j = some (adF w0 u0 w5 w6 (24 + 8 * j)) := fun j hj => match j, hj with
  | 0, _ => rfl
  | 1, _ => rfl
  | 2, _ => rfl
  | 3, _ => rfl
  | 4, _ => rfl
  | 5, _ => rfl
  | j + 6, h => absurd h (by omega)
def eT (ad : Nat → Nat) (G : zG) (u0 : Nat → Nat) (k : Nat) : va_E := if k = 2 then hE G (hRow u0) else zC ad G k (sg0.1 k) (sg0.2 k)
set_option maxRecDepth 100000 in
set_option maxHeartbeats 4000000 in
theorem sw_k (G : zG) (w0 : Nat) (u0 : Nat → Nat) (w5 w6 : Nat) : ∀ k, k < 72 → k ≠ 7 → (wsT G w0 u0 w5 w6)[prm k]? = some (adF w0 u0 w5 w6 k, eT (adF w0 u0 w5 w6) G u0 k) := fun k hk h7 => match k, hk, h7 with
  | 0, _, _ => rfl
  | 1, _, _ => rfl
  | 2, _, _ => rfl
  | 3, _, _ => rfl
  | 4, _, _ => rfl
  | 5, _, _ => rfl
  | 6, _, _ => rfl
  | 7, _, h => absurd rfl h
  | 8, _, _ => rfl
  | 9, _, _ => rfl
  | 10, _, _ => rfl
  | 11, _, _ => rfl
  | 12, _, _ => rfl
  | 13, _, _ => rfl
  | 14, _, _ => rfl
  | 15, _, _ => rfl
  | 16, _, _ => rfl
  | 17, _, _ => rfl
  | 18, _, _ => rfl
  | 19, _, _ => rfl
  | 20, _, _ => rfl
  | 21, _, _ => rfl
  | 22, _, _ => rfl
  | 23, _, _ => rfl
  | 24, _, _ => rfl
  | 25, _, _ => rfl
  | 26, _, _ => rfl
  | 27, _, _ => rfl
  | 28, _, _ => rfl
  | 29, _, _ => rfl
  | 30, _, _ => rfl
  | 31, _, _ => rfl
  | 32, _, _ => rfl
  | 33, _, _ => rfl
  | 34, _, _ => rfl
  | 35, _, _ => rfl
  | 36, _, _ => rfl
  | 37, _, _ => rfl
  | 38, _, _ => rfl
  | 39, _, _ => rfl
  | 40, _, _ => rfl
  | 41, _, _ => rfl
  | 42, _, _ => rfl
  | 43, _, _ => rfl
  | 44, _, _ => rfl
  | 45, _, _ => rfl
  | 46, _, _ => rfl
  | 47, _, _ => rfl
  | 48, _, _ => rfl
  | 49, _, _ => rfl
  | 50, _, _ => rfl
  | 51, _, _ => rfl
  | 52, _, _ => rfl
  | 53, _, _ => rfl
  | 54, _, _ => rfl
  | 55, _, _ => rfl
  | 56, _, _ => rfl
  | 57, _, _ => rfl
  | 58, _, _ => rfl
  | 59, _, _ => rfl
  | 60, _, _ => rfl
  | 61, _, _ => rfl
  | 62, _, _ => rfl
  | 63, _, _ => rfl
  | 64, _, _ => rfl
  | 65, _, _ => rfl
  | 66, _, _ => rfl
  | 67, _, _ => rfl
  | 68, _, _ => rfl
  | 69, _, _ => rfl
  | 70, _, _ => rfl
  | 71, _, _ => rfl
  | k + 72, h, _ => absurd h (by omega)
theorem sw_P {D : va_G} {G : zG} {w0 : Nat} {u0 : Nat → Nat} {w5 w6 : Nat} {H : Heap} (h : va_P D vwCl (wsT G w0 u0 w5 w6) H) : va_P D vwCl (zW (adF w0 u0 w5 w6) G sg0) H := by
  have key : ∀ k, zIn k → va_at D vwCl (adF w0 u0 w5 w6 k, zC (adF w0 u0 w5 w6) G k (sg0.1 k) (sg0.2 k)) H := fun k hk => by
    have h1 := h (prm k) _ (sw_k G w0 u0 w5 w6 k hk.1 hk.2)
    unfold eT at h1
    by_cases e2 : k = 2
    · subst e2
      rw [if_pos rfl] at h1
      refine Eq.trans h1 (congrArg some ?_)
      refine Eq.trans (vp_cell_q _ _ _) (Eq.trans ?_ (vp_cell_q _ _ _).symm)
      refine arr_cg (fun j hj => ?_)
      show va_rf (hRow u0 j) = va_rf (some (adF w0 u0 w5 w6 (((24 + 8 * j : Nat) : Int)).toNat))
      rw [sw_2 j hj]
      rfl
    · rw [if_neg e2] at h1
      exact h1
  intro i q hq
  have hi := zW_lt hq
  rw [zW_at hi] at hq
  cases hq
  exact key _ (zq_in hi)
theorem sw_J {A : Nat → Prop} {G : zG} {w0 : Nat} {u0 : Nat → Nat} {w5 w6 : Nat} (h : va_D A (wsT G w0 u0 w5 w6)) : zInj (adF w0 u0 w5 w6) ∧ ∀ k, zIn k → A (adF w0 u0 w5 w6 k) :=
  ⟨fun i j hi hj e => prm_inj i hi.1 j hj.1 hi.2 hj.2 (h.1 _ _ _ _ (sw_k G w0 u0 w5 w6 i hi.1 hi.2) (sw_k G w0 u0 w5 w6 j hj.1 hj.2) e), fun k hk => h.2 _ _ (sw_k G w0 u0 w5 w6 k hk.1 hk.2)⟩
