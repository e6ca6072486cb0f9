/-! a deal more -/
theorem cAddL_r (N : zNt) (mk n : Int) {r : Nat} (h : r ≠ 4) (j : Nat) : ∀ s : Nat, cAddL N mk n s r j = N r j
  | 0 => rfl
  | s + 1 => by rw [cAddL, up2_rw _ _ h, cAddL_r N mk n h j s]
theorem cAddL_4 (N : zNt) (mk n : Int) (j : Nat) : ∀ s : Nat, cAddL N mk n s 4 j = if (n * 6).toNat ≤ j ∧ j < (n * 6).toNat + s ∧ 0 ≤ n then (if zAnd (zShr mk ((j - (n * 6).toNat : Nat) : Int)) 1 ≠ 0 then 0 else -1) else cAddL N mk n s 4 j
  | 0 => by rw [if_neg (by omega)]
  | s + 1 => by
    by_cases q : (n * 6).toNat ≤ j ∧ j < (n * 6).toNat + (s + 1) ∧ 0 ≤ n
    · rw [if_pos q, cAddL]
      by_cases e : j = (n * 6 + s).toNat
      · rw [e, up2_at, show ((n * 6 + s).toNat - (n * 6).toNat) = s by omega]
      · rw [up2_ne _ _ (fun z => e z.2), cAddL_4 N mk n j s, if_pos (by omega)]
    · rw [if_neg q]
theorem cAddL_4o (N : zNt) (mk n : Int) (j : Nat) (h0 : 0 ≤ n) : ∀ s : Nat, ¬ ((n * 6).toNat ≤ j ∧ j < (n * 6).toNat + s) → cAddL N mk n s 4 j = N 4 j
  | 0, _ => rfl
  | s + 1, h => by rw [cAddL, up2_ne _ _ (fun z => h (by have := z.2; omega)), cAddL_4o N mk n j h0 s (by omega)]
theorem aAdd_b4 (N : zNt) (ld mk it : Int) (j : Nat) : aAddB N ld mk it 4 j = N 4 j := by unfold aAddB; rw [up2_rw _ _ (by decide), up2_rw _ _ (by decide), up2_rw _ _ (by decide), up2_rw _ _ (by decide), up2_rw _ _ (by decide)]
theorem aAdd_4 (N : zNt) (ld mk it : Int) {j : Nat} (hj : j < 48) : aAddN N ld mk it 4 j = if j / 6 = (N 0 0).toNat then (if zAnd (zShr mk (j % 6 : Nat)) 1 = 1 then N 4 j else -1) else N 4 j := by
  unfold aAddN
  by_cases e : j / 6 = (N 0 0).toNat
  · rw [if_pos ⟨rfl, hj, e⟩, if_pos e]
  · rw [if_neg (fun z => e z.2.2), if_neg e, aAdd_b4]
theorem aAdd_r (N : zNt) (ld mk it : Int) {r : Nat} (h : r ≠ 4) (j : Nat) : aAddN N ld mk it r j = aAddB N ld mk it r j := by
  unfold aAddN
  rw [if_neg (fun z => h z.1)]
theorem aAdd_00 (N : zNt) (ld mk it : Int) : aAddN N ld mk it 0 0 = N 0 0 + 1 := by rw [aAdd_r _ _ _ _ (by decide)]; exact up2_at _ _ _ _
theorem aAdd_0 (N : zNt) (ld mk it : Int) {j : Nat} (h : j ≠ 0) : aAddN N ld mk it 0 j = N 0 j := by
  rw [aAdd_r _ _ _ _ (by decide)]; unfold aAddB
  rw [up2_ne _ _ (fun z => h z.2), up2_rw _ _ (by decide), up2_rw _ _ (by decide), up2_rw _ _ (by decide), up2_rw _ _ (by decide)]
theorem aAdd_1 (N : zNt) (ld mk it : Int) (j : Nat) : aAddN N ld mk it 1 j = if j = (N 0 0).toNat then ld else N 1 j := by
  rw [aAdd_r _ _ _ _ (by decide)]; unfold aAddB
  rw [up2_rw _ _ (by decide), up2_rw _ _ (by decide), up2_rw _ _ (by decide), up2_rw _ _ (by decide)]
  by_cases e : j = (N 0 0).toNat
  · rw [e, up2_at, if_pos rfl]
  · rw [up2_ne _ _ (fun z => e z.2), if_neg e]
theorem aAdd_8 (N : zNt) (ld mk it : Int) (j : Nat) : aAddN N ld mk it 8 j = if j = (N 0 0).toNat then mk else N 8 j := by
  rw [aAdd_r _ _ _ _ (by decide)]; unfold aAddB
  rw [up2_rw _ _ (by decide), up2_rw _ _ (by decide), up2_rw _ _ (by decide)]
  by_cases e : j = (N 0 0).toNat
  · rw [e, up2_at, if_pos rfl]
  · rw [up2_ne _ _ (fun z => e z.2), if_neg e, up2_rw _ _ (by decide)]
theorem aAdd_2 (N : zNt) (ld mk it : Int) (j : Nat) : aAddN N ld mk it 2 j = if j = (N 0 0).toNat then it else N 2 j := by
  rw [aAdd_r _ _ _ _ (by decide)]; unfold aAddB
  rw [up2_rw _ _ (by decide), up2_rw _ _ (by decide)]
  by_cases e : j = (N 0 0).toNat
  · rw [e, up2_at, if_pos rfl]
  · rw [up2_ne _ _ (fun z => e z.2), if_neg e, up2_rw _ _ (by decide), up2_rw _ _ (by decide)]
theorem aAdd_3 (N : zNt) (ld mk it : Int) (j : Nat) : aAddN N ld mk it 3 j = if j = (N 0 0).toNat then 0 else N 3 j := by
  rw [aAdd_r _ _ _ _ (by decide)]; unfold aAddB
  rw [up2_rw _ _ (by decide)]
  by_cases e : j = (N 0 0).toNat
  · rw [e, up2_at, if_pos rfl]
  · rw [up2_ne _ _ (fun z => e z.2), if_neg e, up2_rw _ _ (by decide), up2_rw _ _ (by decide), up2_rw _ _ (by decide)]
theorem aAdd_o (N : zNt) (ld mk it : Int) {r : Nat} (h : r = 5 ∨ r = 6 ∨ r = 7) (j : Nat) : aAddN N ld mk it r j = N r j := by
  rw [aAdd_r _ _ _ _ (by omega)]; unfold aAddB
  rw [up2_rw _ _ (by omega), up2_rw _ _ (by omega), up2_rw _ _ (by omega), up2_rw _ _ (by omega), up2_rw _ _ (by omega)]
theorem cAddB_o (N : zNt) (ld it : Int) {r : Nat} (h : r ≠ 1 ∧ r ≠ 2 ∧ r ≠ 3) (j : Nat) : cAddB N ld it r j = N r j := by
  unfold cAddB
  rw [up2_rw _ _ (by omega), up2_rw _ _ (by omega), up2_rw _ _ (by omega)]
theorem cAddN_r {N : zNt} {ld mk it : Int} (hc : cCanBegin N ld mk) {r : Nat} (h : r ≠ 4 ∧ r ≠ 0) (j : Nat) : cAddN N ld mk it r j = cAddB N ld it r j := by
  unfold cAddN
  rw [if_pos hc, up2_rw _ _ h.2, cAddL_r _ _ _ h.1]
theorem nr_add {A B : zNt} (ok : cOk A) (rk : rOk B) (h : nRel A B) {ld mk it : Int} (hc : cCanBegin A ld mk) : nRel (cAddN A ld mk it) (aAddN B ld mk it) := by
  have hn := ok_n ok
  have hc1 := hc.1
  have e0 := nr_n h
  have en : cAddN A ld mk it 0 0 = A 0 0 + 1 := by unfold cAddN; rw [if_pos hc, up2_at]
  have em : ∀ j, j ≠ 0 → cAddN A ld mk it 0 j = A 0 j := fun j hj => by
    unfold cAddN; rw [if_pos hc, up2_ne _ _ (fun z => hj z.2), cAddL_r _ _ _ (by decide), cAddB_o _ _ _ (by decide)]
  refine ⟨fun j hj => ?_, fun d hd => ?_, fun j hj => ?_, fun s hs => ?_, fun s i hs hi => ?_⟩
  · by_cases z : j = 0
    · rw [z, en, aAdd_00, e0]
    · rw [em j z, aAdd_0 _ _ _ _ z]; exact h.1 j hj
  · rw [en] at hd
    rw [cAddN_r hc (by decide), cAddN_r hc (by decide), cAddN_r hc (by decide), aAdd_1, aAdd_2, aAdd_3, ← e0]
    by_cases z : d = (A 0 0).toNat
    · rw [if_pos z, if_pos z, if_pos z, z]
      unfold cAddB
      refine ⟨?_, ?_, up2_at _ _ _ _⟩
      · rw [up2_rw _ _ (by decide), up2_rw _ _ (by decide), up2_at]
      · rw [up2_rw _ _ (by decide), up2_at]
    · rw [if_neg z, if_neg z, if_neg z]
      unfold cAddB
      have q := h.2.1 d (by omega)
      refine ⟨?_, ?_, ?_⟩
      · rw [up2_rw _ _ (by decide), up2_rw _ _ (by decide), up2_ne _ _ (fun w => z w.2)]; exact q.1
      · rw [up2_rw _ _ (by decide), up2_ne _ _ (fun w => z w.2), up2_rw _ _ (by decide)]; exact q.2.1
      · rw [up2_ne _ _ (fun w => z w.2), up2_rw _ _ (by decide), up2_rw _ _ (by decide)]; exact q.2.2
  · rw [en] at hj
    have e5 : cAddN A ld mk it 5 j = A 5 j := by rw [cAddN_r hc (by decide), cAddB_o _ _ _ (by decide)]
    have e4 : cAddN A ld mk it 4 j = cAddL (cAddB A ld it) mk (A 0 0) 6 4 j := by unfold cAddN; rw [if_pos hc, up2_rw _ _ (by decide)]
    rw [e5, e4, aAdd_4 _ _ _ _ (by omega), aAdd_o _ _ _ _ (by omega), ← e0]
    by_cases z : j / 6 = (A 0 0).toNat
    · rw [if_pos z, cAddL_4, if_pos (by omega), show j - (A 0 0 * 6).toNat = j % 6 by omega, rk_z rk (by omega) (by omega)]
      by_cases w : zAnd (zShr mk (j % 6 : Nat)) 1 = 1
      · rw [if_pos (bit_ne.mp w), if_pos w]; exact ⟨rfl, fun y => absurd y (by decide)⟩
      · rw [if_neg (fun y => w (bit_ne.mpr y)), if_neg w]; exact ⟨rfl, fun y => absurd y (by decide)⟩
    · rw [if_neg z, cAddL_4o _ _ _ _ hn.1 _ (by omega), cAddB_o _ _ _ (by decide)]
      exact h.2.2.1 j (by omega)
  · rw [cAddN_r hc (by decide), cAddB_o _ _ _ (by decide), aAdd_o _ _ _ _ (by omega)]; exact h.2.2.2.1 s hs
  · rw [cAddN_r hc (by decide), cAddB_o _ _ _ (by decide)] at hi
    rw [cAddN_r hc (by decide), cAddB_o _ _ _ (by decide), aAdd_o _ _ _ _ (by omega)]
    exact h.2.2.2.2 s i hs hi
theorem rk_add {N : zNt} (rk : rOk N) {ld mk it : Int} (hn : N 0 0 < 8) (hl : 0 ≤ ld ∧ ld ≤ 5) (hi : 0 ≤ it ∧ it ≤ 9) : rOk (aAddN N ld mk it) := by
  have h0 := rk_n rk
  refine ⟨by rw [aAdd_00]; omega, fun d hd => ?_, fun j hj => ?_, fun s hs => by rw [aAdd_o _ _ _ _ (by omega)]; exact rk_ll rk hs, by rw [aAdd_0 _ _ _ _ (by decide)]; exact rk_fr rk, fun j hj => ?_⟩
  · rw [aAdd_1, aAdd_2, aAdd_3]
    have q := rk.2.1 d hd
    by_cases z : d = (N 0 0).toNat
    · rw [if_pos z, if_pos z, if_pos z]; exact ⟨hl, hi, by decide, by decide⟩
    · rw [if_neg z, if_neg z, if_neg z]; exact q
  · rw [aAdd_4 _ _ _ _ hj, aAdd_o _ _ _ _ (by omega)]
    have q := rk.2.2.1 j hj
    refine ⟨?_, q.2⟩
    by_cases z : j / 6 = (N 0 0).toNat
    · rw [if_pos z]; split
      · exact q.1
      · decide
    · rw [if_neg z]; exact q.1
  · rw [aAdd_00, aAdd_4 _ _ _ _ hj]
    show (_ → (zAnd (zShr (aAddN N ld mk it 8 (j / 6)) ((j % 6 : Nat) : Int)) 1 = 1 ↔ _)) ∧ _
    rw [aAdd_8]
    by_cases z : j / 6 = (N 0 0).toNat
    · have e4 : N 4 j = 0 := rk_z rk hj (by omega)
      rw [if_pos z, if_pos z, e4]
      refine ⟨fun _ => ?_, fun q => by omega⟩
      by_cases w : zAnd (zShr mk ((j % 6 : Nat) : Int)) 1 = 1
      · rw [if_pos w]; exact ⟨fun _ => by decide, fun _ => w⟩
      · rw [if_neg w]; exact ⟨fun y => absurd y w, fun y => absurd y (by decide)⟩
    · rw [if_neg z, if_neg z]
      exact ⟨fun q => rk_bt rk hj (by omega), fun q => rk_z rk hj (by omega)⟩
theorem wS_nn (v : Int) : 0 ≤ wS v := (wS_le v).1
theorem bd_add {N : zNt} (rk : rOk N) (bd : Bud N) (ld mk it : Int) : Bud (aAddN N ld mk it) := by
  have h0 := rk_n rk
  intro t ht0 ht6
  rw [aAdd_o _ _ _ _ (by omega)]
  have h1 := bd t ht0 ht6
  have e : ∀ i : Nat, i < (N 0 0).toNat → wD (aAddN N ld mk it) t i = wD N t i := fun i hi => by
    unfold wD
    have e1 : cSt (aAddN N ld mk it) i t = cSt N i t := by
      unfold cSt
      rw [aAdd_00, if_pos (by omega), if_pos (by omega)]
      by_cases q : ((i : Int) * 6 + t).toNat < 48
      · rw [aAdd_4 _ _ _ _ q, if_neg (by omega)]
      · omega
    have e2 : cLead (aAddN N ld mk it) i = cLead N i := by
      unfold cLead cHas
      rw [aAdd_00, if_pos (by omega), if_pos (by omega), aAdd_1, if_neg (by omega)]
    have e3 : cDec (aAddN N ld mk it) i = cDec N i := by
      unfold cDec cHas
      rw [aAdd_00, if_pos (by omega), if_pos (by omega), aAdd_3, if_neg (by omega)]
    rw [e1, e2, e3]
  unfold bud
  rw [aAdd_00, show (N 0 0 + 1).toNat = (N 0 0).toNat + 1 by omega, zSum, zSum_cg e]
  have h2 := (wD_le (aAddN N ld mk it) t ((N 0 0).toNat : Int)).1
  unfold bud at h1
  omega
theorem pk_add {N : zNt} (rk : rOk N) (pk : pOk N) (ld mk it : Int) : pOk (aAddN N ld mk it) := by
  refine ⟨by rw [aAdd_0 _ _ _ _ (by decide)]; exact pk.1, fun j hj h4 => ?_⟩
  rw [aAdd_o _ _ _ _ (by omega)]
  rw [aAdd_4 _ _ _ _ hj] at h4
  by_cases z : j / 6 = (N 0 0).toNat
  · rw [if_pos z] at h4
    split at h4
    · exact pk.2 j hj h4
    · exact absurd h4 (by decide)
  · rw [if_neg z] at h4; exact pk.2 j hj h4
theorem sr_add {A B : zNt} (h : sR A B) {ld mk it : Int} (hl : 0 ≤ ld ∧ ld ≤ 5) (hi : 0 ≤ it ∧ it ≤ 9) (hc : cCanBegin A ld mk) : sR (cAddN A ld mk it) (aAddN B ld mk it) := by
  obtain ⟨ok, nr, rk, bd, pk⟩ := h
  have hc1 := hc.1
  have e0 := nr_n nr
  exact ⟨ok_add ok mk hl hi, nr_add ok rk nr hc, rk_add rk (by omega) hl hi, bd_add rk bd ld mk it, pk_add rk pk ld mk it⟩
