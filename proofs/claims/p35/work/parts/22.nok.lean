/-! what keeps a Net in its bounds -/
theorem up2_at (N : zNt) (r j : Nat) (x : Int) : up2 N r j x r j = x := by simp [up2]
theorem up2_ne (N : zNt) {r j a b : Nat} (x : Int) (h : ¬ (a = r ∧ b = j)) : up2 N r j x a b = N a b := by simp [up2, h]
theorem up2_rw (N : zNt) {r j a : Nat} (x : Int) (h : a ≠ r) (b : Nat) : up2 N r j x a b = N a b := by simp [up2, h]
theorem up2_up2 (N : zNt) (r j : Nat) (x y : Int) : up2 (up2 N r j x) r j y = up2 N r j y := by
  funext a b
  by_cases h : a = r ∧ b = j <;> simp [up2, h]
theorem up2_comm (N : zNt) {r j r' j' : Nat} (x y : Int) (h : r ≠ r') : up2 (up2 N r j x) r' j' y = up2 (up2 N r' j' y) r j x := by
  funext a b
  by_cases h1 : a = r ∧ b = j
  · have h2 : ¬ (a = r' ∧ b = j') := fun q => h (h1.1.symm.trans q.1)
    simp [up2, h1, h2, h]
  · simp [up2, h1]
theorem ok_f0 {N : zNt} (ok : cOk N) {x : Int} (h : 0 ≤ x ∧ x ≤ 8) : cOk (up2 N 0 0 x) := by
  obtain ⟨a1, a2, a3, a4, a5, a6⟩ := ok
  exact ⟨by simpa [up2] using h, by simpa [up2] using a2, by simpa [up2] using a3, by simpa [up2] using a4, by simpa [up2] using a5, by simpa [up2] using a6⟩
theorem ok_f1 {N : zNt} (ok : cOk N) {x : Int} (h : 0 ≤ x ∧ x ≤ 63) : cOk (up2 N 0 1 x) := by
  obtain ⟨a1, a2, a3, a4, a5, a6⟩ := ok
  exact ⟨by simpa [up2] using a1, by simpa [up2] using h, by simpa [up2] using a3, by simpa [up2] using a4, by simpa [up2] using a5, by simpa [up2] using a6⟩
theorem ok_f2 {N : zNt} (ok : cOk N) (x : Int) : cOk (up2 N 0 2 x) := by
  obtain ⟨a1, a2, a3, a4, a5, a6⟩ := ok
  exact ⟨by simpa [up2] using a1, by simpa [up2] using a2, by simpa [up2] using a3, by simpa [up2] using a4, by simpa [up2] using a5, by simpa [up2] using a6⟩
theorem ok_f3 {N : zNt} (ok : cOk N) {x : Int} (h : 1 ≤ x ∧ x ≤ 20) : cOk (up2 N 0 3 x) := by
  obtain ⟨a1, a2, a3, a4, a5, a6⟩ := ok
  exact ⟨by simpa [up2] using a1, by simpa [up2] using a2, by simpa [up2] using h, by simpa [up2] using a4, by simpa [up2] using a5, by simpa [up2] using a6⟩
theorem ok_r1 {N : zNt} (ok : cOk N) (j : Nat) {x : Int} (h : 0 ≤ x ∧ x ≤ 5) : cOk (up2 N 1 j x) := by
  obtain ⟨a1, a2, a3, a4, a5, a6⟩ := ok
  refine ⟨by simpa [up2] using a1, by simpa [up2] using a2, by simpa [up2] using a3, fun d hd => ?_, by simpa [up2] using a5, by simpa [up2] using a6⟩
  have q := a4 d hd
  refine ⟨?_, by simpa [up2] using q.2.1, by simpa [up2] using q.2.2⟩
  by_cases e : d = j
  · simpa [up2, e] using h
  · simpa [up2, e] using q.1
theorem ok_r2 {N : zNt} (ok : cOk N) (j : Nat) {x : Int} (h : 0 ≤ x ∧ x ≤ 9) : cOk (up2 N 2 j x) := by
  obtain ⟨a1, a2, a3, a4, a5, a6⟩ := ok
  refine ⟨by simpa [up2] using a1, by simpa [up2] using a2, by simpa [up2] using a3, fun d hd => ?_, by simpa [up2] using a5, by simpa [up2] using a6⟩
  have q := a4 d hd
  refine ⟨by simpa [up2] using q.1, ?_, by simpa [up2] using q.2.2⟩
  by_cases e : d = j
  · simpa [up2, e] using h
  · simpa [up2, e] using q.2.1
theorem ok_r3 {N : zNt} (ok : cOk N) (j : Nat) {x : Int} (h : 0 ≤ x ∧ x ≤ 3) : cOk (up2 N 3 j x) := by
  obtain ⟨a1, a2, a3, a4, a5, a6⟩ := ok
  refine ⟨by simpa [up2] using a1, by simpa [up2] using a2, by simpa [up2] using a3, fun d hd => ?_, by simpa [up2] using a5, by simpa [up2] using a6⟩
  have q := a4 d hd
  refine ⟨by simpa [up2] using q.1, by simpa [up2] using q.2.1, ?_⟩
  by_cases e : d = j
  · simpa [up2, e] using h
  · simpa [up2, e] using q.2.2
theorem ok_r4 {N : zNt} (ok : cOk N) (j : Nat) {x : Int} (h : -1 ≤ x ∧ x ≤ 3) (h1 : x = 1 → 1 ≤ N 5 j) : cOk (up2 N 4 j x) := by
  obtain ⟨a1, a2, a3, a4, a5, a6⟩ := ok
  refine ⟨by simpa [up2] using a1, by simpa [up2] using a2, by simpa [up2] using a3, by simpa [up2] using a4, fun d hd => ?_, by simpa [up2] using a6⟩
  have q := a5 d hd
  by_cases e : d = j
  · subst e
    exact ⟨by simpa [up2] using h, by simpa [up2] using q.2.1, by simpa [up2] using h1⟩
  · exact ⟨by simpa [up2, e] using q.1, by simpa [up2] using q.2.1, by simpa [up2, e] using q.2.2⟩
theorem ok_r5 {N : zNt} (ok : cOk N) (j : Nat) {x : Int} (h : 0 ≤ x ∧ x ≤ 20) (h1 : N 4 j = 1 → 1 ≤ x) : cOk (up2 N 5 j x) := by
  obtain ⟨a1, a2, a3, a4, a5, a6⟩ := ok
  refine ⟨by simpa [up2] using a1, by simpa [up2] using a2, by simpa [up2] using a3, by simpa [up2] using a4, fun d hd => ?_, by simpa [up2] using a6⟩
  have q := a5 d hd
  by_cases e : d = j
  · subst e
    exact ⟨by simpa [up2] using q.1, by simpa [up2] using h, by simpa [up2] using h1⟩
  · exact ⟨by simpa [up2] using q.1, by simpa [up2, e] using q.2.1, by simpa [up2, e] using q.2.2⟩
theorem ok_r6 {N : zNt} (ok : cOk N) (j : Nat) {x : Int} (h : 0 ≤ x ∧ x ≤ 24) : cOk (up2 N 6 j x) := by
  obtain ⟨a1, a2, a3, a4, a5, a6⟩ := ok
  refine ⟨by simpa [up2] using a1, by simpa [up2] using a2, by simpa [up2] using a3, by simpa [up2] using a4, by simpa [up2] using a5, fun s hs => ?_⟩
  by_cases e : s = j
  · simpa [up2, e] using h
  · simpa [up2, e] using a6 s hs
theorem ok_r7 {N : zNt} (ok : cOk N) (j : Nat) (x : Int) : cOk (up2 N 7 j x) := by
  obtain ⟨a1, a2, a3, a4, a5, a6⟩ := ok
  exact ⟨by simpa [up2] using a1, by simpa [up2] using a2, by simpa [up2] using a3, by simpa [up2] using a4, by simpa [up2] using a5, by simpa [up2] using a6⟩
theorem ok_write {N : zNt} (ok : cOk N) (s e : Int) : cOk (cWrite N s e) := by
  unfold cWrite
  split
  · rename_i h
    have q := ok_ll ok (s := s.toNat) (by omega)
    exact ok_r6 (ok_r7 ok _ _) _ (by omega)
  · exact ok
theorem ok_enter0 {N : zNt} (ok : cOk N) {d s v : Int} (hv : 1 ≤ v ∧ v ≤ 3) : cOk (cEnter0 N d s v) := by
  have hf := ok_fr ok
  unfold cEnter0
  split
  · rename_i h
    rw [up2_comm _ _ _ (by decide)]
    exact ok_r4 (ok_r5 ok _ (by omega) (fun _ => by omega)) _ (by omega) (fun _ => by rw [up2_at]; omega)
  · rename_i h
    exact ok_r4 ok _ (by omega) (fun q => absurd q h)
theorem ok_enter {N : zNt} (ok : cOk N) {d s v : Int} (hv : 1 ≤ v ∧ v ≤ 3) : cOk (cEnter N d s v) := by
  unfold cEnter
  split
  · exact ok
  · exact ok_write (ok_enter0 ok hv) _ _
theorem ok_settle {N : zNt} (ok : cOk N) {d v : Int} (hv : 0 ≤ v ∧ v ≤ 3) : cOk (cSettle N d v) := by
  unfold cSettle
  split
  · exact ok_write (ok_r3 ok _ hv) _ _
  · exact ok
theorem n_write (N : zNt) (s e : Int) (j : Nat) : cWrite N s e 0 j = N 0 j := by
  unfold cWrite; split
  · simp [up2]
  · rfl
theorem n_enter (N : zNt) (d s v : Int) (j : Nat) : cEnter N d s v 0 j = N 0 j := by
  unfold cEnter; split
  · rfl
  · rw [n_write]; unfold cEnter0; split <;> simp [up2]
theorem n_settle (N : zNt) (d v : Int) (j : Nat) : cSettle N d v 0 j = N 0 j := by
  unfold cSettle; split
  · rw [n_write]; simp [up2]
  · rfl
theorem ok_ask2 {N : zNt} (ok : cOk N) (d : Int) : cOk (cAsk2 N d) := by
  unfold cAsk2; split
  · exact ok_settle ok ⟨by decide, by decide⟩
  · exact ok
theorem ok_ask3 {N : zNt} (ok : cOk N) (d s v : Int) : cOk (cAsk3 N d s v) := by
  unfold cAsk3; split
  · rename_i h; exact ok_enter ok (by omega)
  · exact ok
theorem ok_ask4 {N : zNt} (ok : cOk N) (d s o : Int) : cOk (cAsk4 N d s o) := by
  unfold cAsk4; split
  · exact ok_ask3 (ok_ask2 ok d) d s _
  · split
    · exact ok_enter (ok_enter ok ⟨by decide, by decide⟩) ⟨by decide, by decide⟩
    · exact ok_ask3 ok d s _
theorem ok_ask {N : zNt} (ok : cOk N) (d s o : Int) : cOk (cAskN N d s o) := by
  unfold cAskN; split
  · exact ok_ask4 (ok_f2 ok _) d s o
  · exact ok
theorem n_ask2 (N : zNt) (d : Int) (j : Nat) : cAsk2 N d 0 j = N 0 j := by
  unfold cAsk2; split
  · rw [n_settle]
  · rfl
theorem n_ask3 (N : zNt) (d s v : Int) (j : Nat) : cAsk3 N d s v 0 j = N 0 j := by
  unfold cAsk3; split
  · rw [n_enter]
  · rfl
theorem n_ask4 (N : zNt) (d s o : Int) (j : Nat) : cAsk4 N d s o 0 j = N 0 j := by
  unfold cAsk4; split
  · rw [n_ask3, n_ask2]
  · split
    · rw [n_enter, n_enter]
    · rw [n_ask3]
theorem n_ask (N : zNt) (d s o : Int) : cAskN N d s o 0 0 = N 0 0 := by
  unfold cAskN; split
  · rw [n_ask4]; simp [cAsk1, up2]
  · rfl
theorem ok_lose {N : zNt} (ok : cOk N) (d s : Int) : cOk (cLoseN N d s) := by
  have hn := ok_n ok
  have hf := ok_fr ok
  unfold cLoseN; split
  · rename_i h
    have hin := cSt_in (N := N) (d := d) (s := s) (by omega)
    have hp := ok_pt ok (j := (d * 6 + s).toNat) (by omega)
    split
    · exact ok_r5 ok _ (by omega) (fun _ => by omega)
    · exact ok_r5 ok _ (by omega) (fun _ => by omega)
  · exact ok
theorem n_lose (N : zNt) (d s : Int) : cLoseN N d s 0 0 = N 0 0 := by
  unfold cLoseN; split
  · split <;> simp [up2]
  · rfl
theorem ok_askL {N : zNt} (ok : cOk N) (d s : Int) : ∀ o : Nat, cOk (cAskL N d s o)
  | 0 => ok
  | o + 1 => ok_ask (ok_askL ok d s o) d s o
theorem n_askL (N : zNt) (d s : Int) : ∀ o : Nat, cAskL N d s o 0 0 = N 0 0
  | 0 => rfl
  | o + 1 => by rw [cAskL, n_ask, n_askL N d s o]
theorem ok_tickS {N : zNt} (ok : cOk N) (d s : Int) : cOk (cTickS N d s) := by
  unfold cTickS; split
  · exact ok_askL (ok_lose ok d s) d s 6
  · exact ok_lose ok d s
theorem n_tickS (N : zNt) (d s : Int) : cTickS N d s 0 0 = N 0 0 := by
  unfold cTickS; split
  · rw [n_askL, n_lose]
  · rw [n_lose]
theorem ok_tickL {N : zNt} (ok : cOk N) (d : Int) : ∀ s : Nat, cOk (cTickL N d s)
  | 0 => ok
  | s + 1 => ok_tickS (ok_tickL ok d s) d s
theorem n_tickL (N : zNt) (d : Int) : ∀ s : Nat, cTickL N d s 0 0 = N 0 0
  | 0 => rfl
  | s + 1 => by rw [cTickL, n_tickS, n_tickL N d s]
theorem ok_tickA {N : zNt} (ok : cOk N) : ∀ d : Nat, cOk (cTickA N d)
  | 0 => ok
  | d + 1 => ok_tickL (ok_tickA ok d) d 6
theorem n_tickA (N : zNt) : ∀ d : Nat, cTickA N d 0 0 = N 0 0
  | 0 => rfl
  | d + 1 => by rw [cTickA, cTickD, n_tickL, n_tickA N d]
theorem ok_passL {N : zNt} (ok : cOk N) : ∀ t : Nat, cOk (cPassL N t)
  | 0 => ok
  | t + 1 => ok_tickA (ok_passL ok t) _
theorem n_passL (N : zNt) : ∀ t : Nat, cPassL N t 0 0 = N 0 0
  | 0 => rfl
  | t + 1 => by rw [cPassL, n_tickA, n_passL N t]
theorem zMask_sil : ∀ u : Nat, u < 64 → ∀ s : Nat, s < 6 → 0 ≤ zAnd u (zXor (zShl 1 s) (-1)) ∧ zAnd u (zXor (zShl 1 s) (-1)) ≤ 63 := by decide +kernel
theorem zMask_wk : ∀ u : Nat, u < 64 → ∀ s : Nat, s < 6 → 0 ≤ zOr u (zShl 1 s) ∧ zOr u (zShl 1 s) ≤ 63 := by decide +kernel
theorem ok_sil {N : zNt} (ok : cOk N) {s : Int} (hs : 0 ≤ s ∧ s < 6) : cOk (cSil N s) := by
  have hu := ok_up ok
  have q := zMask_sil (N 0 1).toNat (by omega) s.toNat (by omega)
  rw [Int.toNat_of_nonneg hu.1, Int.toNat_of_nonneg hs.1] at q
  exact ok_f1 ok q
theorem ok_wk {N : zNt} (ok : cOk N) {s : Int} (hs : 0 ≤ s ∧ s < 6) : cOk (cWk N s) := by
  have hu := ok_up ok
  have q := zMask_wk (N 0 1).toNat (by omega) s.toNat (by omega)
  rw [Int.toNat_of_nonneg hu.1, Int.toNat_of_nonneg hs.1] at q
  exact ok_f1 ok q
theorem cHeld_step {N : zNt} {s i : Int} (h : 0 ≤ i) : cHeld N s (i + 1).toNat = if cSt N i s = 1 then zOr (cHeld N s i.toNat) (zShl 1 (N 2 i.toNat)) else cHeld N s i.toNat := by
  rw [show (i + 1).toNat = i.toNat + 1 by omega, cHeld, Int.toNat_of_nonneg h]
theorem cWkL_step {N : zNt} {s i : Int} (h : 0 ≤ i) : cWkL N s (i + 1).toNat = cWk2 (cWk1 (cWkL N s i.toNat) i s) i s := by
  rw [show (i + 1).toNat = i.toNat + 1 by omega, cWkL, Int.toNat_of_nonneg h]
theorem cAskL_step {N : zNt} {d s i : Int} (h : 0 ≤ i) : cAskL N d s (i + 1).toNat = cAskN (cAskL N d s i.toNat) d s i := by
  rw [show (i + 1).toNat = i.toNat + 1 by omega, cAskL, Int.toNat_of_nonneg h]
theorem cTickL_step {N : zNt} {d i : Int} (h : 0 ≤ i) : cTickL N d (i + 1).toNat = cTickS (cTickL N d i.toNat) d i := by
  rw [show (i + 1).toNat = i.toNat + 1 by omega, cTickL, Int.toNat_of_nonneg h]
theorem cTickA_step {N : zNt} {i : Int} (h : 0 ≤ i) : cTickA N (i + 1).toNat = cTickD (cTickA N i.toNat) i := by
  rw [show (i + 1).toNat = i.toNat + 1 by omega, cTickA, Int.toNat_of_nonneg h]
theorem cPassL_step {N : zNt} {i : Int} (h : 0 ≤ i) : cPassL N (i + 1).toNat = cTickA (cPassL N i.toNat) (N 0 0).toNat := by
  rw [show (i + 1).toNat = i.toNat + 1 by omega, cPassL]
theorem zOr_any {f : Int → Bool} {i acc b : Int} (h0 : 0 ≤ i) (h : acc = if zAny f i.toNat = true then 1 else 0) (hb : b = if f i = true then 1 else 0) : zOr acc b = if zAny f (i + 1).toNat = true then 1 else 0 := by
  rw [show (i + 1).toNat = i.toNat + 1 by omega, zAny, Int.toNat_of_nonneg h0, h, hb]
  cases zAny f i.toNat <;> cases f i <;> decide
