/-! the buffer read by phases (the class) and by descent (the reference) -/
def pH (T : zNt) (i : Int) : Int := tPhL T i.toNat
theorem pH_s {T : zNt} {i : Int} (h : 0 ≤ i) : pH T (i + 1) = tPh (pH T i) (tSg T (i - 1)) (tSg T i) := tPhL_step h
theorem pH_s2 {T : zNt} {i : Int} (h : 0 ≤ i) : pH T (i + 2) = tPh (pH T (i + 1)) (tSg T i) (tSg T (i + 1)) := by
  have q := pH_s (T := T) (i := i + 1) (by omega)
  rw [show i + 1 + 1 = i + 2 by omega, show i + 1 - 1 = i by omega] at q
  exact q
theorem pH_s3 {T : zNt} {i : Int} (h : 0 ≤ i) : pH T (i + 3) = tPh (pH T (i + 2)) (tSg T (i + 1)) (tSg T (i + 2)) := by
  have q := pH_s (T := T) (i := i + 2) (by omega)
  rw [show i + 2 + 1 = i + 3 by omega, show i + 2 - 1 = i + 1 by omega] at q
  exact q
theorem pH_s4 {T : zNt} {i : Int} (h : 0 ≤ i) : pH T (i + 4) = tPh (pH T (i + 3)) (tSg T (i + 2)) (tSg T (i + 3)) := by
  have q := pH_s (T := T) (i := i + 3) (by omega)
  rw [show i + 3 + 1 = i + 4 by omega, show i + 3 - 1 = i + 2 by omega] at q
  exact q
theorem pH_s5 {T : zNt} {i : Int} (h : 0 ≤ i) : pH T (i + 5) = tPh (pH T (i + 4)) (tSg T (i + 3)) (tSg T (i + 4)) := by
  have q := pH_s (T := T) (i := i + 4) (by omega)
  rw [show i + 4 + 1 = i + 5 by omega, show i + 4 - 1 = i + 3 by omega] at q
  exact q
theorem tSg_in {T : zNt} {i : Int} (h : tSg T i ≠ 0) : 0 ≤ i ∧ i < T 0 1 := by
  apply Classical.byContradiction
  intro z
  exact h (if_neg z)
/-- the same text -/
def tX (T N : zNt) : Prop := gTx T N ∧ 0 ≤ N 0 5
theorem tX_S {T N : zNt} (h : tX T N) : rS N = tSg T (N 0 5) := by
  have h2 := h.2
  unfold rS tSg
  rw [← h.1.1]
  by_cases z : N 0 5 < T 0 1
  · rw [if_pos z, if_pos ⟨h.2, z⟩, h.1.2 (N 0 5).toNat (by omega)]
  · rw [if_neg z, if_neg (fun w => z w.2)]
theorem gTx_fr {T N M : zNt} (h : gTx T N) (f : rFr N M) : gTx T M := ⟨by rw [f.1 4 (by decide)]; exact h.1, fun j hj => by rw [f.2 2 j (by decide)]; exact h.2 j hj⟩
theorem rDs_7 (N : zNt) (f : Nat) (m : Int) (hf : f ≠ 5) : rDs N f m 0 5 = N 0 5 + (if rDg N m = -1 then 0 else 1) := by
  unfold rDs
  rw [up2_ne _ _ (fun q => hf q.2.symm)]
  unfold rDgN
  rw [up2_at]
theorem tX_ds {T N : zNt} (h : tX T N) (f : Nat) (m : Int) (hf : f ≠ 5) (hf2 : 5 ≤ f ∧ f ≤ 9) : tX T (rDs N f m) := by
  refine ⟨gTx_fr h.1 (rFr_ds N f m hf2), ?_⟩
  rw [rDs_7 N f m hf]
  have := h.2
  split <;> omega
theorem tX_hd {T N : zNt} (h : tX T N) : tX T (rHd N) := by
  refine ⟨gTx_fr h.1 (rFr_hd N), ?_⟩
  have : rHd N 0 5 = N 0 5 + 1 := up2_at _ _ _ _
  have := h.2
  omega
def aC (x : Int) : Prop := x = 11 ∨ x = 9 ∨ x = 10
def aGood (T : zNt) (p q : Int) : Prop := (p < q ∧ q ≤ T 0 1) ∧ (∀ i, p < i → i ≤ q → pH T i ≠ 0) ∧ aC (pH T q) ∧ (∀ i, p ≤ i → i < q → tSg T i ≠ 59) ∧ (q < T 0 1 → tSg T q ≠ 59 → pH T (q + 1) = 0)
def aBad (T : zNt) (p q : Int) : Prop := (p ≤ q ∧ q ≤ T 0 1) ∧ (∀ i, p < i → i ≤ q → pH T i ≠ 0) ∧ (q < T 0 1 → pH T (q + 1) = 0) ∧ (q = T 0 1 → ¬ aC (pH T q))
def aVal (T : zNt) (p q : Int) (M : zNt) : Prop := M 0 6 = tSg T p ∧ (tSg T p ≠ 116 → M 0 7 = tSg T (p + 1) - 48) ∧ (tSg T p = 121 ∨ tSg T p = 110 ∨ tSg T p = 103 ∨ tSg T p = 97 → M 0 8 = tSg T (p + 2) - 48) ∧ (tSg T p = 97 → M 0 9 = tSg T (p + 3) - 48) ∧ (tSg T p = 116 → M 0 7 = tNum T (p + 1) (q - (p + 1)).toNat)
theorem tPh_1 (b x : Int) : tPh 1 b x = tPK x := rfl
theorem tPh_2 (b x : Int) : tPh 2 b x = if 48 ≤ x ∧ x ≤ 55 then 11 else 0 := rfl
theorem tPh_3 (b x : Int) : tPh 3 b x = if 48 ≤ x ∧ x ≤ 55 then 5 else 0 := rfl
theorem tPh_4 (b x : Int) : tPh 4 b x = if 48 ≤ x ∧ x ≤ 55 then 6 else 0 := rfl
theorem tPh_5 (b x : Int) : tPh 5 b x = if 48 ≤ x ∧ x ≤ 53 then 11 else 0 := rfl
theorem tPh_6 (b x : Int) : tPh 6 b x = if 48 ≤ x ∧ x ≤ 53 then 7 else 0 := rfl
theorem tPh_7 (b x : Int) : tPh 7 b x = if (48 ≤ x ∧ x ≤ 53) ∧ x ≠ b then 11 else 0 := rfl
theorem tPh_8 (b x : Int) : tPh 8 b x = tPF x := rfl
theorem tPh_9 (b x : Int) : tPh 9 b x = if 48 ≤ x ∧ x ≤ 57 then 11 else tPA x := rfl
theorem tPh_10 (b x : Int) : tPh 10 b x = if x = 48 then 11 else tPA x := rfl
theorem tPh_11 (b x : Int) : tPh 11 b x = tPA x := rfl
theorem tPh_0 (b x : Int) : tPh 0 b x = 0 := rfl
theorem tPh_C {c : Int} (b : Int) (h : aC c) : tPh c b 59 = 1 := by
  rcases h with h | h | h <;> subst h <;> rfl
theorem tPA_n {x : Int} (h : x ≠ 59) : tPA x = 0 := if_neg h
theorem rAcN_6 (N : zNt) : rAcN N 0 6 = rS N := by
  unfold rAcN
  have h0 : rHd N 0 6 = rS N := rfl
  split
  · exact (rTiN_6 _).trans h0
  · split
    · rfl
    · split
      · unfold rVN rThN
        (repeat' split) <;> rfl
      · rfl
/-- a letter that begins no action -/
theorem act_0 {T N : zNt} {p : Int} (hp : N 0 5 = p) (h : tX T N) (hl : p ≤ T 0 1) (h1 : pH T p = 1) (hk : tPK (rS N) = 0) (e : rAcN N = up2 N 0 6 (rS N)) : aBad T p (rAcN N 0 5) := by
  have e5 : rAcN N 0 5 = p := by rw [e, ← hp]; exact up2_ne _ _ (by decide)
  have h0 : 0 ≤ p := hp ▸ h.2
  have es : rS N = tSg T p := by rw [← hp]; exact tX_S h
  rw [e5]
  refine ⟨⟨Int.le_refl _, hl⟩, fun i a b => by omega, fun _ => ?_, fun _ => by rw [h1]; unfold aC; decide⟩
  rw [pH_s h0, h1, tPh_1, ← es]
  exact hk
theorem iff_i {i p k : Int} (h : p < i) (h2 : i ≤ p + k) (hk : k ≤ 4) : i = p + 1 ∨ i = p + 2 ∨ i = p + 3 ∨ i = p + 4 := by omega
/-- ticks -/
theorem act_t {T N : zNt} {p : Int} (hp : N 0 5 = p) (h : tX T N) (h1 : pH T p = 1) (hx : rS N = 116) : if rAc N = true then aGood T p (rAcN N 0 5) ∧ aVal T p (rAcN N 0 5) (rAcN N) else aBad T p (rAcN N 0 5) := by
  have h0 : 0 ≤ p := hp ▸ h.2
  have e0 : (116 : Int) = tSg T p := by rw [← hp, ← tX_S h]; exact hx.symm
  have hin := tSg_in (T := T) (i := p) (by rw [← e0]; decide)
  have f1 := pH_s (T := T) h0
  rw [h1, tPh_1, ← e0, show tPK 116 = 8 from rfl] at f1
  have f2 := pH_s2 (T := T) h0
  rw [f1, tPh_8] at f2
  have g := tX_hd h
  have gp : rHd N 0 5 = p + 1 := by rw [← hp]; exact up2_at _ _ _ _
  have e1 := tX_S g
  rw [gp] at e1
  have ea : rAcN N = rTiN (rHd N) := if_pos hx
  have eb : rAc N = decide (rTi (rHd N)) := if_pos hx
  rw [ea, eb]
  by_cases ti : rTi (rHd N)
  · rw [if_pos (decide_eq_true ti)]
    have ti : 49 ≤ tSg T (p + 1) ∧ tSg T (p + 1) ≤ 57 := by rw [← e1]; exact ti
    have hin1 := tSg_in (T := T) (i := p + 1) (by omega)
    have d9 : rDg (rHd N) 9 = tSg T (p + 1) - 48 := by unfold rDg; rw [e1, if_pos (by omega)]
    have g2 := tX_ds g 7 9 (by decide) (by decide)
    have g2p : rDs (rHd N) 7 9 0 5 = p + 2 := by rw [rDs_7 _ _ _ (by decide), d9, if_neg (by omega), gp]; omega
    have e2 := tX_S g2
    rw [g2p] at e2
    have f3 := pH_s3 (T := T) (i := p) (by omega)
    have f4 := pH_s4 (T := T) (i := p) (by omega)
    have fx : (tSg T (p + 1) = 49 ∧ pH T (p + 2) = 9) ∨ (tSg T (p + 1) = 50 ∧ pH T (p + 2) = 10) ∨ (51 ≤ tSg T (p + 1) ∧ pH T (p + 2) = 11) := by
      rw [f2]; unfold tPF
      (repeat' split) <;> omega
    have n1 : tNum T (p + 1) 1 = tSg T (p + 1) - 48 := by
      rw [tNum, tNum]; rw [show p + 1 + ((0 : Nat) : Int) = p + 1 by omega]; omega
    have n2 : tNum T (p + 1) 2 = 10 * (tSg T (p + 1) - 48) + (tSg T (p + 2) - 48) := by
      rw [tNum, n1]; rw [show p + 1 + ((1 : Nat) : Int) = p + 2 by omega]
    have e6 : rTiN (rHd N) 0 6 = tSg T p := (rTiN_6 _).trans (by rw [← e0]; exact hx)
    by_cases c : (48 ≤ rS (rDs (rHd N) 7 9) ∧ rS (rDs (rHd N) 7 9) ≤ 57) ∧ 10 * rDg (rHd N) 9 + rS (rDs (rHd N) 7 9) - 48 ≤ 20
    · have er : rTiN (rHd N) = up2 (rDgN (rDs (rHd N) 7 9) 9) 0 7 (10 * rDg (rHd N) 9 + rDg (rDs (rHd N) 7 9) 9) := by
        unfold rTiN
        rw [if_neg (fun z => z (by rw [e1]; exact ti)), if_pos c]
      rw [e2, d9] at c
      have hin2 := tSg_in (T := T) (i := p + 2) (by omega)
      have d9b : rDg (rDs (rHd N) 7 9) 9 = tSg T (p + 2) - 48 := by unfold rDg; rw [e2, if_pos (by omega)]
      have e5 : rTiN (rHd N) 0 5 = p + 3 := by
        rw [er, up2_ne _ _ (by decide)]; unfold rDgN; rw [up2_at, d9b, if_neg (by omega), g2p]; omega
      have e7 : rTiN (rHd N) 0 7 = 10 * (tSg T (p + 1) - 48) + (tSg T (p + 2) - 48) := by rw [er, up2_at, d9, d9b]
      have f33 : pH T (p + 3) = 11 := by
        rcases fx with ⟨a, b⟩ | ⟨a, b⟩ | ⟨a, b⟩
        · rw [f3, b, tPh_9, if_pos (by omega)]
        · rw [f3, b, tPh_10, if_pos (by omega)]
        · omega
      rw [f33, tPh_11] at f4
      rw [e5]
      refine ⟨⟨⟨by omega, by omega⟩, fun i a b => ?_, Or.inl f33, fun i a b => ?_, fun a b => ?_⟩, e6, fun z => absurd e0.symm z, fun z => by omega, fun z => by omega, fun _ => ?_⟩
      · rcases (show i = p + 1 ∨ i = p + 2 ∨ i = p + 3 by omega) with z | z | z <;> subst z
        · rw [f1]; decide
        · omega
        · omega
      · rcases (show i = p ∨ i = p + 1 ∨ i = p + 2 by omega) with z | z | z <;> subst z <;> omega
      · rw [show p + 3 + 1 = p + 4 by omega, f4]; exact tPA_n b
      · rw [e7, show (p + 3 - (p + 1)).toNat = 2 by omega, n2]
    · have er : rTiN (rHd N) = rDs (rHd N) 7 9 := by
        unfold rTiN
        rw [if_neg (fun z => z (by rw [e1]; exact ti)), if_neg c]
      rw [e2, d9] at c
      have e5 : rTiN (rHd N) 0 5 = p + 2 := by rw [er]; exact g2p
      have e7 : rTiN (rHd N) 0 7 = tSg T (p + 1) - 48 := by rw [er, ← d9]; exact up2_at _ _ _ _
      rw [e5]
      refine ⟨⟨⟨by omega, by omega⟩, fun i a b => ?_, ?_, fun i a b => ?_, fun a b => ?_⟩, e6, fun z => absurd e0.symm z, fun z => by omega, fun z => by omega, fun _ => ?_⟩
      · rcases (show i = p + 1 ∨ i = p + 2 by omega) with z | z <;> subst z
        · rw [f1]; decide
        · omega
      · unfold aC; omega
      · rcases (show i = p ∨ i = p + 1 by omega) with z | z <;> subst z <;> omega
      · rw [show p + 2 + 1 = p + 3 by omega, f3]
        rcases fx with ⟨x, y⟩ | ⟨x, y⟩ | ⟨x, y⟩ <;> rw [y]
        · rw [tPh_9, if_neg (by omega)]; exact tPA_n b
        · rw [tPh_10, if_neg (by omega)]; exact tPA_n b
        · rw [tPh_11]; exact tPA_n b
      · rw [e7, show (p + 2 - (p + 1)).toNat = 1 by omega, n1]
  · rw [if_neg (fun z => ti (of_decide_eq_true z))]
    have er : rTiN (rHd N) = rHd N := by
      unfold rTiN
      rw [if_pos ti]
    rw [er, gp]
    have ti : ¬ (49 ≤ tSg T (p + 1) ∧ tSg T (p + 1) ≤ 57) := by rw [← e1]; exact ti
    refine ⟨⟨by omega, by omega⟩, fun i a b => ?_, fun a => ?_, fun a => ?_⟩
    · rw [show i = p + 1 by omega, f1]; decide
    · rw [show p + 1 + 1 = p + 2 by omega, f2]
      unfold tPF
      (repeat' split) <;> omega
    · rw [f1]; unfold aC; decide
/-- sites -/
theorem act_x {T N : zNt} {p : Int} (hp : N 0 5 = p) (h : tX T N) (h1 : pH T p = 1) (hx : rS N = 120 ∨ rS N = 117) : if rAc N = true then aGood T p (rAcN N 0 5) ∧ aVal T p (rAcN N 0 5) (rAcN N) else aBad T p (rAcN N 0 5) := by
  have h0 : 0 ≤ p := hp ▸ h.2
  have e0 : rS N = tSg T p := by rw [← hp]; exact tX_S h
  have hin := tSg_in (T := T) (i := p) (by rw [← e0]; omega)
  have f1 := pH_s (T := T) h0
  rw [h1, tPh_1, ← e0, show tPK (rS N) = 5 from by rcases hx with z | z <;> rw [z] <;> rfl] at f1
  have f2 := pH_s2 (T := T) h0
  rw [f1, tPh_5] at f2
  have f3 := pH_s3 (T := T) h0
  have g := tX_hd h
  have gp : rHd N 0 5 = p + 1 := by rw [← hp]; exact up2_at _ _ _ _
  have e1 := tX_S g
  rw [gp] at e1
  have ea : rAcN N = rDs (rHd N) 7 5 := by unfold rAcN; rw [if_neg (by omega), if_pos hx]
  have eb : rAc N = decide (rDg (rHd N) 5 ≠ -1) := by unfold rAc; rw [if_neg (by omega), if_pos hx]
  have e6 : rAcN N 0 6 = tSg T p := (rAcN_6 N).trans e0
  rw [ea] at e6
  rw [ea, eb, rDs_7 _ _ _ (by decide), gp]
  by_cases ti : 48 ≤ tSg T (p + 1) ∧ tSg T (p + 1) ≤ 53
  · have hin1 := tSg_in (T := T) (i := p + 1) (by omega)
    have d : rDg (rHd N) 5 = tSg T (p + 1) - 48 := by unfold rDg; rw [e1, if_pos (by omega)]
    rw [if_pos ti] at f2
    rw [f2, tPh_11] at f3
    rw [d, if_pos (decide_eq_true (by omega)), if_neg (by omega), show p + 1 + 1 = p + 2 by omega]
    refine ⟨⟨⟨by omega, by omega⟩, fun i a b => ?_, Or.inl f2, fun i a b => ?_, fun a b => ?_⟩, e6, fun z => ?_, fun z => by omega, fun z => by omega, fun z => by omega⟩
    · rcases (show i = p + 1 ∨ i = p + 2 by omega) with z | z <;> subst z <;> omega
    · rcases (show i = p ∨ i = p + 1 by omega) with z | z <;> subst z <;> omega
    · rw [show p + 2 + 1 = p + 3 by omega, f3]; exact tPA_n b
    · rw [← d]; exact up2_at _ _ _ _
  · have d : rDg (rHd N) 5 = -1 := by unfold rDg; rw [e1, if_neg (by omega)]
    rw [if_neg ti] at f2
    rw [d, if_neg (by decide), if_pos rfl, Int.add_zero]
    refine ⟨⟨by omega, by omega⟩, fun i a b => ?_, fun a => ?_, fun a => ?_⟩
    · rw [show i = p + 1 by omega, f1]; decide
    · rw [show p + 1 + 1 = p + 2 by omega, f2]
    · rw [f1]; unfold aC; decide
/-- deals -/
theorem act_v {T N : zNt} {p : Int} (hp : N 0 5 = p) (h : tX T N) (h1 : pH T p = 1) (hx : rS N = 121 ∨ rS N = 110 ∨ rS N = 100 ∨ rS N = 103 ∨ rS N = 97) : if rAc N = true then aGood T p (rAcN N 0 5) ∧ aVal T p (rAcN N 0 5) (rAcN N) else aBad T p (rAcN N 0 5) := by
  have h0 : 0 ≤ p := hp ▸ h.2
  have e0 : rS N = tSg T p := by rw [← hp]; exact tX_S h
  have hin := tSg_in (T := T) (i := p) (by rw [← e0]; omega)
  have f1 := pH_s (T := T) h0
  rw [h1, tPh_1, ← e0] at f1
  have fx : (rS N = 100 ∧ pH T (p + 1) = 2) ∨ (rS N = 97 ∧ pH T (p + 1) = 4) ∨ ((rS N = 121 ∨ rS N = 110 ∨ rS N = 103) ∧ pH T (p + 1) = 3) := by
    rw [f1]
    rcases hx with z | z | z | z | z <;> rw [z] <;> decide
  have f2 := pH_s2 (T := T) h0
  have f3 := pH_s3 (T := T) h0
  have f4 := pH_s4 (T := T) h0
  have f5 := pH_s5 (T := T) h0
  have g := tX_hd h
  have gp : rHd N 0 5 = p + 1 := by rw [← hp]; exact up2_at _ _ _ _
  have e1 := tX_S g
  rw [gp] at e1
  have g1 := tX_ds g 7 7 (by decide) (by decide)
  have g2 := tX_ds g1 8 5 (by decide) (by decide)
  have ea : rAcN N = rVN (rS N) (rHd N) := by unfold rAcN; rw [if_neg (by omega), if_neg (by omega), if_pos hx]
  have eb : rAc N = rVc (rS N) (rHd N) := by unfold rAc; rw [if_neg (by omega), if_neg (by omega), if_pos hx]
  have e6 : rAcN N 0 6 = tSg T p := (rAcN_6 N).trans e0
  rw [ea] at e6
  rw [ea, eb]
  by_cases t1 : 48 ≤ tSg T (p + 1) ∧ tSg T (p + 1) ≤ 55
  · have hin1 := tSg_in (T := T) (i := p + 1) (by omega)
    have d1 : rDg (rHd N) 7 = tSg T (p + 1) - 48 := by unfold rDg; rw [e1, if_pos (by omega)]
    have p1 : rDs (rHd N) 7 7 0 5 = p + 2 := by rw [rDs_7 _ _ _ (by decide), d1, if_neg (by omega), gp]; omega
    have v1 : rDs (rHd N) 7 7 0 7 = tSg T (p + 1) - 48 := by rw [← d1]; exact up2_at _ _ _ _
    by_cases c100 : rS N = 100
    · have er : rVN (rS N) (rHd N) = rDs (rHd N) 7 7 := by unfold rVN; rw [if_pos (Or.inr c100)]
      have ec : rVc (rS N) (rHd N) = true := by unfold rVc; rw [if_pos (Or.inr c100), d1]; exact decide_eq_true (by omega)
      have q1 : pH T (p + 1) = 2 := by omega
      rw [q1, tPh_2, if_pos t1] at f2
      rw [f2, tPh_11] at f3
      rw [er] at e6
      rw [er, ec, if_pos rfl, p1]
      refine ⟨⟨⟨by omega, by omega⟩, fun i a b => ?_, Or.inl f2, fun i a b => ?_, fun a b => ?_⟩, e6, fun z => v1, fun z => by omega, fun z => by omega, fun z => by omega⟩
      · rcases (show i = p + 1 ∨ i = p + 2 by omega) with z | z <;> subst z <;> omega
      · rcases (show i = p ∨ i = p + 1 by omega) with z | z <;> subst z <;> omega
      · rw [show p + 2 + 1 = p + 3 by omega, f3]; exact tPA_n b
    · have e2 := tX_S g1
      rw [p1] at e2
      by_cases t2 : 48 ≤ tSg T (p + 2) ∧ tSg T (p + 2) ≤ 53
      · have hin2 := tSg_in (T := T) (i := p + 2) (by omega)
        have d2 : rDg (rDs (rHd N) 7 7) 5 = tSg T (p + 2) - 48 := by unfold rDg; rw [e2, if_pos (by omega)]
        have p2 : rDs (rDs (rHd N) 7 7) 8 5 0 5 = p + 3 := by rw [rDs_7 _ _ _ (by decide), d2, if_neg (by omega), p1]; omega
        have v2 : rDs (rDs (rHd N) 7 7) 8 5 0 8 = tSg T (p + 2) - 48 := by rw [← d2]; exact up2_at _ _ _ _
        have v12 : rDs (rDs (rHd N) 7 7) 8 5 0 7 = tSg T (p + 1) - 48 := v1
        by_cases c97 : rS N = 97
        · have q1 : pH T (p + 1) = 4 := by omega
          rw [q1, tPh_4, if_pos t1] at f2
          rw [f2, tPh_6, if_pos t2] at f3
          rw [f3, tPh_7] at f4
          have e3 := tX_S g2
          rw [p2] at e3
          have er : rVN (rS N) (rHd N) = rThN (rDs (rDs (rHd N) 7 7) 8 5) (rDg (rDs (rHd N) 7 7) 5) := by unfold rVN; rw [if_neg (by rw [d1]; omega), if_neg (by rw [d2]; omega)]
          have ec : rVc (rS N) (rHd N) = decide (¬ rS (rDs (rDs (rHd N) 7 7) 8 5) - 48 = rDg (rDs (rHd N) 7 7) 5 ∧ rDg (rDs (rDs (rHd N) 7 7) 8 5) 5 ≠ -1) := by unfold rVc; rw [if_neg (by rw [d1]; omega), if_neg (by rw [d2]; omega)]
          by_cases t3 : (48 ≤ tSg T (p + 3) ∧ tSg T (p + 3) ≤ 53) ∧ tSg T (p + 3) ≠ tSg T (p + 2)
          · have hin3 := tSg_in (T := T) (i := p + 3) (by omega)
            have d3 : rDg (rDs (rDs (rHd N) 7 7) 8 5) 5 = tSg T (p + 3) - 48 := by unfold rDg; rw [e3, if_pos (by omega)]
            have er2 : rVN (rS N) (rHd N) = rDs (rDs (rDs (rHd N) 7 7) 8 5) 9 5 := by rw [er]; unfold rThN; rw [if_neg (by rw [e3, d2]; omega)]
            have p3 : rDs (rDs (rDs (rHd N) 7 7) 8 5) 9 5 0 5 = p + 4 := by rw [rDs_7 _ _ _ (by decide), d3, if_neg (by omega), p2]; omega
            have v3 : rDs (rDs (rDs (rHd N) 7 7) 8 5) 9 5 0 9 = tSg T (p + 3) - 48 := by rw [← d3]; exact up2_at _ _ _ _
            rw [if_pos t3] at f4
            rw [f4, tPh_11] at f5
            rw [er2] at e6
            rw [er2, ec, if_pos (decide_eq_true ⟨by rw [e3, d2]; omega, by rw [d3]; omega⟩), p3]
            refine ⟨⟨⟨by omega, by omega⟩, fun i a b => ?_, Or.inl f4, fun i a b => ?_, fun a b => ?_⟩, e6, fun z => v12, fun z => v2, fun z => v3, fun z => by omega⟩
            · rcases (show i = p + 1 ∨ i = p + 2 ∨ i = p + 3 ∨ i = p + 4 by omega) with z | z | z | z <;> subst z <;> omega
            · rcases (show i = p ∨ i = p + 1 ∨ i = p + 2 ∨ i = p + 3 by omega) with z | z | z | z <;> subst z <;> omega
            · rw [show p + 4 + 1 = p + 5 by omega, f5]; exact tPA_n b
          · have p3 : rVN (rS N) (rHd N) 0 5 = p + 3 := by
              rw [er]; unfold rThN
              split
              · rw [up2_ne _ _ (by decide)]; exact p2
              · rename_i w
                have d3 : rDg (rDs (rDs (rHd N) 7 7) 8 5) 5 = -1 := by unfold rDg; rw [e3] at w ⊢; rw [d2] at w; rw [if_neg (by omega)]
                rw [rDs_7 _ _ _ (by decide), d3, if_pos rfl, p2]; omega
            have nc : ¬ (¬ rS (rDs (rDs (rHd N) 7 7) 8 5) - 48 = rDg (rDs (rHd N) 7 7) 5 ∧ rDg (rDs (rDs (rHd N) 7 7) 8 5) 5 ≠ -1) := fun w => by
              obtain ⟨w1, w2⟩ := w
              rw [e3, d2] at w1
              unfold rDg at w2
              rw [e3] at w2
              split at w2
              · exact t3 (by omega)
              · exact w2 rfl
            rw [if_neg t3] at f4
            rw [ec, if_neg (fun w => nc (of_decide_eq_true w)), p3]
            refine ⟨⟨by omega, by omega⟩, fun i a b => ?_, fun a => ?_, fun a => ?_⟩
            · rcases (show i = p + 1 ∨ i = p + 2 ∨ i = p + 3 by omega) with z | z | z <;> subst z <;> omega
            · rw [show p + 3 + 1 = p + 4 by omega, f4]
            · rw [f3]; unfold aC; decide
        · have q1 : pH T (p + 1) = 3 := by omega
          rw [q1, tPh_3, if_pos t1] at f2
          rw [f2, tPh_5, if_pos t2] at f3
          rw [f3, tPh_11] at f4
          have er : rVN (rS N) (rHd N) = rDs (rDs (rHd N) 7 7) 8 5 := by unfold rVN; rw [if_neg (by rw [d1]; omega), if_pos (Or.inr c97)]
          have ec : rVc (rS N) (rHd N) = true := by unfold rVc; rw [if_neg (by rw [d1]; omega), if_pos (Or.inr c97), d2]; exact decide_eq_true (by omega)
          rw [er] at e6
          rw [er, ec, if_pos rfl, p2]
          refine ⟨⟨⟨by omega, by omega⟩, fun i a b => ?_, Or.inl f3, fun i a b => ?_, fun a b => ?_⟩, e6, fun z => v12, fun z => v2, fun z => by omega, fun z => by omega⟩
          · rcases (show i = p + 1 ∨ i = p + 2 ∨ i = p + 3 by omega) with z | z | z <;> subst z <;> omega
          · rcases (show i = p ∨ i = p + 1 ∨ i = p + 2 by omega) with z | z | z <;> subst z <;> omega
          · rw [show p + 3 + 1 = p + 4 by omega, f4]; exact tPA_n b
      · have d2 : rDg (rDs (rHd N) 7 7) 5 = -1 := by unfold rDg; rw [e2, if_neg (by omega)]
        have er : rVN (rS N) (rHd N) = rDs (rDs (rHd N) 7 7) 8 5 := by unfold rVN; rw [if_neg (by rw [d1]; omega), if_pos (Or.inl d2)]
        have ec : rVc (rS N) (rHd N) = false := by unfold rVc; rw [if_neg (by rw [d1]; omega), if_pos (Or.inl d2), d2]; rfl
        have p2 : rDs (rDs (rHd N) 7 7) 8 5 0 5 = p + 2 := by rw [rDs_7 _ _ _ (by decide), d2, if_pos rfl, p1]; omega
        have fz : (pH T (p + 2) = 5 ∨ pH T (p + 2) = 6) ∧ pH T (p + 3) = 0 := by
          rcases fx with ⟨a, b⟩ | ⟨a, b⟩ | ⟨a, b⟩
          · exact absurd a c100
          · rw [b, tPh_4, if_pos t1] at f2; rw [f2, tPh_6, if_neg t2] at f3; exact ⟨Or.inr f2, f3⟩
          · rw [b, tPh_3, if_pos t1] at f2; rw [f2, tPh_5, if_neg t2] at f3; exact ⟨Or.inl f2, f3⟩
        rw [er, ec, if_neg (by decide), p2]
        refine ⟨⟨by omega, by omega⟩, fun i a b => ?_, fun a => ?_, fun a => ?_⟩
        · rcases (show i = p + 1 ∨ i = p + 2 by omega) with z | z <;> subst z <;> omega
        · rw [show p + 2 + 1 = p + 3 by omega]; exact fz.2
        · unfold aC; omega
  · have d1 : rDg (rHd N) 7 = -1 := by unfold rDg; rw [e1, if_neg (by omega)]
    have er : rVN (rS N) (rHd N) = rDs (rHd N) 7 7 := by unfold rVN; rw [if_pos (Or.inl d1)]
    have ec : rVc (rS N) (rHd N) = false := by unfold rVc; rw [if_pos (Or.inl d1), d1]; rfl
    have p1 : rDs (rHd N) 7 7 0 5 = p + 1 := by rw [rDs_7 _ _ _ (by decide), d1, if_pos rfl, gp]; omega
    have fz : (pH T (p + 1) = 2 ∨ pH T (p + 1) = 3 ∨ pH T (p + 1) = 4) ∧ pH T (p + 2) = 0 := by
      rcases fx with ⟨a, b⟩ | ⟨a, b⟩ | ⟨a, b⟩
      · rw [b, tPh_2, if_neg t1] at f2; exact ⟨by omega, f2⟩
      · rw [b, tPh_4, if_neg t1] at f2; exact ⟨by omega, f2⟩
      · rw [b, tPh_3, if_neg t1] at f2; exact ⟨by omega, f2⟩
    rw [er, ec, if_neg (by decide), p1]
    refine ⟨⟨by omega, by omega⟩, fun i a b => ?_, fun a => ?_, fun a => ?_⟩
    · rw [show i = p + 1 by omega]; omega
    · rw [show p + 1 + 1 = p + 2 by omega]; exact fz.2
    · unfold aC; omega
/-- one action: the class's phases and the reference's descent -/
theorem act {T N : zNt} {p : Int} (hp : N 0 5 = p) (h : tX T N) (hl : p ≤ T 0 1) (h1 : pH T p = 1) : if rAc N = true then aGood T p (rAcN N 0 5) ∧ aVal T p (rAcN N 0 5) (rAcN N) else aBad T p (rAcN N 0 5) := by
  by_cases c1 : rS N = 116
  · exact act_t hp h h1 c1
  · by_cases c2 : rS N = 120 ∨ rS N = 117
    · exact act_x hp h h1 c2
    · by_cases c3 : rS N = 121 ∨ rS N = 110 ∨ rS N = 100 ∨ rS N = 103 ∨ rS N = 97
      · exact act_v hp h h1 c3
      · have ec : rAc N = false := by unfold rAc; rw [if_neg c1, if_neg c2, if_neg c3]
        rw [ec, if_neg (by decide)]
        refine act_0 hp h hl h1 ?_ (by unfold rAcN; rw [if_neg c1, if_neg c2, if_neg c3])
        unfold tPK
        rw [if_neg (by omega), if_neg (by omega), if_neg (by omega), if_neg (by omega), if_neg (by omega)]
/-- the whole text -/
theorem pH_0s {T : zNt} {i : Int} (h : 0 ≤ i) (h0 : pH T i = 0) : ∀ k : Nat, pH T (i + k) = 0
  | 0 => by rw [show i + ((0 : Nat) : Int) = i by omega]; exact h0
  | k + 1 => by
    have q := pH_0s h h0 k
    rw [show i + ((k + 1 : Nat) : Int) = (i + k) + 1 by omega, pH_s (by omega), q, tPh_0]
theorem zFind_first {f : Int → Bool} {n q : Nat} (hq : q < n) (h : ∀ i : Nat, i < q → f i = false) (hf : f q = true) : zFind f n = q := by
  have h0 : zFind f (q : Int).toNat = -1 := zFind_none (fun i hi => h i (by omega))
  have := zFind_hit (f := f) (i := (q : Int)) (n := (n : Int)) (by omega) (by omega) h0 hf
  exact this
theorem tErr_at {T : zNt} {q : Int} (h0 : 0 ≤ q) (hq : q ≤ T 0 1) (ha : ∀ i, 0 < i → i ≤ q → pH T i ≠ 0) (hb : q < T 0 1 → pH T (q + 1) = 0) : tErr T = q := by
  unfold tErr
  by_cases z : q < T 0 1
  · have e : zFind (fun i => decide (tPhL T (i + 1).toNat = 0)) (T 0 1).toNat = q.toNat := by
      refine zFind_first (by omega) (fun i hi => decide_eq_false (ha ((i : Int) + 1) (by omega) (by omega))) (decide_eq_true ?_)
      have w := hb z
      rw [show (q.toNat : Int) = q by omega]
      exact w
    rw [e, if_neg (by omega)]; omega
  · have e : zFind (fun i => decide (tPhL T (i + 1).toNat = 0)) (T 0 1).toNat = -1 := zFind_none (fun i hi => decide_eq_false (ha ((i : Int) + 1) (by omega) (by omega)))
    rw [e, if_pos rfl]; omega
theorem tCom_iff (T : zNt) : tCom T ↔ aC (pH T (T 0 1)) := Iff.rfl
theorem bad_com {T : zNt} {p q : Int} (h0 : 0 ≤ p) (h : aBad T p q) : ¬ aC (pH T (T 0 1)) := by
  obtain ⟨⟨a, b⟩, -, c, d⟩ := h
  by_cases z : q < T 0 1
  · have w := pH_0s (T := T) (i := q + 1) (by omega) (c z) (T 0 1 - (q + 1)).toNat
    rw [show q + 1 + (((T 0 1 - (q + 1)).toNat : Nat) : Int) = T 0 1 by omega] at w
    rw [w]; unfold aC; decide
  · have e : q = T 0 1 := by omega
    rw [← e]; exact d e
theorem tX_ac {T N : zNt} (h : tX T N) : tX T (rAcN N) := ⟨gTx_fr h.1 (rFr_ac N), Int.le_trans h.2 (rAcN_5 N)⟩
theorem tX_tk {T N : zNt} (h : tX T N) (x : Int) : tX T (rTk N x) := ⟨gTx_fr h.1 (rFr_tk N x), Int.le_trans h.2 (rTk_5 N x)⟩
/-- a separator behind an action -/
theorem good_sep {T : zNt} {p q : Int} (h0 : 0 ≤ p) (h : aGood T p q) (hs : tSg T q = 59) : pH T (q + 1) = 1 := by
  rw [pH_s (by have := h.1; omega), hs]
  exact tPh_C _ h.2.2.1
theorem rAA_spec {T : zNt} : ∀ (f : Nat) (N : zNt), tX T N → N 0 5 ≤ T 0 1 → pH T (N 0 5) = 1 → (∀ i, 0 < i → i ≤ N 0 5 → pH T i ≠ 0) → T 0 1 - N 0 5 < f → ((rAA f N).1 = true ↔ tCom T) ∧ (rAA f N).2 0 5 = tErr T
  | 0, N, h, hl, h1, ha, hf => by omega
  | f + 1, N, h, hl, h1, ha, hf => by
    have q := act rfl h hl h1
    rw [rAA]
    by_cases c : rAc N = true
    · rw [if_pos c] at q
      rw [if_pos c]
      obtain ⟨q, -⟩ := q
      have e4 : rAcN N 0 4 = T 0 1 := by rw [rAcN_4]; exact h.1.1.symm
      have hall : ∀ i, 0 < i → i ≤ rAcN N 0 5 → pH T i ≠ 0 := fun i a b => by
        by_cases z : i ≤ N 0 5
        · exact ha i a z
        · exact q.2.1 i (by omega) b
      have es := tX_S (tX_ac h)
      by_cases d : rAcN N 0 5 = rAcN N 0 4
      · rw [if_pos d]
        rw [e4] at d
        refine ⟨⟨fun _ => ?_, fun _ => rfl⟩, ?_⟩
        · rw [tCom_iff, ← d]; exact q.2.2.1
        · exact (tErr_at (by have := h.2; have := q.1; omega) (by omega) hall (by omega)).symm
      · rw [if_neg d]
        rw [e4] at d
        have hlt : rAcN N 0 5 < T 0 1 := by have := q.1; omega
        by_cases s : rS (rAcN N) = 59
        · rw [if_pos s]
          have e5 : rTk (rAcN N) 59 0 5 = rAcN N 0 5 + 1 := by rw [rTk_yes s]; exact up2_at _ _ _ _
          have e1 := good_sep h.2 q (es.symm.trans s)
          refine rAA_spec f _ (tX_tk (tX_ac h) 59) (by omega) (by rw [e5]; exact e1) (fun i a b => ?_) (by have := q.1; omega)
          by_cases z : i ≤ rAcN N 0 5
          · exact hall i a z
          · rw [show i = rAcN N 0 5 + 1 by omega, e1]; decide
        · rw [if_neg s]
          have hb := q.2.2.2.2 hlt (fun z => s (es.trans z))
          have hbad : aBad T (N 0 5) (rAcN N 0 5) := ⟨⟨by have := q.1; omega, by omega⟩, q.2.1, fun _ => hb, fun z => by omega⟩
          refine ⟨⟨fun z => absurd (show false = true from z) (by decide), fun z => absurd z (bad_com h.2 hbad)⟩, ?_⟩
          exact (tErr_at (by have := h.2; have := q.1; omega) (by omega) hall (fun _ => hb)).symm
    · rw [if_neg c] at q
      rw [if_neg c]
      refine ⟨⟨fun z => absurd (show false = true from z) (by decide), fun z => absurd z (bad_com h.2 q)⟩, ?_⟩
      refine (tErr_at (by have := h.2; have := q.1; omega) q.1.2 (fun i a b => ?_) q.2.2.1).symm
      by_cases z : i ≤ N 0 5
      · exact ha i a z
      · exact q.2.1 i (by omega) b
/-- firstError, and whether the text is complete -/
theorem aa_all {T N : zNt} (tk : tOk T) (g : gTx T N) (h5 : N 0 5 = 0) : ((rAA 61 N).1 = true ↔ tCom T) ∧ (rAA 61 N).2 0 5 = tErr T := by
  have := tk.1
  exact rAA_spec 61 N ⟨g, by omega⟩ (by omega) (by rw [h5]; rfl) (fun i a b => by omega) (by omega)
