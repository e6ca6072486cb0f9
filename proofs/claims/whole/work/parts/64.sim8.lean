theorem zFind_cg {f g : Int → Bool} (n : Nat) (h : ∀ i : Nat, f i = g i) : zFind f n = zFind g n := by
  induction n with
  | zero => rfl
  | succ n ih => rw [zFind, zFind, ih, h n]
theorem nr_open {A B : zNt} (h : nRel A B) (d : Int) : cOpen A d ↔ cOpen B d := by
  have e : zAny (fun s => decide (cSt A d s = 0 ∨ cSt A d s = 1)) 6 = zAny (fun s => decide (cSt B d s = 0 ∨ cSt B d s = 1)) 6 := zAny_cg 6 (fun i _ => by
    show decide (cSt A d i = 0 ∨ cSt A d i = 1) = decide (cSt B d i = 0 ∨ cSt B d i = 1)
    rw [nr_st h])
  exact ⟨fun z => e.symm.trans z, fun z => e.trans z⟩
theorem nr_opens {A B : zNt} (h : nRel A B) : cOpens A = cOpens B := by
  unfold cOpens
  rw [← nr_n h]
  exact zSum_cg (fun i _ => if_congr_i (nr_open h i))
theorem nr_help {A B : zNt} (h : nRel A B) (d s : Int) : cHelp A d s = cHelp B d s := by
  unfold cHelp
  refine zFind_cg 6 (fun i => decide_eq_decide.mpr ?_)
  rw [nr_canAsk h, nr_lead h]
  show (((i : Int) = cLead B d ∨ cAns (cSt A d i)) ∧ _) ↔ _
  rw [nr_st h]
theorem nr_stuck {A B : zNt} (h : nRel A B) (d : Int) : cStuck A d ↔ cStuck B d := by
  have e1 : zAny (fun s => decide (cHelp A d s ≠ -1)) 6 = zAny (fun s => decide (cHelp B d s ≠ -1)) 6 := zAny_cg 6 (fun i _ => by
    show decide (cHelp A d i ≠ -1) = decide (cHelp B d i ≠ -1)
    rw [nr_help h])
  have e2 : zAny (fun s => decide (cUp A s ∧ cSt A d s = 1)) 6 = zAny (fun s => decide (cUp B s ∧ cSt B d s = 1)) 6 := zAny_cg 6 (fun i _ => decide_eq_decide.mpr (by rw [nr_up h, nr_st h]))
  exact ⟨fun z => ⟨e1.symm.trans z.1, e2.symm.trans z.2⟩, fun z => ⟨e1.trans z.1, e2.trans z.2⟩⟩
theorem nr_stucks {A B : zNt} (h : nRel A B) : cStucks A = cStucks B := by
  unfold cStucks
  rw [← nr_n h]
  exact zSum_cg (fun i _ => if_congr_i (nr_stuck h i))
theorem nr_hsL {A B : zNt} (h : nRel A B) (s : Int) (g : Int64) : ∀ i : Nat, cHsL A s g i = cHsL B s g i
  | 0 => rfl
  | i + 1 => by rw [cHsL, cHsL, nr_hsL h s g i, nr_entry h]
theorem nr_hs {A B : zNt} (h : nRel A B) (hn : 0 ≤ A 0 0) (g : Int64) (s : Int) : cHs A g s = cHs B g s := by
  have e : (if cUp A s then (1 : Int) else 0) = if cUp B s then 1 else 0 := if_congr_i (nr_up h s)
  unfold cHs
  rw [nr_hsL h, nr_ent h, nr_held h s _ (by omega), nr_n h, e]
theorem nr_hdL {A B : zNt} (h : nRel A B) (d : Int) (g : Int64) : ∀ i : Nat, cHdL A d g i = cHdL B d g i
  | 0 => rfl
  | i + 1 => by rw [cHdL, cHdL, nr_hdL h d g i, nr_st h, nr_pat h, nr_help h]
theorem nr_hl1 {A B : zNt} (h : nRel A B) (hn : 0 ≤ A 0 0) (g : Int64) : ∀ i : Nat, cHL1 A g i = cHL1 B g i
  | 0 => rfl
  | i + 1 => by rw [cHL1, cHL1, nr_hl1 h hn g i, nr_hs h hn]
theorem nr_hl2 {A B : zNt} (h : nRel A B) (g : Int64) : ∀ i : Nat, cHL2 A g i = cHL2 B g i
  | 0 => rfl
  | i + 1 => by
    rw [cHL2, cHL2, nr_hl2 h g i]
    unfold cHd
    rw [nr_hdL h, nr_lead h, nr_dec h]
theorem nr_hash {A B : zNt} (h : nRel A B) (hn : 0 ≤ A 0 0) : cHash A = cHash B := by
  unfold cHash
  rw [nr_hl2 h, nr_hl1 h hn, nr_opens h, nr_stucks h, nr_n h, nr_0 h (j := 2) (by decide)]
/-- a sum over all places, deal by deal -/
theorem zSum_flat (g : Int → Int → Int) : ∀ n : Nat, zSum (fun k => g (k / 6) (k % 6)) (6 * n) = zSum (fun d => zSum (fun s => g d s) 6) n
  | 0 => rfl
  | n + 1 => by
    have e : ∀ i : Nat, i < 6 → g (((6 * n + i : Nat) : Int) / 6) (((6 * n + i : Nat) : Int) % 6) = g n i := fun i hi => by
      rw [show ((6 * n + i : Nat) : Int) / 6 = n by omega, show ((6 * n + i : Nat) : Int) % 6 = i by omega]
    rw [show 6 * (n + 1) = 6 * n + 5 + 1 by omega, zSum, show 6 * n + 5 = 6 * n + 4 + 1 by omega, zSum, show 6 * n + 4 = 6 * n + 3 + 1 by omega, zSum, show 6 * n + 3 = 6 * n + 2 + 1 by omega, zSum, show 6 * n + 2 = 6 * n + 1 + 1 by omega, zSum, zSum, zSum_flat g n]
    have q0 := e 0 (by decide)
    have q1 := e 1 (by decide)
    have q2 : g (((6 * n + 1 + 1 : Nat) : Int) / 6) (((6 * n + 1 + 1 : Nat) : Int) % 6) = g n ((2 : Nat) : Int) := e 2 (by decide)
    have q3 : g (((6 * n + 1 + 1 + 1 : Nat) : Int) / 6) (((6 * n + 1 + 1 + 1 : Nat) : Int) % 6) = g n ((3 : Nat) : Int) := e 3 (by decide)
    have q4 : g (((6 * n + 1 + 1 + 1 + 1 : Nat) : Int) / 6) (((6 * n + 1 + 1 + 1 + 1 : Nat) : Int) % 6) = g n ((4 : Nat) : Int) := e 4 (by decide)
    have q5 : g (((6 * n + 1 + 1 + 1 + 1 + 1 : Nat) : Int) / 6) (((6 * n + 1 + 1 + 1 + 1 + 1 : Nat) : Int) % 6) = g n ((5 : Nat) : Int) := e 5 (by decide)
    simp only [zSum] at *
    simp only [Nat.add_zero] at *
    omega
