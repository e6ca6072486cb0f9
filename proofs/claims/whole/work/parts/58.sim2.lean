/-! the relation kept by waking, silence, ticks -/
theorem nr_w0 {A B : zNt} (h : nRel A B) {j : Nat} (hj : j ≠ 0) (x : Int) : nRel (up2 A 0 j x) (up2 B 0 j x) := by
  have e : up2 A 0 j x 0 0 = A 0 0 := up2_ne _ _ (fun z => hj z.2.symm)
  refine ⟨fun i hi => ?_, fun i hi => ?_, fun i hi => ?_, h.2.2.2.1, h.2.2.2.2⟩
  · by_cases z : i = j
    · rw [z, up2_at, up2_at]
    · rw [up2_ne _ _ (fun w => z w.2), up2_ne _ _ (fun w => z w.2)]; exact h.1 i hi
  · rw [e] at hi; exact h.2.1 i hi
  · rw [e] at hi; exact h.2.2.1 i hi
theorem nr_sil {A B : zNt} (h : nRel A B) (s : Int) : nRel (cSil A s) (cSil B s) := by
  unfold cSil
  rw [nr_0 h (j := 1) (by decide)]
  exact nr_w0 h (by decide) _
theorem nr_wk0 {A B : zNt} (h : nRel A B) (s : Int) : nRel (cWk A s) (cWk B s) := by
  unfold cWk
  rw [nr_0 h (j := 1) (by decide)]
  exact nr_w0 h (by decide) _
theorem nr_wk1 {A B : zNt} (ok : cOk A) (h : nRel A B) (d s : Int) : cOk (cWk1 A d s) ∧ nRel (cWk1 A d s) (aWk1 B d s) := by
  unfold cWk1 aWk1
  rw [← nr_st h]
  split
  · rename_i q; exact ⟨ok_enter ok (by decide), nr_enterO ok h (by rw [q]; decide)⟩
  · exact ⟨ok, h⟩
theorem nr_wk2 {A B : zNt} (ok : cOk A) (h : nRel A B) (d s : Int) : cOk (cWk2 A d s) ∧ nRel (cWk2 A d s) (cWk2 B d s) := by
  unfold cWk2
  rw [← nr_lead h, ← nr_dec h]
  split
  · exact ⟨ok_settle ok (by decide), nr_settle ok h _ _⟩
  · exact ⟨ok, h⟩
theorem nr_wkL {A B : zNt} (ok : cOk A) (h : nRel A B) (s : Int) : ∀ k : Nat, cOk (cWkL A s k) ∧ nRel (cWkL A s k) (aWkL B s k)
  | 0 => ⟨ok, h⟩
  | k + 1 => by
    have q := nr_wkL ok h s k
    have q1 := nr_wk1 q.1 q.2 (k : Int) s
    rw [cWkL, aWkL]
    exact nr_wk2 q1.1 q1.2 _ _
theorem nr_wk {A B : zNt} (ok : cOk A) (h : nRel A B) {s : Int} (hs : cCanWk A s) : nRel (cWkN A s) (aWkN B s) := by
  unfold cWkN aWkN
  rw [if_pos hs, ← nr_n h]
  exact (nr_wkL (ok_wk ok hs.1) (nr_wk0 h s) s _).2
theorem nr_doubts {A B : zNt} (h : nRel A B) (s : Int) : cDoubts A s = cDoubts B s := by
  unfold cDoubts
  rw [← nr_n h]
  exact zSum_cg (fun i hi => by show (if cSt A i s = 1 then (1 : Int) else 0) = if cSt B i s = 1 then 1 else 0; rw [nr_st h])
/-- the class's questions neither read nor write a patience -/
theorem k5_write (N : zNt) (s e : Int) (j : Nat) (x : Int) : cWrite (up2 N 5 j x) s e = up2 (cWrite N s e) 5 j x := by
  unfold cWrite
  rw [show up2 N 5 j x 6 s.toNat = N 6 s.toNat from up2_rw _ _ (by decide) _]
  split
  · rw [up2_comm _ _ _ (show (5 : Nat) ≠ 7 by decide), up2_comm _ _ _ (show (5 : Nat) ≠ 6 by decide)]
  · rfl
theorem k5_settle (N : zNt) (d v : Int) (j : Nat) (x : Int) : cSettle (up2 N 5 j x) d v = up2 (cSettle N d v) 5 j x := by
  unfold cSettle
  by_cases q : cHas N d
  · rw [if_pos (show cHas (up2 N 5 j x) d from q), if_pos q, up2_comm _ _ _ (show (5 : Nat) ≠ 3 by decide), k5_write]; rfl
  · rw [if_neg (show ¬ cHas (up2 N 5 j x) d from q), if_neg q]
theorem k5_enter (N : zNt) {d s v : Int} (j : Nat) (x : Int) (hv : v ≠ 1) : cEnter (up2 N 5 j x) d s v = up2 (cEnter N d s v) 5 j x := by
  unfold cEnter
  by_cases q : cSt N d s = -1
  · rw [if_pos (show cSt (up2 N 5 j x) d s = -1 from q), if_pos q]
  · rw [if_neg (show ¬ cSt (up2 N 5 j x) d s = -1 from q), if_neg q]
    unfold cEnter0
    rw [if_neg hv, if_neg hv, up2_comm _ _ _ (show (5 : Nat) ≠ 4 by decide), k5_write]
theorem k5_ask2 (N : zNt) (d : Int) (j : Nat) (x : Int) : cAsk2 (up2 N 5 j x) d = up2 (cAsk2 N d) 5 j x := by
  unfold cAsk2
  by_cases q : cDec N d = 0
  · rw [if_pos (show cDec (up2 N 5 j x) d = 0 from q), if_pos q, k5_settle]
  · rw [if_neg (show ¬ cDec (up2 N 5 j x) d = 0 from q), if_neg q]
theorem k5_ask3 (N : zNt) (d s v : Int) (j : Nat) (x : Int) : cAsk3 (up2 N 5 j x) d s v = up2 (cAsk3 N d s v) 5 j x := by
  unfold cAsk3
  split
  · rename_i q; exact k5_enter N j x (by rcases q with q | q <;> omega)
  · rfl
theorem k5_ask (N : zNt) (d s o : Int) (j : Nat) (x : Int) : cAskN (up2 N 5 j x) d s o = up2 (cAskN N d s o) 5 j x := by
  unfold cAskN
  by_cases q : cCanAsk N d s o
  · rw [if_pos (show cCanAsk (up2 N 5 j x) d s o from q), if_pos q]
    have e1 : cAsk1 (up2 N 5 j x) = up2 (cAsk1 N) 5 j x := up2_comm _ _ _ (show (5 : Nat) ≠ 0 by decide)
    rw [e1]
    generalize cAsk1 N = M
    unfold cAsk4
    by_cases q1 : o = cLead M d
    · rw [if_pos (show o = cLead (up2 M 5 j x) d from q1), if_pos q1, k5_ask2, k5_ask3]; rfl
    · rw [if_neg (show ¬ o = cLead (up2 M 5 j x) d from q1), if_neg q1]
      by_cases q2 : cSt M d o = 0
      · rw [if_pos (show cSt (up2 M 5 j x) d o = 0 from q2), if_pos q2, k5_enter _ _ _ (by decide), k5_enter _ _ _ (by decide)]
      · rw [if_neg (show ¬ cSt (up2 M 5 j x) d o = 0 from q2), if_neg q2]
        exact k5_ask3 M d s (cSt M d o) j x
  · rw [if_neg (show ¬ cCanAsk (up2 N 5 j x) d s o from q), if_neg q]
theorem k5_askL (N : zNt) (d s : Int) (j : Nat) (x : Int) : ∀ o : Nat, cAskL (up2 N 5 j x) d s o = up2 (cAskL N d s o) 5 j x
  | 0 => rfl
  | o + 1 => by rw [cAskL, cAskL, k5_askL N d s j x o, k5_ask]
