theorem nr_vote {A B : zNt} (ok : cOk A) (h : nRel A B) {d s : Int} (y : Int) (hc : cCanVote A d s) : nRel (cVoteN A d s y) (aEnter B d s (mVoteV B d s y)) := by
  have hm : cSt A d s ≠ -1 := by rw [hc.2]; decide
  have hin := st_in hm
  unfold cVoteN
  rw [if_pos hc, nr_voteV ok h y ⟨hin.1, hin.2.1⟩ (by rw [hc.2]; decide)]
  exact nr_enterO ok h hm
theorem nr_decV {A B : zNt} (h : nRel A B) (d : Int) : cDecV A d = cDecV B d := by
  have e : zAny (fun s => decide (cSt A d s ≠ -1 ∧ cSt A d s ≠ 1)) 6 = zAny (fun s => decide (cSt B d s ≠ -1 ∧ cSt B d s ≠ 1)) 6 := zAny_cg 6 (fun i _ => by
    show decide (cSt A d i ≠ -1 ∧ cSt A d i ≠ 1) = decide (cSt B d i ≠ -1 ∧ cSt B d i ≠ 1)
    rw [nr_st h])
  unfold cDecV
  by_cases q : cAll A d
  · rw [if_pos q, if_pos (show cAll B d from e.symm.trans q)]
  · rw [if_neg q, if_neg (show ¬ cAll B d from fun z => q (e.trans z))]
theorem nr_decide {A B : zNt} (ok : cOk A) (h : nRel A B) {d : Int} (hc : cCanDecide A d) : nRel (cDecideN A d) (cSettle B d (cDecV B d)) := by
  unfold cDecideN
  rw [if_pos hc, nr_decV h]
  exact nr_settle ok h _ _
theorem nr_silN {A B : zNt} (h : nRel A B) {s : Int} (hc : cUp A s) : nRel (cSilN A s) (cSil B s) := by
  unfold cSilN
  rw [if_pos hc]
  exact nr_sil h s
theorem nr_fresh {A B : zNt} (h : nRel A B) (x : Int) : nRel (up2 A 0 3 x) (up2 B 0 3 x) := nr_w0 h (by decide) x
