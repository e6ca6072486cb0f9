theorem ok_pt1x {N : zNt} (h : cOk N) {j : Nat} (hj : j < 48) (h4 : N 4 j = 1) : 1 ≤ N 5 j := (h.2.2.2.2.1 j hj).2.2 h4
/-- one site's tick for one deal: the class's and the reference's -/
theorem nr_tickS {A B : zNt} (ok : cOk A) (rk : rOk B) (bd : Bud B) (pk : pOk B) (h : nRel A B) {d s k : Int} (hd : 0 ≤ d ∧ d < A 0 0) (hs : 0 ≤ s ∧ s < 6) (hk : k = d * 6 + s) : nRel (cTickS A d s) (aTk B k) := by
  have hn := ok_n ok
  have e1 : k / 6 = d := by omega
  have e2 : k % 6 = s := by omega
  unfold cTickS aTk
  rw [e1, e2, hk]
  by_cases c : cLoseC A d s
  · have hin : 0 ≤ d ∧ d < A 0 0 ∧ 0 ≤ s ∧ s < 6 := ⟨hd.1, hd.2, hs.1, hs.2⟩
    have h4 : A 4 (d * 6 + s).toNat = 1 := by
      have := c.2
      unfold cSt at this
      rw [if_pos hin] at this
      exact this
    have hp : A 5 (d * 6 + s).toNat = B 5 (d * 6 + s).toNat := (h.2.2.1 _ (by omega)).2 h4
    have hp1 := ok_pt1x ok (j := (d * 6 + s).toNat) (by omega) h4
    have cB : cUp B s ∧ cSt B d s = 1 := ⟨(nr_up h s).mp c.1, (nr_st h d s).symm.trans c.2⟩
    rw [if_pos cB]
    unfold cLoseN
    rw [if_pos c]
    by_cases q : A 5 (d * 6 + s).toNat - 1 ≤ 0
    · rw [if_pos (show cLoseP A d s from ⟨c, q⟩), if_pos q, if_pos (show B 5 (d * 6 + s).toNat - 1 = 0 by omega), k5_askL]
      unfold aAskA aAskF
      have hb := b5_askL (d * 6 + s).toNat d s 6 B (B 5 (d * 6 + s).toNat - 1)
      have e3 : cSt (aAskL (up2 B 5 (d * 6 + s).toNat (B 5 (d * 6 + s).toNat - 1)) d s 6) d s = cSt (aAskL B d s 6) d s := by
        have w := congrArg (fun M => cSt M d s) (hb 0)
        exact w
      have e4 : aAskL (up2 B 5 (d * 6 + s).toNat (B 5 (d * 6 + s).toNat - 1)) d s 6 0 3 = A 0 3 := by
        rw [n_aAskL _ d s 3 (by decide) 6, nr_0 h (by decide)]; rfl
      rw [e3, e4, show up2 (aAskL (up2 B 5 (d * 6 + s).toNat (B 5 (d * 6 + s).toNat - 1)) d s 6) 5 (d * 6 + s).toNat (if cSt (aAskL B d s 6) d s = 1 then A 0 3 else 0) = _ from hb _]
      have hr := nr_askL (s := s) (j0 := 48) ok rk bd ⟨hd.1, by have := nr_n h; omega⟩ (pk_px pk 48) h cB.1 6
      refine nr_w5 hr _ (fun z => ?_)
      have e5 : cSt (cAskL A d s 6) d s = 1 := by
        unfold cSt
        rw [n_askL, if_pos hin]
        exact z
      rw [if_pos ((nr_st hr d s).symm.trans e5)]
    · rw [if_neg (show ¬ cLoseP A d s from fun z => q z.2), if_neg q, if_neg (show ¬ B 5 (d * 6 + s).toNat - 1 = 0 by omega)]
      exact nr_w5 h _ (fun _ => by rw [hp])
  · rw [if_neg (show ¬ cLoseP A d s from fun z => c z.1), if_neg (show ¬ (cUp B s ∧ cSt B d s = 1) from fun z => c ⟨(nr_up h s).mpr z.1, (nr_st h d s).trans z.2⟩)]
    unfold cLoseN
    rw [if_neg c]
    exact h
