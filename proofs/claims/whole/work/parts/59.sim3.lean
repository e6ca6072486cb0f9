/-! a site asks all the others: the class's and the reference's -/
theorem nr_askL {A B : zNt} {d s : Int} {j0 : Nat} (ok : cOk A) (rk : rOk B) (bd : Bud B) (hd : cHas B d) (px : pX B j0) (h : nRel A B) (hu : cUp B s) : ∀ o : Nat, nRel (cAskL A d s o) (aAskL B d s o)
  | 0 => h
  | o + 1 => by
    have q := nr_askL ok rk bd hd px h hu o
    have okA := ok_askL ok d s o
    have rkB := (iv_aAskL (s := s) rk bd hd px o).1
    have huB : cUp (aAskL B d s o) s := by
      show 0 ≤ s ∧ s < 6 ∧ zAnd (zShr (aAskL B d s o 0 1) s) 1 ≠ 0
      rw [n_aAskL B d s 1 (by decide) o]
      exact hu
    rw [cAskL, aAskL]
    by_cases c : cCanAsk (cAskL A d s o) d s o
    · rw [if_pos ⟨(nr_st q d s) ▸ c.2.2.2, fun z => c.1 z.symm, (nr_up q _).mp c.2.2.1⟩]
      exact nr_ask okA rkB q c
    · rw [if_neg (fun z => c ⟨fun w => z.2.1 w.symm, (nr_up q s).mpr huB, (nr_up q _).mpr z.2.2, (nr_st q d s).trans z.1⟩)]
      unfold cAskN
      rw [if_neg c]
      exact q
theorem nr_w5 {A B : zNt} (h : nRel A B) (j : Nat) {x y : Int} (e : A 4 j = 1 → x = y) : nRel (up2 A 5 j x) (up2 B 5 j y) := by
  refine ⟨h.1, h.2.1, fun i hi => ⟨(h.2.2.1 i hi).1, fun h4 => ?_⟩, h.2.2.2.1, h.2.2.2.2⟩
  by_cases z : i = j
  · subst z
    rw [up2_at, up2_at]
    exact e h4
  · rw [up2_ne _ _ (fun w => z w.2), up2_ne _ _ (fun w => z w.2)]
    exact (h.2.2.1 i hi).2 h4
/-- blind for the patience at j: what it makes doesn't depend on it, but for the patience at j itself -/
def b5 (j : Nat) (F : zNt → zNt) : Prop := ∀ M x y, up2 (F (up2 M 5 j x)) 5 j y = up2 (F M) 5 j y
theorem b5_comp {j : Nat} {F G : zNt → zNt} (hF : b5 j F) (hG : b5 j G) : b5 j (fun M => F (G M)) := fun M x y => by
  show up2 (F (G (up2 M 5 j x))) 5 j y = up2 (F (G M)) 5 j y
  rw [← hF (G (up2 M 5 j x)) 0 y, hG M x 0, hF (G M) 0 y]
theorem b5_enter (j : Nat) (d s v : Int) : b5 j (fun M => aEnter M d s v) := fun M x y => by
  show up2 (aEnter (up2 M 5 j x) d s v) 5 j y = up2 (aEnter M d s v) 5 j y
  unfold aEnter
  have e : up2 (aEnter0 (up2 M 5 j x) d s v) 5 j y = up2 (aEnter0 M d s v) 5 j y := by
    unfold aEnter0
    rw [show up2 M 5 j x 0 3 = M 0 3 from rfl, up2_comm _ _ _ (show (5 : Nat) ≠ 4 by decide)]
    generalize up2 M 4 (d * 6 + s).toNat v = K
    funext a b
    unfold up2
    (repeat' split) <;> first | rfl | omega
  rw [← k5_write, e, k5_write]
