theorem b5_id (j : Nat) : b5 j (fun M => M) := fun M x y => up2_up2 _ _ _ _ _
theorem b5_if {j : Nat} {P : zNt → Prop} [∀ M, Decidable (P M)] {F G : zNt → zNt} (hP : ∀ M x, P (up2 M 5 j x) ↔ P M) (hF : b5 j F) (hG : b5 j G) : b5 j (fun M => if P M then F M else G M) := fun M x y => by
  show up2 (if P (up2 M 5 j x) then F (up2 M 5 j x) else G (up2 M 5 j x)) 5 j y = up2 (if P M then F M else G M) 5 j y
  by_cases p : P M
  · rw [if_pos p, if_pos ((hP M x).mpr p)]; exact hF M x y
  · rw [if_neg p, if_neg (fun z => p ((hP M x).mp z))]; exact hG M x y
theorem b5_enterV (j : Nat) (d s : Int) (v : zNt → Int) (hv : ∀ M x, v (up2 M 5 j x) = v M) : b5 j (fun M => aEnter M d s (v M)) := fun M x y => by
  show up2 (aEnter (up2 M 5 j x) d s (v (up2 M 5 j x))) 5 j y = up2 (aEnter M d s (v M)) 5 j y
  rw [hv]
  exact b5_enter j d s (v M) M x y
theorem b5_ask2 (j : Nat) (d : Int) : b5 j (fun M => cAsk2 M d) := fun M x y => by
  show up2 (cAsk2 (up2 M 5 j x) d) 5 j y = up2 (cAsk2 M d) 5 j y
  rw [k5_ask2, up2_up2]
theorem b5_ask1 (j : Nat) : b5 j cAsk1 := fun M x y => by
  rw [show cAsk1 (up2 M 5 j x) = up2 (cAsk1 M) 5 j x from up2_comm _ _ _ (show (5 : Nat) ≠ 0 by decide), up2_up2]
theorem b5_tell (j : Nat) (d s : Int) : b5 j (fun M => aTell M d s) := by
  unfold aTell
  exact b5_if (P := fun M => cSt M d s = 1 ∨ cSt M d s = 0 ∧ cDec M d = 3) (fun M x => Iff.rfl) (b5_enterV j d s (fun M => cDec M d) (fun M x => rfl)) (b5_id j)
theorem b5_aAsk2 (j : Nat) (d s o : Int) : b5 j (fun M => aAsk2 M d s o) := by
  unfold aAsk2
  refine b5_if (P := fun M => cSt M d o = 0) (fun M x => Iff.rfl) ?_ (b5_enterV j d s (fun M => cSt M d o) (fun M x => rfl))
  exact b5_comp (F := fun K => aEnter K d s (cSt K d o)) (G := fun M => aEnter M d o 3) (b5_enterV j d s (fun K => cSt K d o) (fun M x => rfl)) (b5_enter j d o 3)
theorem b5_ask (j : Nat) (d s o : Int) : b5 j (fun M => aAsk M d s o) := by
  unfold aAsk
  refine b5_comp (F := fun K => aAsk3 K d s o) (G := cAsk1) ?_ (b5_ask1 j)
  unfold aAsk3
  refine b5_if (P := fun M => cLead M d = o) (fun M x => Iff.rfl) ?_ (b5_if (P := fun M => mHelps M d o) (fun M x => Iff.rfl) (b5_aAsk2 j d s o) (b5_id j))
  exact b5_comp (F := fun K => aTell K d s) (G := fun M => cAsk2 M d) (b5_tell j d s) (b5_ask2 j d)
theorem b5_askL (j : Nat) (d s : Int) : ∀ o : Nat, b5 j (fun M => aAskL M d s o)
  | 0 => b5_id j
  | o + 1 => by
    unfold aAskL
    exact b5_comp (F := fun K => if cSt K d s = 1 ∧ (o : Int) ≠ s ∧ cUp K o then aAsk K d s o else K) (G := fun M => aAskL M d s o) (b5_if (P := fun K => cSt K d s = 1 ∧ (o : Int) ≠ s ∧ cUp K o) (fun M x => Iff.rfl) (b5_ask j d s o) (b5_id j)) (b5_askL j d s o)
