/-! two Nets that no method can tell apart: the class's (A) and the reference's view (B) -/
def nRel (A B : zNt) : Prop := (∀ j, j < 4 → A 0 j = B 0 j) ∧ (∀ d : Nat, (d : Int) < A 0 0 → A 1 d = B 1 d ∧ A 2 d = B 2 d ∧ A 3 d = B 3 d) ∧ (∀ j : Nat, (j : Int) < 6 * A 0 0 → A 4 j = B 4 j ∧ (A 4 j = 1 → A 5 j = B 5 j)) ∧ (∀ s, s < 6 → A 6 s = B 6 s) ∧ ∀ s i : Nat, s < 6 → (i : Int) < A 6 s → A 7 (s * 24 + i) = B 7 (s * 24 + i)
theorem nr_0 {A B : zNt} (h : nRel A B) {j : Nat} (hj : j < 4) : A 0 j = B 0 j := h.1 j hj
theorem nr_n {A B : zNt} (h : nRel A B) : A 0 0 = B 0 0 := h.1 0 (by decide)
theorem nr_has {A B : zNt} (h : nRel A B) (d : Int) : cHas A d ↔ cHas B d := by
  have e := nr_n h
  constructor <;> intro q <;> exact ⟨q.1, by have := q.2; omega⟩
theorem nr_st {A B : zNt} (h : nRel A B) (d s : Int) : cSt A d s = cSt B d s := by
  unfold cSt
  rw [← nr_n h]
  split
  · exact (h.2.2.1 _ (by omega)).1
  · rfl
theorem nr_up {A B : zNt} (h : nRel A B) (s : Int) : cUp A s ↔ cUp B s := by
  show (0 ≤ s ∧ s < 6 ∧ zAnd (zShr (A 0 1) s) 1 ≠ 0) ↔ _
  rw [nr_0 h (j := 1) (by decide)]
theorem nr_lead {A B : zNt} (h : nRel A B) (d : Int) : cLead A d = cLead B d := by
  unfold cLead
  by_cases q : cHas A d
  · rw [if_pos q, if_pos ((nr_has h d).mp q)]; exact (h.2.1 _ (by have := q.2; have := q.1; omega)).1
  · rw [if_neg q, if_neg (fun z => q ((nr_has h d).mpr z))]
theorem nr_dec {A B : zNt} (h : nRel A B) (d : Int) : cDec A d = cDec B d := by
  unfold cDec
  by_cases q : cHas A d
  · rw [if_pos q, if_pos ((nr_has h d).mp q)]; exact (h.2.1 _ (by have := q.2; have := q.1; omega)).2.2
  · rw [if_neg q, if_neg (fun z => q ((nr_has h d).mpr z))]
theorem nr_pat {A B : zNt} (h : nRel A B) (d s : Int) : cPat A d s = cPat B d s := by
  unfold cPat
  rw [← nr_st h]
  split
  · rename_i q
    have hin : 0 ≤ d ∧ d < A 0 0 ∧ 0 ≤ s ∧ s < 6 := by
      apply Classical.byContradiction
      intro z
      unfold cSt at q
      rw [if_neg z] at q
      exact absurd q (by decide)
    refine (h.2.2.1 _ (by omega)).2 ?_
    unfold cSt at q
    rw [if_pos hin] at q
    exact q
  · rfl
theorem nr_ent {A B : zNt} (h : nRel A B) (s : Int) : cEnt A s = cEnt B s := by
  unfold cEnt
  split
  · exact h.2.2.2.1 _ (by omega)
  · rfl
theorem nr_entry {A B : zNt} (h : nRel A B) (s i : Int) : cEntry A s i = cEntry B s i := by
  unfold cEntry
  rw [← nr_ent h]
  split
  · rename_i q
    unfold cEnt at q
    split at q
    · rw [show (s * 24 + i).toNat = s.toNat * 24 + i.toNat by omega]
      exact h.2.2.2.2 _ _ (by omega) (by omega)
    · omega
  · rfl
theorem nr_held {A B : zNt} (h : nRel A B) (s : Int) : ∀ n : Nat, (n : Int) ≤ A 0 0 → cHeld A s n = cHeld B s n
  | 0, _ => rfl
  | n + 1, hn => by
    rw [cHeld, cHeld, nr_held h s n (by omega), nr_st h, (h.2.1 n (by omega)).2.1]
theorem nr_canVote {A B : zNt} (h : nRel A B) (d s : Int) : cCanVote A d s ↔ cCanVote B d s := by
  show (cUp A s ∧ cSt A d s = 0) ↔ _
  rw [nr_up h, nr_st h]
theorem nr_canDecide {A B : zNt} (h : nRel A B) (d : Int) : cCanDecide A d ↔ cCanDecide B d := by
  show (cUp A (cLead A d) ∧ cDec A d = 0) ↔ _
  rw [nr_up h, nr_lead h, nr_dec h]
theorem nr_canTell {A B : zNt} (h : nRel A B) (d s : Int) : cCanTell A d s ↔ cCanTell B d s := by
  show (cUp A s ∧ cUp A (cLead A d) ∧ cSt A d s ≠ -1 ∧ cEnd (cDec A d)) ↔ _
  rw [nr_up h, nr_up h, nr_lead h, nr_dec h, nr_st h]
theorem nr_canAsk {A B : zNt} (h : nRel A B) (d s o : Int) : cCanAsk A d s o ↔ cCanAsk B d s o := by
  show (s ≠ o ∧ cUp A s ∧ cUp A o ∧ cSt A d s = 1) ↔ _
  rw [nr_up h, nr_up h, nr_st h]
theorem nr_write {A B : zNt} (h : nRel A B) {s : Int} (e : Int) (h0 : 0 ≤ A 6 s.toNat) : nRel (cWrite A s e) (cWrite B s e) := by
  unfold cWrite
  by_cases q : 0 ≤ s ∧ s < 6 ∧ A 6 s.toNat < 24
  · have e6 : A 6 s.toNat = B 6 s.toNat := h.2.2.2.1 _ (by omega)
    rw [if_pos q, if_pos (by rw [← e6]; exact q), ← e6]
    refine ⟨fun j hj => ?_, fun d hd => ?_, fun j hj => ?_, fun i hi => ?_, fun i j hi hj => ?_⟩
    · simp only [up2_rw _ _ (show (0 : Nat) ≠ 6 by decide), up2_rw _ _ (show (0 : Nat) ≠ 7 by decide)]; exact h.1 j hj
    · simp only [up2_rw _ _ (show (0 : Nat) ≠ 6 by decide), up2_rw _ _ (show (0 : Nat) ≠ 7 by decide)] at hd
      simp only [up2_rw _ _ (show (1 : Nat) ≠ 6 by decide), up2_rw _ _ (show (1 : Nat) ≠ 7 by decide), up2_rw _ _ (show (2 : Nat) ≠ 6 by decide), up2_rw _ _ (show (2 : Nat) ≠ 7 by decide), up2_rw _ _ (show (3 : Nat) ≠ 6 by decide), up2_rw _ _ (show (3 : Nat) ≠ 7 by decide)]; exact h.2.1 d hd
    · simp only [up2_rw _ _ (show (0 : Nat) ≠ 6 by decide), up2_rw _ _ (show (0 : Nat) ≠ 7 by decide)] at hj
      simp only [up2_rw _ _ (show (4 : Nat) ≠ 6 by decide), up2_rw _ _ (show (4 : Nat) ≠ 7 by decide), up2_rw _ _ (show (5 : Nat) ≠ 6 by decide), up2_rw _ _ (show (5 : Nat) ≠ 7 by decide)]; exact h.2.2.1 j hj
    · by_cases z : i = s.toNat
      · rw [z, up2_at, up2_at]
      · rw [up2_ne _ _ (fun w => z w.2), up2_ne _ _ (fun w => z w.2), up2_rw _ _ (by decide), up2_rw _ _ (by decide)]; exact h.2.2.2.1 i hi
    · simp only [up2_rw _ _ (show (7 : Nat) ≠ 6 by decide)]
      by_cases z : i * 24 + j = (s * 24 + A 6 s.toNat).toNat
      · rw [z, up2_at, up2_at]
      · rw [up2_ne _ _ (fun w => z w.2), up2_ne _ _ (fun w => z w.2)]
        refine h.2.2.2.2 i j hi ?_
        by_cases w : i = s.toNat
        · rw [w, up2_at] at hj
          rw [w]
          omega
        · rw [up2_ne _ _ (fun y => w y.2), up2_rw _ _ (by decide)] at hj; exact hj
  · rw [if_neg q, if_neg (fun z => q ⟨z.1, z.2.1, by rw [h.2.2.2.1 _ (by omega)]; exact z.2.2⟩)]
    exact h
theorem e44 (N : zNt) (i : Nat) (v : Int) (j : Nat) : up2 N 4 i v 4 j = if j = i then v else N 4 j := by
  by_cases z : j = i
  · rw [z, up2_at, if_pos rfl]
  · rw [up2_ne _ _ (fun w => z w.2), if_neg z]
theorem e45 (N : zNt) (i : Nat) (v x : Int) (j : Nat) : up2 (up2 N 4 i v) 5 i x 4 j = if j = i then v else N 4 j := by rw [up2_rw _ _ (by decide), e44]
theorem e55 (N : zNt) (i : Nat) (v x : Int) (j : Nat) : up2 (up2 N 4 i v) 5 i x 5 j = if j = i then x else N 5 j := by
  by_cases z : j = i
  · rw [z, up2_at, if_pos rfl]
  · rw [up2_ne _ _ (fun w => z w.2), if_neg z, up2_rw _ _ (by decide)]
theorem nr_enter {A B : zNt} (h : nRel A B) {d s v : Int} (hm : cSt A d s ≠ -1) (h0 : 0 ≤ A 6 s.toNat) : nRel (cEnter A d s v) (aEnter B d s v) := by
  unfold cEnter
  rw [if_neg hm]
  unfold aEnter
  have h1 : nRel (cEnter0 A d s v) (aEnter0 B d s v) := by
    unfold cEnter0 aEnter0
    have e3 := nr_0 h (j := 3) (by decide)
    refine ⟨fun j hj => ?_, fun i hi => ?_, fun j hj => ?_, fun i hi => ?_, fun i j hi hj => ?_⟩ <;> by_cases q : v = 1
    · rw [if_pos q, up2_rw _ _ (by decide), up2_rw _ _ (by decide), up2_rw _ _ (by decide), up2_rw _ _ (by decide)]; exact h.1 j hj
    · rw [if_neg q, up2_rw _ _ (by decide), up2_rw _ _ (by decide), up2_rw _ _ (by decide)]; exact h.1 j hj
    · rw [if_pos q] at hi ⊢
      exact h.2.1 i hi
    · rw [if_neg q] at hi ⊢
      exact h.2.1 i hi
    · rw [if_pos q] at hj ⊢
      rw [if_pos q, e45, e45, e55, e55, ← e3]
      split
      · exact ⟨rfl, fun _ => rfl⟩
      · exact h.2.2.1 j hj
    · rw [if_neg q] at hj ⊢
      rw [if_neg q, e44, e45, e55, up2_rw _ _ (show (5 : Nat) ≠ 4 by decide)]
      split
      · exact ⟨rfl, fun y => absurd y q⟩
      · exact h.2.2.1 j hj
    · rw [if_pos q]; exact h.2.2.2.1 i hi
    · rw [if_neg q]; exact h.2.2.2.1 i hi
    · rw [if_pos q] at hj ⊢; exact h.2.2.2.2 i j hi hj
    · rw [if_neg q] at hj ⊢; exact h.2.2.2.2 i j hi hj
  refine nr_write h1 _ ?_
  unfold cEnter0
  split <;> exact h0
theorem nr_settle {A B : zNt} (ok : cOk A) (h : nRel A B) (d v : Int) : nRel (cSettle A d v) (cSettle B d v) := by
  unfold cSettle
  by_cases q : cHas A d
  · rw [if_pos q, if_pos ((nr_has h d).mp q), ← (h.2.1 d.toNat (by have := q.1; have := q.2; omega)).1]
    have hn := ok_n ok
    have hl := ok_ld ok (d := d.toNat) (by have := q.1; have := q.2; omega)
    refine nr_write (A := up2 A 3 d.toNat v) (B := up2 B 3 d.toNat v) ⟨h.1, fun i hi => ?_, h.2.2.1, h.2.2.2.1, h.2.2.2.2⟩ _ (ok_ll ok (s := (A 1 d.toNat).toNat) (by omega)).1
    refine ⟨(h.2.1 i hi).1, (h.2.1 i hi).2.1, ?_⟩
    by_cases z : i = d.toNat
    · rw [z, up2_at, up2_at]
    · rw [up2_ne _ _ (fun w => z w.2), up2_ne _ _ (fun w => z w.2)]; exact (h.2.1 i hi).2.2
  · rw [if_neg q, if_neg (fun z => q ((nr_has h d).mpr z))]; exact h
theorem st_in {A : zNt} {d s : Int} (h : cSt A d s ≠ -1) : 0 ≤ d ∧ d < A 0 0 ∧ 0 ≤ s ∧ s < 6 := by
  apply Classical.byContradiction
  intro z
  unfold cSt at h
  rw [if_neg z] at h
  exact h rfl
theorem nr_enterO {A B : zNt} (ok : cOk A) (h : nRel A B) {d s v : Int} (hm : cSt A d s ≠ -1) : nRel (cEnter A d s v) (aEnter B d s v) :=
  nr_enter h hm (ok_ll ok (s := s.toNat) (by have := st_in hm; omega)).1
theorem nr_tell {A B : zNt} (ok : cOk A) (h : nRel A B) {d s : Int} (hc : cCanTell A d s) : nRel (cTellN A d s) (aTell B d s) := by
  unfold cTellN aTell
  by_cases q : cSt A d s = 1 ∨ cSt A d s = 0 ∧ cDec A d = 3
  · rw [if_pos ⟨hc, q⟩, if_pos (by rw [← nr_st h, ← nr_dec h]; exact q), ← nr_dec h]
    exact nr_enterO ok h hc.2.2.1
  · rw [if_neg (fun z => q z.2), if_neg (by rw [← nr_st h, ← nr_dec h]; exact q)]; exact h
theorem nr_ask1 {A B : zNt} (h : nRel A B) : nRel (cAsk1 A) (cAsk1 B) := by
  unfold cAsk1
  refine ⟨fun j hj => ?_, h.2.1, h.2.2.1, h.2.2.2.1, h.2.2.2.2⟩
  by_cases z : j = 2
  · rw [z, up2_at, up2_at, nr_0 h (by decide)]
  · rw [up2_ne _ _ (fun w => z w.2), up2_ne _ _ (fun w => z w.2)]; exact h.1 j hj
theorem st_write (N : zNt) (d s x e : Int) : cSt (cWrite N x e) d s = cSt N d s := by
  unfold cWrite
  split
  · rfl
  · rfl
theorem st_settleX (N : zNt) (d s e v : Int) : cSt (cSettle N e v) d s = cSt N d s := by
  unfold cSettle
  split
  · rw [st_write]; rfl
  · rfl
theorem st_ask2 (N : zNt) (d s e : Int) : cSt (cAsk2 N e) d s = cSt N d s := by
  unfold cAsk2
  split
  · exact st_settleX _ _ _ _ _
  · rfl
theorem nr_ask2 {A B : zNt} (ok : cOk A) (h : nRel A B) (d : Int) : nRel (cAsk2 A d) (cAsk2 B d) := by
  unfold cAsk2
  rw [← nr_dec h]
  split
  · exact nr_settle ok h _ _
  · exact h
theorem dec_write (N : zNt) (d x e : Int) : cDec (cWrite N x e) d = cDec N d := by
  unfold cWrite
  split
  · rfl
  · rfl
theorem dec_settle {N : zNt} {d : Int} (v : Int) (hd : cHas N d) : cDec (cSettle N d v) d = v := by
  unfold cSettle
  rw [if_pos hd, dec_write]
  unfold cDec
  rw [if_pos (show cHas (up2 N 3 d.toNat v) d from hd), up2_at]
theorem dec_ask2 {N : zNt} {d : Int} (hd : cHas N d) (hv : cDec N d ≠ 1) (h3 : 0 ≤ cDec N d ∧ cDec N d ≤ 3) : cEnd (cDec (cAsk2 N d) d) := by
  unfold cAsk2
  split
  · rw [dec_settle _ hd]; exact Or.inr rfl
  · show cDec N d = 2 ∨ cDec N d = 3
    omega
theorem st_entr {N : zNt} {d s v : Int} (hm : 0 ≤ d ∧ d < N 0 0 ∧ 0 ≤ s ∧ s < 6) : cSt (aEnter N d s v) d s = v := by
  unfold aEnter
  rw [st_write]
  unfold aEnter0 cSt
  rw [if_pos (show 0 ≤ d ∧ d < (up2 (up2 N 4 (d * 6 + s).toNat v) 5 (d * 6 + s).toNat (if v = 1 then N 0 3 else 0)) 0 0 ∧ 0 ≤ s ∧ s < 6 from hm), up2_rw _ _ (by decide), up2_at]
theorem st_entr_nn {N : zNt} {d o v e s : Int} (hv : v ≠ -1) (hm : cSt N e s ≠ -1) : cSt (aEnter N d o v) e s ≠ -1 := by
  have hin := st_in hm
  unfold cSt at hm
  rw [if_pos hin] at hm
  unfold aEnter
  rw [st_write]
  unfold aEnter0 cSt
  rw [if_pos (show 0 ≤ e ∧ e < (up2 (up2 N 4 (d * 6 + o).toNat v) 5 (d * 6 + o).toNat (if v = 1 then N 0 3 else 0)) 0 0 ∧ 0 ≤ s ∧ s < 6 from hin), up2_rw _ _ (by decide)]
  by_cases z : (e * 6 + s).toNat = (d * 6 + o).toNat
  · rw [z, up2_at]; exact hv
  · rw [up2_ne _ _ (fun w => z w.2)]; exact hm
/-- one question: the class's and the reference's -/
theorem nr_ask {A B : zNt} (ok : cOk A) (rk : rOk B) (h : nRel A B) {d s o : Int} (hc : cCanAsk A d s o) : nRel (cAskN A d s o) (aAsk B d s o) := by
  unfold cAskN
  rw [if_pos hc]
  unfold aAsk
  have ok1 : cOk (cAsk1 A) := ok_f2 ok _
  have h1 := nr_ask1 h
  have hs1 : cSt (cAsk1 A) d s = 1 := hc.2.2.2
  have hin := st_in (A := A) (d := d) (s := s) (by rw [hc.2.2.2]; decide)
  have hd : cHas A d := ⟨hin.1, hin.2.1⟩
  have hn := ok_n ok
  have hdB : cDec B d ≠ 1 ∧ 0 ≤ cDec B d ∧ cDec B d ≤ 3 := by
    have q := (nr_has h d).mp hd
    unfold cDec
    rw [if_pos q]
    have := nr_n h
    exact ⟨rk_d1 rk (by omega), rk_dc rk (by omega)⟩
  generalize cAsk1 A = A1 at *
  have e1 : ∀ e, cDec (cAsk1 B) e = cDec B e := fun _ => rfl
  have hdB1 : cHas (cAsk1 B) d := (nr_has h d).mp hd
  generalize cAsk1 B = B1 at *
  unfold cAsk4 aAsk3
  rw [nr_lead h1]
  by_cases q : o = cLead B1 d
  · rw [if_pos q, if_pos q.symm]
    have h2 := nr_ask2 ok1 h1 d
    have e2 : cDec (cAsk2 A1 d) d = cDec (cAsk2 B1 d) d := nr_dec h2 d
    have hE : cEnd (cDec (cAsk2 B1 d) d) := dec_ask2 hdB1 (by rw [e1]; exact hdB.1) (by rw [e1]; exact hdB.2)
    have s2 : cSt (cAsk2 A1 d) d s = 1 := by rw [st_ask2]; exact hs1
    unfold cAsk3 aTell
    rw [e2, if_pos hE, if_pos (Or.inl (by rw [← nr_st h2]; exact s2))]
    exact nr_enterO (ok_ask2 ok1 d) h2 (by rw [s2]; decide)
  · rw [if_neg q, if_neg (show ¬ cLead B1 d = o from fun z => q z.symm), nr_st h1]
    by_cases q0 : cSt B1 d o = 0
    · have hq : mHelps B1 d o := Or.inr (by rw [q0]; decide)
      rw [if_pos q0, if_pos hq]
      unfold aAsk2
      have ho : cSt A1 d o ≠ -1 := by rw [nr_st h1, q0]; decide
      have hoin := st_in (A := B1) (d := d) (s := o) (by rw [q0]; decide)
      rw [if_pos q0, st_entr hoin]
      have h3 := nr_enterO (v := 3) ok1 h1 ho
      refine nr_enterO (ok_enter ok1 (by decide)) h3 ?_
      rw [nr_st h3]
      exact st_entr_nn (by decide) (by rw [← nr_st h1, hs1]; decide)
    · rw [if_neg q0]
      have hr : -1 ≤ cSt B1 d o ∧ cSt B1 d o ≤ 3 := by
        rw [← nr_st h1]
        unfold cSt
        split
        · have hn1 := ok_n ok1
          exact ok_st ok1 (by omega)
        · exact ⟨by decide, by decide⟩
      unfold cAsk3
      by_cases e : cEnd (cSt B1 d o)
      · rw [if_pos e, if_pos (show mHelps B1 d o from Or.inr ⟨by omega, by omega⟩)]
        unfold aAsk2
        rw [if_neg q0]
        exact nr_enterO ok1 h1 (by rw [hs1]; decide)
      · rw [if_neg e, if_neg (show ¬ mHelps B1 d o from fun z => by
          rcases z with z | z
          · exact q z.symm
          · exact e (show cSt B1 d o = 2 ∨ cSt B1 d o = 3 by omega))]
        exact h1
/-! the items held, as bits -/
theorem i32_ao (x y z : Int32) : (x ||| y) &&& z = (x &&& z) ||| (y &&& z) := by
  rw [← Int32.toBitVec_inj]
  simp only [Int32.toBitVec_and, Int32.toBitVec_or]
  ext i hi
  simp [Bool.and_or_distrib_right]
theorem zb_or (a b i : Int) : zAnd (zShr (zOr a b) i) 1 = zOr (zAnd (zShr a i) 1) (zAnd (zShr b i) 1) := by
  unfold zAnd zShr zOr
  simp only [iI_self, Int32.shiftRight_or, i32_ao]
theorem zb_shl : ∀ t : Nat, t < 10 → ∀ i : Nat, i < 10 → zAnd (zShr (zShl 1 t) i) 1 = if i = t then 1 else 0 := by decide +kernel
theorem zOr_01 {P Q : Prop} [Decidable P] [Decidable Q] : zOr (if P then 1 else 0) (if Q then 1 else 0) = if P ∨ Q then 1 else 0 := by
  by_cases p : P <;> by_cases q : Q <;> simp [p, q] <;> decide
theorem if_congr_i {P Q : Prop} [Decidable P] [Decidable Q] (h : P ↔ Q) : (if P then (1 : Int) else 0) = if Q then 1 else 0 := ite_iff h
theorem held_any {N : zNt} {s : Int} {i : Nat} (hi : i < 10) : ∀ n : Nat, (∀ d, d < n → 0 ≤ N 2 d ∧ N 2 d ≤ 9) → zAnd (zShr (cHeld N s n) i) 1 = if zAny (fun o => decide (cSt N o s = 1 ∧ N 2 o.toNat = i)) n = true then 1 else 0
  | 0, _ => by rw [cHeld, zAny, if_neg (by decide)]; revert i; decide +kernel
  | n + 1, h => by
    have q := held_any (s := s) hi n (fun d hd => h d (by omega))
    have hn := h n (by omega)
    rw [cHeld, zAny]
    by_cases e : cSt N n s = 1
    · rw [if_pos e, zb_or, q]
      have e2 : zShl 1 (N 2 n) = zShl 1 ((N 2 n).toNat : Nat) := congrArg (zShl 1) (by omega)
      rw [e2, zb_shl _ (by omega) _ hi, zOr_01]
      refine if_congr_i ?_
      simp only [Bool.or_eq_true, decide_eq_true_eq, Int.toNat_natCast]
      constructor
      · rintro (z | z)
        · exact Or.inl z
        · exact Or.inr ⟨e, by omega⟩
      · rintro (z | z)
        · exact Or.inl z
        · exact Or.inr (by have := z.2; omega)
    · rw [if_neg e, q]
      refine if_congr_i ?_
      simp only [Bool.or_eq_true, decide_eq_true_eq]
      exact ⟨Or.inl, fun z => z.resolve_right (fun y => e y.1)⟩
theorem zAny_cg {f g : Int → Bool} : ∀ n : Nat, (∀ i : Nat, i < n → f i = g i) → zAny f n = zAny g n
  | 0, _ => rfl
  | n + 1, h => by rw [zAny, zAny, zAny_cg n (fun i hi => h i (by omega)), h n (by omega)]
theorem nr_voteV {A B : zNt} (ok : cOk A) (h : nRel A B) {d s : Int} (y : Int) (hd : cHas A d) (hm : cSt A d s ≠ 1) : cVoteV A d s y = mVoteV B d s y := by
  have hn := ok_n ok
  have hit := ok_it ok (d := d.toNat) (by have := hd.1; have := hd.2; omega)
  have e2 : B 2 d.toNat = A 2 d.toNat := (h.2.1 _ (by have := hd.1; have := hd.2; omega)).2.1.symm
  have key : cHolds A d s ↔ mHeld B d s := by
    show _ ↔ zAnd (zShr (cHeld B s (B 0 0).toNat) (B 2 d.toNat)) 1 = 1
    rw [← nr_n h, ← nr_held h s (A 0 0).toNat (by omega), e2]
    have q := held_any (N := A) (s := s) (i := (A 2 d.toNat).toNat) (by omega) (A 0 0).toNat (fun i hi => ok_it ok (by omega))
    rw [show (((A 2 d.toNat).toNat : Nat) : Int) = A 2 d.toNat by omega] at q
    rw [q]
    have c : zAny (fun o => decide (o ≠ d ∧ A 2 o.toNat = A 2 d.toNat ∧ cSt A o s = 1)) (A 0 0).toNat = zAny (fun o => decide (cSt A o s = 1 ∧ A 2 o.toNat = A 2 d.toNat)) (A 0 0).toNat := zAny_cg _ (fun i hi => by
      refine decide_eq_decide.mpr ⟨fun z => ⟨z.2.2, z.2.1⟩, fun z => ⟨fun w => hm (w ▸ z.1), z.2, z.1⟩⟩)
    show zAny (fun o => decide (o ≠ d ∧ A 2 o.toNat = A 2 d.toNat ∧ cSt A o s = 1)) (A 0 0).toNat = true ↔ _
    rw [c]
    split
    · rename_i z; exact ⟨fun _ => rfl, fun _ => z⟩
    · rename_i z; exact ⟨fun w => absurd w z, fun w => absurd w (by decide)⟩
  unfold cVoteV mVoteV
  by_cases y0 : y ≠ 0 ∧ ¬ cHolds A d s
  · rw [if_pos y0, if_pos ⟨y0.1, fun z => y0.2 (key.mpr z)⟩]
  · rw [if_neg y0, if_neg (fun z => y0 ⟨z.1, fun w => z.2 (key.mp w)⟩)]
