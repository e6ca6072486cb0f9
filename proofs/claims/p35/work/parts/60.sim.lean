/-! one deal's ticks: the other deals don't touch it; the forecast -/
theorem zSum_le {f : Int → Int} {c : Int} {n : Nat} (h : ∀ i : Nat, i < n → f i ≤ c) : zSum f n ≤ c * n := by
  induction n with
  | zero => simp [zSum]
  | succ n ih =>
    have h1 := ih (fun i hi => h i (by omega))
    have h2 := h n (by omega)
    rw [zSum]
    have e : c * ((n + 1 : Nat) : Int) = c * n + c := by rw [Int.natCast_add, Int.mul_add]; simp
    omega
theorem zSum_nn {f : Int → Int} {n : Nat} (h : ∀ i : Nat, 0 ≤ f i) : 0 ≤ zSum f n := by
  induction n with
  | zero => exact Int.le_refl _
  | succ n ih => rw [zSum]; have := h n; omega
theorem e44 (N : zNt) (i : Nat) (v : Int) (j : Nat) : up2 N 4 i v 4 j = if j = i then v else N 4 j := by
  by_cases z : j = i
  · rw [z, up2_at, if_pos rfl]
  · rw [up2_ne _ _ (fun w => z w.2), if_neg z]
theorem e45 (N : zNt) (i : Nat) (v x : Int) (j : Nat) : up2 (up2 N 4 i v) 5 i x 4 j = if j = i then v else N 4 j := by rw [up2_rw _ _ (by decide), e44]
theorem st_in {A : zNt} {d s : Int} (h : cSt A d s ≠ -1) : 0 ≤ d ∧ d < A 0 0 ∧ 0 ≤ s ∧ s < 6 := by
  apply Classical.byContradiction
  intro z
  unfold cSt at h
  rw [if_neg z] at h
  exact h rfl
def dR (d : Nat) (X Y : zNt) : Prop := X 0 0 = Y 0 0 ∧ X 0 1 = Y 0 1 ∧ X 0 3 = Y 0 3 ∧ X 1 d = Y 1 d ∧ X 3 d = Y 3 d ∧ ∀ s, s < 6 → X 4 (d * 6 + s) = Y 4 (d * 6 + s) ∧ X 5 (d * 6 + s) = Y 5 (d * 6 + s)
theorem dr_rf (d : Nat) (X : zNt) : dR d X X := ⟨rfl, rfl, rfl, rfl, rfl, fun _ _ => ⟨rfl, rfl⟩⟩
theorem dr_tr {d : Nat} {X Y Z : zNt} (h : dR d X Y) (g : dR d Y Z) : dR d X Z := ⟨h.1.trans g.1, h.2.1.trans g.2.1, h.2.2.1.trans g.2.2.1, h.2.2.2.1.trans g.2.2.2.1, h.2.2.2.2.1.trans g.2.2.2.2.1, fun s hs => ⟨(h.2.2.2.2.2 s hs).1.trans (g.2.2.2.2.2 s hs).1, (h.2.2.2.2.2 s hs).2.trans (g.2.2.2.2.2 s hs).2⟩⟩
theorem dr_sy {d : Nat} {X Y : zNt} (h : dR d X Y) : dR d Y X := ⟨h.1.symm, h.2.1.symm, h.2.2.1.symm, h.2.2.2.1.symm, h.2.2.2.2.1.symm, fun s hs => ⟨(h.2.2.2.2.2 s hs).1.symm, (h.2.2.2.2.2 s hs).2.symm⟩⟩
theorem dr_write (d : Nat) (X : zNt) (s e : Int) : dR d X (cWrite X s e) := by
  unfold cWrite; split
  · exact ⟨rfl, rfl, rfl, rfl, rfl, fun _ _ => ⟨rfl, rfl⟩⟩
  · exact dr_rf d X
theorem dr_st {d : Nat} {X Y : zNt} (h : dR d X Y) (s : Int) : cSt X d s = cSt Y d s := by
  unfold cSt
  rw [h.1]
  split
  · rw [show ((d : Int) * 6 + s).toNat = d * 6 + s.toNat by omega]
    exact (h.2.2.2.2.2 _ (by omega)).1
  · rfl
theorem dr_up {d : Nat} {X Y : zNt} (h : dR d X Y) (s : Int) : cUp X s ↔ cUp Y s := by
  show (0 ≤ s ∧ s < 6 ∧ zAnd (zShr (X 0 1) s) 1 ≠ 0) ↔ _
  rw [h.2.1]
theorem dr_lead {d : Nat} {X Y : zNt} (h : dR d X Y) : cLead X d = cLead Y d := by
  unfold cLead cHas
  rw [h.1]
  split
  · exact h.2.2.2.1
  · rfl
theorem dr_dec {d : Nat} {X Y : zNt} (h : dR d X Y) : cDec X d = cDec Y d := by
  unfold cDec cHas
  rw [h.1]
  split
  · exact h.2.2.2.2.1
  · rfl
theorem dr_u4 {d : Nat} {X Y : zNt} (h : dR d X Y) (j : Nat) (v : Int) : dR d (up2 X 4 j v) (up2 Y 4 j v) := by
  refine ⟨h.1, h.2.1, h.2.2.1, h.2.2.2.1, h.2.2.2.2.1, fun s hs => ⟨?_, (h.2.2.2.2.2 s hs).2⟩⟩
  rw [e44, e44]
  split
  · rfl
  · exact (h.2.2.2.2.2 s hs).1
theorem e555 (N : zNt) (i : Nat) (v : Int) (j : Nat) : up2 N 5 i v 5 j = if j = i then v else N 5 j := by
  by_cases z : j = i
  · rw [z, up2_at, if_pos rfl]
  · rw [up2_ne _ _ (fun w => z w.2), if_neg z]
theorem dr_u5 {d : Nat} {X Y : zNt} (h : dR d X Y) (j : Nat) {v w : Int} (e : v = w) : dR d (up2 X 5 j v) (up2 Y 5 j w) := by
  refine ⟨h.1, h.2.1, h.2.2.1, h.2.2.2.1, h.2.2.2.2.1, fun s hs => ⟨(h.2.2.2.2.2 s hs).1, ?_⟩⟩
  rw [e555, e555, e]
  split
  · rfl
  · exact (h.2.2.2.2.2 s hs).2
theorem dr_o4 (d : Nat) (X : zNt) {j : Nat} (v : Int) (hj : ¬ (d * 6 ≤ j ∧ j < d * 6 + 6)) : dR d X (up2 X 4 j v) :=
  ⟨rfl, rfl, rfl, rfl, rfl, fun s hs => ⟨by rw [e44, if_neg (by omega)], rfl⟩⟩
theorem dr_o5 (d : Nat) (X : zNt) {j : Nat} (v : Int) (hj : ¬ (d * 6 ≤ j ∧ j < d * 6 + 6)) : dR d X (up2 X 5 j v) :=
  ⟨rfl, rfl, rfl, rfl, rfl, fun s hs => ⟨rfl, by rw [e555, if_neg (by omega)]⟩⟩
theorem dr_enter {d : Nat} {X Y : zNt} (h : dR d X Y) (s v : Int) : dR d (cEnter X d s v) (cEnter Y d s v) := by
  unfold cEnter
  rw [dr_st h]
  split
  · exact h
  · refine dr_tr (dr_sy (dr_write d _ _ _)) (dr_tr ?_ (dr_write d _ _ _))
    unfold cEnter0
    split
    · exact dr_u5 (dr_u4 h _ _) _ h.2.2.1
    · exact dr_u4 h _ _
theorem dr_enterO (d : Nat) (X : zNt) {e : Nat} (s v : Int) (he : e ≠ d) : dR d X (cEnter X e s v) := by
  unfold cEnter
  split
  · exact dr_rf d X
  · rename_i q
    have hin := st_in q
    refine dr_tr ?_ (dr_write d _ _ _)
    unfold cEnter0
    split
    · exact dr_tr (dr_o4 d X v (by omega)) (dr_o5 d _ _ (by omega))
    · exact dr_o4 d X v (by omega)
theorem dr_settle {d : Nat} {X Y : zNt} (h : dR d X Y) (v : Int) : dR d (cSettle X d v) (cSettle Y d v) := by
  unfold cSettle
  have hh : cHas X d ↔ cHas Y d := by
    show (0 ≤ (d : Int) ∧ (d : Int) < X 0 0) ↔ _
    rw [h.1]
  by_cases q : cHas X d
  · rw [if_pos q, if_pos (hh.mp q)]
    refine dr_tr (dr_sy (dr_write d _ _ _)) (dr_tr ?_ (dr_write d _ _ _))
    exact ⟨h.1, h.2.1, h.2.2.1, h.2.2.2.1, by rw [show (d : Int).toNat = d from rfl, up2_at, up2_at], h.2.2.2.2.2⟩
  · rw [if_neg q, if_neg (fun z => q (hh.mpr z))]; exact h
theorem dr_settleO (d : Nat) (X : zNt) {e : Nat} (v : Int) (he : e ≠ d) : dR d X (cSettle X e v) := by
  unfold cSettle
  split
  · refine dr_tr ?_ (dr_write d _ _ _)
    exact ⟨rfl, rfl, rfl, rfl, by rw [up2_ne _ _ (fun z => he (z.2.symm : (e : Int).toNat = d))], fun _ _ => ⟨rfl, rfl⟩⟩
  · exact dr_rf d X
theorem dr_ask2 {d : Nat} {X Y : zNt} (h : dR d X Y) : dR d (cAsk2 X d) (cAsk2 Y d) := by
  unfold cAsk2
  rw [dr_dec h]
  split
  · exact dr_settle h _
  · exact h
theorem dr_ask2O (d : Nat) (X : zNt) {e : Nat} (he : e ≠ d) : dR d X (cAsk2 X e) := by
  unfold cAsk2; split
  · exact dr_settleO d X _ he
  · exact dr_rf d X
theorem dr_ask3 {d : Nat} {X Y : zNt} (h : dR d X Y) (s v : Int) : dR d (cAsk3 X d s v) (cAsk3 Y d s v) := by
  unfold cAsk3; split
  · exact dr_enter h _ _
  · exact h
theorem dr_ask3O (d : Nat) (X : zNt) {e : Nat} (s v : Int) (he : e ≠ d) : dR d X (cAsk3 X e s v) := by
  unfold cAsk3; split
  · exact dr_enterO d X _ _ he
  · exact dr_rf d X
theorem dr_ask {d : Nat} {X Y : zNt} (h : dR d X Y) (s o : Int) : dR d (cAskN X d s o) (cAskN Y d s o) := by
  have h1 : dR d (cAsk1 X) (cAsk1 Y) := h
  have hc : cCanAsk X d s o ↔ cCanAsk Y d s o := by
    show (s ≠ o ∧ cUp X s ∧ cUp X o ∧ cSt X d s = 1) ↔ _
    rw [dr_up h, dr_up h, dr_st h]
  unfold cAskN
  by_cases q : cCanAsk X d s o
  · rw [if_pos q, if_pos (hc.mp q)]
    unfold cAsk4
    rw [dr_lead h1, dr_st h1]
    split
    · have h2 := dr_ask2 h1
      rw [dr_dec h2]
      exact dr_ask3 h2 _ _
    · split
      · exact dr_enter (dr_enter h1 _ _) _ _
      · exact dr_ask3 h1 _ _
  · rw [if_neg q, if_neg (fun z => q (hc.mpr z))]; exact h
theorem dr_askO (d : Nat) (X : zNt) {e : Nat} (s o : Int) (he : e ≠ d) : dR d X (cAskN X e s o) := by
  unfold cAskN; split
  · have h1 : dR d X (cAsk1 X) := dr_rf d X
    refine dr_tr h1 ?_
    unfold cAsk4
    split
    · exact dr_tr (dr_ask2O d _ he) (dr_ask3O d _ _ _ he)
    · split
      · exact dr_tr (dr_enterO d _ _ _ he) (dr_enterO d _ _ _ he)
      · exact dr_ask3O d _ _ _ he
  · exact dr_rf d X
theorem dr_askL {d : Nat} {X Y : zNt} (h : dR d X Y) (s : Int) : ∀ o : Nat, dR d (cAskL X d s o) (cAskL Y d s o)
  | 0 => h
  | o + 1 => by rw [cAskL, cAskL]; exact dr_ask (dr_askL h s o) s o
theorem dr_askLO (d : Nat) (X : zNt) {e : Nat} (s : Int) (he : e ≠ d) : ∀ o : Nat, dR d X (cAskL X e s o)
  | 0 => dr_rf d X
  | o + 1 => by rw [cAskL]; exact dr_tr (dr_askLO d X s he o) (dr_askO d _ s o he)
theorem dr_tickS {d : Nat} {X Y : zNt} (h : dR d X Y) {s : Nat} (hs : s < 6) : dR d (cTickS X d s) (cTickS Y d s) := by
  have hc : cLoseC X d s ↔ cLoseC Y d s := by
    show (cUp X s ∧ cSt X d s = 1) ↔ _
    rw [dr_up h, dr_st h]
  have e5 : X 5 ((d : Int) * 6 + s).toNat = Y 5 ((d : Int) * 6 + s).toNat := by
    rw [show ((d : Int) * 6 + s).toNat = d * 6 + s by omega]
    exact (h.2.2.2.2.2 s hs).2
  unfold cTickS cLoseN
  by_cases q : cLoseC X d s
  · rw [if_pos q, if_pos (hc.mp q)]
    by_cases z : Y 5 ((d : Int) * 6 + s).toNat - 1 ≤ 0
    · have zx : X 5 ((d : Int) * 6 + s).toNat - 1 ≤ 0 := by rw [e5]; exact z
      rw [if_pos (show cLoseP X d s from ⟨q, zx⟩), if_pos (show cLoseP Y d s from ⟨hc.mp q, z⟩), if_pos zx, if_pos z]
      exact dr_askL (dr_u5 h _ h.2.2.1) _ 6
    · have zx : ¬ X 5 ((d : Int) * 6 + s).toNat - 1 ≤ 0 := by rw [e5]; exact z
      rw [if_neg (show ¬ cLoseP X d s from fun w => zx w.2), if_neg (show ¬ cLoseP Y d s from fun w => z w.2), if_neg zx, if_neg z, e5]
      exact dr_u5 h _ rfl
  · rw [if_neg (show ¬ cLoseP X d s from fun w => q w.1), if_neg (show ¬ cLoseP Y d s from fun w => q (hc.mpr w.1)), if_neg q, if_neg (fun z => q (hc.mpr z))]
    exact h
theorem dr_loseO (d : Nat) (X : zNt) {e : Nat} (s : Int) (he : e ≠ d) : dR d X (cLoseN X e s) := by
  unfold cLoseN
  split
  · rename_i q
    have hin := st_in (A := X) (d := e) (s := s) (by rw [q.2]; decide)
    split
    · exact dr_o5 d X _ (by omega)
    · exact dr_o5 d X _ (by omega)
  · exact dr_rf d X
theorem dr_tickSO (d : Nat) (X : zNt) {e : Nat} (s : Int) (he : e ≠ d) : dR d X (cTickS X e s) := by
  unfold cTickS; split
  · exact dr_tr (dr_loseO d X s he) (dr_askLO d _ s he 6)
  · exact dr_loseO d X s he
theorem dr_tickL {d : Nat} {X Y : zNt} (h : dR d X Y) : ∀ s : Nat, s ≤ 6 → dR d (cTickL X d s) (cTickL Y d s)
  | 0, _ => h
  | s + 1, hs => by rw [cTickL, cTickL]; exact dr_tickS (dr_tickL h s (by omega)) (by omega)
theorem dr_tickLO (d : Nat) (X : zNt) {e : Nat} (he : e ≠ d) : ∀ s : Nat, dR d X (cTickL X e s)
  | 0 => dr_rf d X
  | s + 1 => by rw [cTickL]; exact dr_tr (dr_tickLO d X he s) (dr_tickSO d _ s he)
theorem dr_tickD {d : Nat} {X Y : zNt} (h : dR d X Y) : dR d (cTickD X d) (cTickD Y d) := dr_tickL h 6 (by decide)
theorem dr_tickDO (d : Nat) (X : zNt) {e : Nat} (he : e ≠ d) : dR d X (cTickD X e) := dr_tickLO d X he 6
theorem dr_tickA (d : Nat) (X : zNt) : ∀ n : Nat, dR d (if d < n then cTickD X d else X) (cTickA X n)
  | 0 => by rw [if_neg (by omega)]; exact dr_rf d X
  | n + 1 => by
    have q := dr_tickA d X n
    rw [cTickA]
    rcases Nat.lt_trichotomy d n with z | z | z
    · rw [if_pos z] at q
      rw [if_pos (by omega)]
      exact dr_tr q (dr_tickDO d _ (by omega))
    · subst z
      rw [if_neg (by omega)] at q
      rw [if_pos (by omega)]
      exact dr_tickD q
    · rw [if_neg (by omega)] at q
      rw [if_neg (by omega)]
      exact dr_tr q (dr_tickDO d _ (by omega))
/-- the forecast: t ticks of the deal d alone -/
def cTkN (N : zNt) (d : Int) : Nat → zNt
  | 0 => N
  | t + 1 => cTickD (cTkN N d t) d
theorem ok_tkN {N : zNt} (ok : cOk N) (d : Int) : ∀ t : Nat, cOk (cTkN N d t)
  | 0 => ok
  | t + 1 => ok_tickL (ok_tkN ok d t) d 6
theorem cTkN_step {N : zNt} {d i : Int} (h : 0 ≤ i) : cTkN N d (i + 1).toNat = cTickD (cTkN N d i.toNat) d := by
  rw [show (i + 1).toNat = i.toNat + 1 by omega, cTkN]
theorem dr_tkN {N : zNt} {d : Nat} (hd : (d : Int) < N 0 0) : ∀ t : Nat, dR d (cTkN N d t) (cPassL N t)
  | 0 => dr_rf d N
  | t + 1 => by
    have q := dr_tkN hd t
    have w := dr_tickA d (cPassL N t) (N 0 0).toNat
    rw [if_pos (by omega)] at w
    rw [cTkN, cPassL]
    exact dr_tr (dr_tickD q) w
def cTte (N : zNt) (d s : Int) : Int := zFind (fun i => decide (cEnd (cSt (cTkN N d i.toNat) d s))) 41
