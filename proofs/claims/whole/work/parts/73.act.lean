/-! actions: their answers are never NONE when they can be done -/
theorem st_enter2 {N : zNt} (d s v e t : Int) : cSt (cEnter N d s v) e t = if (e = d ∧ t = s) ∧ cSt N d s ≠ -1 then v else cSt N e t := by
  unfold cEnter
  by_cases q : cSt N d s = -1
  · rw [if_pos q, if_neg (fun z => z.2 q)]
  · rw [if_neg q, st_write]
    have hin := st_in q
    have key : ∀ j, cEnter0 N d s v 4 j = if j = (d * 6 + s).toNat then v else N 4 j := fun j => by
      unfold cEnter0; split
      · exact e45 _ _ _ _ _
      · exact e44 _ _ _ _
    have e0 : cEnter0 N d s v 0 0 = N 0 0 := by unfold cEnter0; split <;> rfl
    unfold cSt
    rw [e0]
    by_cases w : 0 ≤ e ∧ e < N 0 0 ∧ 0 ≤ t ∧ t < 6
    · rw [if_pos w, if_pos w, key]
      by_cases z : e = d ∧ t = s
      · rw [if_pos (by rw [z.1, z.2]), if_pos ⟨z, q⟩]
      · rw [if_neg (by omega), if_neg (fun y => z y.1)]
    · rw [if_neg w, if_neg w, if_neg (fun y => w (by rw [y.1.1, y.1.2]; exact hin))]
theorem nn_enter {N : zNt} {e t : Int} (h : cSt N e t ≠ -1) (d s : Int) {v : Int} (hv : v ≠ -1) : cSt (cEnter N d s v) e t ≠ -1 := by
  rw [st_enter2]; split
  · exact hv
  · exact h
theorem nn_ask3 {N : zNt} {e t : Int} (h : cSt N e t ≠ -1) (d s v : Int) : cSt (cAsk3 N d s v) e t ≠ -1 := by
  unfold cAsk3; split
  · rename_i q; exact nn_enter h _ _ (by omega)
  · exact h
theorem nn_ask {N : zNt} {e t : Int} (h : cSt N e t ≠ -1) (d s o : Int) : cSt (cAskN N d s o) e t ≠ -1 := by
  unfold cAskN; split
  · have h1 : cSt (cAsk1 N) e t ≠ -1 := h
    unfold cAsk4
    split
    · exact nn_ask3 (by rw [st_ask2]; exact h1) _ _ _
    · split
      · exact nn_enter (nn_enter h1 _ _ (by decide)) _ _ (by decide)
      · exact nn_ask3 h1 _ _ _
  · exact h
theorem nn_tell {N : zNt} {e t : Int} (h : cSt N e t ≠ -1) (d s : Int) : cSt (cTellN N d s) e t ≠ -1 := by
  unfold cTellN; split
  · rename_i q
    have := q.1.2.2.2
    exact nn_enter h _ _ (by omega)
  · exact h
/-- ended stays ended -/
theorem en_enter {N : zNt} {e t : Int} (h : cEnd (cSt N e t)) (d s : Int) {v : Int} (hv : cEnd v) : cEnd (cSt (cEnter N d s v) e t) := by
  rw [st_enter2]; split
  · exact hv
  · exact h
theorem en_ask3 {N : zNt} {e t : Int} (h : cEnd (cSt N e t)) (d s v : Int) : cEnd (cSt (cAsk3 N d s v) e t) := by
  unfold cAsk3; split
  · rename_i q; exact en_enter h _ _ q
  · exact h
theorem en_ask {N : zNt} {e t : Int} (h : cEnd (cSt N e t)) (d s o : Int) : cEnd (cSt (cAskN N d s o) e t) := by
  unfold cAskN; split
  · have h1 : cEnd (cSt (cAsk1 N) e t) := h
    unfold cAsk4
    split
    · exact en_ask3 (by rw [st_ask2]; exact h1) _ _ _
    · split
      · exact en_enter (en_enter h1 _ _ (Or.inr rfl)) _ _ (Or.inr rfl)
      · exact en_ask3 h1 _ _ _
  · exact h
theorem en_askL {N : zNt} {e t : Int} (h : cEnd (cSt N e t)) (d s : Int) : ∀ o : Nat, cEnd (cSt (cAskL N d s o) e t)
  | 0 => h
  | o + 1 => by rw [cAskL]; exact en_ask (en_askL h d s o) _ _ _
theorem en_lose {N : zNt} {e t : Int} (h : cEnd (cSt N e t)) (d s : Int) : cEnd (cSt (cLoseN N d s) e t) := by
  unfold cLoseN; split
  · split
    · exact h
    · exact h
  · exact h
theorem en_tickS {N : zNt} {e t : Int} (h : cEnd (cSt N e t)) (d s : Int) : cEnd (cSt (cTickS N d s) e t) := by
  unfold cTickS; split
  · exact en_askL (en_lose h _ _) _ _ 6
  · exact en_lose h _ _
theorem en_tickL {N : zNt} {e t : Int} (h : cEnd (cSt N e t)) (d : Int) : ∀ s : Nat, cEnd (cSt (cTickL N d s) e t)
  | 0 => h
  | s + 1 => by rw [cTickL]; exact en_tickS (en_tickL h d s) _ _
theorem en_tickA {N : zNt} {e t : Int} (h : cEnd (cSt N e t)) : ∀ d : Nat, cEnd (cSt (cTickA N d) e t)
  | 0 => h
  | d + 1 => by rw [cTickA]; exact en_tickL (en_tickA h d) _ 6
theorem en_passL {N : zNt} {e t : Int} (h : cEnd (cSt N e t)) : ∀ n : Nat, cEnd (cSt (cPassL N n) e t)
  | 0 => h
  | n + 1 => by rw [cPassL]; exact en_tickA (en_passL h n) _
theorem zSum_mono {f g : Int → Int} {n : Nat} (h : ∀ i : Nat, i < n → f i ≤ g i) : zSum f n ≤ zSum g n := by
  induction n with
  | zero => exact Int.le_refl _
  | succ n ih =>
    rw [zSum, zSum]
    have h1 := ih (fun i hi => h i (by omega))
    have h2 := h n (by omega)
    omega
theorem cnt23 (N : zNt) : cCnt N 2 + cCnt N 3 = zSum (fun d => zSum (fun s => if cEnd (cSt N d s) then 1 else 0) 6) (N 0 0).toNat := by
  unfold cCnt
  rw [← zSum_add]
  refine zSum_cg (fun i _ => ?_)
  show zSum (fun s => if cSt N i s = 2 then (1 : Int) else 0) 6 + zSum (fun s => if cSt N i s = 3 then (1 : Int) else 0) 6 = zSum (fun s => if cEnd (cSt N i s) then 1 else 0) 6
  rw [← zSum_add]
  refine zSum_cg (fun j _ => ?_)
  show (if cSt N i j = 2 then (1 : Int) else 0) + (if cSt N i j = 3 then 1 else 0) = if (cSt N i j = 2 ∨ cSt N i j = 3) then 1 else 0
  (repeat' split) <;> omega
theorem passR_nn (N : zNt) (t : Int) : 0 ≤ cPassR N t := by
  unfold cPassR
  rw [cnt23, cnt23]
  have e : cPassN N t 0 0 = N 0 0 := n_passL N _
  rw [e]
  have h : zSum (fun d => zSum (fun s => if cEnd (cSt N d s) then (1 : Int) else 0) 6) (N 0 0).toNat ≤ zSum (fun d => zSum (fun s => if cEnd (cSt (cPassN N t) d s) then (1 : Int) else 0) 6) (N 0 0).toNat := by
    refine zSum_mono (fun i _ => zSum_mono (fun j _ => ?_))
    by_cases q : cEnd (cSt N i j)
    · rw [if_pos q, if_pos (show cEnd (cSt (cPassN N t) i j) from en_passL q _)]; exact Int.le_refl _
    · rw [if_neg q]; split <;> decide
  omega
/-- logs only grow -/
theorem lg_write (N : zNt) (s e : Int) (j : Nat) : N 6 j ≤ cWrite N s e 6 j := by
  unfold cWrite; split
  · by_cases z : j = s.toNat
    · rw [z, up2_at]; omega
    · rw [up2_ne _ _ (fun w => z w.2), up2_rw _ _ (by decide)]; exact Int.le_refl _
  · exact Int.le_refl _
theorem lg_enter (N : zNt) (d s v : Int) (j : Nat) : N 6 j ≤ cEnter N d s v 6 j := by
  unfold cEnter; split
  · exact Int.le_refl _
  · have e : cEnter0 N d s v 6 j = N 6 j := by unfold cEnter0; split <;> rfl
    rw [← e]; exact lg_write _ _ _ _
theorem lg_settle (N : zNt) (d v : Int) (j : Nat) : N 6 j ≤ cSettle N d v 6 j := by
  unfold cSettle; split
  · exact lg_write (up2 N 3 d.toNat v) _ _ _
  · exact Int.le_refl _
theorem lg_wkL (N : zNt) (s : Int) (j : Nat) : ∀ k : Nat, N 6 j ≤ cWkL N s k 6 j
  | 0 => Int.le_refl _
  | k + 1 => by
    have q := lg_wkL N s j k
    have h1 : cWkL N s k 6 j ≤ cWk1 (cWkL N s k) k s 6 j := by
      unfold cWk1; split
      · exact lg_enter _ _ _ _ _
      · exact Int.le_refl _
    have h2 : cWk1 (cWkL N s k) k s 6 j ≤ cWk2 (cWk1 (cWkL N s k) k s) k s 6 j := by
      unfold cWk2; split
      · exact lg_settle _ _ _ _
      · exact Int.le_refl _
    rw [cWkL]
    omega
theorem wkR_nn {N : zNt} {s : Int} (hc : cCanWk N s) : 0 ≤ cWkR N s := by
  unfold cWkR cWkN
  rw [if_pos hc, if_pos hc]
  unfold cEnt
  rw [if_pos hc.1, if_pos hc.1]
  have h := lg_wkL (cWk N s) s s.toNat (N 0 0).toNat
  have e : cWk N s 6 s.toNat = N 6 s.toNat := rfl
  omega
theorem zSum_nn {f : Int → Int} {n : Nat} (h : ∀ i : Nat, 0 ≤ f i) : 0 ≤ zSum f n := by
  induction n with
  | zero => exact Int.le_refl _
  | succ n ih => rw [zSum]; have := h n; omega
theorem silR_nn {N : zNt} {s : Int} (hc : cUp N s) : 0 ≤ cSilR N s := by
  unfold cSilR
  rw [if_pos hc]
  exact zSum_nn (fun i => by show 0 ≤ if cSt (cSil N s) i s = 1 then (1 : Int) else 0; split <;> decide)
/-- what an action's method answers and makes of the class's Net, by letter and numbers -/
def kR (L F S X : Int) (A : zNt) : Int :=
  if L = 121 then cVoteR A F S 1 else if L = 110 then cVoteR A F S 0 else if L = 100 then cDecideR A F else if L = 103 then cTellR A F S
  else if L = 97 then cAskR A F S X else if L = 120 then cSilR A F else if L = 117 then cWkR A F else if L = 116 then cPassR A F else -1
def kN (L F S X : Int) (A : zNt) : zNt :=
  if L = 121 then cVoteN A F S 1 else if L = 110 then cVoteN A F S 0 else if L = 100 then cDecideN A F else if L = 103 then cTellN A F S
  else if L = 97 then cAskN A F S X else if L = 120 then cSilN A F else if L = 117 then cWkN A F else if L = 116 then cPassN A F else A
theorem sr_voteA {A B : zNt} (h : sR A B) {L F S X y : Int} (hL : L = 121 ∨ L = 110) (hy : y = if L = 121 then 1 else 0) : if mCan L F S X B = true then cVoteR A F S y ≠ -1 ∧ sR (cVoteN A F S y) (mDo L F S X B) else cVoteR A F S y = -1 ∧ cVoteN A F S y = A := by
  have hne : L ≠ 97 ∧ L ≠ 100 ∧ L ≠ 103 ∧ L ≠ 116 ∧ L ≠ 117 ∧ L ≠ 120 := by omega
  by_cases c : mCan L F S X B = true
  · rw [if_pos c]
    have hc := (nr_canVote h.2.1 F S).mpr (mCan_v hne c).2
    have e := mDo_v (F := F) (S := S) (T := X) (V := B) hne
    rw [← hy] at e
    rw [← e]
    refine ⟨?_, sr_vote h y hc⟩
    have := rg_voteV A F S y
    unfold cVoteR
    rw [if_pos hc]
    omega
  · rw [if_neg c]
    have hc : ¬ cCanVote A F S := fun z => c (mCan_vr hne ⟨(nr_has h.2.1 F).mp (cHas_st (s := S) (by rw [z.2]; decide)), (nr_canVote h.2.1 F S).mp z⟩)
    exact ⟨if_neg hc, if_neg hc⟩
theorem sr_act {A B M : zNt} (h : sR A B) (pr : rPr M) : if mCan (M 0 6) (M 0 7) (M 0 8) (M 0 9) B = true then kR (M 0 6) (M 0 7) (M 0 8) (M 0 9) A ≠ -1 ∧ sR (kN (M 0 6) (M 0 7) (M 0 8) (M 0 9) A) (mDo (M 0 6) (M 0 7) (M 0 8) (M 0 9) B) else kR (M 0 6) (M 0 7) (M 0 8) (M 0 9) A = -1 ∧ kN (M 0 6) (M 0 7) (M 0 8) (M 0 9) A = A := by
  unfold rPr at pr
  generalize M 0 6 = L at *
  generalize M 0 7 = F at *
  generalize M 0 8 = S at *
  generalize M 0 9 = X at *
  have nr := h.2.1
  unfold kR kN
  by_cases c1 : L = 121
  · rw [if_pos c1, if_pos c1]; exact sr_voteA h (Or.inl c1) (by rw [if_pos c1])
  rw [if_neg c1, if_neg c1]
  by_cases c2 : L = 110
  · rw [if_pos c2, if_pos c2]; exact sr_voteA h (Or.inr c2) (by rw [if_neg c1])
  rw [if_neg c2, if_neg c2]
  by_cases c3 : L = 100
  · rw [if_pos c3, if_pos c3, ← mDo_d c3]
    by_cases c : mCan L F S X B = true
    · rw [if_pos c]
      have hc := (nr_canDecide nr F).mpr (mCan_d c3 c).2
      refine ⟨?_, sr_decide h hc⟩
      unfold cDecideR cDecV
      rw [if_pos hc]; split <;> decide
    · rw [if_neg c]
      have hc : ¬ cCanDecide A F := fun z => c (mCan_dr c3 ⟨(nr_has nr F).mp (cHas_dec (by rw [z.2]; decide)), (nr_canDecide nr F).mp z⟩)
      exact ⟨if_neg hc, if_neg hc⟩
  rw [if_neg c3, if_neg c3]
  by_cases c4 : L = 103
  · rw [if_pos c4, if_pos c4, ← mDo_g c4]
    by_cases c : mCan L F S X B = true
    · rw [if_pos c]
      have hc := (nr_canTell nr F S).mpr (mCan_g c4 c).2
      refine ⟨?_, sr_tell h hc⟩
      unfold cTellR
      rw [if_pos hc]; exact nn_tell hc.2.2.1 _ _
    · rw [if_neg c]
      have hc : ¬ cCanTell A F S := fun z => c (mCan_gr c4 ⟨(nr_has nr F).mp (cHas_st z.2.2.1), (nr_canTell nr F S).mp z⟩)
      exact ⟨if_neg hc, if_neg (fun z => hc z.1)⟩
  rw [if_neg c4, if_neg c4]
  by_cases c5 : L = 97
  · rw [if_pos c5, if_pos c5, ← mDo_a c5]
    have hsx : S ≠ X := by omega
    by_cases c : mCan L F S X B = true
    · rw [if_pos c]
      have hc : cCanAsk A F S X := (nr_canAsk nr F S X).mpr ⟨hsx, (mCan_a c5 c).2⟩
      refine ⟨?_, sr_ask h hc⟩
      unfold cAskR
      rw [if_pos hc]; exact nn_ask (by rw [hc.2.2.2]; decide) _ _ _
    · rw [if_neg c]
      have hc : ¬ cCanAsk A F S X := fun z => c (mCan_ar c5 ⟨(nr_has nr F).mp (cHas_st (s := S) (by rw [z.2.2.2]; decide)), ((nr_canAsk nr F S X).mp z).2⟩)
      exact ⟨if_neg hc, if_neg hc⟩
  rw [if_neg c5, if_neg c5]
  by_cases c6 : L = 120
  · rw [if_pos c6, if_pos c6, ← mDo_x c6]
    by_cases c : mCan L F S X B = true
    · rw [if_pos c]
      have hc := (nr_up nr F).mpr (mCan_x c6 c)
      refine ⟨?_, sr_sil h hc⟩
      have := silR_nn hc
      omega
    · rw [if_neg c]
      have hc : ¬ cUp A F := fun z => c (mCan_xr c6 ((nr_up nr F).mp z))
      exact ⟨if_neg hc, if_neg hc⟩
  rw [if_neg c6, if_neg c6]
  by_cases c7 : L = 117
  · rw [if_pos c7, if_pos c7, ← mDo_u c7]
    by_cases c : mCan L F S X B = true
    · rw [if_pos c]
      have hc : cCanWk A F := ⟨by omega, fun z => mCan_u c7 c ((nr_up nr F).mp z)⟩
      refine ⟨?_, sr_wk h hc⟩
      have := wkR_nn hc
      omega
    · rw [if_neg c]
      have hc : ¬ cCanWk A F := fun z => c (mCan_ur c7 (fun w => z.2 ((nr_up nr F).mpr w)))
      exact ⟨if_neg hc, if_neg hc⟩
  rw [if_neg c7, if_neg c7]
  have c8 : L = 116 := by omega
  rw [if_pos c8, if_pos c8, ← mDo_t c8, if_pos (mCan_tr c8)]
  refine ⟨?_, sr_pass h F⟩
  have := passR_nn A F
  omega
/-! run: the class's loop over the ends of actions -/
def pR (T : zNt) (s e : Int) (A : zNt) : Int := kR (tSg T s) (if tSg T s = 116 then tNum T (s + 1) (e - (s + 1)).toNat else tSg T (s + 1) - 48) (tSg T (s + 2) - 48) (tSg T (s + 3) - 48) A
def pN (T : zNt) (s e : Int) (A : zNt) : zNt := kN (tSg T s) (if tSg T s = 116 then tNum T (s + 1) (e - (s + 1)).toNat else tSg T (s + 1) - 48) (tSg T (s + 2) - 48) (tSg T (s + 3) - 48) A
abbrev aEnd (T : zNt) (i : Int) : Prop := i = T 0 1 ∨ tSg T i = 59
def cRl (T : zNt) : Nat → Int → Int → zNt → Int × zNt
  | 0, _, _, A => (0, A)
  | f + 1, i, s, A => if aEnd T i then (if pR T s i A = -1 then (0, pN T s i A) else ((cRl T f (i + 1) (i + 1) (pN T s i A)).1 + 1, (cRl T f (i + 1) (i + 1) (pN T s i A)).2)) else cRl T f (i + 1) s A
/-- the reference at the place s -/
def tN (T : zNt) (s : Int) : zNt := fun r j => if r = 0 ∧ j = 4 then T 0 1 else if r = 0 ∧ j = 5 then s else if r = 2 then T 1 j else 0
theorem tN_X (T : zNt) {s : Int} (h : 0 ≤ s) : tX T (tN T s) := ⟨⟨rfl, fun j _ => rfl⟩, h⟩
theorem tN_q {T : zNt} (tk : tOk T) {s : Int} (h : 0 ≤ s ∧ s ≤ T 0 1) : qOk (tN T s) := ⟨⟨h, tk.1.2⟩, tk.2⟩
/-- a whole text's action that begins at s ends at the next end -/
theorem act_end {T N : zNt} {s i : Int} (hp : N 0 5 = s) (h : tX T N) (co : tCom T) (h1 : pH T s = 1) (hs : s ≤ i) (hi : i ≤ T 0 1) (hn : ∀ j, s ≤ j → j < i → tSg T j ≠ 59) (he : aEnd T i) : rAc N = true ∧ rAcN N 0 5 = i ∧ aGood T s i ∧ aVal T s i (rAcN N) := by
  have q := act hp h (by omega) h1
  have h0 : 0 ≤ s := hp ▸ h.2
  by_cases c : rAc N = true
  · rw [if_pos c] at q
    obtain ⟨q, v⟩ := q
    have e : rAcN N 0 5 = i := by
      have q1 := q.1
      rcases Int.lt_trichotomy (rAcN N 0 5) i with z | z | z
      · exfalso
        have w := q.2.2.2.2 (by omega) (hn _ (by omega) z)
        have w2 := pH_0s (T := T) (i := rAcN N 0 5 + 1) (by omega) w (T 0 1 - (rAcN N 0 5 + 1)).toNat
        rw [show rAcN N 0 5 + 1 + (((T 0 1 - (rAcN N 0 5 + 1)).toNat : Nat) : Int) = T 0 1 by omega] at w2
        have := (tCom_iff T).mp co
        rw [w2] at this
        exact absurd this (by unfold aC; decide)
      · exact z
      · exfalso
        rcases he with he | he
        · omega
        · exact q.2.2.2.1 i hs z he
    rw [e] at q v
    exact ⟨c, e, q, v⟩
  · rw [if_neg c] at q
    exact absurd ((tCom_iff T).mp co) (bad_com h0 q)
theorem pR_k {T M : zNt} {s i : Int} (v : aVal T s i M) (pr : rPr M) (A : zNt) : pR T s i A = kR (M 0 6) (M 0 7) (M 0 8) (M 0 9) A ∧ pN T s i A = kN (M 0 6) (M 0 7) (M 0 8) (M 0 9) A := by
  obtain ⟨v1, v2, v3, v4, v5⟩ := v
  have e7 : (if tSg T s = 116 then tNum T (s + 1) (i - (s + 1)).toNat else tSg T (s + 1) - 48) = M 0 7 := by
    by_cases z : tSg T s = 116
    · rw [if_pos z]; exact (v5 z).symm
    · rw [if_neg z]; exact (v2 z).symm
  unfold pR pN
  rw [e7, v1]
  unfold rPr at pr
  rw [v1] at pr
  unfold kR kN
  by_cases c1 : tSg T s = 121
  · rw [if_pos c1, if_pos c1, if_pos c1, if_pos c1, v3 (by omega)]; exact ⟨rfl, rfl⟩
  rw [if_neg c1, if_neg c1, if_neg c1, if_neg c1]
  by_cases c2 : tSg T s = 110
  · rw [if_pos c2, if_pos c2, if_pos c2, if_pos c2, v3 (by omega)]; exact ⟨rfl, rfl⟩
  rw [if_neg c2, if_neg c2, if_neg c2, if_neg c2]
  by_cases c3 : tSg T s = 100
  · rw [if_pos c3, if_pos c3, if_pos c3, if_pos c3]; exact ⟨rfl, rfl⟩
  rw [if_neg c3, if_neg c3, if_neg c3, if_neg c3]
  by_cases c4 : tSg T s = 103
  · rw [if_pos c4, if_pos c4, if_pos c4, if_pos c4, v3 (by omega)]; exact ⟨rfl, rfl⟩
  rw [if_neg c4, if_neg c4, if_neg c4, if_neg c4]
  by_cases c5 : tSg T s = 97
  · rw [if_pos c5, if_pos c5, if_pos c5, if_pos c5, v3 (by omega), v4 c5]; exact ⟨rfl, rfl⟩
  rw [if_neg c5, if_neg c5, if_neg c5, if_neg c5]
  exact ⟨rfl, rfl⟩
theorem cRl_skip {T : zNt} {s : Int} {A : zNt} : ∀ (k f : Nat) (i : Int), (∀ j, i ≤ j → j < i + k → ¬ aEnd T j) → cRl T (f + k) i s A = cRl T f (i + k) s A
  | 0, f, i, _ => by rw [show i + ((0 : Nat) : Int) = i by omega]; rfl
  | k + 1, f, i, h => by
    rw [show f + (k + 1) = (f + k) + 1 by omega, cRl, if_neg (h i (by omega) (by omega)), cRl_skip k f (i + 1) (fun j a b => h j (by omega) (by omega)), show i + 1 + (k : Int) = i + ((k + 1 : Nat) : Int) by omega]
theorem run_eq {T : zNt} (tk : tOk T) (co : tCom T) : ∀ (f : Nat) (P A B : zNt) (s : Int), P 0 5 = s → tX T P → qOk P → s ≤ T 0 1 → pH T s = 1 → sR A B → T 0 1 + 1 - s ≤ f → (cRl T (T 0 1 + 1 - s).toNat s s A).1 = (rRun f P B).1 ∧ sR (cRl T (T 0 1 + 1 - s).toNat s s A).2 (rRun f P B).2
  | 0, P, A, B, s, hp, h, qk, hs, h1, hr, hf => by omega
  | f + 1, P, A, B, s, hp, h, qk, hs, h1, hr, hf => by
    have h0 : 0 ≤ s := hp ▸ h.2
    have q := act hp h hs h1
    by_cases c : rAc P = true
    · rw [if_pos c] at q
      obtain ⟨g, v⟩ := q
      obtain ⟨i, hi⟩ : ∃ i, i = rAcN P 0 5 := ⟨_, rfl⟩
      rw [← hi] at g v
      have g1 := g.1
      have pr := rAc_pr qk c
      have he : aEnd T i := by
        by_cases z : i = T 0 1
        · exact Or.inl z
        · right
          apply Classical.byContradiction
          intro w
          have w0 := g.2.2.2.2 (by omega) w
          have w2 := pH_0s (T := T) (i := i + 1) (by omega) w0 (T 0 1 - (i + 1)).toNat
          rw [show i + 1 + (((T 0 1 - (i + 1)).toNat : Nat) : Int) = T 0 1 by omega] at w2
          have := (tCom_iff T).mp co
          rw [w2] at this
          exact absurd this (by unfold aC; decide)
      have hsk : cRl T (T 0 1 + 1 - s).toNat s s A = cRl T ((T 0 1 - i).toNat + 1) i s A := by
        have w := cRl_skip (T := T) (s := s) (A := A) (i - s).toNat ((T 0 1 - i).toNat + 1) s (fun j a b => ?_)
        · rw [show (T 0 1 - i).toNat + 1 + (i - s).toNat = (T 0 1 + 1 - s).toNat by omega, show s + (((i - s).toNat : Nat) : Int) = i by omega] at w
          exact w
        · rintro (z | z)
          · omega
          · exact g.2.2.2.1 j a (by omega) z
      have pk := pR_k v pr A
      have sa := sr_act hr pr
      rw [hsk, cRl, if_pos he, pk.1, pk.2, rRun]
      by_cases mc : mCan (rAcN P 0 6) (rAcN P 0 7) (rAcN P 0 8) (rAcN P 0 9) B = true
      · rw [if_pos mc] at sa
        rw [if_neg sa.1, if_pos ⟨c, mc⟩]
        have es := tX_S (tX_ac h)
        by_cases z : i = T 0 1
        · have e0 : (T 0 1 - i).toNat = 0 := by omega
          rw [e0, cRl]
          have hns : ¬ rS (rAcN P) = 59 := by
            rw [es, ← hi, z]
            unfold tSg
            rw [if_neg (by omega)]; decide
          rw [rTk_no hns]
          have er : rRun f (rAcN P) (mDo (rAcN P 0 6) (rAcN P 0 7) (rAcN P 0 8) (rAcN P 0 9) B) = (0, mDo (rAcN P 0 6) (rAcN P 0 7) (rAcN P 0 8) (rAcN P 0 9) B) := by
            have hz : rS (rAcN P) = 0 := by rw [es, ← hi, z]; unfold tSg; rw [if_neg (by omega)]
            have hc : rAc (rAcN P) = false := by unfold rAc; rw [hz]; rfl
            cases f with
            | zero => rfl
            | succ f => rw [rRun, hc, if_neg (fun w => absurd w.1 (by decide))]
          rw [er]
          exact ⟨rfl, sa.2⟩
        · have hs59 : tSg T i = 59 := by rcases he with he | he; exact absurd he z; exact he
          have hS : rS (rAcN P) = 59 := by rw [es, ← hi]; exact hs59
          have e5 : rTk (rAcN P) 59 0 5 = i + 1 := by rw [rTk_yes hS, hi]; exact up2_at _ _ _ _
          have e1 := good_sep h0 g hs59
          have w := run_eq tk co f (rTk (rAcN P) 59) (kN (rAcN P 0 6) (rAcN P 0 7) (rAcN P 0 8) (rAcN P 0 9) A) (mDo (rAcN P 0 6) (rAcN P 0 7) (rAcN P 0 8) (rAcN P 0 9) B) (i + 1) e5 (tX_tk (tX_ac h) 59) (qk_tk (qk_ac qk) (by decide)) (by omega) e1 sa.2 (by omega)
          rw [show (T 0 1 + 1 - (i + 1)).toNat = (T 0 1 - i).toNat by omega] at w
          exact ⟨by rw [w.1], w.2⟩
      · rw [if_neg mc] at sa
        rw [if_pos sa.1, if_neg (fun w => mc w.2), sa.2]
        exact ⟨rfl, hr⟩
    · rw [if_neg c] at q
      exact absurd ((tCom_iff T).mp co) (bad_com h0 q)
