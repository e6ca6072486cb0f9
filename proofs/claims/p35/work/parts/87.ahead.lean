/-! WHAT A DEED DOES; what is told ahead -/
theorem zFind_spec {f : Int → Bool} : ∀ n : Nat, zFind f n = -1 ∨ (0 ≤ zFind f n ∧ zFind f n < n ∧ f (zFind f n) = true ∧ ∀ i : Nat, (i : Int) < zFind f n → f i = false)
  | 0 => Or.inl rfl
  | n + 1 => by
    rw [zFind]
    by_cases z : zFind f n ≠ -1
    · rw [if_pos z]
      rcases zFind_spec (f := f) n with q | q
      · exact absurd q z
      · exact Or.inr ⟨q.1, by omega, q.2.2⟩
    · rw [if_neg z]
      by_cases y : f n = true
      · rw [if_pos y]
        exact Or.inr ⟨by omega, by omega, y, fun i hi => zFind_all (Decidable.not_not.mp z) i (by omega)⟩
      · rw [if_neg y]; exact Or.inl rfl
theorem reas_1 {A : zNt} (d s : Int) : cReas A d s = 1 ↔ cSt A d s = -1 := by
  unfold cReas
  (repeat' split) <;> simp_all
theorem reas_0 {A : zNt} {d s : Int} (h0 : cSt A d s = 0) (hu : cUp A s) : cReas A d s = 0 ↔ cVoteR A d s 1 = 1 := by
  unfold cReas cVoteR cVoteV
  rw [if_neg (by omega), if_neg (fun y => y hu), if_neg (fun y => y h0), if_pos (show cCanVote A d s from ⟨hu, h0⟩)]
  by_cases z : cHolds A d s
  · rw [if_pos z, if_neg (fun y => y.2 z)]; decide
  · rw [if_neg z, if_pos ⟨by decide, z⟩]; decide
theorem help_ok {A : zNt} {d s : Int} (h : 0 ≤ cHelp A d s) : (cHelp A d s = cLead A d ∨ cAns (cSt A d (cHelp A d s))) ∧ cCanAsk A d s (cHelp A d s) := by
  rcases zFind_spec (f := fun o => decide ((o = cLead A d ∨ cAns (cSt A d o)) ∧ cCanAsk A d s o)) 6 with q | q
  · have e : cHelp A d s = -1 := q
    omega
  · exact of_decide_eq_true q.2.2.1
theorem help_no {A : zNt} {d s o : Int} (hc : cCanAsk A d s o) (h : cHelp A d s < 0 ∨ o < cHelp A d s) : o ≠ cLead A d ∧ ¬ cAns (cSt A d o) := by
  have o0 := hc.2.2.1.1
  have o6 := hc.2.2.1.2.1
  have key : (fun o => decide ((o = cLead A d ∨ cAns (cSt A d o)) ∧ cCanAsk A d s o)) ((o.toNat : Nat) : Int) = false := by
    rcases zFind_spec (f := fun o => decide ((o = cLead A d ∨ cAns (cSt A d o)) ∧ cCanAsk A d s o)) 6 with q | q
    · exact zFind_all q o.toNat (by omega)
    · have e : cHelp A d s = zFind (fun o => decide ((o = cLead A d ∨ cAns (cSt A d o)) ∧ cCanAsk A d s o)) 6 := rfl
      exact q.2.2.2 o.toNat (by omega)
  rw [Int.toNat_of_nonneg o0] at key
  have k2 := of_decide_eq_false key
  exact ⟨fun y => k2 ⟨Or.inl y, hc⟩, fun y => k2 ⟨Or.inr y, hc⟩⟩
theorem ask3_st {N : zNt} {d s v : Int} (h1 : cSt N d s = 1) (hv : cEnd v) : cSt (cAsk3 N d s v) d s = v := by
  unfold cAsk3
  rw [if_pos hv, st_enter (by omega), if_pos ⟨rfl, rfl⟩]
theorem dc_2 {N : zNt} (j : jN N) {d : Int} (hd : cHas N d) : cDec N d = 0 ∨ cDec N d = 2 ∨ cDec N d = 3 := (uS_end j hd).2.2.2
theorem ask_st {A : zNt} (j : jN A) {d s o : Int} (hc : cCanAsk A d s o) (h : o = cLead A d ∨ cAns (cSt A d o)) : 2 ≤ cAskR A d s o ∧ cAskR A d s o ≤ 3 := by
  have h1 : cSt A d s = 1 := hc.2.2.2
  have hin := cSt_in (N := A) (d := d) (s := s) (by omega)
  have hd : cHas A d := ⟨hin.1, hin.2.1⟩
  have e1 : cSt (cAsk1 A) d s = 1 := h1
  have j1 : jN (cAsk1 A) := (jS_f (f := 2) (x := A 0 2 + 1) j (by decide) (ok_f2 j.1 _)).1
  unfold cAskR cAskN
  rw [if_pos hc, if_pos hc]
  unfold cAsk4
  by_cases z : o = cLead (cAsk1 A) d
  · rw [if_pos z]
    have j2 := jS_ask2 j1 d
    have hd2 : cHas (cAsk2 (cAsk1 A) d) d := ⟨hd.1, by rw [j2.2.2]; exact hd.2⟩
    have ne0 : cDec (cAsk2 (cAsk1 A) d) d ≠ 0 := by
      unfold cAsk2; split
      · rw [dc_settle (show cHas (cAsk1 A) d from hd), if_pos rfl]; decide
      · assumption
    have e := dc_2 j2.1 hd2
    rw [ask3_st (by rw [st_ask2]; exact e1) (by omega)]
    omega
  · rw [if_neg z]
    have ha : cAns (cSt A d o) := by
      rcases h with h | h
      · exact absurd h z
      · exact h
    by_cases y : cSt (cAsk1 A) d o = 0
    · rw [if_pos y, st_enter (by rw [st_enter (by omega), if_neg (fun w => hc.1 w.2)]; omega), if_pos ⟨rfl, rfl⟩]
      decide
    · rw [if_neg y]
      have he : cEnd (cSt (cAsk1 A) d o) := by
        rcases ha with ha | ha
        · exact absurd ha y
        · exact ha
      rw [ask3_st e1 he]
      rcases he with he | he <;> rw [he] <;> decide
theorem ask_no {A : zNt} {d s o : Int} (hc : cCanAsk A d s o) (h : o ≠ cLead A d ∧ ¬ cAns (cSt A d o)) : cAskR A d s o = 1 := by
  have h1 : cSt A d s = 1 := hc.2.2.2
  unfold cAskR cAskN
  rw [if_pos hc, if_pos hc]
  unfold cAsk4
  rw [if_neg (show ¬ o = cLead (cAsk1 A) d from h.1), if_neg (show ¬ cSt (cAsk1 A) d o = 0 from fun y => h.2 (Or.inl y))]
  unfold cAsk3
  rw [if_neg (show ¬ cEnd (cSt (cAsk1 A) d o) from fun y => h.2 (Or.inr y))]
  exact h1
theorem zSum_mono {f g : Int → Int} {n : Nat} (h : ∀ i : Nat, i < n → f i ≤ g i) : zSum f n ≤ zSum g n := by
  induction n with
  | zero => exact Int.le_refl _
  | succ n ih =>
    have a := ih (fun i hi => h i (by omega))
    have b := h n (by omega)
    rw [zSum, zSum]; omega
theorem zSum_lt {f g : Int → Int} {n k : Nat} (hk : k < n) (h : ∀ i : Nat, i < n → f i ≤ g i) (hs : f k + 1 ≤ g k) : zSum f n + 1 ≤ zSum g n := by
  induction n with
  | zero => omega
  | succ n ih =>
    have b := h n (by omega)
    rw [zSum, zSum]
    by_cases z : k = n
    · have a := zSum_mono (f := f) (g := g) (n := n) (fun i hi => h i (by omega))
      rw [z] at hs; omega
    · have a := ih (by omega) (fun i hi => h i (by omega))
      omega
theorem zSum_add (f g : Int → Int) : ∀ n : Nat, zSum (fun i => f i + g i) n = zSum f n + zSum g n
  | 0 => rfl
  | n + 1 => by rw [zSum, zSum, zSum, zSum_add f g n]; omega
def eN (A : zNt) (d s : Int) : Int := (if cSt A d s = 2 then 1 else 0) + (if cSt A d s = 3 then 1 else 0)
theorem eN_v {A : zNt} (ok : cOk A) (d s : Int) : (2 ≤ cSt A d s ∧ eN A d s = 1) ∨ (cSt A d s < 2 ∧ eN A d s = 0) := by
  have h := rg_st ok d s
  unfold eN
  rcases (show cSt A d s = 2 ∨ cSt A d s = 3 ∨ (cSt A d s ≠ 2 ∧ cSt A d s ≠ 3) by omega) with z | z | z
  · rw [z]; exact Or.inl ⟨by decide, rfl⟩
  · rw [z]; exact Or.inl ⟨by decide, rfl⟩
  · rw [if_neg z.1, if_neg z.2]; exact Or.inr ⟨by omega, rfl⟩
theorem cnt_e (A : zNt) : cCnt A 2 + cCnt A 3 = zSum (fun d => zSum (fun s => eN A d s) 6) (A 0 0).toNat := by
  unfold cCnt
  rw [← zSum_add]
  refine zSum_cg (fun d _ => ?_)
  exact (zSum_add (fun s => if cSt A d s = 2 then 1 else 0) (fun s => if cSt A d s = 3 then 1 else 0) 6).symm
theorem e_mono {A M : zNt} (j : jN A) (h : jS A M) {d s : Int} (hd : cHas A d) : eN A d s ≤ eN M d s := by
  rcases eN_v j.1 d s with q | q
  · have e := (h.2.1.2.1 d s hd).1 q.1
    rcases eN_v h.1.1 d s with y | y
    · omega
    · omega
  · rcases eN_v h.1.1 d s with y | y
    · omega
    · omega
theorem cnt_mono {A M : zNt} (j : jN A) (h : jS A M) : cCnt A 2 + cCnt A 3 ≤ cCnt M 2 + cCnt M 3 := by
  have hn := ok_n j.1
  rw [cnt_e, cnt_e, h.2.2]
  exact zSum_mono (fun d hd => zSum_mono (fun s _ => e_mono j h ⟨by omega, by omega⟩))
theorem cnt_lt {A M : zNt} (j : jN A) (h : jS A M) {d s : Int} (hd : cHas A d) (hs : 0 ≤ s ∧ s < 6) (h0 : cSt A d s < 2) (h1 : 2 ≤ cSt M d s) : cCnt A 2 + cCnt A 3 + 1 ≤ cCnt M 2 + cCnt M 3 := by
  have hn := ok_n j.1
  have d0 := hd.1
  have d1 := hd.2
  rw [cnt_e, cnt_e, h.2.2]
  refine zSum_lt (k := d.toNat) (by omega) (fun d hd => zSum_mono (fun s _ => e_mono j h ⟨by omega, by omega⟩)) (zSum_lt (k := s.toNat) (by omega) (fun s _ => e_mono j h ⟨by omega, by omega⟩) ?_)
  rw [Int.toNat_of_nonneg d0, Int.toNat_of_nonneg hs.1]
  rcases eN_v j.1 d s with q | q
  · omega
  · rcases eN_v h.1.1 d s with y | y
    · omega
    · omega
theorem pass_nn {A : zNt} (j : jN A) (t : Int) : 0 ≤ cPassR A t ∧ cPassR A t ≤ 96 := by
  have h := jS_pass j t
  have q := cnt_mono j h
  have a := rg_cnt h.1.1 2
  have b := rg_cnt h.1.1 3
  have c := rg_cnt j.1 2
  have e := rg_cnt j.1 3
  unfold cPassR
  omega
/-- the forecast of the ticks -/
theorem tk_st {A : zNt} {d : Int} (hd : cHas A d) (s : Int) (t : Nat) : cSt (cTkN A d t) d s = cSt (cPassL A t) d s := by
  have d0 := hd.1
  have d1 := hd.2
  have q := dr_tkN (N := A) (d := d.toNat) (by omega) t
  have e := dr_st q s
  rw [Int.toNat_of_nonneg d0] at e
  exact e
theorem tte_rg (A : zNt) (d s : Int) : -1 ≤ cTte A d s ∧ cTte A d s ≤ 40 := by
  rcases zFind_spec (f := fun i => decide (cEnd (cSt (cTkN A d i.toNat) d s))) 41 with q | q
  · have e : cTte A d s = -1 := q
    omega
  · have e : cTte A d s = zFind (fun i => decide (cEnd (cSt (cTkN A d i.toNat) d s))) 41 := rfl
    have := q.1; have := q.2.1
    omega
theorem tte_0 {A : zNt} (ok : cOk A) (d s : Int) : cTte A d s = 0 ↔ 2 ≤ cSt A d s := by
  have hr := rg_st ok d s
  have e : cTte A d s = zFind (fun i => decide (cEnd (cSt (cTkN A d i.toNat) d s))) 41 := rfl
  constructor
  · intro h
    rcases zFind_spec (f := fun i => decide (cEnd (cSt (cTkN A d i.toNat) d s))) 41 with q | q
    · omega
    · have q3 := q.2.2.1
      rw [← e, h] at q3
      have q4 : cEnd (cSt A d s) := of_decide_eq_true q3
      rcases q4 with q4 | q4 <;> omega
  · intro h
    rw [e]
    exact zFind_hit (n := 41) (Int.le_refl 0) (by decide) rfl (decide_eq_true (show cEnd (cSt A d s) by show _ ∨ _; omega))
theorem tte_t {A : zNt} (j : jN A) {d s : Int} (hd : cHas A d) (h : 0 < cTte A d s) : 2 ≤ cSt (cPassN A (cTte A d s)) d s ∧ cSt (cPassN A (cTte A d s - 1)) d s < 2 := by
  have e : cTte A d s = zFind (fun i => decide (cEnd (cSt (cTkN A d i.toNat) d s))) 41 := rfl
  rcases zFind_spec (f := fun i => decide (cEnd (cSt (cTkN A d i.toNat) d s))) 41 with q | q
  · omega
  · have q3 := of_decide_eq_true q.2.2.1
    have q4 := of_decide_eq_false (q.2.2.2 (cTte A d s - 1).toNat (by omega))
    rw [← e] at q3
    have e2 : ((((cTte A d s - 1).toNat : Nat) : Int)).toNat = (cTte A d s - 1).toNat := rfl
    rw [e2] at q4
    rw [tk_st hd] at q3 q4
    have r := rg_st (jS_passL j (cTte A d s - 1).toNat).1.1 d s
    refine ⟨?_, ?_⟩
    · show 2 ≤ cSt (cPassL A (cTte A d s).toNat) d s
      rcases q3 with q3 | q3 <;> omega
    · show cSt (cPassL A (cTte A d s - 1).toNat) d s < 2
      have n2 : cSt (cPassL A (cTte A d s - 1).toNat) d s ≠ 2 := fun y => q4 (Or.inl y)
      have n3 : cSt (cPassL A (cTte A d s - 1).toNat) d s ≠ 3 := fun y => q4 (Or.inr y)
      omega
/-- act: the answer, and the net behind it -/
def pOK (A : zNt) (p : Int × zNt) : Prop := (0 ≤ p.1 ∧ p.1 ≤ 100) ∧ jN p.2 ∧ kR A p.2
theorem pOK_of {A M : zNt} {z : Int} (h : 0 ≤ z ∧ z ≤ 100) (s : jS A M) : pOK A (z, M) := ⟨h, s.1, s.2.1⟩
theorem pOK_pass {A : zNt} (j : jN A) (t : Int) : pOK A (cPassR A t, cPassN A t) := pOK_of (by have := pass_nn j t; omega) (jS_pass j t)
theorem pOK_fr {A : zNt} (j : jN A) {x : Int} (h : 1 ≤ x ∧ x ≤ 20) : pOK A (A 0 3, up2 A 0 3 x) := pOK_of (by have := ok_fr j.1; omega) (jS_fr j h)
theorem st_nn {A M : zNt} {d s : Int} (h : jS A M) (hd : cHas A d) (h0 : cSt A d s ≠ -1) : 0 ≤ cSt M d s ∧ cSt M d s ≤ 3 := by
  have r := rg_st h.1.1 d s
  have q : cSt M d s ≠ -1 := fun y => h0 ((h.2.1.2.1 d s hd).2.mp y)
  omega
theorem act_ok {A : zNt} (j : jN A) (x y : Int) : pOK A (pAct A x y) := by
  have hn := ok_n j.1
  have u20 := rg_up y (n := 20) (by decide)
  have u9 := rg_up (zShr y 9) (n := 6) (by decide)
  have u3 := rg_up (zShr y 3) (n := 6) (by decide)
  have u12 := rg_up (zShr y 12) (n := 3) (by decide)
  have hst : 0 ≤ pSt y ∧ pSt y < 6 := u3
  unfold pAct
  by_cases c0 : A 0 0 = 0 ∨ pUp x 20 < 2
  · rw [if_pos c0]
    unfold pB
    by_cases h : pAre A y
    · rw [if_pos h]
      have hc := pMk_can j.1 h
      have q := jN_add j (ld := pLd y) (it := pUp (zShr y 12) 3) (by unfold pLd; omega) (by omega) hc
      refine ⟨?_, q.1, q.2⟩
      show 0 ≤ cAddR A (pLd y) (zAnd (pMk y) 63) ∧ cAddR A (pLd y) (zAnd (pMk y) 63) ≤ 100
      unfold cAddR
      rw [if_pos hc]; omega
    · rw [if_neg h]; exact pOK_fr j (by omega)
  rw [if_neg c0]
  have hp : 0 < A 0 0 := by omega
  have ud := rg_up y (n := A 0 0) hp
  have hd : cHas A (pDl A y) := ud
  by_cases c1 : pUp x 20 < 9
  · rw [if_pos c1]
    unfold pV
    by_cases h : cUp A (pSt y) ∧ cSt A (pDl A y) (pSt y) = 0
    · rw [if_pos h]
      refine pOK_of ?_ (jS_vote j _ _ _)
      unfold cVoteR cVoteV
      rw [if_pos (show cCanVote A (pDl A y) (pSt y) from h)]
      split <;> decide
    · rw [if_neg h]; exact pOK_pass j 1
  rw [if_neg c1]
  by_cases c2 : pUp x 20 < 11
  · rw [if_pos c2]
    unfold pD
    by_cases h : cUp A (cLead A (pDl A y)) ∧ cDec A (pDl A y) = 0
    · rw [if_pos h]
      refine pOK_of ?_ (jS_decide j _)
      unfold cDecideR cDecV
      rw [if_pos (show cCanDecide A (pDl A y) from h)]
      split <;> decide
    · rw [if_neg h]; exact pOK_fr j (by omega)
  rw [if_neg c2]
  by_cases c3 : pUp x 20 < 14
  · rw [if_pos c3]
    unfold pT
    by_cases h : 0 ≤ cSt A (pDl A y) (pSt y) ∧ cUp A (pSt y) ∧ cUp A (cLead A (pDl A y)) ∧ 0 < cDec A (pDl A y)
    · rw [if_pos h]
      have s := jS_tell j (pDl A y) (pSt y)
      refine pOK_of ?_ s
      have q := st_nn (d := pDl A y) (s := pSt y) s hd (by have := h.1; omega)
      have e := dc_2 j hd
      have hc : cCanTell A (pDl A y) (pSt y) := ⟨h.2.1, h.2.2.1, by have := h.1; omega, by have := h.2.2.2; show _ ∨ _; omega⟩
      unfold cTellR
      rw [if_pos hc]
      omega
    · rw [if_neg h]; exact pOK_pass j 1
  rw [if_neg c3]
  by_cases c4 : pUp x 20 < 16
  · rw [if_pos c4]
    unfold pK
    by_cases h : cSt A (pDl A y) (pSt y) = 1 ∧ cUp A (pSt y) ∧ cUp A (pOt y)
    · rw [if_pos h]
      have s := jS_ask j (pDl A y) (pSt y) (pOt y)
      refine pOK_of ?_ s
      have q := st_nn (d := pDl A y) (s := pSt y) s hd (by have := h.1; omega)
      have ne : pSt y ≠ pOt y := by
        have q5 := rg_up (zShr y 6) (n := 5) (by decide)
        unfold pOt; omega
      unfold cAskR
      rw [if_pos (show cCanAsk A (pDl A y) (pSt y) (pOt y) from ⟨ne, h.2.1, h.2.2, h.1⟩)]
      omega
    · rw [if_neg h]; exact pOK_pass j 2
  rw [if_neg c4]
  by_cases c5 : pUp x 20 < 18
  · rw [if_pos c5]
    unfold pX
    by_cases h : cUp A (pSt y)
    · rw [if_pos h]
      refine pOK_of ?_ (jS_sil j _)
      unfold cSilR cDoubts
      rw [if_pos h]
      have q := zS01 (P := fun d => cSt (cSil A (pSt y)) d (pSt y) = 1) (cSil A (pSt y) 0 0).toNat
      have e : cSil A (pSt y) 0 0 = A 0 0 := up2_ne _ _ (fun w => absurd w.2 (by decide))
      rw [e] at q ⊢
      omega
    · rw [if_neg h]
      have s := jS_wk j (pSt y)
      refine pOK_of ?_ s
      unfold cWkR
      rw [if_pos (show cCanWk A (pSt y) from ⟨hst, h⟩)]
      have a := s.2.1.2.2.2 (pSt y)
      have b := rg_ent s.1.1 (pSt y)
      have c := rg_ent j.1 (pSt y)
      omega
  rw [if_neg c5]
  exact pOK_pass j _
/-! the worlds behind a deed, and behind its undoing -/
def eQ (σ τ : zM) : Prop := gA τ = gA σ ∧ fI τ ∧ τ.1 5 = σ.1 5 ∧ τ.1 6 = σ.1 6
theorem eQ_rf {σ : zM} (fi : fI σ) : eQ σ σ := ⟨rfl, fi, rfl, rfl⟩
theorem eQ_tr {σ τ ρ : zM} (h : eQ σ τ) (g : eQ τ ρ) : eQ σ ρ := ⟨g.1.trans h.1, g.2.1, g.2.2.1.trans h.2.2.1, g.2.2.2.trans h.2.2.2⟩
theorem eQ_fc {σ : zM} (fi : fI σ) (W : zNt) : eQ σ (zBk σ 16 8 W) := by
  have e : gA (zBk σ 16 8 W) = gA σ := by
    funext r j
    show (if r < 8 then (zBk σ 16 8 W).1 (8 + r) j else 0) = (if r < 8 then σ.1 (8 + r) j else 0)
    by_cases h : r < 8
    · rw [if_pos h, if_pos h, zBk_out (by omega)]
    · rw [if_neg h, if_neg h]
  exact ⟨e, ⟨by rw [e]; exact fi.1, gH_low (fun a h => zBk_out (by omega)) fi.2.1, trivial⟩, zBk_out (by omega), zBk_out (by omega)⟩
theorem d1_row {τ : zM} (fi : fI τ) (M : zNt) {a : Nat} (h : a = 5 ∨ a = 6) : (zBk (fSv τ) 8 8 M).1 a = τ.1 a := by
  have hp := hk_pre fi.2.1
  obtain ⟨k, e, k3, k9⟩ := hk_blk hp.1 (j := (hPre (gH τ) 0 1).toNat) (by omega)
  rw [zBk_out (by omega)]
  unfold fSv
  rw [zBk_out (by omega), e, zBk_out (by omega)]
theorem d1_H {τ : zM} (fi : fI τ) (M : zNt) : ∀ r, r < 2 → gH (zBk (fSv τ) 8 8 M) r = up2 (hPre (gH τ)) 0 1 (hPre (gH τ) 0 1 + 1) r := fun r hr => by
  rw [← fSv_H fi.2.1 r hr]
  exact zRd_o (q := 1) r (by omega)
theorem d1_c {τ : zM} (fi : fI τ) (M : zNt) : gH (zBk (fSv τ) 8 8 M) 0 1 = hPre (gH τ) 0 1 + 1 := by rw [d1_H fi M 0 (by decide), up2_at]
theorem d1_n {τ : zM} (fi : fI τ) (M : zNt) : gH (zBk (fSv τ) 8 8 M) 0 1 = if gH τ 0 1 < 6 then gH τ 0 1 + 1 else 6 := by
  rw [d1_c fi]
  have hc := hk_c fi.2.1
  unfold hPre
  by_cases z : gH τ 0 1 < 6
  · rw [if_pos z, if_pos z]
  · rw [if_neg z, if_neg z]
    unfold hRot
    rw [up2_at]; rfl
theorem d1_A (τ : zM) (M : zNt) : gA (zBk (fSv τ) 8 8 M) = fun r j => if r < 8 then M r j else 0 := by
  funext r j
  show (if r < 8 then (zBk (fSv τ) 8 8 M).1 (8 + r) j else 0) = _
  by_cases h : r < 8
  · rw [if_pos h, if_pos h]
    exact congrFun (zBk_row (k := 8) (n := 8) h) j
  · rw [if_neg h, if_neg h]
theorem d1_hOk {τ : zM} (fi : fI τ) (M : zNt) : hOk (gH (zBk (fSv τ) 8 8 M)) := by
  have hp := hk_pre fi.2.1
  exact hOk_cg (d1_H fi M) (hk_up hp.1 (by omega))
theorem d1_fI {τ : zM} (fi : fI τ) {M : zNt} (ok : cOk M) : fI (zBk (fSv τ) 8 8 M) := ⟨by rw [d1_A]; exact cOk_cg (fun r hr => by funext j; exact if_pos hr) ok, d1_hOk fi M, trivial⟩
theorem un_ok {τ : zM} (fi : fI τ) (M : zNt) : eQ τ (fUn (zBk (fSv τ) 8 8 M)) ∧ gH (fUn (zBk (fSv τ) 8 8 M)) 0 1 = hPre (gH τ) 0 1 := by
  have hp := hk_pre fi.2.1
  have hH := d1_H fi M
  have hc := d1_c fi M
  have ho := d1_hOk fi M
  have h1 : gH (zBk (fSv τ) 8 8 M) 1 (gH (zBk (fSv τ) 8 8 M) 0 1 - 1).toNat = hPre (gH τ) 1 (hPre (gH τ) 0 1).toNat := by
    rw [hc, hH 1 (by decide), up2_rw _ _ (by decide), Int.add_sub_cancel]
  obtain ⟨k, e, k3, k9⟩ := hk_blk hp.1 (j := (hPre (gH τ) 0 1).toNat) (by omega)
  have hU : ∀ r, r < 2 → gH (fUn (zBk (fSv τ) 8 8 M)) r = up2 (gH (zBk (fSv τ) 8 8 M)) 0 1 (gH (zBk (fSv τ) 8 8 M) 0 1 - 1) r := fun r hr => by
    unfold fUn
    funext i
    exact zRd_bk (k := 1) hr i
  have eA : gA (fUn (zBk (fSv τ) 8 8 M)) = gA τ := by
    funext r i
    show (if r < 8 then (fUn (zBk (fSv τ) 8 8 M)).1 (8 + r) i else 0) = (if r < 8 then τ.1 (8 + r) i else 0)
    by_cases h : r < 8
    · rw [if_pos h, if_pos h]
      unfold fUn
      rw [zBk_out (by omega), zBk_row (k := 8) (n := 8) h, h1, e]
      have q1 : zRd (zBk (fSv τ) 8 8 M) (8 * k) r = zRd (fSv τ) (8 * k) r := zRd_o r (by omega)
      rw [q1]
      unfold fSv
      rw [zRd_o r (by omega), e]
      exact zRd_bk (k := 8 * k) h i
    · rw [if_neg h, if_neg h]
  refine ⟨⟨eA, ⟨by rw [eA]; exact fi.1, hOk_cg hU (hk_up ho (by rw [hc]; omega)), trivial⟩, ?_, ?_⟩, ?_⟩
  · unfold fUn
    rw [zBk_out (by omega), zBk_out (by omega)]
    exact d1_row fi M (Or.inl rfl)
  · unfold fUn
    rw [zBk_out (by omega), zBk_out (by omega)]
    exact d1_row fi M (Or.inr rfl)
  · rw [hU 0 (by decide), up2_at, hc, Int.add_sub_cancel]
theorem st_tr {τ : zM} {M : zNt} (d s : Int) : cSt (gA (zBk (fSv τ) 8 8 M)) d s = cSt M d s := by rw [d1_A]; rfl
theorem hD_of {τ : zM} {A M : zNt} {d : Int} (_ : fI (zBk (fSv τ) 8 8 M)) (h : jS A M) (hD : cHas A d) : cHas (gA (zBk (fSv τ) 8 8 M)) d := by
  rw [d1_A]
  exact ⟨hD.1, by show d < M 0 0; rw [h.2.2]; exact hD.2⟩
theorem rg_vR (A : zNt) (d s y : Int) : zB (cVoteR A d s y) := by
  unfold cVoteR cVoteV
  (repeat' split) <;> exact ⟨by decide, by decide⟩
theorem rg_aR {A : zNt} (j : jN A) {d s o : Int} (h : cCanAsk A d s o) : zB (cAskR A d s o) := by
  unfold cAskR
  rw [if_pos h]
  exact zB_sm (rg_st (jS_ask j d s o).1.1 d s)
