/-! perform and run -/
theorem gT_fSv {σ : zM} (h : hOk (gH σ)) : ∀ r, r < 2 → gT (fSv σ) r = gT σ r := fun r hr => by
  have hp := hk_pre h
  obtain ⟨k, e, k3, k9⟩ := hk_blk hp.1 (j := (hPre (gH σ) 0 1).toNat) (by omega)
  unfold fSv gT
  rw [zRd_o r (by omega), e, zRd_o r (by omega)]
theorem gT_bk8 (σ : zM) (A : zNt) : zBk (zBk σ 8 8 A) 3 2 (gT σ) = zBk σ 8 8 A := by
  have e : ∀ r, r < 2 → gT σ r = zRd (zBk σ 8 8 A) 3 r := fun r hr => (zRd_o r (by omega)).symm
  rw [zBk_cg e]; exact zBk_rd _ 3 2
theorem gT_bkS {σ : zM} (h : hOk (gH σ)) (A : zNt) : zBk (zBk (fSv σ) 8 8 A) 3 2 (gT σ) = zBk (fSv σ) 8 8 A := by
  rw [zBk_cg (fun r hr => (gT_fSv h r hr).symm)]; exact gT_bk8 _ A
theorem ok_kN {A : zNt} (ok : cOk A) (L F S X : Int) : cOk (kN L F S X A) := by
  unfold kN
  (repeat' split) <;> first | exact ok_vote ok _ _ _ | exact ok_decide ok _ | exact ok_tell ok _ _ | exact ok_ask ok _ _ _ | exact ok_silN ok _ | exact ok_wkN ok _ | exact ok_passL ok _ | exact ok
/-- the loop of run -/
def rIv (T A0 : zNt) (i n s : Int) (A : zNt) : Prop := ((0 ≤ s ∧ s ≤ i) ∧ (0 ≤ n ∧ n ≤ i)) ∧ (i ≤ T 0 1 → pH T s = 1) ∧ (∀ j, s ≤ j → j < i → tSg T j ≠ 59) ∧ cOk A ∧ n + (cRl T (T 0 1 + 1 - i).toNat i s A).1 = (cRl T (T 0 1 + 1).toNat 0 0 A0).1 ∧ (cRl T (T 0 1 + 1 - i).toNat i s A).2 = (cRl T (T 0 1 + 1).toNat 0 0 A0).2
theorem cRl_st {T : zNt} {i s : Int} {A : zNt} (h : i ≤ T 0 1) : cRl T (T 0 1 + 1 - i).toNat i s A = if aEnd T i then (if pR T s i A = -1 then (0, pN T s i A) else ((cRl T (T 0 1 + 1 - (i + 1)).toNat (i + 1) (i + 1) (pN T s i A)).1 + 1, (cRl T (T 0 1 + 1 - (i + 1)).toNat (i + 1) (i + 1) (pN T s i A)).2)) else cRl T (T 0 1 + 1 - (i + 1)).toNat (i + 1) s A := by
  rw [show (T 0 1 + 1 - i).toNat = (T 0 1 + 1 - (i + 1)).toNat + 1 by omega, cRl]
theorem rIv_0 {T A : zNt} (ok : cOk A) : rIv T A 0 0 0 A := ⟨⟨⟨Int.le_refl _, Int.le_refl _⟩, Int.le_refl _, Int.le_refl _⟩, fun _ => rfl, fun j a b => by omega, ok, by rw [Int.sub_zero, Int.zero_add], by rw [Int.sub_zero]⟩
theorem rIv_skip {T A0 A : zNt} {i n s : Int} (h : rIv T A0 i n s A) (hi : i ≤ T 0 1) (he : ¬ aEnd T i) : rIv T A0 (i + 1) n s A := by
  obtain ⟨⟨h1, h2⟩, h3, h4, h5, h6, h7⟩ := h
  rw [cRl_st hi, if_neg he] at h6 h7
  refine ⟨⟨⟨h1.1, by omega⟩, h2.1, by omega⟩, fun _ => h3 hi, fun j a b => ?_, h5, h6, h7⟩
  by_cases z : j = i
  · rw [z]; exact fun w => he (Or.inr w)
  · exact h4 j a (by omega)
theorem rIv_hit {T A0 A : zNt} {i n s : Int} (h : rIv T A0 i n s A) (co : tCom T) (hi : i ≤ T 0 1) (he : aEnd T i) (hr : pR T s i A ≠ -1) : rIv T A0 (i + 1) (n + 1) (i + 1) (pN T s i A) := by
  obtain ⟨⟨h1, h2⟩, h3, h4, h5, h6, h7⟩ := h
  rw [cRl_st hi, if_pos he, if_neg hr] at h6 h7
  have q := act_end (N := tN T s) (s := s) (i := i) rfl (tN_X T h1.1) co (h3 hi) h1.2 hi h4 he
  refine ⟨⟨⟨by omega, Int.le_refl _⟩, by omega, by omega⟩, fun z => ?_, fun j a b => by omega, ok_kN h5 _ _ _ _, by rw [← h6]; omega, h7⟩
  rcases he with he | he
  · omega
  · exact good_sep h1.1 q.2.2.1 he
theorem rIv_stop {T A0 A : zNt} {i n s : Int} (h : rIv T A0 i n s A) (hi : i ≤ T 0 1) (he : aEnd T i) (hr : pR T s i A = -1) : n = (cRl T (T 0 1 + 1).toNat 0 0 A0).1 ∧ pN T s i A = (cRl T (T 0 1 + 1).toNat 0 0 A0).2 := by
  obtain ⟨-, -, -, -, h6, h7⟩ := h
  rw [cRl_st hi, if_pos he, if_pos hr] at h6 h7
  exact ⟨by rw [← h6]; exact (Int.add_zero n).symm, h7⟩
theorem rIv_fin {T A0 A : zNt} {i n s : Int} (h : rIv T A0 i n s A) (hi : i = T 0 1 + 1) : n = (cRl T (T 0 1 + 1).toNat 0 0 A0).1 ∧ A = (cRl T (T 0 1 + 1).toNat 0 0 A0).2 := by
  obtain ⟨-, -, -, -, h6, h7⟩ := h
  rw [show (T 0 1 + 1 - i).toNat = 0 by omega, cRl] at h6 h7
  exact ⟨by rw [← h6]; exact (Int.add_zero n).symm, h7⟩
theorem rIv_pf {T A0 A : zNt} {i n s : Int} (h : rIv T A0 i n s A) (tk : tOk T) (co : tCom T) (hi : i ≤ T 0 1) (he : aEnd T i) : tSg T s = 116 → s + 1 ≤ i ∧ 0 ≤ tNum T (s + 1) (i - (s + 1)).toNat ∧ zB (tNum T (s + 1) (i - (s + 1)).toNat) := by
  intro hz
  obtain ⟨⟨h1, h2⟩, h3, h4, h5, h6, h7⟩ := h
  have q := act_end (N := tN T s) (s := s) (i := i) rfl (tN_X T h1.1) co (h3 hi) h1.2 hi h4 he
  have pr := rAc_pr (tN_q tk ⟨h1.1, by omega⟩) q.1
  have v := q.2.2.2
  have v5 := v.2.2.2.2 hz
  have v1 := v.1
  unfold rPr at pr
  rw [v1, hz] at pr
  have g := q.2.2.1.1
  unfold zB
  omega
theorem gT_sv {σ : zM} (h : hOk (gH σ)) : zBk (fSv σ) 3 2 (gT σ) = fSv σ := by
  rw [zBk_cg (fun r hr => (gT_fSv h r hr).symm)]; exact zBk_rd _ 3 2
section TE
variable {T T' : zNt}
theorem tE_sg (h : ∀ r, r < 2 → T' r = T r) (i : Int) : tSg T' i = tSg T i := by unfold tSg; rw [h 0 (by decide), h 1 (by decide)]
theorem tE_num (h : ∀ r, r < 2 → T' r = T r) (a : Int) : ∀ n : Nat, tNum T' a n = tNum T a n
  | 0 => rfl
  | n + 1 => by rw [tNum, tNum, tE_num h a n, tE_sg h]
theorem tE_pR (h : ∀ r, r < 2 → T' r = T r) (i j : Int) (A : zNt) : pR T' i j A = pR T i j A := by unfold pR; rw [tE_sg h, tE_sg h, tE_sg h, tE_sg h, tE_num h]
theorem tE_pN (h : ∀ r, r < 2 → T' r = T r) (i j : Int) (A : zNt) : pN T' i j A = pN T i j A := by unfold pN; rw [tE_sg h, tE_sg h, tE_sg h, tE_sg h, tE_num h]
end TE
theorem zB_of {z a : Int} (h : -100 ≤ z ∧ z ≤ a) (ha : a ≤ 1000 := by decide) : zB z := by unfold zB; omega
theorem rg_voteR (A : zNt) (d s y : Int) : zB (cVoteR A d s y) := by
  have := rg_voteV A d s y
  unfold cVoteR; split
  · unfold zB; omega
  · exact ⟨by decide, by decide⟩
theorem rg_dbs {A : zNt} (ok : cOk A) (s : Int) : 0 ≤ cDoubts A s ∧ cDoubts A s ≤ 8 := by
  have hn := ok_n ok
  have h := zS01 (P := fun d => cSt A d s = 1) (A 0 0).toNat
  unfold cDoubts
  omega
theorem rg_kR {A : zNt} (ok : cOk A) (L F S X : Int) : zB (kR L F S X A) := by
  unfold kR
  split
  · exact rg_voteR _ _ _ _
  split
  · exact rg_voteR _ _ _ _
  split
  · unfold cDecideR cDecV; (repeat' split) <;> exact ⟨by decide, by decide⟩
  split
  · unfold cTellR; split
    · exact zB_of (a := 3) (by have := rg_st (ok_tell ok F S) F S; omega)
    · exact ⟨by decide, by decide⟩
  split
  · unfold cAskR; split
    · exact zB_of (a := 3) (by have := rg_st (ok_ask ok F S X) F S; omega)
    · exact ⟨by decide, by decide⟩
  split
  · unfold cSilR; split
    · rename_i hu
      exact zB_of (a := 8) (by have := rg_dbs (ok_sil ok (s := F) ⟨hu.1, hu.2.1⟩) F; omega)
    · exact ⟨by decide, by decide⟩
  split
  · unfold cWkR; split
    · exact zB_of (a := 24) (by have h1 := rg_ent (ok_wkN ok F) F; have h2 := rg_ent ok F; omega)
    · exact ⟨by decide, by decide⟩
  split
  · unfold cPassR
    have o : cOk (cPassN A F) := ok_passL ok _
    exact zB_of (a := 96) (by have h1 := rg_cnt o 2; have h2 := rg_cnt o 3; have h3 := rg_cnt ok 2; have h4 := rg_cnt ok 3; omega)
  · exact ⟨by decide, by decide⟩
section ZVA
variable {p : Program} {l : Launch} {e : Env} {R : Room} {s : State} {m : MethodId} {args : Array Value} {below : List Frame} {meth : Method} {c : Code} {nL : Nat} {D : va_G} {G : zG} {ad : Nat → Nat} {cells slots : Nat} {Q : State → Prop} {pc : Nat} {lv : List (Nat × Value)} {st : List Value} {S S' : zM}
theorem zV_at (h : S' = S) (k : zV p l e R s m args below meth c nL D G ad cells slots Q pc lv st S') : zV p l e R s m args below meth c nL D G ad cells slots Q pc lv st S := by subst h; exact k
end ZVA
theorem rg_pR {T A : zNt} (ok : cOk A) (i j : Int) : zB (pR T i j A) := rg_kR ok _ _ _ _
set_option maxHeartbeats 4000000 in
set_option maxRecDepth 100000 in
theorem c_X3_perform {l : Launch} {D : va_G} {G : zG} {ad : Nat → Nat} (hJ : zInj ad) (σ : zM) {A : zNt} (ok : cOk A) (tk : tOk (gT σ)) {i j : Int} (hi : 0 ≤ i ∧ i ≤ 60) (hj : zB j) (hn : tSg (gT σ) i = 116 → i + 1 ≤ j ∧ 0 ≤ tNum (gT σ) (i + 1) (j - (i + 1)).toNat ∧ zB (tNum (gT σ) (i + 1) (j - (i + 1)).toNat)) : zKI l D G ad yX3_perform cX3_perform 5 (some .int) 5 [.ref (ad 0), vI i, vI j] (zBk σ 8 8 A) (fun z σ9 => z = pR (gT σ) i j A ∧ σ9 = zBk σ 8 8 (pN (gT σ) i j A)) := by
  intro sz
  refine z_open hJ (by decide +kernel) (Nat.le_of_ble_eq_true rfl) ?_
  intro p e s0 m args below meth c hsz X hr hlocks
  refine z_sub [(0, .ref (ad 0)), (1, vI i), (2, vI j)] (zSub_cons rfl (zSub_cons rfl (zSub_cons rfl zSub_nil))) ?_
  refine z_aload_n X dX3_perform_0 rfl ?_
  refine y_gDea3 X fX3_29 dX3_perform_1 ?_
  refine z_iload_n X dX3_perform_4 rfl ?_
  refine z_iconst X dX3_perform_5 ?_
  refine z_iadd X dX3_perform_6 ?_
  refine z_callVI1 X (zKI_at (gT_bk8 σ A) (c_X0_digitAt hJ (zBk σ 8 8 A) (N := gT σ) tk (by first | assumption | exact ⟨by decide, by decide⟩ | (unfold zB at *; omega)))) kX3_238 rfl (by decide) rfl ⟨(Nat.le_of_ble_eq_true rfl), (Nat.le_of_ble_eq_true rfl)⟩ (Nat.le_of_ble_eq_true rfl) ⟨(Nat.le_of_ble_eq_true rfl), (Nat.le_of_ble_eq_true rfl)⟩ dX3_perform_7 (fun z9 σ1 hz9 => ?_)
  obtain ⟨rfl, rfl⟩ := hz9
  rw [gT_bk8 σ A]
  refine z_istore_n X dX3_perform_10 (by decide) ?_
  refine z_sub [(0, .ref (ad 0)), (1, vI i), (2, vI j), (3, vI (tSg (gT σ) (i + 1) - 48))] (zSub_cons rfl (zSub_cons rfl (zSub_cons rfl (zSub_cons rfl zSub_nil)))) ?_
  refine z_aload_n X dX3_perform_11 rfl ?_
  refine y_gDea3 X fX3_29 dX3_perform_12 ?_
  refine z_iload_n X dX3_perform_15 rfl ?_
  refine z_iconst X dX3_perform_16 ?_
  refine z_iadd X dX3_perform_17 ?_
  refine z_callVI1 X (zKI_at (gT_bk8 σ A) (c_X0_digitAt hJ (zBk σ 8 8 A) (N := gT σ) tk (by first | assumption | exact ⟨by decide, by decide⟩ | (unfold zB at *; omega)))) kX3_238 rfl (by decide) rfl ⟨(Nat.le_of_ble_eq_true rfl), (Nat.le_of_ble_eq_true rfl)⟩ (Nat.le_of_ble_eq_true rfl) ⟨(Nat.le_of_ble_eq_true rfl), (Nat.le_of_ble_eq_true rfl)⟩ dX3_perform_18 (fun z9 σ1 hz9 => ?_)
  obtain ⟨rfl, rfl⟩ := hz9
  rw [gT_bk8 σ A]
  refine z_istore X dX3_perform_21 (by decide) ?_
  refine z_sub [(0, .ref (ad 0)), (1, vI i), (2, vI j), (3, vI (tSg (gT σ) (i + 1) - 48)), (4, vI (tSg (gT σ) (i + 2) - 48))] (zSub_cons rfl (zSub_cons rfl (zSub_cons rfl (zSub_cons rfl (zSub_cons rfl zSub_nil))))) ?_
  refine z_aload_n X dX3_perform_23 rfl ?_
  refine y_gDea3 X fX3_29 dX3_perform_24 ?_
  refine z_iload_n X dX3_perform_27 rfl ?_
  refine z_callVI1 X (zKI_at (gT_bk8 σ A) (c_X0_signAt hJ (zBk σ 8 8 A) (N := gT σ) tk (by unfold zB; omega))) kX3_241 rfl (by decide) rfl ⟨(Nat.le_of_ble_eq_true rfl), (Nat.le_of_ble_eq_true rfl)⟩ (Nat.le_of_ble_eq_true rfl) ⟨(Nat.le_of_ble_eq_true rfl), (Nat.le_of_ble_eq_true rfl)⟩ dX3_perform_28 (fun z9 σ1 hz9 => ?_)
  obtain ⟨rfl, rfl⟩ := hz9
  rw [gT_bk8 σ A]
  have hb : zB (tSg (gT σ) i) := (zB_sm (rg_sg tk _))
  rcases (show (tSg (gT σ) i) = 97 ∨ (tSg (gT σ) i) = 98 ∨ (tSg (gT σ) i) = 99 ∨ (tSg (gT σ) i) = 100 ∨ (tSg (gT σ) i) = 101 ∨ (tSg (gT σ) i) = 102 ∨ (tSg (gT σ) i) = 103 ∨ (tSg (gT σ) i) = 104 ∨ (tSg (gT σ) i) = 105 ∨ (tSg (gT σ) i) = 106 ∨ (tSg (gT σ) i) = 107 ∨ (tSg (gT σ) i) = 108 ∨ (tSg (gT σ) i) = 109 ∨ (tSg (gT σ) i) = 110 ∨ (tSg (gT σ) i) = 111 ∨ (tSg (gT σ) i) = 112 ∨ (tSg (gT σ) i) = 113 ∨ (tSg (gT σ) i) = 114 ∨ (tSg (gT σ) i) = 115 ∨ (tSg (gT σ) i) = 116 ∨ (tSg (gT σ) i) = 117 ∨ (tSg (gT σ) i) = 118 ∨ (tSg (gT σ) i) = 119 ∨ (tSg (gT σ) i) = 120 ∨ (tSg (gT σ) i) = 121 ∨ ((tSg (gT σ) i) < 97 ∨ 121 < (tSg (gT σ) i)) by omega) with hq | hq | hq | hq | hq | hq | hq | hq | hq | hq | hq | hq | hq | hq | hq | hq | hq | hq | hq | hq | hq | hq | hq | hq | hq | hq
  · refine z_tabIn X 97 188 157 hq dX3_perform_31 (by decide) (by decide) (by decide) (by decide) ?_
    refine z_aload_n X dX3_perform_188 rfl ?_
    refine y_gDea0 X fX3_12 dX3_perform_189 ?_
    refine z_iload_n X dX3_perform_192 rfl ?_
    refine z_iload X dX3_perform_193 rfl ?_
    refine z_aload_n X dX3_perform_195 rfl ?_
    refine y_gDea3 X fX3_29 dX3_perform_196 ?_
    refine z_iload_n X dX3_perform_199 rfl ?_
    refine z_iconst X dX3_perform_200 ?_
    refine z_iadd X dX3_perform_201 ?_
    refine z_callVI1 X (zKI_at (gT_bk8 σ A) (c_X0_digitAt hJ (zBk σ 8 8 A) (N := gT σ) tk (by first | assumption | exact ⟨by decide, by decide⟩ | (unfold zB at *; omega)))) kX3_238 rfl (by decide) rfl ⟨(Nat.le_of_ble_eq_true rfl), (Nat.le_of_ble_eq_true rfl)⟩ (Nat.le_of_ble_eq_true rfl) ⟨(Nat.le_of_ble_eq_true rfl), (Nat.le_of_ble_eq_true rfl)⟩ dX3_perform_202 (fun z9 σ1 hz9 => ?_)
    obtain ⟨rfl, rfl⟩ := hz9
    rw [gT_bk8 σ A]
    refine z_callVI3 X (c_X2_putQuestion hJ zn8 σ (N := A) ok (by have := rg_sg tk (i + 1); unfold zB; omega) (by have := rg_sg tk (i + 2); unfold zB; omega) (by have := rg_sg tk (i + 3); unfold zB; omega)) kX3_111 rfl (by decide) (zNet_obj zn8 ad G _ _) ⟨(Nat.le_of_ble_eq_true rfl), (Nat.le_of_ble_eq_true rfl)⟩ (Nat.le_of_ble_eq_true rfl) ⟨(Nat.le_of_ble_eq_true rfl), (Nat.le_of_ble_eq_true rfl)⟩ dX3_perform_205 (fun z9 σ1 hz9 => ?_)
    obtain ⟨rfl, rfl⟩ := hz9
    exact z_iret X hsz hr hlocks dX3_perform_208 ⟨(by unfold pR kR; rw [hq]; rfl), (congrArg (zBk σ 8 8) (by unfold pN kN; rw [hq]; rfl))⟩
  · refine z_tabIn X 98 246 215 hq dX3_perform_31 (by decide) (by decide) (by decide) (by decide) ?_
    refine z_iconst X dX3_perform_246 ?_
    exact z_iret X hsz hr hlocks dX3_perform_247 ⟨(by unfold pR kR; rw [hq]; rfl), (congrArg (zBk σ 8 8) (by unfold pN kN; rw [hq]; rfl))⟩
  · refine z_tabIn X 99 246 215 hq dX3_perform_31 (by decide) (by decide) (by decide) (by decide) ?_
    refine z_iconst X dX3_perform_246 ?_
    exact z_iret X hsz hr hlocks dX3_perform_247 ⟨(by unfold pR kR; rw [hq]; rfl), (congrArg (zBk σ 8 8) (by unfold pN kN; rw [hq]; rfl))⟩
  · refine z_tabIn X 100 168 137 hq dX3_perform_31 (by decide) (by decide) (by decide) (by decide) ?_
    refine z_aload_n X dX3_perform_168 rfl ?_
    refine y_gDea0 X fX3_12 dX3_perform_169 ?_
    refine z_iload_n X dX3_perform_172 rfl ?_
    refine z_callVI1 X (c_X2_makeDecision hJ zn8 σ (N := A) ok (by have := rg_sg tk (i + 1); unfold zB; omega)) kX3_91 rfl (by decide) (zNet_obj zn8 ad G _ _) ⟨(Nat.le_of_ble_eq_true rfl), (Nat.le_of_ble_eq_true rfl)⟩ (Nat.le_of_ble_eq_true rfl) ⟨(Nat.le_of_ble_eq_true rfl), (Nat.le_of_ble_eq_true rfl)⟩ dX3_perform_173 (fun z9 σ1 hz9 => ?_)
    obtain ⟨rfl, rfl⟩ := hz9
    exact z_iret X hsz hr hlocks dX3_perform_176 ⟨(by unfold pR kR; rw [hq]; rfl), (congrArg (zBk σ 8 8) (by unfold pN kN; rw [hq]; rfl))⟩
  · refine z_tabIn X 101 246 215 hq dX3_perform_31 (by decide) (by decide) (by decide) (by decide) ?_
    refine z_iconst X dX3_perform_246 ?_
    exact z_iret X hsz hr hlocks dX3_perform_247 ⟨(by unfold pR kR; rw [hq]; rfl), (congrArg (zBk σ 8 8) (by unfold pN kN; rw [hq]; rfl))⟩
  · refine z_tabIn X 102 246 215 hq dX3_perform_31 (by decide) (by decide) (by decide) (by decide) ?_
    refine z_iconst X dX3_perform_246 ?_
    exact z_iret X hsz hr hlocks dX3_perform_247 ⟨(by unfold pR kR; rw [hq]; rfl), (congrArg (zBk σ 8 8) (by unfold pN kN; rw [hq]; rfl))⟩
  · refine z_tabIn X 103 177 146 hq dX3_perform_31 (by decide) (by decide) (by decide) (by decide) ?_
    refine z_aload_n X dX3_perform_177 rfl ?_
    refine y_gDea0 X fX3_12 dX3_perform_178 ?_
    refine z_iload_n X dX3_perform_181 rfl ?_
    refine z_iload X dX3_perform_182 rfl ?_
    refine z_callVI2 X (c_X2_tellMember hJ zn8 σ (N := A) ok (by have := rg_sg tk (i + 1); unfold zB; omega) (by have := rg_sg tk (i + 2); unfold zB; omega)) kX3_99 rfl (by decide) (zNet_obj zn8 ad G _ _) ⟨(Nat.le_of_ble_eq_true rfl), (Nat.le_of_ble_eq_true rfl)⟩ (Nat.le_of_ble_eq_true rfl) ⟨(Nat.le_of_ble_eq_true rfl), (Nat.le_of_ble_eq_true rfl)⟩ dX3_perform_184 (fun z9 σ1 hz9 => ?_)
    obtain ⟨rfl, rfl⟩ := hz9
    exact z_iret X hsz hr hlocks dX3_perform_187 ⟨(by unfold pR kR; rw [hq]; rfl), (congrArg (zBk σ 8 8) (by unfold pN kN; rw [hq]; rfl))⟩
  · refine z_tabIn X 104 246 215 hq dX3_perform_31 (by decide) (by decide) (by decide) (by decide) ?_
    refine z_iconst X dX3_perform_246 ?_
    exact z_iret X hsz hr hlocks dX3_perform_247 ⟨(by unfold pR kR; rw [hq]; rfl), (congrArg (zBk σ 8 8) (by unfold pN kN; rw [hq]; rfl))⟩
  · refine z_tabIn X 105 246 215 hq dX3_perform_31 (by decide) (by decide) (by decide) (by decide) ?_
    refine z_iconst X dX3_perform_246 ?_
    exact z_iret X hsz hr hlocks dX3_perform_247 ⟨(by unfold pR kR; rw [hq]; rfl), (congrArg (zBk σ 8 8) (by unfold pN kN; rw [hq]; rfl))⟩
  · refine z_tabIn X 106 246 215 hq dX3_perform_31 (by decide) (by decide) (by decide) (by decide) ?_
    refine z_iconst X dX3_perform_246 ?_
    exact z_iret X hsz hr hlocks dX3_perform_247 ⟨(by unfold pR kR; rw [hq]; rfl), (congrArg (zBk σ 8 8) (by unfold pN kN; rw [hq]; rfl))⟩
  · refine z_tabIn X 107 246 215 hq dX3_perform_31 (by decide) (by decide) (by decide) (by decide) ?_
    refine z_iconst X dX3_perform_246 ?_
    exact z_iret X hsz hr hlocks dX3_perform_247 ⟨(by unfold pR kR; rw [hq]; rfl), (congrArg (zBk σ 8 8) (by unfold pN kN; rw [hq]; rfl))⟩
  · refine z_tabIn X 108 246 215 hq dX3_perform_31 (by decide) (by decide) (by decide) (by decide) ?_
    refine z_iconst X dX3_perform_246 ?_
    exact z_iret X hsz hr hlocks dX3_perform_247 ⟨(by unfold pR kR; rw [hq]; rfl), (congrArg (zBk σ 8 8) (by unfold pN kN; rw [hq]; rfl))⟩
  · refine z_tabIn X 109 246 215 hq dX3_perform_31 (by decide) (by decide) (by decide) (by decide) ?_
    refine z_iconst X dX3_perform_246 ?_
    exact z_iret X hsz hr hlocks dX3_perform_247 ⟨(by unfold pR kR; rw [hq]; rfl), (congrArg (zBk σ 8 8) (by unfold pN kN; rw [hq]; rfl))⟩
  · refine z_tabIn X 110 156 125 hq dX3_perform_31 (by decide) (by decide) (by decide) (by decide) ?_
    refine z_aload_n X dX3_perform_156 rfl ?_
    refine y_gDea0 X fX3_12 dX3_perform_157 ?_
    refine z_iload_n X dX3_perform_160 rfl ?_
    refine z_iload X dX3_perform_161 rfl ?_
    refine z_iconst X dX3_perform_163 ?_
    refine z_callVI3 X (c_X2_castVote hJ zn8 σ (N := A) ok (by have := rg_sg tk (i + 1); unfold zB; omega) (by have := rg_sg tk (i + 2); unfold zB; omega) ⟨by decide, by decide⟩) kX3_78 rfl (by decide) (zNet_obj zn8 ad G _ _) ⟨(Nat.le_of_ble_eq_true rfl), (Nat.le_of_ble_eq_true rfl)⟩ (Nat.le_of_ble_eq_true rfl) ⟨(Nat.le_of_ble_eq_true rfl), (Nat.le_of_ble_eq_true rfl)⟩ dX3_perform_164 (fun z9 σ1 hz9 => ?_)
    obtain ⟨rfl, rfl⟩ := hz9
    exact z_iret X hsz hr hlocks dX3_perform_167 ⟨(by unfold pR kR; rw [hq]; rfl), (congrArg (zBk σ 8 8) (by unfold pN kN; rw [hq]; rfl))⟩
  · refine z_tabIn X 111 246 215 hq dX3_perform_31 (by decide) (by decide) (by decide) (by decide) ?_
    refine z_iconst X dX3_perform_246 ?_
    exact z_iret X hsz hr hlocks dX3_perform_247 ⟨(by unfold pR kR; rw [hq]; rfl), (congrArg (zBk σ 8 8) (by unfold pN kN; rw [hq]; rfl))⟩
  · refine z_tabIn X 112 246 215 hq dX3_perform_31 (by decide) (by decide) (by decide) (by decide) ?_
    refine z_iconst X dX3_perform_246 ?_
    exact z_iret X hsz hr hlocks dX3_perform_247 ⟨(by unfold pR kR; rw [hq]; rfl), (congrArg (zBk σ 8 8) (by unfold pN kN; rw [hq]; rfl))⟩
  · refine z_tabIn X 113 246 215 hq dX3_perform_31 (by decide) (by decide) (by decide) (by decide) ?_
    refine z_iconst X dX3_perform_246 ?_
    exact z_iret X hsz hr hlocks dX3_perform_247 ⟨(by unfold pR kR; rw [hq]; rfl), (congrArg (zBk σ 8 8) (by unfold pN kN; rw [hq]; rfl))⟩
  · refine z_tabIn X 114 246 215 hq dX3_perform_31 (by decide) (by decide) (by decide) (by decide) ?_
    refine z_iconst X dX3_perform_246 ?_
    exact z_iret X hsz hr hlocks dX3_perform_247 ⟨(by unfold pR kR; rw [hq]; rfl), (congrArg (zBk σ 8 8) (by unfold pN kN; rw [hq]; rfl))⟩
  · refine z_tabIn X 115 246 215 hq dX3_perform_31 (by decide) (by decide) (by decide) (by decide) ?_
    refine z_iconst X dX3_perform_246 ?_
    exact z_iret X hsz hr hlocks dX3_perform_247 ⟨(by unfold pR kR; rw [hq]; rfl), (congrArg (zBk σ 8 8) (by unfold pN kN; rw [hq]; rfl))⟩
  · refine z_tabIn X 116 227 196 hq dX3_perform_31 (by decide) (by decide) (by decide) (by decide) ?_
    refine z_aload_n X dX3_perform_227 rfl ?_
    refine y_gDea0 X fX3_12 dX3_perform_228 ?_
    refine z_aload_n X dX3_perform_231 rfl ?_
    refine y_gDea3 X fX3_29 dX3_perform_232 ?_
    refine z_iload_n X dX3_perform_235 rfl ?_
    refine z_iconst X dX3_perform_236 ?_
    refine z_iadd X dX3_perform_237 ?_
    refine z_iload_n X dX3_perform_238 rfl ?_
    refine z_callVI2 X (zKI_at (gT_bk8 σ A) (c_X0_numberIn hJ (zBk σ 8 8 A) (N := gT σ) tk (by first | assumption | exact ⟨by decide, by decide⟩ | (unfold zB at *; omega)) hj (hn (by assumption)).1)) kX3_244 rfl (by decide) rfl ⟨(Nat.le_of_ble_eq_true rfl), (Nat.le_of_ble_eq_true rfl)⟩ (Nat.le_of_ble_eq_true rfl) ⟨(Nat.le_of_ble_eq_true rfl), (Nat.le_of_ble_eq_true rfl)⟩ dX3_perform_239 (fun z9 σ1 hz9 => ?_)
    obtain ⟨rfl, rfl⟩ := hz9
    rw [gT_bk8 σ A]
    refine z_callVI1 X (c_X2_letPass hJ zn8 σ (N := A) ok (hn (by assumption)).2.2 (hn (by assumption)).2.1) kX3_129 rfl (by decide) (zNet_obj zn8 ad G _ _) ⟨(Nat.le_of_ble_eq_true rfl), (Nat.le_of_ble_eq_true rfl)⟩ (Nat.le_of_ble_eq_true rfl) ⟨(Nat.le_of_ble_eq_true rfl), (Nat.le_of_ble_eq_true rfl)⟩ dX3_perform_242 (fun z9 σ1 hz9 => ?_)
    obtain ⟨rfl, rfl⟩ := hz9
    exact z_iret X hsz hr hlocks dX3_perform_245 ⟨(by unfold pR kR; rw [hq]; rfl), (congrArg (zBk σ 8 8) (by unfold pN kN; rw [hq]; rfl))⟩
  · refine z_tabIn X 117 218 187 hq dX3_perform_31 (by decide) (by decide) (by decide) (by decide) ?_
    refine z_aload_n X dX3_perform_218 rfl ?_
    refine y_gDea0 X fX3_12 dX3_perform_219 ?_
    refine z_iload_n X dX3_perform_222 rfl ?_
    refine z_callVI1 X (c_X2_wake hJ zn8 σ (N := A) ok (by have := rg_sg tk (i + 1); unfold zB; omega)) kX3_124 rfl (by decide) (zNet_obj zn8 ad G _ _) ⟨(Nat.le_of_ble_eq_true rfl), (Nat.le_of_ble_eq_true rfl)⟩ (Nat.le_of_ble_eq_true rfl) ⟨(Nat.le_of_ble_eq_true rfl), (Nat.le_of_ble_eq_true rfl)⟩ dX3_perform_223 (fun z9 σ1 hz9 => ?_)
    obtain ⟨rfl, rfl⟩ := hz9
    exact z_iret X hsz hr hlocks dX3_perform_226 ⟨(by unfold pR kR; rw [hq]; rfl), (congrArg (zBk σ 8 8) (by unfold pN kN; rw [hq]; rfl))⟩
  · refine z_tabIn X 118 246 215 hq dX3_perform_31 (by decide) (by decide) (by decide) (by decide) ?_
    refine z_iconst X dX3_perform_246 ?_
    exact z_iret X hsz hr hlocks dX3_perform_247 ⟨(by unfold pR kR; rw [hq]; rfl), (congrArg (zBk σ 8 8) (by unfold pN kN; rw [hq]; rfl))⟩
  · refine z_tabIn X 119 246 215 hq dX3_perform_31 (by decide) (by decide) (by decide) (by decide) ?_
    refine z_iconst X dX3_perform_246 ?_
    exact z_iret X hsz hr hlocks dX3_perform_247 ⟨(by unfold pR kR; rw [hq]; rfl), (congrArg (zBk σ 8 8) (by unfold pN kN; rw [hq]; rfl))⟩
  · refine z_tabIn X 120 209 178 hq dX3_perform_31 (by decide) (by decide) (by decide) (by decide) ?_
    refine z_aload_n X dX3_perform_209 rfl ?_
    refine y_gDea0 X fX3_12 dX3_perform_210 ?_
    refine z_iload_n X dX3_perform_213 rfl ?_
    refine z_callVI1 X (c_X2_silence hJ zn8 σ (N := A) ok (by have := rg_sg tk (i + 1); unfold zB; omega)) kX3_119 rfl (by decide) (zNet_obj zn8 ad G _ _) ⟨(Nat.le_of_ble_eq_true rfl), (Nat.le_of_ble_eq_true rfl)⟩ (Nat.le_of_ble_eq_true rfl) ⟨(Nat.le_of_ble_eq_true rfl), (Nat.le_of_ble_eq_true rfl)⟩ dX3_perform_214 (fun z9 σ1 hz9 => ?_)
    obtain ⟨rfl, rfl⟩ := hz9
    exact z_iret X hsz hr hlocks dX3_perform_217 ⟨(by unfold pR kR; rw [hq]; rfl), (congrArg (zBk σ 8 8) (by unfold pN kN; rw [hq]; rfl))⟩
  · refine z_tabIn X 121 144 113 hq dX3_perform_31 (by decide) (by decide) (by decide) (by decide) ?_
    refine z_aload_n X dX3_perform_144 rfl ?_
    refine y_gDea0 X fX3_12 dX3_perform_145 ?_
    refine z_iload_n X dX3_perform_148 rfl ?_
    refine z_iload X dX3_perform_149 rfl ?_
    refine z_iconst X dX3_perform_151 ?_
    refine z_callVI3 X (c_X2_castVote hJ zn8 σ (N := A) ok (by have := rg_sg tk (i + 1); unfold zB; omega) (by have := rg_sg tk (i + 2); unfold zB; omega) ⟨by decide, by decide⟩) kX3_78 rfl (by decide) (zNet_obj zn8 ad G _ _) ⟨(Nat.le_of_ble_eq_true rfl), (Nat.le_of_ble_eq_true rfl)⟩ (Nat.le_of_ble_eq_true rfl) ⟨(Nat.le_of_ble_eq_true rfl), (Nat.le_of_ble_eq_true rfl)⟩ dX3_perform_152 (fun z9 σ1 hz9 => ?_)
    obtain ⟨rfl, rfl⟩ := hz9
    exact z_iret X hsz hr hlocks dX3_perform_155 ⟨(by unfold pR kR; rw [hq]; rfl), (congrArg (zBk σ 8 8) (by unfold pN kN; rw [hq]; rfl))⟩
  · refine z_tabOut X hb 246 dX3_perform_31 hq (by decide) ?_
    refine z_iconst X dX3_perform_246 ?_
    exact z_iret X hsz hr hlocks dX3_perform_247 ⟨(by unfold pR kR; rw [if_neg (by omega), if_neg (by omega), if_neg (by omega), if_neg (by omega), if_neg (by omega), if_neg (by omega), if_neg (by omega), if_neg (by omega)]), (congrArg (zBk σ 8 8) (by unfold pN kN; rw [if_neg (by omega), if_neg (by omega), if_neg (by omega), if_neg (by omega), if_neg (by omega), if_neg (by omega), if_neg (by omega), if_neg (by omega)]))⟩

set_option maxHeartbeats 4000000 in
set_option maxRecDepth 100000 in
theorem c_X3_run {l : Launch} {D : va_G} {G : zG} {ad : Nat → Nat} (hJ : zInj ad) (hl : l.stackTraces = false) (σ : zM) (fi : fI σ)   : zKXI l D G ad yX3_run cX3_run 5 (some .int) 8 4 [.ref (ad 0)] σ (fPo (zBk (zBk (fSv σ) 8 8 ((cRl (gT σ) (gT σ 0 1 + 1).toNat 0 0 (gA σ)).2)) 3 2 (up2 (gT σ) 0 1 0)) (if tCom (gT σ) then 0 else 1) ((cRl (gT σ) (gT σ 0 1 + 1).toNat 0 0 (gA σ)).1)) (fEx σ (if tCom (gT σ) then 0 else 1) e2) := by
  intro sz
  refine zx_open hJ (by decide +kernel) (Nat.le_of_ble_eq_true rfl) ?_
  intro p e s0 m args below meth c hsz X F hxt hr hlocks
  subst hsz
  refine z_sub [(0, .ref (ad 0))] (zSub_cons rfl zSub_nil) ?_
  refine z_aload_n X dX3_run_0 rfl ?_
  refine y_gDea3 X fX3_29 dX3_run_1 ?_
  refine z_callVI0 X (zKI_at (gT_bk σ) (c_X0_isComplete hJ σ (N := gT σ) fi.2.2)) kX3_214 rfl (by decide) rfl ⟨(Nat.le_of_ble_eq_true rfl), (Nat.le_of_ble_eq_true rfl)⟩ (Nat.le_of_ble_eq_true rfl) ⟨(Nat.le_of_ble_eq_true rfl), (Nat.le_of_ble_eq_true rfl)⟩ dX3_run_4 (fun z9 σ1 hz9 => ?_)
  obtain ⟨rfl, rfl⟩ := hz9
  rw [gT_bk]
  refine z_ifb_ne X 20 dX3_run_7 (by decide) (fun c_1 => ?_) (fun c_1 => ?_)
  · refine z_aload_n X dX3_run_20 rfl ?_
    refine y_gDea2 X fX3_22 dX3_run_21 ?_
    refine z_aload_n X dX3_run_24 rfl ?_
    refine y_gDea0 X fX3_12 dX3_run_25 ?_
    refine z_callVV1 X (zKV_at (gH_bk σ) (c_X1_save hJ σ (N := gH σ) fi.2.1)) kX3_61 rfl (by decide) rfl ⟨(Nat.le_of_ble_eq_true rfl), (Nat.le_of_ble_eq_true rfl)⟩ (Nat.le_of_ble_eq_true rfl) ⟨(Nat.le_of_ble_eq_true rfl), (Nat.le_of_ble_eq_true rfl)⟩ dX3_run_28 (fun σ1 hz9 => ?_)
    obtain rfl : σ1 = fSv σ := hz9
    refine z_iconst X dX3_run_31 ?_
    refine z_istore_n X dX3_run_32 (by decide) ?_
    refine z_sub [(0, .ref (ad 0)), (1, vI 0)] (zSub_cons rfl (zSub_cons rfl zSub_nil)) ?_
    refine z_iconst X dX3_run_33 ?_
    refine z_istore_n X dX3_run_34 (by decide) ?_
    refine z_sub [(0, .ref (ad 0)), (1, vI 0), (2, vI 0)] (zSub_cons rfl (zSub_cons rfl (zSub_cons rfl zSub_nil))) ?_
    refine z_aload_n X dX3_run_35 rfl ?_
    refine y_gDea3 X fX3_29 dX3_run_36 ?_
    refine z_callVI0 X (zKI_at (gT_sv fi.2.1) (c_X0_size hJ (fSv σ) (N := gT σ) fi.2.2)) kX3_219 rfl (by decide) rfl ⟨(Nat.le_of_ble_eq_true rfl), (Nat.le_of_ble_eq_true rfl)⟩ (Nat.le_of_ble_eq_true rfl) ⟨(Nat.le_of_ble_eq_true rfl), (Nat.le_of_ble_eq_true rfl)⟩ dX3_run_39 (fun z9 σ1 hz9 => ?_)
    obtain ⟨rfl, rfl⟩ := hz9
    rw [gT_sv fi.2.1]
    refine z_istore_n X dX3_run_42 (by decide) ?_
    refine z_sub [(0, .ref (ad 0)), (1, vI 0), (2, vI 0), (3, vI (gT σ 0 1))] (zSub_cons rfl (zSub_cons rfl (zSub_cons rfl (zSub_cons rfl zSub_nil)))) ?_
    refine z_iconst X dX3_run_43 ?_
    refine z_istore X dX3_run_44 (by decide) ?_
    refine z_sub [(0, .ref (ad 0)), (1, vI 0), (2, vI 0), (3, vI (gT σ 0 1)), (4, vI 0)] (zSub_cons rfl (zSub_cons rfl (zSub_cons rfl (zSub_cons rfl (zSub_cons rfl zSub_nil))))) ?_
    refine z_sub [(0, .ref (ad 0)), (1, vI 0), (2, vI 0), (3, vI (gT σ 0 1)), (4, vI 0)] (zSub_cons rfl (zSub_cons rfl (zSub_cons rfl (zSub_cons rfl (zSub_cons rfl zSub_nil))))) ?_
    have co : tCom (gT σ) := c_1
    have tk := fi.2.2
    have tl := tk.1
    have hT := gT_fSv fi.2.1
    refine zV_at (fSv_bk8 fi.2.1) ?_
    refine zFor (S := Int × Int × zNt) (gT σ 0 1 + 1) (fun i q => rIv (gT σ) (gA σ) i q.1 q.2.1 q.2.2) (fun i q => zV p l e (zRx 8 4) s0 m args below meth c 5 D G ad 0 0 (zXE below (zQI D G ad s0.heap.size (fPo (zBk (zBk (fSv σ) 8 8 ((cRl (gT σ) (gT σ 0 1 + 1).toNat 0 0 (gA σ)).2)) 3 2 (up2 (gT σ) 0 1 0)) (if tCom (gT σ) then 0 else 1) ((cRl (gT σ) (gT σ 0 1 + 1).toNat 0 0 (gA σ)).1))) (zXX D G ad s0.heap.size (fEx σ (if tCom (gT σ) then 0 else 1) e2)) args s0 ad 4) 46 [(0, .ref (ad 0)), (1, vI q.1), (2, vI q.2.1), (3, vI (gT σ 0 1)), (4, vI i)] [] (zBk (fSv σ) 8 8 q.2.2)) (fun i q i0 i1 hv ih => ?_) (0, 0, gA σ) (by omega) (rIv_0 fi.1)
    obtain ⟨n, t, A⟩ := q
    have hv : rIv (gT σ) (gA σ) i n t A := hv
    have hb := hv.1
    show zV p l e (zRx 8 4) s0 m args below meth c 5 D G ad 0 0 (zXE below (zQI D G ad s0.heap.size (fPo (zBk (zBk (fSv σ) 8 8 ((cRl (gT σ) (gT σ 0 1 + 1).toNat 0 0 (gA σ)).2)) 3 2 (up2 (gT σ) 0 1 0)) (if tCom (gT σ) then 0 else 1) ((cRl (gT σ) (gT σ 0 1 + 1).toNat 0 0 (gA σ)).1))) (zXX D G ad s0.heap.size (fEx σ (if tCom (gT σ) then 0 else 1) e2)) args s0 ad 4) 46 [(0, .ref (ad 0)), (1, vI n), (2, vI t), (3, vI (gT σ 0 1)), (4, vI i)] [] (zBk (fSv σ) 8 8 A)
    refine z_iload X dX3_run_46 rfl ?_
    refine z_iload_n X dX3_run_48 rfl ?_
    refine z_icmp_gt X 92 dX3_run_49 (by decide) (by first | assumption | exact ⟨by decide, by decide⟩ | (unfold zB at *; omega)) (by first | assumption | exact ⟨by decide, by decide⟩ | (unfold zB at *; omega)) (fun c_2 => ?_) (fun c_2 => ?_)
    · refine z_aload_n X dX3_run_92 rfl ?_
      refine y_gDea3 X fX3_29 dX3_run_93 ?_
      refine z_callVI0 X (zKI_at (gT_bkS fi.2.1 A) (c_X0_clear hJ (zBk (fSv σ) 8 8 A) (N := gT σ) tk)) kX3_208 rfl (by decide) rfl ⟨(Nat.le_of_ble_eq_true rfl), (Nat.le_of_ble_eq_true rfl)⟩ (Nat.le_of_ble_eq_true rfl) ⟨(Nat.le_of_ble_eq_true rfl), (Nat.le_of_ble_eq_true rfl)⟩ dX3_run_96 (fun z9 σ1 hz9 => ?_)
      obtain ⟨rfl, rfl⟩ := hz9
      refine z_pop X dX3_run_99 rfl ?_
      refine z_iload_n X dX3_run_100 rfl ?_
      have hf := rIv_fin hv (by omega)
      exact zx_iret X hr hlocks dX3_run_101 ⟨hf.1, by rw [hf.2], (if_pos (c := tCom (gT σ)) c_1)⟩ (Nat.le_of_ble_eq_true rfl) (Nat.le_of_ble_eq_true rfl)
    · refine z_aload_n X dX3_run_52 rfl ?_
      refine y_gDea3 X fX3_29 dX3_run_53 ?_
      refine z_iload X dX3_run_56 rfl ?_
      refine z_callVI1 X (zKI_at (gT_bkS fi.2.1 A) (c_X0_isActionEnd hJ (zBk (fSv σ) 8 8 A) (N := gT σ) tk (by first | assumption | exact ⟨by decide, by decide⟩ | (unfold zB at *; omega)))) kX3_222 rfl (by decide) rfl ⟨(Nat.le_of_ble_eq_true rfl), (Nat.le_of_ble_eq_true rfl)⟩ (Nat.le_of_ble_eq_true rfl) ⟨(Nat.le_of_ble_eq_true rfl), (Nat.le_of_ble_eq_true rfl)⟩ dX3_run_58 (fun z9 σ1 hz9 => ?_)
      obtain ⟨rfl, rfl⟩ := hz9
      rw [gT_bkS fi.2.1 A]
      refine z_ifb_eq X 86 dX3_run_61 (by decide) (fun c_3 => ?_) (fun c_3 => ?_)
      · refine z_iinc X dX3_run_86 rfl (by decide) ?_
        refine z_sub [(0, .ref (ad 0)), (1, vI n), (2, vI t), (3, vI (gT σ 0 1)), (4, vI (i + 1))] (zSub_cons rfl (zSub_cons rfl (zSub_cons rfl (zSub_cons rfl (zSub_cons rfl zSub_nil))))) ?_
        refine z_goto X 46 dX3_run_89 (by decide) ?_
        exact ih (by omega) (n, t, A) (rIv_skip hv (by omega) c_3)
      · refine z_aload_n X dX3_run_64 rfl ?_
        refine z_iload_n X dX3_run_65 rfl ?_
        refine z_iload X dX3_run_66 rfl ?_
        have hpf := rIv_pf hv tk co (by omega) c_3
        refine z_callVI2 X (c_X3_perform hJ (fSv σ) (A := A) hv.2.2.2.1 (tOk_cg hT tk) (i := t) (j := i) (by omega) (by unfold zB; omega) (by rw [tE_sg hT, tE_num hT]; exact hpf)) kX3_225 rfl (by decide) rfl ⟨(Nat.le_of_ble_eq_true rfl), (Nat.le_of_ble_eq_true rfl)⟩ (Nat.le_of_ble_eq_true rfl) ⟨(Nat.le_of_ble_eq_true rfl), (Nat.le_of_ble_eq_true rfl)⟩ dX3_run_68 (fun z9 σ1 hz9 => ?_)
        obtain ⟨rfl, rfl⟩ := hz9
        rw [tE_pR hT, tE_pN hT]
        refine z_iconst X dX3_run_71 ?_
        refine z_icmp_ne X 78 dX3_run_72 (by decide) (rg_pR hv.2.2.2.1 _ _) ⟨by decide, by decide⟩ (fun c_4 => ?_) (fun c_4 => ?_)
        · refine z_iinc X dX3_run_78 rfl (by decide) ?_
          refine z_sub [(0, .ref (ad 0)), (1, vI (n + 1)), (2, vI t), (3, vI (gT σ 0 1)), (4, vI i)] (zSub_cons rfl (zSub_cons rfl (zSub_cons rfl (zSub_cons rfl (zSub_cons rfl zSub_nil))))) ?_
          refine z_iload X dX3_run_81 rfl ?_
          refine z_iconst X dX3_run_83 ?_
          refine z_iadd X dX3_run_84 ?_
          refine z_istore_n X dX3_run_85 (by decide) ?_
          refine z_sub [(0, .ref (ad 0)), (1, vI (n + 1)), (2, vI (i + 1)), (3, vI (gT σ 0 1)), (4, vI i)] (zSub_cons rfl (zSub_cons rfl (zSub_cons rfl (zSub_cons rfl (zSub_cons rfl zSub_nil))))) ?_
          refine z_iinc X dX3_run_86 rfl (by decide) ?_
          refine z_sub [(0, .ref (ad 0)), (1, vI (n + 1)), (2, vI (i + 1)), (3, vI (gT σ 0 1)), (4, vI (i + 1))] (zSub_cons rfl (zSub_cons rfl (zSub_cons rfl (zSub_cons rfl (zSub_cons rfl zSub_nil))))) ?_
          refine z_goto X 46 dX3_run_89 (by decide) ?_
          exact ih (by omega) (n + 1, i + 1, (pN (gT σ) t i A)) (rIv_hit hv co (by omega) c_3 c_4)
        · refine z_goto X 92 dX3_run_75 (by decide) ?_
          refine z_aload_n X dX3_run_92 rfl ?_
          refine y_gDea3 X fX3_29 dX3_run_93 ?_
          refine z_callVI0 X (zKI_at (gT_bkS fi.2.1 (pN (gT σ) t i A)) (c_X0_clear hJ (zBk (fSv σ) 8 8 (pN (gT σ) t i A)) (N := gT σ) tk)) kX3_208 rfl (by decide) rfl ⟨(Nat.le_of_ble_eq_true rfl), (Nat.le_of_ble_eq_true rfl)⟩ (Nat.le_of_ble_eq_true rfl) ⟨(Nat.le_of_ble_eq_true rfl), (Nat.le_of_ble_eq_true rfl)⟩ dX3_run_96 (fun z9 σ1 hz9 => ?_)
          obtain ⟨rfl, rfl⟩ := hz9
          refine z_pop X dX3_run_99 rfl ?_
          refine z_iload_n X dX3_run_100 rfl ?_
          have hf := rIv_stop hv (by omega) c_3 c_4
          exact zx_iret X hr hlocks dX3_run_101 ⟨hf.1, by rw [hf.2], (if_pos (c := tCom (gT σ)) c_1)⟩ (Nat.le_of_ble_eq_true rfl) (Nat.le_of_ble_eq_true rfl)
  · exact zx_throw X F hxt hl hlocks zth_2 (List.mem_of_getElem? (i := 17) rfl) dX3_run_10 dX3_run_13 dX3_run_14 dX3_run_16 dX3_run_19 (Nat.le_of_ble_eq_true rfl) (by decide) (Nat.le_of_ble_eq_true rfl) (Nat.le_of_ble_eq_true rfl) (fEx_i (n := 1) (if_neg (c := tCom (gT σ)) c_1) (by decide) rfl)
