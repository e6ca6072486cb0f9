/-! the class's Net and the reference's state, side by side, with what each keeps -/
def sR (A B : zNt) : Prop := cOk A ∧ nRel A B ∧ rOk B ∧ Bud B ∧ pOk B
theorem cHas_dec {N : zNt} {d : Int} (h : cDec N d ≠ -1) : cHas N d := by
  unfold cDec at h
  split at h
  · assumption
  · exact absurd rfl h
theorem cHas_st {N : zNt} {d s : Int} (h : cSt N d s ≠ -1) : cHas N d := ⟨(st_in h).1, (st_in h).2.1⟩
theorem rg_voteV (N : zNt) (d s y : Int) : cVoteV N d s y = 1 ∨ cVoteV N d s y = 3 := by unfold cVoteV; split <;> omega
theorem rg_mvoteV (N : zNt) (d s y : Int) : mVoteV N d s y = 1 ∨ mVoteV N d s y = 3 := by unfold mVoteV; split <;> omega
theorem if_cg {α : Type} {P Q : Prop} [Decidable P] [Decidable Q] {a b c d : α} (h : P ↔ Q) (e1 : a = c) (e2 : b = d) : (if P then a else b) = if Q then c else d := by
  by_cases p : P
  · rw [if_pos p, if_pos (h.mp p), e1]
  · rw [if_neg p, if_neg (fun q => p (h.mpr q)), e2]
theorem sr_vote {A B : zNt} (h : sR A B) {d s : Int} (y : Int) (hc : cCanVote A d s) : sR (cVoteN A d s y) (aEnter B d s (mVoteV B d s y)) := by
  obtain ⟨ok, nr, rk, bd, pk⟩ := h
  have hv := rg_mvoteV B d s y
  have hB : cSt B d s = 0 := (nr_st nr d s).symm.trans hc.2
  exact ⟨ok_vote ok d s y, nr_vote ok nr y hc, rk_aEnter rk (by omega) (by rw [hB]; decide), bd_aEnter (rk_n rk) bd (Or.inl ⟨hB, by omega⟩), px_48 (px_aEnter (pk_px pk 48) _ _ _)⟩
theorem sr_voteR {A B : zNt} (h : sR A B) {d s : Int} (y : Int) (hc : cCanVote A d s) : cVoteR A d s y = cSt (aEnter B d s (mVoteV B d s y)) d s := by
  obtain ⟨ok, nr, rk, bd, pk⟩ := h
  have hB : cSt B d s = 0 := (nr_st nr d s).symm.trans hc.2
  have hA : cSt A d s ≠ -1 := by rw [hc.2]; decide
  rw [st_entr (st_in (by rw [hB]; decide))]
  unfold cVoteR
  rw [if_pos hc]
  exact nr_voteV ok nr y (cHas_st hA) (by rw [hc.2]; decide)
theorem sr_decide {A B : zNt} (h : sR A B) {d : Int} (hc : cCanDecide A d) : sR (cDecideN A d) (cSettle B d (cDecV B d)) := by
  obtain ⟨ok, nr, rk, bd, pk⟩ := h
  have hB := (nr_canDecide nr d).mp hc
  have hd : cHas B d := cHas_dec (by rw [hB.2]; decide)
  have hv := rg_decV B d
  exact ⟨ok_decide ok d, nr_decide ok nr hc, rk_settle rk ⟨by omega, by omega⟩, bd_settle rk bd hd hB.2 (by omega), px_48 (px_settle (pk_px pk 48) _ _)⟩
theorem sr_decideR {A B : zNt} (h : sR A B) {d : Int} (hc : cCanDecide A d) : cDecideR A d = cDec (cSettle B d (cDecV B d)) d := by
  obtain ⟨ok, nr, rk, bd, pk⟩ := h
  have hB := (nr_canDecide nr d).mp hc
  have hd : cHas B d := cHas_dec (by rw [hB.2]; decide)
  unfold cDecideR
  rw [if_pos hc, dec_settle _ hd, nr_decV nr]
theorem sr_tell {A B : zNt} (h : sR A B) {d s : Int} (hc : cCanTell A d s) : sR (cTellN A d s) (aTell B d s) := by
  obtain ⟨ok, nr, rk, bd, pk⟩ := h
  have hB := (nr_canTell nr d s).mp hc
  have hd : cHas B d := cHas_st hB.2.2.1
  exact ⟨ok_tell ok d s, nr_tell ok nr hc, rk_aTell rk hd, bd_aTell rk bd hd (cEnd_iff hB.2.2.2), px_48 (px_aTell (pk_px pk 48) _ _)⟩
theorem sr_tellR {A B : zNt} (h : sR A B) {d s : Int} (hc : cCanTell A d s) : cTellR A d s = cSt (aTell B d s) d s := by
  unfold cTellR
  rw [if_pos hc]
  exact nr_st (sr_tell h hc).2.1 d s
theorem sr_ask {A B : zNt} (h : sR A B) {d s o : Int} (hc : cCanAsk A d s o) : sR (cAskN A d s o) (aAsk B d s o) := by
  obtain ⟨ok, nr, rk, bd, pk⟩ := h
  have hB := (nr_canAsk nr d s o).mp hc
  have hd : cHas B d := cHas_st (s := s) (by rw [hB.2.2.2]; decide)
  exact ⟨ok_ask ok d s o, nr_ask ok rk nr hc, rk_aAsk rk hd hB.2.2.2, bd_aAsk rk bd hd hB.2.2.2, px_48 (px_aAsk (pk_px pk 48) _ _ _)⟩
theorem sr_askR {A B : zNt} (h : sR A B) {d s o : Int} (hc : cCanAsk A d s o) : cAskR A d s o = cSt (aAsk B d s o) d s := by
  unfold cAskR
  rw [if_pos hc]
  exact nr_st (sr_ask h hc).2.1 d s
theorem sr_sil {A B : zNt} (h : sR A B) {s : Int} (hc : cUp A s) : sR (cSilN A s) (cSil B s) := by
  obtain ⟨ok, nr, rk, bd, pk⟩ := h
  exact ⟨ok_silN ok s, nr_silN nr hc, rk_up rk _, bd_up bd _, px_48 (px_cg (pk_px pk 48) rfl (fun _ => rfl) (fun _ => rfl))⟩
theorem sr_silR {A B : zNt} (h : sR A B) {s : Int} (hc : cUp A s) : cSilR A s = cDoubts (cSil B s) s := by
  unfold cSilR
  rw [if_pos hc]
  exact nr_doubts (nr_sil h.2.1 s) s
theorem sr_wk {A B : zNt} (h : sR A B) {s : Int} (hc : cCanWk A s) : sR (cWkN A s) (aWkN B s) := by
  obtain ⟨ok, nr, rk, bd, pk⟩ := h
  have iv := iv_aWkN rk bd pk s
  exact ⟨ok_wkN ok s, nr_wk ok nr hc, iv.1, iv.2.1, iv.2.2⟩
theorem sr_wkR {A B : zNt} (h : sR A B) {s : Int} (hc : cCanWk A s) : cWkR A s = aWkN B s 6 s.toNat - B 6 s.toNat := by
  have q := sr_wk h hc
  unfold cWkR
  rw [if_pos hc, nr_ent q.2.1, nr_ent h.2.1]
  unfold cEnt
  rw [if_pos hc.1, if_pos hc.1]
theorem sr_pass {A B : zNt} (h : sR A B) (t : Int) : sR (cPassN A t) (aPassL B t.toNat) := by
  obtain ⟨ok, nr, rk, bd, pk⟩ := h
  have iv := iv_aPassL rk bd pk t.toNat
  exact ⟨ok_passL ok _, nr_passL ok rk bd pk nr _, iv.1, iv.2.1, iv.2.2⟩
theorem sr_passR {A B : zNt} (h : sR A B) (t : Int) : cPassR A t = mEnded (aPassL B t.toNat) - mEnded B := nr_passR h.1 h.2.2.1 h.2.2.2.1 h.2.2.2.2 h.2.1 t
theorem rk_fr3 {N : zNt} (ok : rOk N) {x : Int} (hx : 1 ≤ x ∧ x ≤ 20) : rOk (up2 N 0 3 x) := ⟨ok.1, ok.2.1, ok.2.2.1, ok.2.2.2.1, by rw [up2_at]; omega, ok.2.2.2.2.2⟩
theorem pk_fr3 {N : zNt} (pk : pOk N) {x : Int} (hx : 1 ≤ x ∧ x ≤ 20) : pOk (up2 N 0 3 x) := ⟨by rw [up2_at]; omega, pk.2⟩
theorem sr_fresh {A B : zNt} (h : sR A B) {x : Int} (hx : 1 ≤ x ∧ x ≤ 20) : sR (up2 A 0 3 x) (up2 B 0 3 x) := by
  obtain ⟨ok, nr, rk, bd, pk⟩ := h
  exact ⟨ok_f3 ok hx, nr_fresh nr x, rk_fr3 rk hx, bd, pk_fr3 pk hx⟩
/-! reason -/
theorem nr_holds {A B : zNt} (ok : cOk A) (h : nRel A B) {d s : Int} (hd : cHas A d) (hm : cSt A d s ≠ 1) : cHolds A d s ↔ mHeld B d s := by
  have q := nr_voteV ok h (s := s) 1 hd hm
  unfold cVoteV mVoteV at q
  constructor
  · intro z
    apply Classical.byContradiction
    intro w
    rw [if_neg (fun x => x.2 z), if_pos ⟨by decide, w⟩] at q
    exact absurd q (by decide)
  · intro z
    apply Classical.byContradiction
    intro w
    rw [if_pos ⟨by decide, w⟩, if_neg (fun x => x.2 z)] at q
    exact absurd q (by decide)
theorem nr_reas {A B : zNt} (ok : cOk A) (h : nRel A B) {d s : Int} : cReas A d s = if cSt B d s = -1 then 1 else if ¬ cUp B s then 2 else if cSt B d s ≠ 0 then 3 else if mHeld B d s then 4 else 0 := by
  unfold cReas
  rw [nr_st h]
  by_cases h3 : cSt B d s = 0
  · have hA : cSt A d s = 0 := (nr_st h d s).trans h3
    have key := nr_holds (s := s) ok h (cHas_st (s := s) (by rw [hA]; decide)) (by rw [hA]; decide)
    exact if_cg Iff.rfl rfl (if_cg (not_congr (nr_up h s)) rfl (if_cg Iff.rfl rfl (if_cg key rfl rfl)))
  · exact if_cg Iff.rfl rfl (if_cg (not_congr (nr_up h s)) rfl (by rw [if_pos h3, if_pos h3]))
/-! the places of the exceptions -/
theorem mx_vote {A B : zNt} (h : nRel A B) (d s y : Int) : mX_vote A d s y = mX_vote B d s y :=
  if_cg (not_congr (and_congr (nr_has h d) Iff.rfl)) rfl (if_cg (not_congr (nr_canVote h d s)) rfl rfl)
theorem mx_decide {A B : zNt} (h : nRel A B) (d : Int) : mX_decide A d = mX_decide B d :=
  if_cg (not_congr (nr_has h d)) rfl (if_cg (not_congr (nr_canDecide h d)) rfl rfl)
theorem mx_tell {A B : zNt} (h : nRel A B) (d s : Int) : mX_tell A d s = mX_tell B d s :=
  if_cg (not_congr (and_congr (nr_has h d) Iff.rfl)) rfl (if_cg (not_congr (nr_canTell h d s)) rfl rfl)
theorem mx_ask {A B : zNt} (h : nRel A B) (d s o : Int) : mX_ask A d s o = mX_ask B d s o :=
  if_cg (not_congr (and_congr (nr_has h d) Iff.rfl)) rfl (if_cg Iff.rfl rfl (if_cg (not_congr (and_congr (nr_up h s) (and_congr (nr_up h o) (by rw [nr_st h])))) rfl rfl))
theorem mx_comeBack {A B : zNt} (h : nRel A B) (s : Int) : mX_comeBack A s = mX_comeBack B s :=
  if_cg Iff.rfl rfl (if_cg (nr_up h s) rfl rfl)
theorem mx_fallSilent {A B : zNt} (h : nRel A B) (s : Int) : mX_fallSilent A s = mX_fallSilent B s :=
  if_cg Iff.rfl rfl (if_cg (not_congr (nr_up h s)) rfl rfl)
theorem mx_begin {A B : zNt} (h : nRel A B) (ld mk it : Int) : mX_begin A ld mk it = mX_begin B ld mk it := by
  unfold mX_begin; rw [nr_0 h (j := 0) (by decide), nr_0 h (j := 1) (by decide)]
