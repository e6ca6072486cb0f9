/-! THE INVARIANT's steps: each call of the class keeps it; what has ended stays -/
def kR (N M : zNt) : Prop := N 0 0 ≤ M 0 0 ∧ (∀ d s, cHas N d → (2 ≤ cSt N d s → cSt M d s = cSt N d s) ∧ (cSt M d s = -1 ↔ cSt N d s = -1)) ∧ (∀ d, cHas N d → cDec N d ≠ 0 → cDec M d = cDec N d) ∧ ∀ s, cEnt N s ≤ cEnt M s
theorem kR_rf (N : zNt) : kR N N := ⟨Int.le_refl _, fun _ _ _ => ⟨fun _ => rfl, Iff.rfl⟩, fun _ _ _ => rfl, fun _ => Int.le_refl _⟩
theorem kR_tr {N M K : zNt} (h : kR N M) (g : kR M K) : kR N K := by
  have hh : ∀ d, cHas N d → cHas M d := fun d q => ⟨q.1, Int.lt_of_lt_of_le q.2 h.1⟩
  refine ⟨Int.le_trans h.1 g.1, fun d s q => ⟨fun z => ?_, ?_⟩, fun d q z => ?_, fun s => Int.le_trans (h.2.2.2 s) (g.2.2.2 s)⟩
  · have a := (h.2.1 d s q).1 z
    rw [← a] at z ⊢
    exact (g.2.1 d s (hh d q)).1 z
  · exact (g.2.1 d s (hh d q)).2.trans (h.2.1 d s q).2
  · have a := h.2.2.1 d q z
    rw [← a] at z ⊢
    exact g.2.2.1 d (hh d q) z
def jS (N M : zNt) : Prop := jN M ∧ kR N M ∧ M 0 0 = N 0 0
theorem jS_rf {N : zNt} (j : jN N) : jS N N := ⟨j, kR_rf N, rfl⟩
theorem jS_tr {N M K : zNt} (h : jS N M) (g : jS M K) : jS N K := ⟨g.1, kR_tr h.2.1 g.2.1, g.2.2.trans h.2.2⟩
theorem has_dec {N : zNt} {d : Int} (h : cDec N d ≠ -1) : cHas N d := by
  apply Classical.byContradiction
  intro z
  unfold cDec at h
  rw [if_neg z] at h
  exact h rfl
theorem jS_enter {N : zNt} {d s v : Int} (j : jN N) (h : jE N d s v) : jS N (cEnter N d s v) := by
  have h01 : cSt N d s = 0 ∨ cSt N d s = 1 := by unfold jE at h; omega
  have hv : 1 ≤ v ∧ v ≤ 3 := by unfold jE at h; omega
  have hm : cSt N d s ≠ -1 := by omega
  have hc := bud_st (ok_n j.1) j.2.1 h01
  refine ⟨jN_enter j h, ⟨by rw [n_enter]; exact Int.le_refl _, fun a b _ => ?_, fun a _ _ => dc_enter N d s v a, fun t => ?_⟩, n_enter _ _ _ _ _⟩
  · rw [st_enter hm]
    by_cases z : a = d ∧ b = s
    · rw [if_pos z, z.1, z.2]
      exact ⟨fun q => by omega, by omega⟩
    · rw [if_neg z]
      exact ⟨fun _ => rfl, Iff.rfl⟩
  · rw [ent_enter hm hc]
    by_cases z : t = s
    · rw [if_pos z, z]; omega
    · rw [if_neg z]; exact Int.le_refl _
theorem jS_settle {N : zNt} {d v : Int} (j : jN N) (hd : cHas N d) (h0 : cDec N d = 0) (h : (v = 2 ∧ ∀ s, cSt N d s = -1 ∨ cSt N d s = 1) ∨ v = 3) : jS N (cSettle N d v) := by
  have hc := bud_dc j.1 j.2.1 hd h0
  refine ⟨jN_settle j hd h0 h, ⟨by rw [n_settle]; exact Int.le_refl _, fun a b _ => ?_, fun a _ q => ?_, fun t => ?_⟩, n_settle _ _ _ _⟩
  · rw [st_settle]
    exact ⟨fun _ => rfl, Iff.rfl⟩
  · rw [dc_settle hd]
    by_cases z : a = d
    · rw [z] at q; exact absurd h0 q
    · rw [if_neg z]
  · rw [ent_settle j.1 hd hc]
    by_cases z : t = cLead N d
    · rw [if_pos z, z]; omega
    · rw [if_neg z]; exact Int.le_refl _
theorem jR_cg {N M : zNt} (h0 : M 0 0 = N 0 0) (h1 : ∀ j, M 1 j = N 1 j) (h2 : ∀ j, M 2 j = N 2 j) (h3 : ∀ j, M 3 j = N 3 j) (h4 : ∀ j, M 4 j = N 4 j) (h6 : ∀ j, M 6 j = N 6 j) (h7 : ∀ j, M 7 j = N 7 j) (j : jR N) : jR M := by
  have eS := fun d s => cSt_cg h0 h4 d s
  have eL := fun d => cLead_cg h0 h1 d
  have eD := fun d => cDec_cg h0 h3 d
  have eE := fun t => ent_cg h6 t
  have eY := fun t i => ery_cg h6 h7 t i
  have eP : ∀ s d v, lP M s d v ↔ lP N s d v := fun s d v => by
    unfold lP
    rw [eS, eL, eD]
    show (0 ≤ d ∧ d < M 0 0) ∧ _ ↔ _
    rw [h0]
  have eQ : ∀ s d v, lQ M s d v ↔ lQ N s d v := fun s d v => by
    unfold lQ
    rw [eS, eL, eD]
    show (0 ≤ d ∧ d < M 0 0) ∧ _ ↔ _
    rw [h0]
  obtain ⟨bd, hC, hI, hL⟩ := j
  refine ⟨fun s a b => ?_, fun d s => ?_, fun d e s hne p q => ?_, fun t t0 t6 => ?_⟩
  · have q : bud M s = bud N s := by
      unfold bud
      rw [h0]
      exact zSum_cg (fun i _ => by unfold wD; rw [eS, eL, eD])
    rw [h6, q]; exact bd s a b
  · rw [eS, eD]; exact hC d s
  · rw [eS] at p q
    rw [h2, h2]; exact hI d e s hne p q
  · have hl := hL t t0 t6
    refine ⟨fun i k a b c => ?_, fun i a b => ?_, fun d v q => ?_⟩
    · rw [eY, eY]; exact hl.1 i k a b (by rw [← eE]; exact c)
    · rw [eY]
      obtain ⟨d, v, p, q⟩ := hl.2.1 i a (by rw [← eE]; exact b)
      exact ⟨d, v, p, (eP _ _ _).mpr q⟩
    · obtain ⟨i, a, b, c⟩ := hl.2.2 d v ((eQ _ _ _).mp q)
      exact ⟨i, a, by rw [eE]; exact b, by rw [eY]; exact c⟩
theorem jS_cg {N M : zNt} (j : jN N) (ok : cOk M) (h0 : M 0 0 = N 0 0) (h1 : ∀ j, M 1 j = N 1 j) (h2 : ∀ j, M 2 j = N 2 j) (h3 : ∀ j, M 3 j = N 3 j) (h4 : ∀ j, M 4 j = N 4 j) (h6 : ∀ j, M 6 j = N 6 j) (h7 : ∀ j, M 7 j = N 7 j) : jS N M :=
  ⟨⟨ok, jR_cg h0 h1 h2 h3 h4 h6 h7 j.2⟩, ⟨by rw [h0]; exact Int.le_refl _, fun d s _ => by rw [cSt_cg h0 h4]; exact ⟨fun _ => rfl, Iff.rfl⟩, fun d _ _ => cDec_cg h0 h3 d, fun s => by rw [ent_cg h6]; exact Int.le_refl _⟩, h0⟩
theorem jS_f {N : zNt} (j : jN N) {f : Nat} {x : Int} (hf : f ≠ 0) (ok : cOk (up2 N 0 f x)) : jS N (up2 N 0 f x) :=
  jS_cg j ok (up2_ne _ _ (fun q => hf q.2.symm)) (fun i => up2_rw _ _ (by decide) i) (fun i => up2_rw _ _ (by decide) i) (fun i => up2_rw _ _ (by decide) i) (fun i => up2_rw _ _ (by decide) i) (fun i => up2_rw _ _ (by decide) i) (fun i => up2_rw _ _ (by decide) i)
theorem jS_5 {N : zNt} (j : jN N) {i : Nat} {x : Int} (ok : cOk (up2 N 5 i x)) : jS N (up2 N 5 i x) :=
  jS_cg j ok (up2_rw _ _ (by decide) 0) (fun i => up2_rw _ _ (by decide) i) (fun i => up2_rw _ _ (by decide) i) (fun i => up2_rw _ _ (by decide) i) (fun i => up2_rw _ _ (by decide) i) (fun i => up2_rw _ _ (by decide) i) (fun i => up2_rw _ _ (by decide) i)
theorem jS_tell {N : zNt} (j : jN N) (d s : Int) : jS N (cTellN N d s) := by
  unfold cTellN; split
  · rename_i q
    have h2 := q.1.2.2.2
    have h3 := q.2
    exact jS_enter j (by unfold jE; omega)
  · exact jS_rf j
theorem jS_vote {N : zNt} (j : jN N) (d s y : Int) : jS N (cVoteN N d s y) := by
  unfold cVoteN; split
  · rename_i q
    have h0 := q.2
    have hC := j.2.2.1 d s
    refine jS_enter j ?_
    unfold cVoteV; split
    · rename_i z
      exact Or.inl ⟨rfl, h0, z.2⟩
    · exact Or.inr (Or.inr ⟨rfl, Or.inl h0, fun z => (hC.2.1 z).1 h0⟩)
  · exact jS_rf j
theorem all_st {N : zNt} {d : Int} (h : cAll N d) (s : Int) : cSt N d s = -1 ∨ cSt N d s = 1 := by
  by_cases z : 0 ≤ s ∧ s < 6
  · have q := zAny_lt h (i := s.toNat) (by omega)
    rw [Int.toNat_of_nonneg z.1] at q
    have q2 := of_decide_eq_false q
    omega
  · refine Or.inl ?_
    unfold cSt
    rw [if_neg (fun y => z ⟨y.2.2.1, y.2.2.2⟩)]
theorem jS_decide {N : zNt} (j : jN N) (d : Int) : jS N (cDecideN N d) := by
  unfold cDecideN; split
  · rename_i q
    have h0 := q.2
    refine jS_settle j (has_dec (by omega)) h0 ?_
    unfold cDecV; split
    · rename_i z
      exact Or.inl ⟨rfl, all_st z⟩
    · exact Or.inr rfl
  · exact jS_rf j
theorem jS_ask2 {N : zNt} (j : jN N) (d : Int) : jS N (cAsk2 N d) := by
  unfold cAsk2; split
  · rename_i q
    exact jS_settle j (has_dec (by omega)) q (Or.inr rfl)
  · exact jS_rf j
theorem jS_ask3 {N : zNt} (j : jN N) (d s v : Int) (h1 : cSt N d s = 1) (h2 : v = 2 → cDec N d = 2) (h3 : v = 3 → cDec N d ≠ 2) : jS N (cAsk3 N d s v) := by
  unfold cAsk3; split
  · rename_i q
    refine jS_enter j ?_
    rcases q with q | q
    · exact Or.inr (Or.inl ⟨q, h1, h2 q⟩)
    · exact Or.inr (Or.inr ⟨q, Or.inr h1, h3 q⟩)
  · exact jS_rf j
theorem st_ask2 (N : zNt) (d a b : Int) : cSt (cAsk2 N d) a b = cSt N a b := by
  unfold cAsk2; split
  · exact st_settle _ _ _ _ _
  · rfl
theorem jS_ask4 {N : zNt} (j : jN N) (d s o : Int) (hso : s ≠ o) (h1 : cSt N d s = 1) : jS N (cAsk4 N d s o) := by
  unfold cAsk4; split
  · have j2 := jS_ask2 j d
    exact jS_tr j2 (jS_ask3 j2.1 d s _ (by rw [st_ask2]; exact h1) (fun q => q) (fun q => by omega))
  · split
    · rename_i q
      have hC := j.2.2.1 d o
      have hd : cDec N d ≠ 2 := fun z => (hC.2.1 z).1 q
      have j2 := jS_enter j (d := d) (s := o) (v := 3) (Or.inr (Or.inr ⟨rfl, Or.inl q, hd⟩))
      refine jS_tr j2 (jS_enter j2.1 (Or.inr (Or.inr ⟨rfl, Or.inr ?_, ?_⟩)))
      · rw [st_enter (by omega), if_neg (fun y => hso y.2)]; exact h1
      · rw [dc_enter]; exact hd
    · have hC := j.2.2.1 d o
      exact jS_ask3 j d s _ h1 hC.2.2 (fun q z => (hC.2.1 z).2 q)
theorem jS_ask {N : zNt} (j : jN N) (d s o : Int) : jS N (cAskN N d s o) := by
  unfold cAskN; split
  · rename_i q
    have j1 : jS N (cAsk1 N) := jS_f j (by decide) (ok_f2 j.1 _)
    exact jS_tr j1 (jS_ask4 j1.1 d s o q.1 q.2.2.2)
  · exact jS_rf j
theorem jS_askL {N : zNt} (j : jN N) (d s : Int) : ∀ o : Nat, jS N (cAskL N d s o)
  | 0 => jS_rf j
  | o + 1 => by
    have q := jS_askL j d s o
    rw [cAskL]
    exact jS_tr q (jS_ask q.1 d s o)
theorem jS_lose {N : zNt} (j : jN N) (d s : Int) : jS N (cLoseN N d s) := by
  have ok := ok_lose j.1 d s
  revert ok
  unfold cLoseN; split
  · split
    · exact fun ok => jS_5 j ok
    · exact fun ok => jS_5 j ok
  · exact fun _ => jS_rf j
theorem jS_tickS {N : zNt} (j : jN N) (d s : Int) : jS N (cTickS N d s) := by
  have q := jS_lose j d s
  unfold cTickS; split
  · exact jS_tr q (jS_askL q.1 d s 6)
  · exact q
theorem jS_tickL {N : zNt} (j : jN N) (d : Int) : ∀ s : Nat, jS N (cTickL N d s)
  | 0 => jS_rf j
  | s + 1 => by
    have q := jS_tickL j d s
    rw [cTickL]
    exact jS_tr q (jS_tickS q.1 d s)
theorem jS_tickA {N : zNt} (j : jN N) : ∀ d : Nat, jS N (cTickA N d)
  | 0 => jS_rf j
  | d + 1 => by
    have q := jS_tickA j d
    rw [cTickA]
    exact jS_tr q (jS_tickL q.1 d 6)
theorem jS_passL {N : zNt} (j : jN N) : ∀ t : Nat, jS N (cPassL N t)
  | 0 => jS_rf j
  | t + 1 => by
    have q := jS_passL j t
    rw [cPassL]
    exact jS_tr q (jS_tickA q.1 _)
theorem jS_pass {N : zNt} (j : jN N) (t : Int) : jS N (cPassN N t) := jS_passL j t.toNat
theorem jS_sil {N : zNt} (j : jN N) (s : Int) : jS N (cSilN N s) := by
  unfold cSilN; split
  · rename_i q
    exact jS_f j (by decide) (ok_sil j.1 ⟨q.1, q.2.1⟩)
  · exact jS_rf j
theorem jS_wk1 {N : zNt} (j : jN N) (d s : Int) : jS N (cWk1 N d s) := by
  unfold cWk1; split
  · rename_i q
    have hC := j.2.2.1 d s
    exact jS_enter j (Or.inr (Or.inr ⟨rfl, Or.inl q, fun z => (hC.2.1 z).1 q⟩))
  · exact jS_rf j
theorem jS_wk2 {N : zNt} (j : jN N) (d s : Int) : jS N (cWk2 N d s) := by
  unfold cWk2; split
  · rename_i q
    have h0 := q.2
    exact jS_settle j (has_dec (by omega)) h0 (Or.inr rfl)
  · exact jS_rf j
theorem jS_wkL {N : zNt} (j : jN N) (s : Int) : ∀ d : Nat, jS N (cWkL N s d)
  | 0 => jS_rf j
  | d + 1 => by
    have q := jS_wkL j s d
    rw [cWkL]
    have q1 := jS_wk1 q.1 d s
    exact jS_tr q (jS_tr q1 (jS_wk2 q1.1 d s))
theorem jS_wk {N : zNt} (j : jN N) (s : Int) : jS N (cWkN N s) := by
  unfold cWkN; split
  · rename_i q
    have j1 : jS N (cWk N s) := jS_f j (by decide) (ok_wk j.1 q.1)
    exact jS_tr j1 (jS_wkL j1.1 s _)
  · exact jS_rf j
theorem jS_fr {N : zNt} (j : jN N) {x : Int} (h : 1 ≤ x ∧ x ≤ 20) : jS N (up2 N 0 3 x) := jS_f j (by decide) (ok_f3 j.1 h)
/-- a new deal -/
theorem addL_r {N : zNt} {mk n : Int} {r : Nat} (h4 : r ≠ 4) (j : Nat) : ∀ k : Nat, cAddL N mk n k r j = N r j
  | 0 => rfl
  | k + 1 => by rw [cAddL, up2_rw _ _ h4]; exact addL_r h4 j k
theorem addL_4 {N : zNt} {mk n : Int} (h0 : 0 ≤ n) (j : Nat) : ∀ k : Nat, ((¬ (n * 6 ≤ j ∧ j < n * 6 + k)) → cAddL N mk n k 4 j = N 4 j) ∧ ((n * 6 ≤ j ∧ j < n * 6 + k) → cAddL N mk n k 4 j = 0 ∨ cAddL N mk n k 4 j = -1)
  | 0 => ⟨fun _ => rfl, fun q => by omega⟩
  | k + 1 => by
    have ih := addL_4 (N := N) (mk := mk) h0 j k
    rw [cAddL, e44]
    by_cases z : j = (n * 6 + k).toNat
    · rw [if_pos z]
      refine ⟨fun q => absurd ⟨by omega, by omega⟩ q, fun _ => ?_⟩
      split
      · exact Or.inl rfl
      · exact Or.inr rfl
    · rw [if_neg z]
      exact ⟨fun q => ih.1 (fun y => q ⟨y.1, by omega⟩), fun q => ih.2 ⟨q.1, by omega⟩⟩
theorem jN_add {N : zNt} (j : jN N) {ld mk it : Int} (hl : 0 ≤ ld ∧ ld ≤ 5) (hi : 0 ≤ it ∧ it ≤ 9) (hc : cCanBegin N ld mk) : jN (cAddN N ld mk it) ∧ kR N (cAddN N ld mk it) := by
  have ok := ok_add j.1 (ld := ld) (it := it) mk hl hi
  have hn := ok_n j.1
  have eq : cAddN N ld mk it = up2 (cAddL (cAddB N ld it) mk (N 0 0) 6) 0 0 (N 0 0 + 1) := if_pos hc
  rw [eq] at ok ⊢
  generalize hM : up2 (cAddL (cAddB N ld it) mk (N 0 0) 6) 0 0 (N 0 0 + 1) = M at ok ⊢
  have e0 : M 0 0 = N 0 0 + 1 := by rw [← hM]; exact up2_at _ _ _ _
  have er : ∀ r, r ≠ 0 → r ≠ 4 → ∀ i, M r i = cAddB N ld it r i := fun r h0 h4 i => by rw [← hM, up2_rw _ _ h0, addL_r h4]
  have e4 : ∀ i, M 4 i = cAddL (cAddB N ld it) mk (N 0 0) 6 4 i := fun i => by rw [← hM, up2_rw _ _ (by decide)]
  have eB : ∀ r, r ≠ 1 → r ≠ 2 → r ≠ 3 → ∀ i, cAddB N ld it r i = N r i := fun r h1 h2 h3 i => by
    unfold cAddB; rw [up2_rw _ _ h3, up2_rw _ _ h2, up2_rw _ _ h1]
  have eB1 : ∀ i, i ≠ (N 0 0).toNat → cAddB N ld it 1 i = N 1 i := fun i h => by
    unfold cAddB; rw [up2_rw _ _ (by decide), up2_rw _ _ (by decide), up2_ne _ _ (fun q => h q.2)]
  have eB2 : ∀ i, i ≠ (N 0 0).toNat → cAddB N ld it 2 i = N 2 i := fun i h => by
    unfold cAddB; rw [up2_rw _ _ (by decide), up2_ne _ _ (fun q => h q.2), up2_rw _ _ (by decide)]
  have eB3 : ∀ i, i ≠ (N 0 0).toNat → cAddB N ld it 3 i = N 3 i := fun i h => by
    unfold cAddB; rw [up2_ne _ _ (fun q => h q.2), up2_rw _ _ (by decide), up2_rw _ _ (by decide)]
  have eB30 : cAddB N ld it 3 (N 0 0).toNat = 0 := by unfold cAddB; exact up2_at _ _ _ _
  have eH : ∀ d, d ≠ N 0 0 → (cHas M d ↔ cHas N d) := fun d hd => by
    show (0 ≤ d ∧ d < M 0 0) ↔ (0 ≤ d ∧ d < N 0 0)
    rw [e0]; omega
  have eS : ∀ d s, d ≠ N 0 0 → cSt M d s = cSt N d s := fun d s hd => by
    unfold cSt
    rw [e0]
    by_cases z : 0 ≤ d ∧ d < N 0 0 ∧ 0 ≤ s ∧ s < 6
    · have z2 : 0 ≤ d ∧ d < N 0 0 + 1 ∧ 0 ≤ s ∧ s < 6 := ⟨z.1, by omega, z.2.2⟩
      rw [if_pos z2, if_pos z, e4, (addL_4 hn.1 _ 6).1 (by omega), eB 4 (by decide) (by decide) (by decide)]
    · have z2 : ¬ (0 ≤ d ∧ d < N 0 0 + 1 ∧ 0 ≤ s ∧ s < 6) := fun y => z ⟨y.1, by omega, y.2.2⟩
      rw [if_neg z2, if_neg z]
  have eSn : ∀ s, cSt M (N 0 0) s = 0 ∨ cSt M (N 0 0) s = -1 := fun s => by
    unfold cSt
    rw [e0]
    by_cases z : 0 ≤ N 0 0 ∧ N 0 0 < N 0 0 + 1 ∧ 0 ≤ s ∧ s < 6
    · rw [if_pos z, e4]
      exact (addL_4 hn.1 _ 6).2 (by omega)
    · rw [if_neg z]; exact Or.inr rfl
  have eD : ∀ d, d ≠ N 0 0 → cDec M d = cDec N d := fun d hd => by
    unfold cDec
    by_cases z : cHas N d
    · have z0 := z.1; have z1 := z.2
      rw [if_pos ((eH d hd).mpr z), if_pos z, er 3 (by decide) (by decide), eB3 _ (by omega)]
    · rw [if_neg (fun y => z ((eH d hd).mp y)), if_neg z]
  have eDn : cDec M (N 0 0) = 0 := by
    unfold cDec
    rw [if_pos (show cHas M (N 0 0) from ⟨hn.1, by rw [e0]; omega⟩), er 3 (by decide) (by decide), eB30]
  have eL : ∀ d, d ≠ N 0 0 → cLead M d = cLead N d := fun d hd => by
    unfold cLead
    by_cases z : cHas N d
    · have z0 := z.1; have z1 := z.2
      rw [if_pos ((eH d hd).mpr z), if_pos z, er 1 (by decide) (by decide), eB1 _ (by omega)]
    · rw [if_neg (fun y => z ((eH d hd).mp y)), if_neg z]
  have e6 : ∀ i, M 6 i = N 6 i := fun i => by rw [er 6 (by decide) (by decide), eB 6 (by decide) (by decide) (by decide)]
  have e7 : ∀ i, M 7 i = N 7 i := fun i => by rw [er 7 (by decide) (by decide), eB 7 (by decide) (by decide) (by decide)]
  have eE := fun t => ent_cg e6 t
  have eY := fun t i => ery_cg e6 e7 t i
  obtain ⟨-, bd, hC, hI, hL⟩ := j
  refine ⟨⟨ok, fun s a b => ?_, fun d s => ?_, fun d e s hne p q => ?_, fun t t0 t6 => ?_⟩, ⟨by omega, fun d s hd => ?_, fun d hd _ => eD d (by have := hd.2; omega), fun s => by rw [eE]; exact Int.le_refl _⟩⟩
  · have q : bud M s = bud N s := by
      unfold bud
      rw [e0, show (N 0 0 + 1).toNat = (N 0 0).toNat + 1 by omega, zSum, zSum_cg (f := wD M s) (g := wD N s) (fun i hi => by unfold wD; rw [eS _ _ (by omega), eL _ (by omega), eD _ (by omega)])]
      have h1 : wD M s ((N 0 0).toNat : Int) = 0 := by
        rw [Int.toNat_of_nonneg hn.1]
        unfold wD
        rw [eDn]
        have h2 : wS (cSt M (N 0 0) s) = 0 := by unfold wS; rcases eSn s with z | z <;> rw [z] <;> rfl
        rw [h2, if_neg (fun y => y.2 rfl)]; rfl
      rw [h1]; omega
    rw [e6, q]; exact bd s a b
  · by_cases z : d = N 0 0
    · rw [z, eDn]
      have := eSn s
      exact ⟨by decide, fun y => by omega, fun y => by omega⟩
    · rw [eS _ _ z, eD _ z]; exact hC d s
  · have z1 : d ≠ N 0 0 := fun y => by rw [y] at p; have := eSn s; omega
    have z2 : e ≠ N 0 0 := fun y => by rw [y] at q; have := eSn s; omega
    rw [eS _ _ z1] at p
    rw [eS _ _ z2] at q
    have i1 := cSt_in (N := N) (d := d) (s := s) (by omega)
    have i2 := cSt_in (N := N) (d := e) (s := s) (by omega)
    rw [er 2 (by decide) (by decide), er 2 (by decide) (by decide), eB2 _ (by omega), eB2 _ (by omega)]
    exact hI d e s hne p q
  · have hl := hL t t0 t6
    refine ⟨fun i k a b c => ?_, fun i a b => ?_, fun d v q => ?_⟩
    · rw [eY, eY]; exact hl.1 i k a b (by rw [← eE]; exact c)
    · rw [eY]
      obtain ⟨d, v, p, q⟩ := hl.2.1 i a (by rw [← eE]; exact b)
      have z : d ≠ N 0 0 := by have := q.1.2; omega
      refine ⟨d, v, p, ?_⟩
      unfold lP at q ⊢
      rw [eS _ _ z, eL _ z, eD _ z, eH _ z]
      exact q
    · have z : d ≠ N 0 0 := fun y => by
        have q2 := q.2
        rw [y, eDn] at q2
        have := eSn t
        omega
      unfold lQ at q
      rw [eS _ _ z, eL _ z, eD _ z, eH _ z] at q
      obtain ⟨i, a, b, c⟩ := hl.2.2 d v q
      exact ⟨i, a, by rw [eE]; exact b, by rw [eY]; exact c⟩
  · rw [eS _ _ (by have := hd.2; omega)]
    exact ⟨fun _ => rfl, Iff.rfl⟩
/-- the empty net -/
theorem jN_0 {N : zNt} (ok : cOk N) (h0 : N 0 0 = 0) (h6 : ∀ s, s < 6 → N 6 s = 0) : jN N := by
  have hh : ∀ d, ¬ cHas N d := fun d q => by have := q.2; have := q.1; omega
  have hS : ∀ d s, cSt N d s = -1 := fun d s => by unfold cSt; rw [if_neg (fun q => by rw [h0] at q; omega)]
  have hD : ∀ d, cDec N d = -1 := fun d => by unfold cDec; rw [if_neg (hh d)]
  have hE : ∀ t, cEnt N t = 0 := fun t => by
    unfold cEnt; split
    · exact h6 _ (by omega)
    · rfl
  refine ⟨ok, fun s a b => ?_, fun d s => ?_, fun d e s _ p _ => ?_, fun t _ _ => ⟨fun i k a b c => ?_, fun i a b => ?_, fun d v q => absurd q.1 (hh d)⟩⟩
  · rw [h6 _ (by omega)]
    unfold bud
    rw [h0]
    exact Int.le_refl _
  · rw [hS, hD]
    exact ⟨by decide, fun q => by omega, fun q => by omega⟩
  · rw [hS] at p; omega
  · rw [hE] at c; omega
  · rw [hE] at b; omega
