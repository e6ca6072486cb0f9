/-! the log's budget; what the reference's methods make of a state (a-functions) -/
theorem zAny_succ {f : Int → Bool} {i : Int} (h : 0 ≤ i) : zAny f (i + 1).toNat = (zAny f i.toNat || f i) := by
  rw [show (i + 1).toNat = i.toNat + 1 by omega, zAny, Int.toNat_of_nonneg h]
theorem zSum_le {f : Int → Int} {c : Int} {n : Nat} (h : ∀ i : Nat, i < n → f i ≤ c) : zSum f n ≤ c * n := by
  induction n with
  | zero => simp [zSum]
  | succ n ih =>
    have h1 := ih (fun i hi => h i (by omega))
    have h2 := h n (by omega)
    rw [zSum]
    have e : c * ((n + 1 : Nat) : Int) = c * n + c := by rw [Int.natCast_add, Int.mul_add]; simp
    omega
theorem zSum_cg {f g : Int → Int} {n : Nat} (h : ∀ i : Nat, i < n → f i = g i) : zSum f n = zSum g n := by
  induction n with
  | zero => rfl
  | succ n ih => rw [zSum, zSum, ih (fun i hi => h i (by omega)), h n (by omega)]
theorem zSum_at {f g : Int → Int} {n d : Nat} (hd : d < n) (h : ∀ i : Nat, i < n → i ≠ d → f i = g i) : zSum f n = zSum g n + (f d - g d) := by
  induction n with
  | zero => omega
  | succ n ih =>
    rw [zSum, zSum]
    by_cases e : d = n
    · subst e
      rw [zSum_cg (f := f) (g := g) (fun i hi => h i (by omega) (by omega))]
      omega
    · rw [ih (by omega) (fun i hi hne => h i (by omega) hne), h n (by omega) (fun q => e q.symm)]
      omega
def wS (v : Int) : Int := if v = -1 ∨ v = 0 then 0 else if v = 1 then 1 else 2
def wD (N : zNt) (s d : Int) : Int := wS (cSt N d s) + (if cLead N d = s ∧ cDec N d ≠ 0 then 1 else 0)
def bud (N : zNt) (s : Int) : Int := zSum (wD N s) (N 0 0).toNat
def Bud (N : zNt) : Prop := ∀ s : Int, 0 ≤ s → s < 6 → N 6 s.toNat ≤ bud N s
theorem wS_le (v : Int) : 0 ≤ wS v ∧ wS v ≤ 2 := by unfold wS; (repeat' split) <;> decide
theorem wD_le (N : zNt) (s d : Int) : 0 ≤ wD N s d ∧ wD N s d ≤ 3 := by
  have h := wS_le (cSt N d s)
  unfold wD; split <;> omega
/-- a term under 3 leaves room for one entry more -/
theorem bud_room {N : zNt} {s d : Int} (hn : 0 ≤ N 0 0 ∧ N 0 0 ≤ 8) (bd : Bud N) (hs : 0 ≤ s ∧ s < 6) (hd : cHas N d) (h : wD N s d < 3) : N 6 s.toNat < 24 := by
  have h1 := bd s hs.1 hs.2
  have h2 : bud N s = zSum (fun i => if i = d then 3 else wD N s i) (N 0 0).toNat + (wD N s d - 3) := by
    unfold bud
    have q := zSum_at (f := wD N s) (g := fun i => if i = d then 3 else wD N s i) (n := (N 0 0).toNat) (d := d.toNat) (by omega) (fun i hi hne => by
      show wD N s i = if (i : Int) = d then 3 else wD N s i
      rw [if_neg (by omega)])
    rw [q, Int.toNat_of_nonneg hd.1]
    show _ = _
    simp
  have h3 : zSum (fun i => if i = d then 3 else wD N s i) (N 0 0).toNat ≤ 3 * ((N 0 0).toNat : Nat) := zSum_le (fun i hi => by
    have := wD_le N s i
    show (if (i : Int) = d then 3 else wD N s i) ≤ 3
    split <;> omega)
  omega
theorem bud_st {N : zNt} {s d : Int} (hn : 0 ≤ N 0 0 ∧ N 0 0 ≤ 8) (bd : Bud N) (h : cSt N d s = 0 ∨ cSt N d s = 1) : N 6 s.toNat < 24 := by
  have hin := cSt_in (N := N) (d := d) (s := s) (by omega)
  refine bud_room hn bd ⟨hin.2.2.1, hin.2.2.2⟩ ⟨hin.1, hin.2.1⟩ ?_
  have h1 : wS (cSt N d s) ≤ 1 := by unfold wS; rcases h with h | h <;> rw [h] <;> decide
  unfold wD
  split <;> omega
theorem bud_dc {N : zNt} {d : Int} (ok : rOk N) (bd : Bud N) (hd : cHas N d) (h : cDec N d = 0) : N 6 (cLead N d).toNat < 24 := by
  have hl : 0 ≤ cLead N d ∧ cLead N d < 6 := by
    have := rk_ld ok (d := d.toNat) (by have := rk_n ok; omega)
    unfold cLead; rw [if_pos hd]; omega
  refine bud_room (rk_n ok) bd hl hd ?_
  have := wS_le (cSt N d (cLead N d))
  unfold wD
  rw [if_neg (fun q => q.2 h)]
  omega
/-- how cWrite changes the counts -/
theorem cWrite_6 {N : zNt} {s e : Int} (hs : 0 ≤ s ∧ s < 6) (hc : N 6 s.toNat < 24) (t : Nat) : cWrite N s e 6 t = if t = s.toNat then N 6 s.toNat + 1 else N 6 t := by
  unfold cWrite
  rw [if_pos ⟨hs.1, hs.2, hc⟩]
  by_cases h : t = s.toNat
  · rw [h, up2_at, if_pos rfl]
  · rw [up2_ne _ _ (fun q => h q.2), up2_rw _ _ (by decide), if_neg h]
theorem cWrite_r {N : zNt} {s e : Int} {r : Nat} (h6 : r ≠ 6) (h7 : r ≠ 7) (j : Nat) : cWrite N s e r j = N r j := by
  unfold cWrite; split
  · rw [up2_rw _ _ h6, up2_rw _ _ h7]
  · rfl
theorem cSt_cg {N M : zNt} (h0 : N 0 0 = M 0 0) (h4 : ∀ j, N 4 j = M 4 j) (d s : Int) : cSt N d s = cSt M d s := by unfold cSt; rw [h0, h4]
theorem cLead_cg {N M : zNt} (h0 : N 0 0 = M 0 0) (h1 : ∀ j, N 1 j = M 1 j) (d : Int) : cLead N d = cLead M d := by unfold cLead cHas; rw [h0, h1]
theorem cDec_cg {N M : zNt} (h0 : N 0 0 = M 0 0) (h3 : ∀ j, N 3 j = M 3 j) (d : Int) : cDec N d = cDec M d := by unfold cDec cHas; rw [h0, h3]
theorem st_aEnter {N : zNt} {d s v : Int} (hm : cSt N d s ≠ -1) (d' s' : Int) : cSt (aEnter N d s v) d' s' = if d' = d ∧ s' = s then v else cSt N d' s' := by
  have hin := cSt_in hm
  have e0 : aEnter N d s v 0 0 = N 0 0 := n_aEnter _ _ _ _ _
  have e4 : ∀ j, aEnter N d s v 4 j = if j = (d * 6 + s).toNat then v else N 4 j := fun j => by
    unfold aEnter
    rw [cWrite_r (by decide) (by decide)]
    unfold aEnter0
    rw [up2_rw _ _ (by decide)]
    by_cases h : j = (d * 6 + s).toNat
    · rw [h, up2_at, if_pos rfl]
    · rw [up2_ne _ _ (fun q => h q.2), if_neg h]
  unfold cSt
  rw [e0]
  by_cases h : 0 ≤ d' ∧ d' < N 0 0 ∧ 0 ≤ s' ∧ s' < 6
  · rw [if_pos h, if_pos h, e4]
    by_cases q : d' = d ∧ s' = s
    · rw [if_pos q, if_pos (by rw [q.1, q.2])]
    · rw [if_neg q, if_neg (by omega)]
  · rw [if_neg h, if_neg h, if_neg (fun q => h (by rw [q.1, q.2]; exact hin))]
theorem ld_aEnter (N : zNt) (d s v d' : Int) : cLead (aEnter N d s v) d' = cLead N d' := cLead_cg (n_aEnter _ _ _ _ _) (fun j => by unfold aEnter; rw [cWrite_r (by decide) (by decide)]; unfold aEnter0; rw [up2_rw _ _ (by decide), up2_rw _ _ (by decide)]) d'
theorem dc_aEnter (N : zNt) (d s v d' : Int) : cDec (aEnter N d s v) d' = cDec N d' := cDec_cg (n_aEnter _ _ _ _ _) (fun j => by unfold aEnter; rw [cWrite_r (by decide) (by decide)]; unfold aEnter0; rw [up2_rw _ _ (by decide), up2_rw _ _ (by decide)]) d'
theorem up_aEnter (N : zNt) (d s v : Int) (s' : Int) : cUp (aEnter N d s v) s' ↔ cUp N s' := by show 0 ≤ s' ∧ s' < 6 ∧ zAnd (zShr (aEnter N d s v 0 1) s') 1 ≠ 0 ↔ _; rw [n_aEnter]
theorem c6_aEnter {N : zNt} {d s v : Int} (hs : 0 ≤ s ∧ s < 6) (hc : N 6 s.toNat < 24) (t : Nat) : aEnter N d s v 6 t = if t = s.toNat then N 6 s.toNat + 1 else N 6 t := by
  have e : ∀ j, aEnter0 N d s v 6 j = N 6 j := fun j => by unfold aEnter0; rw [up2_rw _ _ (by decide), up2_rw _ _ (by decide)]
  unfold aEnter
  rw [cWrite_6 hs (by rw [e]; exact hc), e, e]
theorem bd_aEnter {N : zNt} {d s v : Int} (hn : 0 ≤ N 0 0 ∧ N 0 0 ≤ 8) (bd : Bud N) (h : (cSt N d s = 0 ∧ (v = 1 ∨ v = 2 ∨ v = 3)) ∨ (cSt N d s = 1 ∧ (v = 2 ∨ v = 3))) : Bud (aEnter N d s v) := by
  have hm : cSt N d s ≠ -1 := by omega
  have hin := cSt_in hm
  have hc := bud_st hn bd (s := s) (d := d) (by omega)
  intro t ht0 ht6
  have e0 : aEnter N d s v 0 0 = N 0 0 := n_aEnter _ _ _ _ _
  rw [c6_aEnter ⟨hin.2.2.1, hin.2.2.2⟩ hc]
  have h1 := bd t ht0 ht6
  have ew : ∀ i : Int, wD (aEnter N d s v) t i = wS (if i = d ∧ t = s then v else cSt N i t) + (if cLead N i = t ∧ cDec N i ≠ 0 then 1 else 0) := fun i => by
    unfold wD; rw [st_aEnter hm, ld_aEnter, dc_aEnter]
  by_cases hts : t = s
  · subst hts
    rw [if_pos rfl]
    have q := zSum_at (f := wD (aEnter N d t v) t) (g := wD N t) (n := (N 0 0).toNat) (d := d.toNat) (by omega) (fun i hi hne => by
      rw [ew, if_neg (by omega)]; rfl)
    unfold bud
    rw [e0, q, Int.toNat_of_nonneg hin.1, ew, if_pos ⟨rfl, rfl⟩]
    unfold bud at h1
    have : wS (cSt N d t) + 1 ≤ wS v := by
      unfold wS
      rcases h with ⟨a, b | b | b⟩ | ⟨a, b | b⟩ <;> rw [a, b] <;> decide
    unfold wD at h1 ⊢
    omega
  · rw [if_neg (by omega)]
    have q : bud (aEnter N d s v) t = bud N t := by
      unfold bud
      rw [e0]
      exact zSum_cg (fun i hi => by rw [ew, if_neg (fun q => hts q.2)]; rfl)
    rw [q]; exact h1
theorem cSettle_eq {N : zNt} {d v : Int} (hd : cHas N d) : cSettle N d v = cWrite (up2 N 3 d.toNat v) (cLead N d) (10 * d + v + 3) := by
  unfold cSettle cLead
  rw [if_pos hd, if_pos hd]
theorem st_settle (N : zNt) (d v d' s' : Int) : cSt (cSettle N d v) d' s' = cSt N d' s' := cSt_cg (n_settle _ _ _ _) (fun j => by
  unfold cSettle; split
  · rw [cWrite_r (by decide) (by decide), up2_rw _ _ (by decide)]
  · rfl) _ _
theorem ld_settle (N : zNt) (d v d' : Int) : cLead (cSettle N d v) d' = cLead N d' := cLead_cg (n_settle _ _ _ _) (fun j => by
  unfold cSettle; split
  · rw [cWrite_r (by decide) (by decide), up2_rw _ _ (by decide)]
  · rfl) _
theorem dc_settle {N : zNt} {d v : Int} (hd : cHas N d) (d' : Int) : cDec (cSettle N d v) d' = if d' = d then v else cDec N d' := by
  have e : ∀ j, cSettle N d v 3 j = if j = d.toNat then v else N 3 j := fun j => by
    rw [cSettle_eq hd, cWrite_r (by decide) (by decide)]
    by_cases h : j = d.toNat
    · rw [h, up2_at, if_pos rfl]
    · rw [up2_ne _ _ (fun q => h q.2), if_neg h]
  unfold cDec cHas
  rw [n_settle, e]
  by_cases h : 0 ≤ d' ∧ d' < N 0 0
  · rw [if_pos h, if_pos h]
    by_cases q : d' = d
    · rw [if_pos q, if_pos (by rw [q])]
    · rw [if_neg q, if_neg (by omega)]
  · rw [if_neg h, if_neg h, if_neg (fun q => h (by rw [q]; exact hd))]
theorem c6_settle {N : zNt} {d v : Int} (ok : rOk N) (hd : cHas N d) (hc : N 6 (cLead N d).toNat < 24) (t : Nat) : cSettle N d v 6 t = if t = (cLead N d).toNat then N 6 (cLead N d).toNat + 1 else N 6 t := by
  have hl : 0 ≤ cLead N d ∧ cLead N d < 6 := by
    have := rk_ld ok (d := d.toNat) (by have := rk_n ok; omega)
    unfold cLead; rw [if_pos hd]; omega
  rw [cSettle_eq hd, cWrite_6 hl (by rw [up2_rw _ _ (by decide)]; exact hc), up2_rw _ _ (by decide), up2_rw _ _ (by decide)]
theorem bd_settle {N : zNt} {d v : Int} (ok : rOk N) (bd : Bud N) (hd : cHas N d) (h : cDec N d = 0) (hv : v = 2 ∨ v = 3) : Bud (cSettle N d v) := by
  have hn := rk_n ok
  have hc := bud_dc ok bd hd h
  have hl : 0 ≤ cLead N d ∧ cLead N d < 6 := by
    have := rk_ld ok (d := d.toNat) (by omega)
    unfold cLead; rw [if_pos hd]; omega
  intro t ht0 ht6
  rw [c6_settle ok hd hc]
  have h1 := bd t ht0 ht6
  have ew : ∀ i : Int, wD (cSettle N d v) t i = wS (cSt N i t) + (if cLead N i = t ∧ (if i = d then v else cDec N i) ≠ 0 then 1 else 0) := fun i => by
    unfold wD; rw [st_settle, ld_settle, dc_settle hd]
  have e0 : cSettle N d v 0 0 = N 0 0 := n_settle _ _ _ _
  have q := zSum_at (f := wD (cSettle N d v) t) (g := wD N t) (n := (N 0 0).toNat) (d := d.toNat) (by omega) (fun i hi hne => by
    rw [ew, if_neg (show ¬ (i : Int) = d by omega)]; rfl)
  unfold bud
  rw [e0, q, Int.toNat_of_nonneg hd.1, ew, if_pos rfl]
  unfold bud at h1
  unfold wD at h1 ⊢
  rw [h]
  by_cases hts : t = cLead N d
  · subst hts
    rw [if_pos rfl, if_pos ⟨rfl, by omega⟩, if_neg (fun q => q.2 rfl)]
    omega
  · rw [if_neg (by omega), if_neg (fun q => hts q.1.symm), if_neg (fun q => q.2 rfl)]
    omega
/-- the reference's own ways -/
abbrev mHeld (N : zNt) (d s : Int) : Prop := zAnd (zShr (cHeld N s (N 0 0).toNat) (N 2 d.toNat)) 1 = 1
def mVoteV (N : zNt) (d s y : Int) : Int := if y ≠ 0 ∧ ¬ mHeld N d s then 1 else 3
abbrev mHelps (N : zNt) (d o : Int) : Prop := cLead N d = o ∨ (cSt N d o ≠ -1 ∧ cSt N d o ≠ 1)
def aTell (N : zNt) (d s : Int) : zNt := if cSt N d s = 1 ∨ cSt N d s = 0 ∧ cDec N d = 3 then aEnter N d s (cDec N d) else N
def aAsk2 (N : zNt) (d s o : Int) : zNt := if cSt N d o = 0 then aEnter (aEnter N d o 3) d s (cSt (aEnter N d o 3) d o) else aEnter N d s (cSt N d o)
def aAsk3 (N : zNt) (d s o : Int) : zNt := if cLead N d = o then aTell (cAsk2 N d) d s else if mHelps N d o then aAsk2 N d s o else N
def aAsk (N : zNt) (d s o : Int) : zNt := aAsk3 (cAsk1 N) d s o
theorem zOr_0 {a : Int} (h : zB a) : zOr a 0 = a := by
  unfold zOr
  rw [show iI a ||| iI 0 = iI a from by rw [iI_0]; exact Int32.or_zero, iI_toInt h]
theorem zB_held (N : zNt) (s : Int) : ∀ n, zB (cHeld N s n)
  | 0 => by rw [cHeld]; exact zB_0
  | n + 1 => by rw [cHeld]; split; exact zB_toInt _; exact zB_held N s n
