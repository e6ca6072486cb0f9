/-! THE INVARIANT of the class's net: what its reachable states have in common -/
theorem zSum_cg {f g : Int → Int} {n : Nat} (h : ∀ i : Nat, i < n → f i = g i) : zSum f n = zSum g n := by
  induction n with
  | zero => rfl
  | succ n ih => rw [zSum, zSum, ih (fun i hi => h i (by omega)), h n (by omega)]
theorem zSum_at {f g : Int → Int} {n d : Nat} (hd : d < n) (h : ∀ i : Nat, i < n → i ≠ d → f i = g i) : zSum f n = zSum g n + (f d - g d) := by
  induction n with
  | zero => omega
  | succ n ih =>
    rw [zSum, zSum]
    by_cases e : d = n
    · subst e
      rw [zSum_cg (f := f) (g := g) (fun i hi => h i (by omega) (by omega))]
      omega
    · rw [ih (by omega) (fun i hi hne => h i (by omega) hne), h n (by omega) (fun q => e q.symm)]
      omega
def wS (v : Int) : Int := if v = -1 ∨ v = 0 then 0 else if v = 1 then 1 else 2
def wD (N : zNt) (s d : Int) : Int := wS (cSt N d s) + (if cLead N d = s ∧ cDec N d ≠ 0 then 1 else 0)
def bud (N : zNt) (s : Int) : Int := zSum (wD N s) (N 0 0).toNat
def Bud (N : zNt) : Prop := ∀ s : Int, 0 ≤ s → s < 6 → N 6 s.toNat ≤ bud N s
theorem wS_le (v : Int) : 0 ≤ wS v ∧ wS v ≤ 2 := by unfold wS; (repeat' split) <;> decide
theorem wD_le (N : zNt) (s d : Int) : 0 ≤ wD N s d ∧ wD N s d ≤ 3 := by
  have h := wS_le (cSt N d s)
  unfold wD; split <;> omega
/-- a term under 3 leaves room for one entry more -/
theorem bud_room {N : zNt} {s d : Int} (hn : 0 ≤ N 0 0 ∧ N 0 0 ≤ 8) (bd : Bud N) (hs : 0 ≤ s ∧ s < 6) (hd : cHas N d) (h : wD N s d < 3) : N 6 s.toNat < 24 := by
  have h1 := bd s hs.1 hs.2
  have h2 : bud N s = zSum (fun i => if i = d then 3 else wD N s i) (N 0 0).toNat + (wD N s d - 3) := by
    unfold bud
    have q := zSum_at (f := wD N s) (g := fun i => if i = d then 3 else wD N s i) (n := (N 0 0).toNat) (d := d.toNat) (by omega) (fun i hi hne => by
      show wD N s i = if (i : Int) = d then 3 else wD N s i
      rw [if_neg (by omega)])
    rw [q, Int.toNat_of_nonneg hd.1]
    show _ = _
    simp
  have h3 : zSum (fun i => if i = d then 3 else wD N s i) (N 0 0).toNat ≤ 3 * ((N 0 0).toNat : Nat) := zSum_le (fun i hi => by
    have := wD_le N s i
    show (if (i : Int) = d then 3 else wD N s i) ≤ 3
    split <;> omega)
  omega
theorem bud_st {N : zNt} {s d : Int} (hn : 0 ≤ N 0 0 ∧ N 0 0 ≤ 8) (bd : Bud N) (h : cSt N d s = 0 ∨ cSt N d s = 1) : N 6 s.toNat < 24 := by
  have hin := cSt_in (N := N) (d := d) (s := s) (by omega)
  refine bud_room hn bd ⟨hin.2.2.1, hin.2.2.2⟩ ⟨hin.1, hin.2.1⟩ ?_
  have h1 : wS (cSt N d s) ≤ 1 := by unfold wS; rcases h with h | h <;> rw [h] <;> decide
  unfold wD
  split <;> omega
theorem cWrite_6 {N : zNt} {s e : Int} (hs : 0 ≤ s ∧ s < 6) (hc : N 6 s.toNat < 24) (t : Nat) : cWrite N s e 6 t = if t = s.toNat then N 6 s.toNat + 1 else N 6 t := by
  unfold cWrite
  rw [if_pos ⟨hs.1, hs.2, hc⟩]
  by_cases h : t = s.toNat
  · rw [h, up2_at, if_pos rfl]
  · rw [up2_ne _ _ (fun q => h q.2), up2_rw _ _ (by decide), if_neg h]
theorem cWrite_r {N : zNt} {s e : Int} {r : Nat} (h6 : r ≠ 6) (h7 : r ≠ 7) (j : Nat) : cWrite N s e r j = N r j := by
  unfold cWrite; split
  · rw [up2_rw _ _ h6, up2_rw _ _ h7]
  · rfl
theorem cSt_cg {N M : zNt} (h0 : N 0 0 = M 0 0) (h4 : ∀ j, N 4 j = M 4 j) (d s : Int) : cSt N d s = cSt M d s := by unfold cSt; rw [h0, h4]
theorem cLead_cg {N M : zNt} (h0 : N 0 0 = M 0 0) (h1 : ∀ j, N 1 j = M 1 j) (d : Int) : cLead N d = cLead M d := by unfold cLead cHas; rw [h0, h1]
theorem cDec_cg {N M : zNt} (h0 : N 0 0 = M 0 0) (h3 : ∀ j, N 3 j = M 3 j) (d : Int) : cDec N d = cDec M d := by unfold cDec cHas; rw [h0, h3]
theorem cSettle_eq {N : zNt} {d v : Int} (hd : cHas N d) : cSettle N d v = cWrite (up2 N 3 d.toNat v) (cLead N d) (10 * d + v + 3) := by
  unfold cSettle cLead
  rw [if_pos hd, if_pos hd]
theorem st_settle (N : zNt) (d v d' s' : Int) : cSt (cSettle N d v) d' s' = cSt N d' s' := cSt_cg (n_settle _ _ _ _) (fun j => by
  unfold cSettle; split
  · rw [cWrite_r (by decide) (by decide), up2_rw _ _ (by decide)]
  · rfl) _ _
theorem ld_settle (N : zNt) (d v d' : Int) : cLead (cSettle N d v) d' = cLead N d' := cLead_cg (n_settle _ _ _ _) (fun j => by
  unfold cSettle; split
  · rw [cWrite_r (by decide) (by decide), up2_rw _ _ (by decide)]
  · rfl) _
theorem dc_settle {N : zNt} {d v : Int} (hd : cHas N d) (d' : Int) : cDec (cSettle N d v) d' = if d' = d then v else cDec N d' := by
  have e : ∀ j, cSettle N d v 3 j = if j = d.toNat then v else N 3 j := fun j => by
    rw [cSettle_eq hd, cWrite_r (by decide) (by decide)]
    by_cases h : j = d.toNat
    · rw [h, up2_at, if_pos rfl]
    · rw [up2_ne _ _ (fun q => h q.2), if_neg h]
  unfold cDec cHas
  rw [n_settle, e]
  by_cases h : 0 ≤ d' ∧ d' < N 0 0
  · rw [if_pos h, if_pos h]
    by_cases q : d' = d
    · rw [if_pos q, if_pos (by rw [q])]
    · rw [if_neg q, if_neg (by omega)]
  · rw [if_neg h, if_neg h, if_neg (fun q => h (by rw [q]; exact hd))]
theorem ld_in {N : zNt} (ok : cOk N) {d : Int} (hd : cHas N d) : 0 ≤ cLead N d ∧ cLead N d < 6 := by
  have hn := ok_n ok
  have h := ok_ld ok (d := d.toNat) (by omega)
  unfold cLead; rw [if_pos hd]; omega
theorem bud_dc {N : zNt} {d : Int} (ok : cOk N) (bd : Bud N) (hd : cHas N d) (h : cDec N d = 0) : N 6 (cLead N d).toNat < 24 := by
  refine bud_room (ok_n ok) bd (ld_in ok hd) hd ?_
  have := wS_le (cSt N d (cLead N d))
  unfold wD
  rw [if_neg (fun q => q.2 h)]
  omega
theorem cEnter_eq {N : zNt} {d s v : Int} (hm : cSt N d s ≠ -1) : cEnter N d s v = cWrite (cEnter0 N d s v) s (10 * d + v) := if_neg hm
theorem cEnter0_r {N : zNt} {d s v : Int} {r : Nat} (h4 : r ≠ 4) (h5 : r ≠ 5) (j : Nat) : cEnter0 N d s v r j = N r j := by
  unfold cEnter0; split
  · rw [up2_rw _ _ h5, up2_rw _ _ h4]
  · rw [up2_rw _ _ h4]
theorem cEnter0_4 (N : zNt) (d s v : Int) (j : Nat) : cEnter0 N d s v 4 j = if j = (d * 6 + s).toNat then v else N 4 j := by
  unfold cEnter0; split
  · exact e45 _ _ _ _ _
  · exact e44 _ _ _ _
theorem st_enter {N : zNt} {d s v : Int} (hm : cSt N d s ≠ -1) (d' s' : Int) : cSt (cEnter N d s v) d' s' = if d' = d ∧ s' = s then v else cSt N d' s' := by
  have hin := cSt_in hm
  have e0 : cEnter N d s v 0 0 = N 0 0 := n_enter _ _ _ _ _
  have e4 : ∀ j, cEnter N d s v 4 j = if j = (d * 6 + s).toNat then v else N 4 j := fun j => by
    rw [cEnter_eq hm, cWrite_r (by decide) (by decide), cEnter0_4]
  unfold cSt
  rw [e0]
  by_cases h : 0 ≤ d' ∧ d' < N 0 0 ∧ 0 ≤ s' ∧ s' < 6
  · rw [if_pos h, if_pos h, e4]
    by_cases q : d' = d ∧ s' = s
    · rw [if_pos q, if_pos (by rw [q.1, q.2])]
    · rw [if_neg q, if_neg (by omega)]
  · rw [if_neg h, if_neg h, if_neg (fun q => h (by rw [q.1, q.2]; exact hin))]
theorem r_enter (N : zNt) (d s v : Int) {r : Nat} (h4 : r ≠ 4) (h5 : r ≠ 5) (h6 : r ≠ 6) (h7 : r ≠ 7) (j : Nat) : cEnter N d s v r j = N r j := by
  unfold cEnter; split
  · rfl
  · rw [cWrite_r h6 h7, cEnter0_r h4 h5]
theorem r_settle (N : zNt) (d v : Int) {r : Nat} (h3 : r ≠ 3) (h6 : r ≠ 6) (h7 : r ≠ 7) (j : Nat) : cSettle N d v r j = N r j := by
  unfold cSettle; split
  · rw [cWrite_r h6 h7, up2_rw _ _ h3]
  · rfl
theorem ld_enter (N : zNt) (d s v d' : Int) : cLead (cEnter N d s v) d' = cLead N d' := cLead_cg (n_enter _ _ _ _ _) (fun j => r_enter N d s v (by decide) (by decide) (by decide) (by decide) j) d'
theorem dc_enter (N : zNt) (d s v d' : Int) : cDec (cEnter N d s v) d' = cDec N d' := cDec_cg (n_enter _ _ _ _ _) (fun j => r_enter N d s v (by decide) (by decide) (by decide) (by decide) j) d'
theorem up_cg {N M : zNt} (h : N 0 1 = M 0 1) (s : Int) : cUp N s ↔ cUp M s := by
  show (0 ≤ s ∧ s < 6 ∧ zAnd (zShr (N 0 1) s) 1 ≠ 0) ↔ _
  rw [h]
theorem up_enter (N : zNt) (d s v s' : Int) : cUp (cEnter N d s v) s' ↔ cUp N s' := up_cg (n_enter _ _ _ _ _) s'
theorem up_settle (N : zNt) (d v s' : Int) : cUp (cSettle N d v) s' ↔ cUp N s' := up_cg (n_settle _ _ _ _) s'
theorem c6_enter {N : zNt} {d s v : Int} (hm : cSt N d s ≠ -1) (hc : N 6 s.toNat < 24) (t : Nat) : cEnter N d s v 6 t = if t = s.toNat then N 6 s.toNat + 1 else N 6 t := by
  have hin := cSt_in hm
  rw [cEnter_eq hm, cWrite_6 ⟨hin.2.2.1, hin.2.2.2⟩ (by rw [cEnter0_r (by decide) (by decide)]; exact hc), cEnter0_r (by decide) (by decide), cEnter0_r (by decide) (by decide)]
theorem c6_settle {N : zNt} {d v : Int} (ok : cOk N) (hd : cHas N d) (hc : N 6 (cLead N d).toNat < 24) (t : Nat) : cSettle N d v 6 t = if t = (cLead N d).toNat then N 6 (cLead N d).toNat + 1 else N 6 t := by
  rw [cSettle_eq hd, cWrite_6 (ld_in ok hd) (by rw [up2_rw _ _ (by decide)]; exact hc), up2_rw _ _ (by decide), up2_rw _ _ (by decide)]
theorem bd_enter {N : zNt} {d s v : Int} (hn : 0 ≤ N 0 0 ∧ N 0 0 ≤ 8) (bd : Bud N) (h : (cSt N d s = 0 ∧ (v = 1 ∨ v = 2 ∨ v = 3)) ∨ (cSt N d s = 1 ∧ (v = 2 ∨ v = 3))) : Bud (cEnter N d s v) := by
  have hm : cSt N d s ≠ -1 := by omega
  have hin := cSt_in hm
  have hc := bud_st hn bd (s := s) (d := d) (by omega)
  intro t ht0 ht6
  have e0 : cEnter N d s v 0 0 = N 0 0 := n_enter _ _ _ _ _
  rw [c6_enter hm hc]
  have h1 := bd t ht0 ht6
  have ew : ∀ i : Int, wD (cEnter N d s v) t i = wS (if i = d ∧ t = s then v else cSt N i t) + (if cLead N i = t ∧ cDec N i ≠ 0 then 1 else 0) := fun i => by
    unfold wD; rw [st_enter hm, ld_enter, dc_enter]
  by_cases hts : t = s
  · subst hts
    rw [if_pos rfl]
    have q := zSum_at (f := wD (cEnter N d t v) t) (g := wD N t) (n := (N 0 0).toNat) (d := d.toNat) (by omega) (fun i hi hne => by
      rw [ew, if_neg (by omega)]; rfl)
    unfold bud
    rw [e0, q, Int.toNat_of_nonneg hin.1, ew, if_pos ⟨rfl, rfl⟩]
    unfold bud at h1
    have : wS (cSt N d t) + 1 ≤ wS v := by
      unfold wS
      rcases h with ⟨a, b | b | b⟩ | ⟨a, b | b⟩ <;> rw [a, b] <;> decide
    unfold wD at h1 ⊢
    omega
  · rw [if_neg (by omega)]
    have q : bud (cEnter N d s v) t = bud N t := by
      unfold bud
      rw [e0]
      exact zSum_cg (fun i hi => by rw [ew, if_neg (fun q => hts q.2)]; rfl)
    rw [q]; exact h1
theorem bd_settle {N : zNt} {d v : Int} (ok : cOk N) (bd : Bud N) (hd : cHas N d) (h : cDec N d = 0) (hv : v = 2 ∨ v = 3) : Bud (cSettle N d v) := by
  have hn := ok_n ok
  have hc := bud_dc ok bd hd h
  have hl : 0 ≤ cLead N d ∧ cLead N d < 6 := by
    have := ok_ld ok (d := d.toNat) (by omega)
    unfold cLead; rw [if_pos hd]; omega
  intro t ht0 ht6
  rw [c6_settle ok hd hc]
  have h1 := bd t ht0 ht6
  have ew : ∀ i : Int, wD (cSettle N d v) t i = wS (cSt N i t) + (if cLead N i = t ∧ (if i = d then v else cDec N i) ≠ 0 then 1 else 0) := fun i => by
    unfold wD; rw [st_settle, ld_settle, dc_settle hd]
  have e0 : cSettle N d v 0 0 = N 0 0 := n_settle _ _ _ _
  have q := zSum_at (f := wD (cSettle N d v) t) (g := wD N t) (n := (N 0 0).toNat) (d := d.toNat) (by omega) (fun i hi hne => by
    rw [ew, if_neg (show ¬ (i : Int) = d by omega)]; rfl)
  unfold bud
  rw [e0, q, Int.toNat_of_nonneg hd.1, ew, if_pos rfl]
  unfold bud at h1
  unfold wD at h1 ⊢
  rw [h]
  by_cases hts : t = cLead N d
  · subst hts
    rw [if_pos rfl, if_pos ⟨rfl, by omega⟩, if_neg (fun q => q.2 rfl)]
    omega
  · rw [if_neg (by omega), if_neg (fun q => hts q.1.symm), if_neg (fun q => q.2 rfl)]
    omega
/-- the reference's own ways -/
abbrev mHeld (N : zNt) (d s : Int) : Prop := zAnd (zShr (cHeld N s (N 0 0).toNat) (N 2 d.toNat)) 1 = 1
/-- the logs -/
theorem ent_write {N : zNt} {s e : Int} (hs : 0 ≤ s ∧ s < 6) (hc : N 6 s.toNat < 24) (t : Int) : cEnt (cWrite N s e) t = if t = s then cEnt N s + 1 else cEnt N t := by
  unfold cEnt
  by_cases ht : 0 ≤ t ∧ t < 6
  · rw [if_pos ht, if_pos ht, if_pos hs, cWrite_6 hs hc]
    by_cases q : t = s
    · rw [if_pos q, if_pos (by rw [q])]
    · rw [if_neg q, if_neg (by omega)]
  · rw [if_neg ht, if_neg ht, if_neg (fun q => ht (by rw [q]; exact hs))]
theorem ent_at {N : zNt} {s : Int} (hs : 0 ≤ s ∧ s < 6) : cEnt N s = N 6 s.toNat := if_pos hs
theorem ent_pos {N : zNt} {t i : Int} (h0 : 0 ≤ i) (h : i < cEnt N t) : 0 ≤ t ∧ t < 6 := by
  apply Classical.byContradiction
  intro y
  unfold cEnt at h
  rw [if_neg y] at h
  omega
theorem ery_write {N : zNt} {s e : Int} (h6 : ∀ t, t < 6 → 0 ≤ N 6 t ∧ N 6 t ≤ 24) (hs : 0 ≤ s ∧ s < 6) (hc : N 6 s.toNat < 24) (t i : Int) (hi : 0 ≤ i) : cEntry (cWrite N s e) t i = if t = s ∧ i = cEnt N s then e else cEntry N t i := by
  have hE : cEnt N s = N 6 s.toNat := ent_at hs
  have e7 : ∀ j, cWrite N s e 7 j = if j = (s * 24 + N 6 s.toNat).toNat then e else N 7 j := fun j => by
    unfold cWrite
    rw [if_pos ⟨hs.1, hs.2, hc⟩, up2_rw _ _ (by decide)]
    by_cases q : j = (s * 24 + N 6 s.toNat).toNat
    · rw [q, up2_at, if_pos rfl]
    · rw [up2_ne _ _ (fun w => q w.2), if_neg q]
  have hsn := h6 s.toNat (by omega)
  have e1 : cEntry (cWrite N s e) t i = if 0 ≤ i ∧ i < (if t = s then cEnt N s + 1 else cEnt N t) then (if (t * 24 + i).toNat = (s * 24 + N 6 s.toNat).toNat then e else N 7 (t * 24 + i).toNat) else -1 := by
    unfold cEntry
    rw [ent_write hs hc, e7]
  have e2 : cEntry N t i = if 0 ≤ i ∧ i < cEnt N t then N 7 (t * 24 + i).toNat else -1 := rfl
  rw [e1, e2]
  by_cases q : t = s
  · have e3 : (if t = s then cEnt N s + 1 else cEnt N t) = cEnt N s + 1 := if_pos q
    have e4 : cEnt N t = cEnt N s := by rw [q]
    rw [e3, e4]
    by_cases x : i = cEnt N s
    · have c1 : 0 ≤ i ∧ i < cEnt N s + 1 := ⟨hi, by omega⟩
      have c2 : (t * 24 + i).toNat = (s * 24 + N 6 s.toNat).toNat := by rw [q, x, hE]
      have c3 : t = s ∧ i = cEnt N s := ⟨q, x⟩
      rw [if_pos c1, if_pos c2, if_pos c3]
    · have c3 : ¬ (t = s ∧ i = cEnt N s) := fun y => x y.2
      rw [if_neg c3]
      by_cases z : i < cEnt N s
      · have c1 : 0 ≤ i ∧ i < cEnt N s + 1 := ⟨hi, by omega⟩
        have c2 : ¬ (t * 24 + i).toNat = (s * 24 + N 6 s.toNat).toNat := by omega
        have c4 : 0 ≤ i ∧ i < cEnt N s := ⟨hi, z⟩
        rw [if_pos c1, if_neg c2, if_pos c4]
      · have c1 : ¬ (0 ≤ i ∧ i < cEnt N s + 1) := fun y => by omega
        have c4 : ¬ (0 ≤ i ∧ i < cEnt N s) := fun y => z y.2
        rw [if_neg c1, if_neg c4]
  · have e3 : (if t = s then cEnt N s + 1 else cEnt N t) = cEnt N t := if_neg q
    have c3 : ¬ (t = s ∧ i = cEnt N s) := fun y => q y.1
    rw [e3, if_neg c3]
    by_cases z : 0 ≤ i ∧ i < cEnt N t
    · have ht := ent_pos z.1 z.2
      have z2 : i < N 6 t.toNat := by rw [← ent_at (N := N) ht]; exact z.2
      have htn := h6 t.toNat (by omega)
      have c2 : ¬ (t * 24 + i).toNat = (s * 24 + N 6 s.toNat).toNat := by omega
      rw [if_pos z, if_pos z, if_neg c2]
    · rw [if_neg z, if_neg z]
theorem ent_cg {N M : zNt} (h : ∀ j, N 6 j = M 6 j) (t : Int) : cEnt N t = cEnt M t := by unfold cEnt; rw [h]
theorem ery_cg {N M : zNt} (h : ∀ j, N 6 j = M 6 j) (h7 : ∀ j, N 7 j = M 7 j) (t i : Int) : cEntry N t i = cEntry M t i := by unfold cEntry; rw [ent_cg h, h7]
theorem ok_6 {N : zNt} (ok : cOk N) : ∀ t, t < 6 → 0 ≤ N 6 t ∧ N 6 t ≤ 24 := fun t ht => ok_ll ok ht
theorem ent_enter {N : zNt} {d s v : Int} (hm : cSt N d s ≠ -1) (hc : N 6 s.toNat < 24) (t : Int) : cEnt (cEnter N d s v) t = if t = s then cEnt N s + 1 else cEnt N t := by
  have hin := cSt_in hm
  have e6 : ∀ j, cEnter0 N d s v 6 j = N 6 j := fun j => cEnter0_r (by decide) (by decide) j
  rw [cEnter_eq hm, ent_write ⟨hin.2.2.1, hin.2.2.2⟩ (by rw [e6]; exact hc), ent_cg e6, ent_cg e6]
theorem ery_enter {N : zNt} {d s v : Int} (ok : cOk N) (hm : cSt N d s ≠ -1) (hc : N 6 s.toNat < 24) (t i : Int) (hi : 0 ≤ i) : cEntry (cEnter N d s v) t i = if t = s ∧ i = cEnt N s then 10 * d + v else cEntry N t i := by
  have hin := cSt_in hm
  have e6 : ∀ j, cEnter0 N d s v 6 j = N 6 j := fun j => cEnter0_r (by decide) (by decide) j
  have e7 : ∀ j, cEnter0 N d s v 7 j = N 7 j := fun j => cEnter0_r (by decide) (by decide) j
  rw [cEnter_eq hm, ery_write (fun t ht => by rw [e6]; exact ok_6 ok t ht) ⟨hin.2.2.1, hin.2.2.2⟩ (by rw [e6]; exact hc) t i hi, ent_cg e6, ery_cg e6 e7]
theorem ent_settle {N : zNt} {d v : Int} (ok : cOk N) (hd : cHas N d) (hc : N 6 (cLead N d).toNat < 24) (t : Int) : cEnt (cSettle N d v) t = if t = cLead N d then cEnt N (cLead N d) + 1 else cEnt N t := by
  have e6 : ∀ j, up2 N 3 d.toNat v 6 j = N 6 j := fun j => up2_rw _ _ (by decide) j
  rw [cSettle_eq hd, ent_write (ld_in ok hd) (by rw [e6]; exact hc), ent_cg e6, ent_cg e6]
theorem ery_settle {N : zNt} {d v : Int} (ok : cOk N) (hd : cHas N d) (hc : N 6 (cLead N d).toNat < 24) (t i : Int) (hi : 0 ≤ i) : cEntry (cSettle N d v) t i = if t = cLead N d ∧ i = cEnt N (cLead N d) then 10 * d + v + 3 else cEntry N t i := by
  have e6 : ∀ j, up2 N 3 d.toNat v 6 j = N 6 j := fun j => up2_rw _ _ (by decide) j
  have e7 : ∀ j, up2 N 3 d.toNat v 7 j = N 7 j := fun j => up2_rw _ _ (by decide) j
  rw [cSettle_eq hd, ery_write (fun t ht => by rw [e6]; exact ok_6 ok t ht) (ld_in ok hd) (by rw [e6]; exact hc) t i hi, ent_cg e6, ery_cg e6 e7]
/-- what an entry tells, and what must be told -/
def lP (N : zNt) (s d v : Int) : Prop := cHas N d ∧ (v = 1 ∧ 1 ≤ cSt N d s ∨ v = 2 ∧ cSt N d s = 2 ∨ v = 3 ∧ cSt N d s = 3 ∨ v = 5 ∧ cLead N d = s ∧ cDec N d = 2 ∨ v = 6 ∧ cLead N d = s ∧ cDec N d = 3)
def lQ (N : zNt) (s d v : Int) : Prop := cHas N d ∧ (v = 1 ∧ cSt N d s = 1 ∨ v = 2 ∧ cSt N d s = 2 ∨ v = 3 ∧ cSt N d s = 3 ∨ v = 5 ∧ cLead N d = s ∧ cDec N d = 2 ∨ v = 6 ∧ cLead N d = s ∧ cDec N d = 3)
theorem lP_v {N : zNt} {s d v : Int} (h : lP N s d v) : 1 ≤ v ∧ v ≤ 6 ∧ v ≠ 4 := by
  rcases h.2 with h | h | h | h | h <;> omega
theorem lQ_P {N : zNt} {s d v : Int} (h : lQ N s d v) : lP N s d v := ⟨h.1, by
  rcases h.2 with h | h | h | h | h
  · exact Or.inl ⟨h.1, by omega⟩
  · exact Or.inr (Or.inl h)
  · exact Or.inr (Or.inr (Or.inl h))
  · exact Or.inr (Or.inr (Or.inr (Or.inl h)))
  · exact Or.inr (Or.inr (Or.inr (Or.inr h)))⟩
def lOk (N : zNt) (s : Int) : Prop := (∀ i j : Int, 0 ≤ i → i < j → j < cEnt N s → cEntry N s i ≠ cEntry N s j) ∧ (∀ i : Int, 0 ≤ i → i < cEnt N s → ∃ d v, cEntry N s i = 10 * d + v ∧ lP N s d v) ∧ ∀ d v, lQ N s d v → ∃ i : Int, 0 ≤ i ∧ i < cEnt N s ∧ cEntry N s i = 10 * d + v
theorem lOk_new {N : zNt} {s d v : Int} (h : lOk N s) (hv : 1 ≤ v ∧ v ≤ 6) (hn : ¬ lP N s d v) : ∀ i, 0 ≤ i → i < cEnt N s → cEntry N s i ≠ 10 * d + v := fun i h0 h1 e => by
  obtain ⟨d', v', e', p⟩ := h.2.1 i h0 h1
  have := lP_v p
  have e1 : d' = d := by omega
  have e2 : v' = v := by omega
  rw [e1, e2] at p
  exact hn p
/-- a log that stays, or gets one entry -/
theorem lOk_app {N N' : zNt} {s t d v : Int} (hE : cEnt N' t = if t = s then cEnt N s + 1 else cEnt N t) (hY : ∀ i, 0 ≤ i → cEntry N' t i = if t = s ∧ i = cEnt N s then 10 * d + v else cEntry N t i) (h0 : 0 ≤ cEnt N t) (hP : ∀ e w, lP N t e w → lP N' t e w) (hN : t = s → lP N' t d v) (hnew : t = s → ¬ lP N t d v) (hQ : ∀ e w, lQ N' t e w → lQ N t e w ∨ (t = s ∧ e = d ∧ w = v)) (h : lOk N t) : lOk N' t := by
  by_cases q : t = s
  · have e1 : cEnt N' t = cEnt N t + 1 := by rw [hE, if_pos q, q]
    have eo : ∀ i, 0 ≤ i → i ≠ cEnt N t → cEntry N' t i = cEntry N t i := fun i hi hne => by
      rw [hY i hi, if_neg (fun y => hne (by rw [y.2, q]))]
    have en : cEntry N' t (cEnt N t) = 10 * d + v := by
      rw [hY _ h0, if_pos ⟨q, by rw [q]⟩]
    have hd := lP_v (hN q)
    have hnw := lOk_new h ⟨hd.1, hd.2.1⟩ (hnew q)
    refine ⟨fun i j hi hij hj => ?_, fun i hi hj => ?_, fun e w hq => ?_⟩
    · rw [e1] at hj
      rw [eo i hi (by omega)]
      by_cases z : j = cEnt N t
      · rw [z, en]; exact hnw i hi (by omega)
      · rw [eo j (by omega) z]; exact h.1 i j hi hij (by omega)
    · rw [e1] at hj
      by_cases z : i = cEnt N t
      · rw [z, en]; exact ⟨d, v, rfl, hN q⟩
      · rw [eo i hi z]
        obtain ⟨e, w, a, b⟩ := h.2.1 i hi (by omega)
        exact ⟨e, w, a, hP e w b⟩
    · rcases hQ e w hq with z | ⟨-, z1, z2⟩
      · obtain ⟨i, a, b, c⟩ := h.2.2 e w z
        exact ⟨i, a, by omega, by rw [eo i a (by omega)]; exact c⟩
      · exact ⟨cEnt N t, h0, by omega, by rw [en, z1, z2]⟩
  · have e1 : cEnt N' t = cEnt N t := by rw [hE, if_neg q]
    have eo : ∀ i, 0 ≤ i → cEntry N' t i = cEntry N t i := fun i hi => by rw [hY i hi, if_neg (fun y => q y.1)]
    refine ⟨fun i j hi hij hj => ?_, fun i hi hj => ?_, fun e w hq => ?_⟩
    · rw [eo i hi, eo j (by omega)]; exact h.1 i j hi hij (by omega)
    · rw [eo i hi]
      obtain ⟨e, w, a, b⟩ := h.2.1 i hi (by omega)
      exact ⟨e, w, a, hP e w b⟩
    · rcases hQ e w hq with z | ⟨z, -, -⟩
      · obtain ⟨i, a, b, c⟩ := h.2.2 e w z
        exact ⟨i, a, by omega, by rw [eo i a]; exact c⟩
      · exact absurd z q
def jC (N : zNt) : Prop := ∀ d s, cDec N d ≠ 1 ∧ (cDec N d = 2 → cSt N d s ≠ 0 ∧ cSt N d s ≠ 3) ∧ (cSt N d s = 2 → cDec N d = 2)
def jI (N : zNt) : Prop := ∀ d e s, d ≠ e → cSt N d s = 1 → cSt N e s = 1 → N 2 d.toNat ≠ N 2 e.toNat
def jR (N : zNt) : Prop := Bud N ∧ jC N ∧ jI N ∧ ∀ t, 0 ≤ t → t < 6 → lOk N t
def jN (N : zNt) : Prop := cOk N ∧ jR N
theorem hs_enter (N : zNt) (d s v e : Int) : cHas (cEnter N d s v) e ↔ cHas N e := by
  show (0 ≤ e ∧ e < cEnter N d s v 0 0) ↔ _
  rw [n_enter]
theorem hs_settle (N : zNt) (d v e : Int) : cHas (cSettle N d v) e ↔ cHas N e := by
  show (0 ≤ e ∧ e < cSettle N d v 0 0) ↔ _
  rw [n_settle]
/-- who may enter what -/
def jE (N : zNt) (d s v : Int) : Prop := (v = 1 ∧ cSt N d s = 0 ∧ ¬ cHolds N d s) ∨ (v = 2 ∧ cSt N d s = 1 ∧ cDec N d = 2) ∨ (v = 3 ∧ (cSt N d s = 0 ∨ cSt N d s = 1) ∧ cDec N d ≠ 2)
theorem jN_enter {N : zNt} {d s v : Int} (j : jN N) (h : jE N d s v) : jN (cEnter N d s v) := by
  obtain ⟨ok, bd, hC, hI, hL⟩ := j
  have h01 : cSt N d s = 0 ∨ cSt N d s = 1 := by unfold jE at h; omega
  have hv : 1 ≤ v ∧ v ≤ 3 := by unfold jE at h; omega
  have hm : cSt N d s ≠ -1 := by omega
  have hin := cSt_in hm
  have hd : cHas N d := ⟨hin.1, hin.2.1⟩
  have hc := bud_st (ok_n ok) bd h01
  have eS := fun a b => st_enter (v := v) hm a b
  have eL := ld_enter N d s v
  have eD := dc_enter N d s v
  have eH := hs_enter N d s v
  refine ⟨ok_enter ok hv, bd_enter (ok_n ok) bd (by unfold jE at h; omega), fun a b => ?_, fun a e b hne h1 h2 => ?_, fun t t0 t6 => ?_⟩
  · have c := hC a b
    have c2 := hC d s
    rw [eD, eS]
    refine ⟨c.1, fun q => ?_, fun q => ?_⟩
    · by_cases z : a = d ∧ b = s
      · rw [if_pos z]; rw [z.1] at q; unfold jE at h; omega
      · rw [if_neg z]; exact c.2.1 q
    · by_cases z : a = d ∧ b = s
      · rw [if_pos z] at q; rw [z.1]; unfold jE at h; omega
      · rw [if_neg z] at q; exact c.2.2 q
  · rw [r_enter N d s v (by decide) (by decide) (by decide) (by decide), r_enter N d s v (by decide) (by decide) (by decide) (by decide)]
    rw [eS] at h1 h2
    have key : ∀ y, y ≠ d → cSt N y s = 1 → v = 1 → N 2 y.toNat ≠ N 2 d.toNat := fun y hy hs1 hv1 he => by
      have hyi := cSt_in (N := N) (d := y) (s := s) (by omega)
      have hh : ¬ cHolds N d s := by
        unfold jE at h
        rcases h with h | h | h
        · exact h.2.2
        · omega
        · omega
      exact hh (zAny_hit (n := N 0 0) hyi.1 hyi.2.1 (decide_eq_true ⟨hy, he, hs1⟩))
    by_cases z1 : a = d ∧ b = s
    · rw [if_pos z1] at h1
      have z2 : ¬ (e = d ∧ b = s) := fun y => hne (by rw [z1.1, y.1])
      rw [if_neg z2] at h2
      rw [z1.2] at h2
      have := key e (fun y => hne (by rw [z1.1, y])) h2 h1
      rw [z1.1]; exact fun y => this y.symm
    · rw [if_neg z1] at h1
      by_cases z2 : e = d ∧ b = s
      · rw [if_pos z2] at h2
        rw [z2.2] at h1
        rw [z2.1]
        exact key a (fun y => hne (by rw [z2.1, y])) h1 h2
      · rw [if_neg z2] at h2
        exact hI a e b hne h1 h2
  · refine lOk_app (s := s) (d := d) (v := v) (ent_enter hm hc t) (fun i hi => ery_enter ok hm hc t i hi) (by rw [ent_at ⟨t0, t6⟩]; exact (ok_6 ok _ (by omega)).1) (fun e w p => ?_) (fun q => ?_) (fun q p => ?_) (fun e w p => ?_) (hL t t0 t6)
    · unfold lP at p ⊢
      rw [eH, eS, eL, eD]
      refine ⟨p.1, ?_⟩
      by_cases z : e = d ∧ t = s
      · rw [if_pos z]
        have p2 := p.2
        rw [z.1, z.2] at p2 ⊢
        omega
      · rw [if_neg z]; exact p.2
    · unfold lP
      rw [eH, eS, if_pos ⟨rfl, q⟩]
      exact ⟨hd, by omega⟩
    · have p2 := p.2
      rw [q] at p2
      unfold jE at h
      omega
    · unfold lQ at p ⊢
      rw [eH, eS, eL, eD] at p
      by_cases z : e = d ∧ t = s
      · rw [if_pos z] at p
        have p2 := p.2
        by_cases y : w = v
        · exact Or.inr ⟨z.2, z.1, y⟩
        · exact Or.inl ⟨p.1, by omega⟩
      · rw [if_neg z] at p; exact Or.inl p
theorem jN_settle {N : zNt} {d v : Int} (j : jN N) (hd : cHas N d) (h0 : cDec N d = 0) (h : (v = 2 ∧ ∀ s, cSt N d s = -1 ∨ cSt N d s = 1) ∨ v = 3) : jN (cSettle N d v) := by
  obtain ⟨ok, bd, hC, hI, hL⟩ := j
  have hv : v = 2 ∨ v = 3 := by
    rcases h with h | h
    · exact Or.inl h.1
    · exact Or.inr h
  have hc := bud_dc ok bd hd h0
  have eS := st_settle N d v
  have eL := ld_settle N d v
  have eD := fun a => dc_settle (v := v) hd a
  have eH := hs_settle N d v
  refine ⟨ok_settle ok (by omega), bd_settle ok bd hd h0 hv, fun a b => ?_, fun a e b hne h1 h2 => ?_, fun t t0 t6 => ?_⟩
  · have c := hC a b
    rw [eD, eS]
    by_cases z : a = d
    · rw [if_pos z]
      rw [z] at c ⊢
      refine ⟨by omega, fun q => ?_, fun q => by have := c.2.2 q; omega⟩
      rcases h with h | h
      · have := h.2 b; omega
      · omega
    · rw [if_neg z]; exact c
  · rw [r_settle N d v (by decide) (by decide) (by decide), r_settle N d v (by decide) (by decide) (by decide)]
    rw [eS] at h1 h2
    exact hI a e b hne h1 h2
  · refine lOk_app (s := cLead N d) (d := d) (v := v + 3) (ent_settle ok hd hc t) (fun i hi => by rw [ery_settle ok hd hc t i hi, Int.add_assoc]) (by rw [ent_at ⟨t0, t6⟩]; exact (ok_6 ok _ (by omega)).1) (fun e w p => ?_) (fun q => ?_) (fun q p => ?_) (fun e w p => ?_) (hL t t0 t6)
    · unfold lP at p ⊢
      rw [eH, eS, eL, eD]
      refine ⟨p.1, ?_⟩
      by_cases z : e = d
      · rw [if_pos z]
        have p2 := p.2
        rw [z] at p2 ⊢
        omega
      · rw [if_neg z]; exact p.2
    · unfold lP
      rw [eH, eS, eL, eD, if_pos rfl]
      exact ⟨hd, by omega⟩
    · have p2 := p.2
      omega
    · unfold lQ at p ⊢
      rw [eH, eS, eL, eD] at p
      by_cases z : e = d
      · rw [if_pos z] at p
        have p2 := p.2
        rw [z] at p2
        by_cases y : w = v + 3 ∧ t = cLead N d
        · exact Or.inr ⟨y.2, z, y.1⟩
        · refine Or.inl ⟨p.1, ?_⟩
          rw [z]
          omega
      · rw [if_neg z] at p; exact Or.inl p
