/-! what a Net's methods answer and make of it: N r j is the place j of the row r (0: the int fields, 1 leaders, 2 items, 3 decisions, 4 states, 5 patiences, 6 logLengths, 7 logs) -/
abbrev zNt : Type := Nat → Nat → Int
def zAny (f : Int → Bool) : Nat → Bool
  | 0 => false
  | n + 1 => zAny f n || f n
def zSum (f : Int → Int) : Nat → Int
  | 0 => 0
  | n + 1 => zSum f n + f n
def zFind (f : Int → Bool) : Nat → Int
  | 0 => -1
  | n + 1 => if zFind f n ≠ -1 then zFind f n else if f n then (n : Int) else -1
theorem zAny_iff {f : Int → Bool} {n : Nat} : zAny f n = true ↔ ∃ i : Nat, i < n ∧ f i = true := by
  induction n with
  | zero => simp [zAny]
  | succ n ih =>
    rw [zAny, Bool.or_eq_true, ih]
    constructor
    · rintro (⟨i, h1, h2⟩ | h)
      · exact ⟨i, by omega, h2⟩
      · exact ⟨n, by omega, h⟩
    · rintro ⟨i, h1, h2⟩
      by_cases e : i = n
      · subst e; exact Or.inr h2
      · exact Or.inl ⟨i, by omega, h2⟩
theorem zAny_false {f : Int → Bool} {n : Nat} (h : ∀ i : Nat, i < n → f i = false) : zAny f n = false := by
  cases e : zAny f n with
  | false => rfl
  | true =>
    obtain ⟨i, h1, h2⟩ := zAny_iff.mp e
    rw [h i h1] at h2; exact absurd h2 (by decide)
theorem zAny_lt {f : Int → Bool} {n : Nat} (h : zAny f n = false) {i : Nat} (hi : i < n) : f i = false := by
  cases e : f i with
  | false => rfl
  | true => rw [zAny_iff.mpr ⟨i, hi, e⟩] at h; exact absurd h (by decide)
/-- a step of a search, its place an Int -/
theorem zAny_step {f : Int → Bool} {i : Int} (h0 : 0 ≤ i) (h : zAny f i.toNat = false) (hf : f i = false) : zAny f (i + 1).toNat = false := by
  rw [show (i + 1).toNat = i.toNat + 1 by omega, zAny, h, Int.toNat_of_nonneg h0, hf]; rfl
theorem zAny_hit {f : Int → Bool} {i n : Int} (h0 : 0 ≤ i) (h1 : i < n) (hf : f i = true) : zAny f n.toNat = true :=
  zAny_iff.mpr ⟨i.toNat, by omega, by rw [Int.toNat_of_nonneg h0]; exact hf⟩
theorem zSum_step {f : Int → Int} {i : Int} (h0 : 0 ≤ i) : zSum f (i + 1).toNat = zSum f i.toNat + f i := by
  rw [show (i + 1).toNat = i.toNat + 1 by omega, zSum, Int.toNat_of_nonneg h0]
theorem zFind_step {f : Int → Bool} {i : Int} (h0 : 0 ≤ i) (h : zFind f i.toNat = -1) (hf : f i = false) : zFind f (i + 1).toNat = -1 := by
  rw [show (i + 1).toNat = i.toNat + 1 by omega, zFind, h, Int.toNat_of_nonneg h0, hf]; simp
theorem zFind_mono {f : Int → Bool} {a : Int} {n k : Nat} (h : zFind f n = a) (ha : a ≠ -1) : zFind f (n + k) = a := by
  induction k with
  | zero => exact h
  | succ k ih => rw [Nat.add_succ, zFind, ih, if_pos ha]
theorem zFind_hit {f : Int → Bool} {i n : Int} (h0 : 0 ≤ i) (h1 : i < n) (h : zFind f i.toNat = -1) (hf : f i = true) : zFind f n.toNat = i := by
  have h2 : zFind f (i.toNat + 1) = i := by
    rw [zFind, h, Int.toNat_of_nonneg h0, hf]; simp
  have h3 := zFind_mono (k := n.toNat - (i.toNat + 1)) h2 (by omega)
  rw [show i.toNat + 1 + (n.toNat - (i.toNat + 1)) = n.toNat by omega] at h3
  exact h3
theorem zFor {S : Type} (n : Int) (Inv Goal : Int → S → Prop) (step : ∀ i s, 0 ≤ i → i ≤ n → Inv i s → (i < n → ∀ s', Inv (i + 1) s' → Goal (i + 1) s') → Goal i s) (s0 : S) (h0 : 0 ≤ n) (hi : Inv 0 s0) : Goal 0 s0 := by
  have key : ∀ (f : Nat) (i : Int) (s : S), 0 ≤ i → i ≤ n → n - i < f → Inv i s → Goal i s := by
    intro f
    induction f with
    | zero => intro i s a b c; omega
    | succ f ih => intro i s a b c hv; exact step i s a b hv (fun hlt s' hs => ih (i + 1) s' (by omega) (by omega) (by omega) hs)
  exact key (n.toNat + 1) 0 s0 (Int.le_refl 0) h0 (by omega) hi
def cOk (N : zNt) : Prop := (0 ≤ N 0 0 ∧ N 0 0 ≤ 8) ∧ (0 ≤ N 0 1 ∧ N 0 1 ≤ 63) ∧ (1 ≤ N 0 3 ∧ N 0 3 ≤ 20) ∧ (∀ d, d < 8 → (0 ≤ N 1 d ∧ N 1 d ≤ 5) ∧ (0 ≤ N 2 d ∧ N 2 d ≤ 9) ∧ (0 ≤ N 3 d ∧ N 3 d ≤ 3)) ∧ (∀ j, j < 48 → (-1 ≤ N 4 j ∧ N 4 j ≤ 3) ∧ (0 ≤ N 5 j ∧ N 5 j ≤ 20) ∧ (N 4 j = 1 → 1 ≤ N 5 j)) ∧ (∀ s, s < 6 → 0 ≤ N 6 s ∧ N 6 s ≤ 24)
theorem ok_n {N : zNt} (h : cOk N) : 0 ≤ N 0 0 ∧ N 0 0 ≤ 8 := h.1
theorem ok_up {N : zNt} (h : cOk N) : 0 ≤ N 0 1 ∧ N 0 1 ≤ 63 := h.2.1
theorem ok_fr {N : zNt} (h : cOk N) : 1 ≤ N 0 3 ∧ N 0 3 ≤ 20 := h.2.2.1
theorem ok_ld {N : zNt} (h : cOk N) {d : Nat} (hd : d < 8) : 0 ≤ N 1 d ∧ N 1 d ≤ 5 := (h.2.2.2.1 d hd).1
theorem ok_it {N : zNt} (h : cOk N) {d : Nat} (hd : d < 8) : 0 ≤ N 2 d ∧ N 2 d ≤ 9 := (h.2.2.2.1 d hd).2.1
theorem ok_dc {N : zNt} (h : cOk N) {d : Nat} (hd : d < 8) : 0 ≤ N 3 d ∧ N 3 d ≤ 3 := (h.2.2.2.1 d hd).2.2
theorem ok_st {N : zNt} (h : cOk N) {j : Nat} (hj : j < 48) : -1 ≤ N 4 j ∧ N 4 j ≤ 3 := (h.2.2.2.2.1 j hj).1
theorem ok_pt {N : zNt} (h : cOk N) {j : Nat} (hj : j < 48) : 0 ≤ N 5 j ∧ N 5 j ≤ 20 := (h.2.2.2.2.1 j hj).2.1
theorem ok_p1 {N : zNt} (h : cOk N) {j : Nat} (hj : j < 48) : N 4 j = 1 → 1 ≤ N 5 j := (h.2.2.2.2.1 j hj).2.2
theorem ok_ll {N : zNt} (h : cOk N) {s : Nat} (hs : s < 6) : 0 ≤ N 6 s ∧ N 6 s ≤ 24 := h.2.2.2.2.2 s hs
abbrev cHas (N : zNt) (d : Int) : Prop := 0 ≤ d ∧ d < N 0 0
abbrev cUp (N : zNt) (s : Int) : Prop := 0 ≤ s ∧ s < 6 ∧ zAnd (zShr (N 0 1) s) 1 ≠ 0
def cLead (N : zNt) (d : Int) : Int := if cHas N d then N 1 d.toNat else -1
def cDec (N : zNt) (d : Int) : Int := if cHas N d then N 3 d.toNat else -1
def cSt (N : zNt) (d s : Int) : Int := if 0 ≤ d ∧ d < N 0 0 ∧ 0 ≤ s ∧ s < 6 then N 4 (d * 6 + s).toNat else -1
def cPat (N : zNt) (d s : Int) : Int := if cSt N d s = 1 then N 5 (d * 6 + s).toNat else -1
abbrev cEnd (z : Int) : Prop := z = 2 ∨ z = 3
def cEnt (N : zNt) (s : Int) : Int := if 0 ≤ s ∧ s < 6 then N 6 s.toNat else 0
def cEntry (N : zNt) (s i : Int) : Int := if 0 ≤ i ∧ i < cEnt N s then N 7 (s * 24 + i).toNat else -1
def cHeld (N : zNt) (s : Int) : Nat → Int
  | 0 => 0
  | d + 1 => if cSt N d s = 1 then zOr (cHeld N s d) (zShl 1 (N 2 d)) else cHeld N s d
abbrev cCanBegin (N : zNt) (ld mk : Int) : Prop := N 0 0 < 8 ∧ zAnd (N 0 1) (zOr mk (zShl 1 ld)) = zOr mk (zShl 1 ld)
abbrev cCanVote (N : zNt) (d s : Int) : Prop := cUp N s ∧ cSt N d s = 0
abbrev cCanDecide (N : zNt) (d : Int) : Prop := cUp N (cLead N d) ∧ cDec N d = 0
abbrev cCanTell (N : zNt) (d s : Int) : Prop := cUp N s ∧ cUp N (cLead N d) ∧ cSt N d s ≠ -1 ∧ cEnd (cDec N d)
abbrev cCanAsk (N : zNt) (d s o : Int) : Prop := s ≠ o ∧ cUp N s ∧ cUp N o ∧ cSt N d s = 1
def cWrite (N : zNt) (s e : Int) : zNt := if 0 ≤ s ∧ s < 6 ∧ N 6 s.toNat < 24 then up2 (up2 N 7 (s * 24 + N 6 s.toNat).toNat e) 6 s.toNat (N 6 s.toNat + 1) else N
def cEnter0 (N : zNt) (d s v : Int) : zNt := if v = 1 then up2 (up2 N 4 (d * 6 + s).toNat v) 5 (d * 6 + s).toNat (N 0 3) else up2 N 4 (d * 6 + s).toNat v
def cEnter (N : zNt) (d s v : Int) : zNt := if cSt N d s = -1 then N else cWrite (cEnter0 N d s v) s (10 * d + v)
def cSettle (N : zNt) (d v : Int) : zNt := if cHas N d then cWrite (up2 N 3 d.toNat v) (N 1 d.toNat) (10 * d + v + 3) else N
abbrev cHolds (N : zNt) (d s : Int) : Prop := zAny (fun o => decide (o ≠ d ∧ N 2 o.toNat = N 2 d.toNat ∧ cSt N o s = 1)) (N 0 0).toNat = true
def cVoteV (N : zNt) (d s y : Int) : Int := if y ≠ 0 ∧ ¬ cHolds N d s then 1 else 3
def cVoteN (N : zNt) (d s y : Int) : zNt := if cCanVote N d s then cEnter N d s (cVoteV N d s y) else N
def cVoteR (N : zNt) (d s y : Int) : Int := if cCanVote N d s then cVoteV N d s y else -1
abbrev cAll (N : zNt) (d : Int) : Prop := zAny (fun s => decide (cSt N d s ≠ -1 ∧ cSt N d s ≠ 1)) 6 = false
def cDecV (N : zNt) (d : Int) : Int := if cAll N d then 2 else 3
def cDecideN (N : zNt) (d : Int) : zNt := if cCanDecide N d then cSettle N d (cDecV N d) else N
def cDecideR (N : zNt) (d : Int) : Int := if cCanDecide N d then cDecV N d else -1
def cTellN (N : zNt) (d s : Int) : zNt := if cCanTell N d s ∧ (cSt N d s = 1 ∨ cSt N d s = 0 ∧ cDec N d = 3) then cEnter N d s (cDec N d) else N
def cTellR (N : zNt) (d s : Int) : Int := if cCanTell N d s then cSt (cTellN N d s) d s else -1
def cAsk1 (N : zNt) : zNt := up2 N 0 2 (N 0 2 + 1)
def cAsk2 (N : zNt) (d : Int) : zNt := if cDec N d = 0 then cSettle N d 3 else N
def cAsk3 (N : zNt) (d s v : Int) : zNt := if cEnd v then cEnter N d s v else N
def cAsk4 (N : zNt) (d s o : Int) : zNt := if o = cLead N d then cAsk3 (cAsk2 N d) d s (cDec (cAsk2 N d) d) else if cSt N d o = 0 then cEnter (cEnter N d o 3) d s 3 else cAsk3 N d s (cSt N d o)
def cAskN (N : zNt) (d s o : Int) : zNt := if cCanAsk N d s o then cAsk4 (cAsk1 N) d s o else N
def cAskR (N : zNt) (d s o : Int) : Int := if cCanAsk N d s o then cSt (cAskN N d s o) d s else -1
def cSil (N : zNt) (s : Int) : zNt := up2 N 0 1 (zAnd (N 0 1) (zXor (zShl 1 s) (-1)))
def cSilN (N : zNt) (s : Int) : zNt := if cUp N s then cSil N s else N
def cDoubts (N : zNt) (s : Int) : Int := zSum (fun d => if cSt N d s = 1 then 1 else 0) (N 0 0).toNat
def cSilR (N : zNt) (s : Int) : Int := if cUp N s then cDoubts (cSil N s) s else -1
def cWk (N : zNt) (s : Int) : zNt := up2 N 0 1 (zOr (N 0 1) (zShl 1 s))
def cWk1 (N : zNt) (d s : Int) : zNt := if cSt N d s = 0 then cEnter N d s 3 else N
def cWk2 (N : zNt) (d s : Int) : zNt := if cLead N d = s ∧ cDec N d = 0 then cSettle N d 3 else N
def cWkL (N : zNt) (s : Int) : Nat → zNt
  | 0 => N
  | d + 1 => cWk2 (cWk1 (cWkL N s d) d s) d s
abbrev cCanWk (N : zNt) (s : Int) : Prop := (0 ≤ s ∧ s < 6) ∧ ¬ cUp N s
def cWkN (N : zNt) (s : Int) : zNt := if cCanWk N s then cWkL (cWk N s) s (N 0 0).toNat else N
def cWkR (N : zNt) (s : Int) : Int := if cCanWk N s then cEnt (cWkN N s) s - cEnt N s else -1
def cCnt (N : zNt) (v : Int) : Int := zSum (fun d => zSum (fun s => if cSt N d s = v then 1 else 0) 6) (N 0 0).toNat
abbrev cLoseC (N : zNt) (d s : Int) : Prop := cUp N s ∧ cSt N d s = 1
abbrev cLoseP (N : zNt) (d s : Int) : Prop := cLoseC N d s ∧ N 5 (d * 6 + s).toNat - 1 ≤ 0
def cLoseN (N : zNt) (d s : Int) : zNt := if cLoseC N d s then (if N 5 (d * 6 + s).toNat - 1 ≤ 0 then up2 N 5 (d * 6 + s).toNat (N 0 3) else up2 N 5 (d * 6 + s).toNat (N 5 (d * 6 + s).toNat - 1)) else N
def cAskL (N : zNt) (d s : Int) : Nat → zNt
  | 0 => N
  | o + 1 => cAskN (cAskL N d s o) d s o
def cTickS (N : zNt) (d s : Int) : zNt := if cLoseP N d s then cAskL (cLoseN N d s) d s 6 else cLoseN N d s
def cTickL (N : zNt) (d : Int) : Nat → zNt
  | 0 => N
  | s + 1 => cTickS (cTickL N d s) d s
def cTickD (N : zNt) (d : Int) : zNt := cTickL N d 6
def cTickA (N : zNt) : Nat → zNt
  | 0 => N
  | d + 1 => cTickD (cTickA N d) d
def cPassL (N : zNt) : Nat → zNt
  | 0 => N
  | t + 1 => cTickA (cPassL N t) (N 0 0).toNat
def cPassN (N : zNt) (t : Int) : zNt := cPassL N t.toNat
def cPassR (N : zNt) (t : Int) : Int := cCnt (cPassN N t) 2 + cCnt (cPassN N t) 3 - (cCnt N 2 + cCnt N 3)
abbrev cOpen (N : zNt) (d : Int) : Prop := zAny (fun s => decide (cSt N d s = 0 ∨ cSt N d s = 1)) 6 = true
def cOpens (N : zNt) : Int := zSum (fun d => if cOpen N d then 1 else 0) (N 0 0).toNat
abbrev cAns (v : Int) : Prop := v = 0 ∨ cEnd v
def cHelp (N : zNt) (d s : Int) : Int := zFind (fun o => decide ((o = cLead N d ∨ cAns (cSt N d o)) ∧ cCanAsk N d s o)) 6
abbrev cStuck (N : zNt) (d : Int) : Prop := zAny (fun s => decide (cHelp N d s ≠ -1)) 6 = false ∧ zAny (fun s => decide (cUp N s ∧ cSt N d s = 1)) 6 = true
def cStucks (N : zNt) : Int := zSum (fun d => if cStuck N d then 1 else 0) (N 0 0).toNat
def cMems (N : zNt) : Int := N 0 0 * 6 - cCnt N (-1)
def cReas (N : zNt) (d s : Int) : Int := if cSt N d s = -1 then 1 else if ¬ cUp N s then 2 else if cSt N d s ≠ 0 then 3 else if cHolds N d s then 4 else 0
def zH (h : Int64) (v : Int) : Int64 := 31 * h + (iI v).toInt64
def cHsL (N : zNt) (s : Int) (h : Int64) : Nat → Int64
  | 0 => h
  | i + 1 => zH (cHsL N s h i) (cEntry N s i)
def cHs (N : zNt) (h : Int64) (s : Int) : Int64 := cHsL N s (zH (zH (zH h (if cUp N s then 1 else 0)) (cHeld N s (N 0 0).toNat)) (cEnt N s)) (cEnt N s).toNat
def cHdL (N : zNt) (d : Int) (h : Int64) : Nat → Int64
  | 0 => h
  | s + 1 => zH (zH (zH (cHdL N d h s) (cSt N d s)) (cPat N d s)) (cHelp N d s)
def cHd (N : zNt) (h : Int64) (d : Int) : Int64 := cHdL N d (zH (zH h (cLead N d)) (cDec N d)) 6
def cHL1 (N : zNt) (h : Int64) : Nat → Int64
  | 0 => h
  | s + 1 => cHs N (cHL1 N h s) s
def cHL2 (N : zNt) (h : Int64) : Nat → Int64
  | 0 => h
  | d + 1 => cHd N (cHL2 N h d) d
def cHash (N : zNt) : Int64 := cHL2 N (cHL1 N (zH (zH (zH (zH 4431 (N 0 0)) (cOpens N)) (cStucks N)) (N 0 2)) 6) (N 0 0).toNat
/-- bounds of what the reading methods give -/
theorem rg_st {N : zNt} (ok : cOk N) (d s : Int) : -1 ≤ cSt N d s ∧ cSt N d s ≤ 3 := by
  have hn := ok_n ok
  unfold cSt
  split
  · exact ok_st ok (by omega)
  · exact ⟨by decide, by decide⟩
theorem rg_ld {N : zNt} (ok : cOk N) (d : Int) : -1 ≤ cLead N d ∧ cLead N d ≤ 5 := by
  have hn := ok_n ok
  unfold cLead
  split
  · have := ok_ld ok (d := d.toNat) (by omega); omega
  · exact ⟨by decide, by decide⟩
theorem rg_dc {N : zNt} (ok : cOk N) (d : Int) : -1 ≤ cDec N d ∧ cDec N d ≤ 3 := by
  have hn := ok_n ok
  unfold cDec
  split
  · have := ok_dc ok (d := d.toNat) (by omega); omega
  · exact ⟨by decide, by decide⟩
theorem rg_ent {N : zNt} (ok : cOk N) (s : Int) : 0 ≤ cEnt N s ∧ cEnt N s ≤ 24 := by
  unfold cEnt
  split
  · exact ok_ll ok (by omega)
  · exact ⟨by decide, by decide⟩
theorem rg_pat {N : zNt} (ok : cOk N) (d s : Int) : -1 ≤ cPat N d s ∧ cPat N d s ≤ 20 := by
  have hn := ok_n ok
  unfold cPat
  split
  · rename_i h
    unfold cSt at h
    split at h
    · have := ok_pt ok (j := (d * 6 + s).toNat) (by omega); omega
    · exact absurd h (by decide)
  · exact ⟨by decide, by decide⟩
theorem zB_sm {z a b : Int} (h : a ≤ z ∧ z ≤ b) (ha : -2147483648 ≤ a := by decide) (hb : b < 2147483648 := by decide) : zB z := ⟨by omega, by omega⟩
theorem cSt_in {N : zNt} {d s : Int} (h : cSt N d s ≠ -1) : 0 ≤ d ∧ d < N 0 0 ∧ 0 ≤ s ∧ s < 6 := by
  unfold cSt at h
  split at h
  · assumption
  · exact absurd rfl h
