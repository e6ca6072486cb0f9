/-! THE REFERENCE'S STATE, read as a Net: its row s holds eight states of 282 places each; mV N b is the one at the base b (N 1 is the row s), in a Net's rows; row 8: the masks of the members -/
abbrev mIn (r j : Nat) : Prop := (r = 0 ∧ j < 4) ∨ ((r = 1 ∨ r = 2 ∨ r = 3 ∨ r = 8) ∧ j < 8) ∨ ((r = 4 ∨ r = 5) ∧ j < 48) ∨ (r = 6 ∧ j < 6) ∨ (r = 7 ∧ j < 144)
def mIx (r j : Nat) : Nat :=
  if r = 0 then (if j = 0 then 3 else if j = 1 then 0 else if j = 2 then 1 else 2) else if r = 1 then 4 + 4 * j else if r = 2 then 6 + 4 * j else if r = 3 then 7 + 4 * j else if r = 8 then 5 + 4 * j
  else if r = 4 then 36 + j else if r = 5 then 84 + j else if r = 6 then 132 + 25 * j else 133 + 25 * (j / 24) + j % 24
theorem mIx_lt {r j : Nat} (h : mIn r j) : mIx r j < 282 := by
  unfold mIx
  (repeat' split) <;> omega
theorem mIx_inj {r j r' j' : Nat} (h : mIn r j) (h' : mIn r' j') (e : mIx r j = mIx r' j') : r = r' ∧ j = j' := by
  unfold mIx at e
  (repeat' split at e) <;> omega
theorem mIx_all {i : Nat} (h : i < 282) : ∃ r j, mIn r j ∧ mIx r j = i := by
  rcases (show i = 3 ∨ i = 0 ∨ i = 1 ∨ i = 2 ∨ (4 ≤ i ∧ i < 36) ∨ (36 ≤ i ∧ i < 84) ∨ (84 ≤ i ∧ i < 132) ∨ 132 ≤ i by omega) with h | h | h | h | h | h | h | h
  · exact ⟨0, 0, by omega, by rw [h]; rfl⟩
  · exact ⟨0, 1, by omega, by rw [h]; rfl⟩
  · exact ⟨0, 2, by omega, by rw [h]; rfl⟩
  · exact ⟨0, 3, by omega, by rw [h]; rfl⟩
  · rcases (show i % 4 = 0 ∨ i % 4 = 1 ∨ i % 4 = 2 ∨ i % 4 = 3 by omega) with q | q | q | q
    · exact ⟨1, (i - 4) / 4, by omega, by unfold mIx; simp; omega⟩
    · exact ⟨8, (i - 4) / 4, by omega, by unfold mIx; simp; omega⟩
    · exact ⟨2, (i - 4) / 4, by omega, by unfold mIx; simp; omega⟩
    · exact ⟨3, (i - 4) / 4, by omega, by unfold mIx; simp; omega⟩
  · exact ⟨4, i - 36, by omega, by unfold mIx; simp; omega⟩
  · exact ⟨5, i - 84, by omega, by unfold mIx; simp; omega⟩
  · by_cases q : (i - 132) % 25 = 0
    · exact ⟨6, (i - 132) / 25, by omega, by unfold mIx; simp; omega⟩
    · exact ⟨7, 24 * ((i - 132) / 25) + ((i - 132) % 25 - 1), by omega, by
        have e1 : (24 * ((i - 132) / 25) + ((i - 132) % 25 - 1)) / 24 = (i - 132) / 25 := by omega
        have e2 : (24 * ((i - 132) / 25) + ((i - 132) % 25 - 1)) % 24 = (i - 132) % 25 - 1 := by omega
        unfold mIx; simp only [e1, e2]; simp; omega⟩
/-- the places as rows -/
def mR (N : zNt) (b : Int) : zNt := fun r j => if mIn r j then N 1 (b.toNat + mIx r j) else 0
abbrev mBit (A : zNt) (d s : Nat) : Prop := zAnd (zShr (A 8 d) (s : Int)) 1 = 1
def vw (A : zNt) : zNt := fun r j => if (r = 4 ∧ j < 48 ∧ (((j / 6 : Nat) : Int) < A 0 0)) ∧ ¬ mBit A (j / 6) (j % 6) then -1 else A r j
def mV (N : zNt) (b : Int) : zNt := vw (mR N b)
theorem mR_w {N : zNt} {b : Int} {r j : Nat} {x : Int} (h : mIn r j) : mR (up2 N 1 (b.toNat + mIx r j) x) b = up2 (mR N b) r j x := by
  funext a c
  unfold mR
  by_cases q : mIn a c
  · rw [if_pos q]
    by_cases e : a = r ∧ c = j
    · obtain ⟨rfl, rfl⟩ := e
      rw [up2_at, up2_at]
    · rw [up2_ne _ _ (fun z => e (mIx_inj q h (by omega))), up2_ne _ _ e, if_pos q]
  · rw [if_neg q, up2_ne _ _ (fun z => q (by rw [z.1, z.2]; exact h)), if_neg q]
theorem vw_w {A : zNt} {r j : Nat} {x : Int} (h8 : r ≠ 8) (h4 : r = 4 → j < 48 → ((j / 6 : Nat) : Int) < A 0 0 → mBit A (j / 6) (j % 6)) (h0 : r = 0 → j ≠ 0) : vw (up2 A r j x) = up2 (vw A) r j x := by
  funext a c
  have e8 : ∀ d, up2 A r j x 8 d = A 8 d := fun d => up2_rw _ _ (fun e => h8 e.symm) d
  have e0 : up2 A r j x 0 0 = A 0 0 := up2_ne _ _ (fun q => h0 q.1.symm q.2.symm)
  by_cases e : a = r ∧ c = j
  · obtain ⟨rfl, rfl⟩ := e
    rw [up2_at]
    unfold vw mBit
    rw [e8, up2_at, e0]
    by_cases q : a = 4 ∧ c < 48 ∧ ((c / 6 : Nat) : Int) < A 0 0
    · rw [if_neg (fun z => z.2 (h4 q.1 q.2.1 q.2.2))]
    · rw [if_neg (fun z => q z.1)]
  · rw [up2_ne _ _ e]
    unfold vw mBit
    rw [e8, up2_ne _ _ e, e0]
theorem mV_w {N : zNt} {b : Int} {r j I : Nat} {x : Int} (h : mIn r j) (hI : I = b.toNat + mIx r j) (h8 : r ≠ 8) (h4 : r = 4 → j < 48 → ((j / 6 : Nat) : Int) < mR N b 0 0 → mBit (mR N b) (j / 6) (j % 6)) (h0 : r = 0 → j ≠ 0) : mV (up2 N 1 I x) b = up2 (mV N b) r j x := by
  subst hI
  unfold mV
  rw [mR_w h, vw_w h8 h4 h0]
theorem mV_rd {N : zNt} {b : Int} {r j : Nat} (h : mIn r j) (h4 : r ≠ 4) : mV N b r j = N 1 (b.toNat + mIx r j) := by
  unfold mV vw
  rw [if_neg (fun z => h4 z.1.1)]
  unfold mR
  rw [if_pos h]
theorem mV_00 {N : zNt} {b : Int} : mV N b 0 0 = mR N b 0 0 := by
  unfold mV vw
  rw [if_neg (fun z => absurd z.1.1 (by decide))]
theorem mV_4 {N : zNt} {b : Int} {j : Nat} (h : j < 48) (hn : ((j / 6 : Nat) : Int) < mV N b 0 0) : mV N b 4 j = if mBit (mR N b) (j / 6) (j % 6) then N 1 (b.toNat + (36 + j)) else -1 := by
  rw [mV_00] at hn
  unfold mV vw
  by_cases q : mBit (mR N b) (j / 6) (j % 6)
  · rw [if_neg (fun z => z.2 q), if_pos q]
    unfold mR
    rw [if_pos (by omega)]; rfl
  · rw [if_pos ⟨⟨rfl, h, hn⟩, q⟩, if_neg q]
/-- what else the block holds stays as it is -/
def mFr (N N1 : zNt) (b : Int) : Prop := (∀ j, N1 0 j = N 0 j) ∧ (∀ j, N1 2 j = N 2 j) ∧ ∀ j, ¬ (b.toNat ≤ j ∧ j < b.toNat + 282) → N1 1 j = N 1 j
def mTo (N N1 : zNt) (b : Int) (W : zNt) : Prop := mV N1 b = W ∧ mFr N N1 b
theorem mFr_rf {N : zNt} {b : Int} : mFr N N b := ⟨fun _ => rfl, fun _ => rfl, fun _ _ => rfl⟩
theorem mFr_tr {N N1 N2 : zNt} {b : Int} (h : mFr N N1 b) (h' : mFr N1 N2 b) : mFr N N2 b := ⟨fun j => (h'.1 j).trans (h.1 j), fun j => (h'.2.1 j).trans (h.2.1 j), fun j q => (h'.2.2 j q).trans (h.2.2 j q)⟩
theorem mTo_rf {N : zNt} {b : Int} : mTo N N b (mV N b) := ⟨rfl, mFr_rf⟩
theorem mFr_w {N : zNt} {b : Int} {I : Nat} {x : Int} (h : b.toNat ≤ I ∧ I < b.toNat + 282) : mFr N (up2 N 1 I x) b := ⟨fun j => up2_rw _ _ (by decide) j, fun j => up2_rw _ _ (by decide) j, fun j q => up2_ne _ _ (fun z => q (by rw [z.2]; exact h))⟩
theorem mTo_w {N : zNt} {b : Int} {r j I : Nat} {x : Int} (h : mIn r j) (hI : I = b.toNat + mIx r j) (h8 : r ≠ 8) (h4 : r = 4 → j < 48 → ((j / 6 : Nat) : Int) < mR N b 0 0 → mBit (mR N b) (j / 6) (j % 6)) (h0 : r = 0 → j ≠ 0 := by first | decide | exact fun h => absurd h (by decide)) : mTo N (up2 N 1 I x) b (up2 (mV N b) r j x) :=
  ⟨mV_w h hI h8 h4 h0, mFr_w (by have := mIx_lt h; omega)⟩
/-- the bounds -/
def rOk (N : zNt) : Prop := (0 ≤ N 0 0 ∧ N 0 0 ≤ 8) ∧ (∀ d, d < 8 → (0 ≤ N 1 d ∧ N 1 d ≤ 5) ∧ (0 ≤ N 2 d ∧ N 2 d ≤ 9) ∧ (0 ≤ N 3 d ∧ N 3 d ≤ 3) ∧ N 3 d ≠ 1) ∧ (∀ j, j < 48 → (-1 ≤ N 4 j ∧ N 4 j ≤ 3) ∧ (0 ≤ N 5 j ∧ N 5 j ≤ 20)) ∧ (∀ s, s < 6 → 0 ≤ N 6 s ∧ N 6 s ≤ 24) ∧ (0 ≤ N 0 3 ∧ N 0 3 ≤ 20) ∧ ∀ j : Nat, j < 48 → ((j : Int) < 6 * N 0 0 → (mBit N (j / 6) (j % 6) ↔ 0 ≤ N 4 j)) ∧ (6 * N 0 0 ≤ (j : Int) → N 4 j = 0)
theorem rk_n {N : zNt} (h : rOk N) : 0 ≤ N 0 0 ∧ N 0 0 ≤ 8 := h.1
theorem rk_ld {N : zNt} (h : rOk N) {d : Nat} (hd : d < 8) : 0 ≤ N 1 d ∧ N 1 d ≤ 5 := (h.2.1 d hd).1
theorem rk_it {N : zNt} (h : rOk N) {d : Nat} (hd : d < 8) : 0 ≤ N 2 d ∧ N 2 d ≤ 9 := (h.2.1 d hd).2.1
theorem rk_dc {N : zNt} (h : rOk N) {d : Nat} (hd : d < 8) : 0 ≤ N 3 d ∧ N 3 d ≤ 3 := (h.2.1 d hd).2.2.1
theorem rk_d1 {N : zNt} (h : rOk N) {d : Nat} (hd : d < 8) : N 3 d ≠ 1 := (h.2.1 d hd).2.2.2
theorem rk_st {N : zNt} (h : rOk N) {j : Nat} (hj : j < 48) : -1 ≤ N 4 j ∧ N 4 j ≤ 3 := (h.2.2.1 j hj).1
theorem rk_pt {N : zNt} (h : rOk N) {j : Nat} (hj : j < 48) : 0 ≤ N 5 j ∧ N 5 j ≤ 20 := (h.2.2.1 j hj).2
theorem rk_ll {N : zNt} (h : rOk N) {s : Nat} (hs : s < 6) : 0 ≤ N 6 s ∧ N 6 s ≤ 24 := h.2.2.2.1 s hs
theorem rk_fr {N : zNt} (h : rOk N) : 0 ≤ N 0 3 ∧ N 0 3 ≤ 20 := h.2.2.2.2.1
theorem rk_bt {N : zNt} (h : rOk N) {j : Nat} (hj : j < 48) (hn : (j : Int) < 6 * N 0 0) : mBit N (j / 6) (j % 6) ↔ 0 ≤ N 4 j := (h.2.2.2.2.2 j hj).1 hn
theorem rk_z {N : zNt} (h : rOk N) {j : Nat} (hj : j < 48) (hn : 6 * N 0 0 ≤ (j : Int)) : N 4 j = 0 := (h.2.2.2.2.2 j hj).2 hn
theorem qg_st {N : zNt} (ok : rOk N) (d s : Int) : -1 ≤ cSt N d s ∧ cSt N d s ≤ 3 := by
  have hn := rk_n ok
  unfold cSt; split
  · exact rk_st ok (by omega)
  · exact ⟨by decide, by decide⟩
theorem qg_ld {N : zNt} (ok : rOk N) (d : Int) : -1 ≤ cLead N d ∧ cLead N d ≤ 5 := by
  have hn := rk_n ok
  unfold cLead; split
  · have := rk_ld ok (d := d.toNat) (by omega); omega
  · exact ⟨by decide, by decide⟩
theorem qg_dc {N : zNt} (ok : rOk N) (d : Int) : -1 ≤ cDec N d ∧ cDec N d ≤ 3 := by
  have hn := rk_n ok
  unfold cDec; split
  · have := rk_dc ok (d := d.toNat) (by omega); omega
  · exact ⟨by decide, by decide⟩
theorem bit01 (x : Int) : zAnd x 1 = 0 ∨ zAnd x 1 = 1 := by
  unfold zAnd
  have h : (iI x &&& iI 1).toBitVec = (iI x).toBitVec &&& 1#32 := by rw [Int32.toBitVec_and]; rfl
  have h2 : (iI x &&& iI 1).toInt = ((iI x).toBitVec &&& 1#32).toInt := by rw [← h]; rfl
  rw [h2]
  have h3 : ((iI x).toBitVec &&& 1#32) = 0#32 ∨ ((iI x).toBitVec &&& 1#32) = 1#32 := by
    have h4 : ((iI x).toBitVec &&& 1#32).toNat = (iI x).toBitVec.toNat % 2 := by
      rw [BitVec.toNat_and]
      exact Nat.and_one_is_mod _
    rcases Nat.mod_two_eq_zero_or_one (iI x).toBitVec.toNat with q | q
    · left; apply BitVec.eq_of_toNat_eq; rw [h4, q]; rfl
    · right; apply BitVec.eq_of_toNat_eq; rw [h4, q]; rfl
  rcases h3 with q | q
  · left; rw [q]; rfl
  · right; rw [q]; rfl
theorem bit_ne {x : Int} : zAnd x 1 = 1 ↔ zAnd x 1 ≠ 0 := by
  rcases bit01 x with h | h <;> rw [h] <;> decide
