/-! holds: what it counts -/
def zAcc (a : Int) (f : Int → Int) : Nat → Int
  | 0 => a
  | n + 1 => zAcc a f n + f n
theorem zAcc_sum (a : Int) (f : Int → Int) : ∀ n : Nat, zAcc a f n = a + zSum f n
  | 0 => (Int.add_zero a).symm
  | n + 1 => by rw [zAcc, zSum, zAcc_sum a f n, Int.add_assoc]
theorem zAcc_step {a : Int} {f : Int → Int} {i : Int} (h : 0 ≤ i) : zAcc a f (i + 1).toNat = zAcc a f i.toNat + f i := by
  rw [show (i + 1).toNat = i.toNat + 1 by omega, zAcc, Int.toNat_of_nonneg h]
def uM (A : zNt) (i : Int) : Int := zSum (fun d => zSum (fun t => if cSt A d t ≠ -1 then 1 else 0) 6) i.toNat
def uD (A : zNt) (i : Int) : Int := zSum (fun d => zSum (fun t => if cSt A d t = 1 then 1 else 0) 6) i.toNat
def uMk (A : zNt) (i k : Int) : Int := zAcc (uM A i) (fun t => if cSt A i t ≠ -1 then 1 else 0) k.toNat
def uDk (A : zNt) (i k : Int) : Int := zAcc (uD A i) (fun t => if cSt A i t = 1 then 1 else 0) k.toNat
def uO (A : zNt) (i : Int) : Int := zSum (fun d => if cOpen A d then 1 else 0) i.toNat
def uU (A : zNt) (i : Int) : Int := zSum (fun d => if cStuck A d then 1 else 0) i.toNat
def uB (A : zNt) (i v k : Int) : Int := if zAny (fun t => decide (cSt A i t = v)) k.toNat = true then 1 else 0
def uS (A : zNt) (i k : Int) : Int := uB A i 0 k + 2 * uB A i 1 k + 4 * uB A i 2 k + 8 * uB A i 3 k
def uL (A : zNt) (i k : Int) : Int := if zAny (fun t => decide (cUp A t ∧ cSt A i t = 1)) k.toNat = true then 1 else 0
def uP (A : zNt) (i k : Int) : Int := if zAny (fun t => decide (cHelp A i t ≠ -1)) k.toNat = true then 1 else 0
def uH (A : zNt) (u v : Int) : Int := zSum (fun d => if cSt A d u = 1 then 1 else 0) v.toNat
theorem uMk_s {A : zNt} {i k : Int} (h : 0 ≤ k) : uMk A i (k + 1) = uMk A i k + if cSt A i k ≠ -1 then 1 else 0 := zAcc_step h
theorem uDk_s {A : zNt} {i k : Int} (h : 0 ≤ k) : uDk A i (k + 1) = uDk A i k + if cSt A i k = 1 then 1 else 0 := zAcc_step h
theorem uM_s {A : zNt} {i : Int} (h : 0 ≤ i) : uMk A i 6 = uM A (i + 1) := by
  unfold uMk uM
  rw [zAcc_sum, zSum_step h]; rfl
theorem uD_s {A : zNt} {i : Int} (h : 0 ≤ i) : uDk A i 6 = uD A (i + 1) := by
  unfold uDk uD
  rw [zAcc_sum, zSum_step h]; rfl
theorem uO_s {A : zNt} {i : Int} (h : 0 ≤ i) : uO A (i + 1) = uO A i + if cOpen A i then 1 else 0 := zSum_step h
theorem uU_s {A : zNt} {i : Int} (h : 0 ≤ i) : uU A (i + 1) = uU A i + if cStuck A i then 1 else 0 := zSum_step h
theorem uH_s {A : zNt} {u v : Int} (h : 0 ≤ v) : uH A u (v + 1) = uH A u v + if cSt A v u = 1 then 1 else 0 := zSum_step h
theorem zAny_s {f : Int → Bool} {k : Int} (h : 0 ≤ k) : zAny f (k + 1).toNat = true ↔ zAny f k.toNat = true ∨ f k = true := by
  rw [show (k + 1).toNat = k.toNat + 1 by omega, zAny, Int.toNat_of_nonneg h, Bool.or_eq_true]
theorem u01 {p : Prop} {i : Decidable p} : (@ite Int p i 1 0 = 0 ∧ ¬ p) ∨ (@ite Int p i 1 0 = 1 ∧ p) := by
  by_cases h : p
  · exact Or.inr ⟨if_pos h, h⟩
  · exact Or.inl ⟨if_neg h, h⟩
theorem uB_01 (A : zNt) (i v k : Int) : uB A i v k = 0 ∨ uB A i v k = 1 := by unfold uB; exact zB01
theorem uL_01 (A : zNt) (i k : Int) : uL A i k = 0 ∨ uL A i k = 1 := by unfold uL; exact zB01
theorem uP_01 (A : zNt) (i k : Int) : uP A i k = 0 ∨ uP A i k = 1 := by unfold uP; exact zB01
theorem uB_s {A : zNt} {i v k : Int} (h : 0 ≤ k) : uB A i v (k + 1) = if cSt A i k = v then 1 else uB A i v k := by
  unfold uB
  by_cases z : cSt A i k = v
  · rw [if_pos z, if_pos ((zAny_s h).mpr (Or.inr (decide_eq_true z)))]
  · rw [if_neg z]
    by_cases y : zAny (fun t => decide (cSt A i t = v)) k.toNat = true
    · rw [if_pos y, if_pos ((zAny_s h).mpr (Or.inl y))]
    · rw [if_neg y, if_neg (fun q => by
        rcases (zAny_s h).mp q with q | q
        · exact y q
        · exact z (of_decide_eq_true q))]
theorem or_SI {a b c d : Int} (ha : a = 0 ∨ a = 1) (hb : b = 0 ∨ b = 1) (hc : c = 0 ∨ c = 1) (hd : d = 0 ∨ d = 1) : zOr (a + 2 * b + 4 * c + 8 * d) 0 = a + 2 * b + 4 * c + 8 * d ∧ zOr (a + 2 * b + 4 * c + 8 * d) (zShl 1 0) = 1 + 2 * b + 4 * c + 8 * d ∧ zOr (a + 2 * b + 4 * c + 8 * d) (zShl 1 1) = a + 2 * 1 + 4 * c + 8 * d ∧ zOr (a + 2 * b + 4 * c + 8 * d) (zShl 1 2) = a + 2 * b + 4 * 1 + 8 * d ∧ zOr (a + 2 * b + 4 * c + 8 * d) (zShl 1 3) = a + 2 * b + 4 * c + 8 * 1 := by
  rcases ha with rfl | rfl <;> rcases hb with rfl | rfl <;> rcases hc with rfl | rfl <;> rcases hd with rfl | rfl <;> exact ⟨by decide +kernel, by decide +kernel, by decide +kernel, by decide +kernel, by decide +kernel⟩
theorem uS_n {A : zNt} {i k : Int} (h : 0 ≤ k) (hs : cSt A i k < 0) : zOr (uS A i k) 0 = uS A i (k + 1) := by
  unfold uS
  rw [(or_SI (uB_01 A i 0 k) (uB_01 A i 1 k) (uB_01 A i 2 k) (uB_01 A i 3 k)).1, uB_s h, uB_s h, uB_s h, uB_s h, if_neg (by omega), if_neg (by omega), if_neg (by omega), if_neg (by omega)]
theorem uS_p {A : zNt} {i k : Int} (h : 0 ≤ k) (hs : 0 ≤ cSt A i k) (hs3 : cSt A i k ≤ 3) : zOr (uS A i k) (zShl 1 (cSt A i k)) = uS A i (k + 1) := by
  unfold uS
  have q := or_SI (uB_01 A i 0 k) (uB_01 A i 1 k) (uB_01 A i 2 k) (uB_01 A i 3 k)
  rw [uB_s h, uB_s h, uB_s h, uB_s h]
  rcases (show cSt A i k = 0 ∨ cSt A i k = 1 ∨ cSt A i k = 2 ∨ cSt A i k = 3 by omega) with z | z | z | z <;> rw [z]
  · rw [q.2.1]; simp
  · rw [q.2.2.1]; simp
  · rw [q.2.2.2.1]; simp
  · rw [q.2.2.2.2]; simp
theorem uL_t {A : zNt} {i k : Int} (h : 0 ≤ k) (q : uL A i k ≠ 0 ∨ (cUp A k ∧ cSt A i k = 1)) : uL A i (k + 1) = 1 := by
  unfold uL at q ⊢
  refine if_pos ((zAny_s h).mpr ?_)
  rcases q with q | q
  · rcases u01 (p := zAny (fun t => decide (cUp A t ∧ cSt A i t = 1)) k.toNat = true) with z | z
    · exact absurd z.1 q
    · exact Or.inl z.2
  · exact Or.inr (decide_eq_true q)
theorem uL_f {A : zNt} {i k : Int} (h : 0 ≤ k) (q : uL A i k = 0) (q2 : ¬ (cUp A k ∧ cSt A i k = 1)) : uL A i (k + 1) = 0 := by
  unfold uL at q ⊢
  refine if_neg (fun z => ?_)
  rcases (zAny_s h).mp z with z | z
  · rw [if_pos z] at q; exact absurd q (by decide)
  · exact q2 (of_decide_eq_true z)
theorem uP_t {A : zNt} {i k : Int} (h : 0 ≤ k) (q : uP A i k ≠ 0 ∨ cHelp A i k ≠ -1) : uP A i (k + 1) = 1 := by
  unfold uP at q ⊢
  refine if_pos ((zAny_s h).mpr ?_)
  rcases q with q | q
  · rcases u01 (p := zAny (fun t => decide (cHelp A i t ≠ -1)) k.toNat = true) with z | z
    · exact absurd z.1 q
    · exact Or.inl z.2
  · exact Or.inr (decide_eq_true q)
theorem uP_f {A : zNt} {i k : Int} (h : 0 ≤ k) (q : uP A i k = 0) (q2 : cHelp A i k = -1) : uP A i (k + 1) = 0 := by
  unfold uP at q ⊢
  refine if_neg (fun z => ?_)
  rcases (zAny_s h).mp z with z | z
  · rw [if_pos z] at q; exact absurd q (by decide)
  · exact (of_decide_eq_true z) q2
theorem uB_has {A : zNt} {i v : Int} (h : uB A i v 6 = 1) : ∃ s : Int, 0 ≤ s ∧ s < 6 ∧ cSt A i s = v := by
  unfold uB at h
  rcases u01 (p := zAny (fun t => decide (cSt A i t = v)) (6 : Int).toNat = true) with z | z
  · rw [z.1] at h; exact absurd h (by decide)
  · obtain ⟨s, hs, e⟩ := zAny_iff.mp z.2
    have hs2 : s < 6 := hs
    exact ⟨s, by omega, by omega, of_decide_eq_true e⟩
theorem uB_of {A : zNt} {i v s : Int} (h0 : 0 ≤ s) (h1 : s < 6) (h : cSt A i s = v) : uB A i v 6 = 1 := by
  unfold uB
  exact if_pos (zAny_hit (n := 6) h0 h1 (decide_eq_true h))
theorem and_SI {a b c d : Int} (ha : a = 0 ∨ a = 1) (hb : b = 0 ∨ b = 1) (hc : c = 0 ∨ c = 1) (hd : d = 0 ∨ d = 1) : (zAnd (a + 2 * b + 4 * c + 8 * d) 3 = 0 ↔ a = 0 ∧ b = 0) ∧ (zAnd (a + 2 * b + 4 * c + 8 * d) 12 = 12 ↔ c = 1 ∧ d = 1) ∧ (zAnd (a + 2 * b + 4 * c + 8 * d) 9 = 0 ↔ a = 0 ∧ d = 0) ∧ (zAnd (a + 2 * b + 4 * c + 8 * d) 4 = 0 ↔ c = 0) := by
  rcases ha with rfl | rfl <;> rcases hb with rfl | rfl <;> rcases hc with rfl | rfl <;> rcases hd with rfl | rfl <;> exact ⟨by decide +kernel, by decide +kernel, by decide +kernel, by decide +kernel⟩
theorem uS_open (A : zNt) (i : Int) : zAnd (uS A i 6) 3 = 0 ↔ ¬ cOpen A i := by
  unfold uS
  rw [(and_SI (uB_01 A i 0 6) (uB_01 A i 1 6) (uB_01 A i 2 6) (uB_01 A i 3 6)).1]
  constructor
  · rintro ⟨a, b⟩ h
    obtain ⟨s, hs, e⟩ := zAny_iff.mp h
    have e2 := of_decide_eq_true e
    rcases e2 with e2 | e2
    · rw [uB_of (by omega) (by omega) e2] at a; exact absurd a (by decide)
    · rw [uB_of (by omega) (by omega) e2] at b; exact absurd b (by decide)
  · intro h
    refine ⟨?_, ?_⟩
    · rcases uB_01 A i 0 6 with z | z
      · exact z
      · obtain ⟨s, a, b, e⟩ := uB_has z
        exact absurd (zAny_hit (n := 6) a b (decide_eq_true (Or.inl e))) h
    · rcases uB_01 A i 1 6 with z | z
      · exact z
      · obtain ⟨s, a, b, e⟩ := uB_has z
        exact absurd (zAny_hit (n := 6) a b (decide_eq_true (Or.inr e))) h
theorem uS_end {A : zNt} (j : jN A) {i : Int} (hi : cHas A i) : zAnd (uS A i 6) 12 ≠ 12 ∧ (cDec A i = 2 → zAnd (uS A i 6) 9 = 0) ∧ (zAnd (uS A i 6) 4 ≠ 0 → cDec A i = 2) ∧ (cDec A i = 0 ∨ cDec A i = 2 ∨ cDec A i = 3) := by
  have q := and_SI (uB_01 A i 0 6) (uB_01 A i 1 6) (uB_01 A i 2 6) (uB_01 A i 3 6)
  have hC := j.2.2.1
  have two : uB A i 2 6 = 1 → cDec A i = 2 := fun z => by
    obtain ⟨s, a, b, e⟩ := uB_has z
    exact (hC i s).2.2 e
  have n03 : cDec A i = 2 → uB A i 0 6 = 0 ∧ uB A i 3 6 = 0 := fun h => by
    refine ⟨?_, ?_⟩
    · rcases uB_01 A i 0 6 with z | z
      · exact z
      · obtain ⟨s, a, b, e⟩ := uB_has z
        exact absurd e ((hC i s).2.1 h).1
    · rcases uB_01 A i 3 6 with z | z
      · exact z
      · obtain ⟨s, a, b, e⟩ := uB_has z
        exact absurd e ((hC i s).2.1 h).2
  refine ⟨fun h => ?_, fun h => ?_, fun h => ?_, ?_⟩
  · have z := q.2.1.mp h
    have z2 := n03 (two z.1)
    omega
  · exact q.2.2.1.mpr (n03 h)
  · refine two ?_
    rcases uB_01 A i 2 6 with z | z
    · exact absurd (q.2.2.2.mpr z) h
    · exact z
  · have h1 := rg_dc j.1 i
    have h2 := (hC i 0).1
    have h3 : cDec A i ≠ -1 := fun z => by
      have hn := ok_n j.1
      have a := hi.1; have b := hi.2
      have h4 := ok_dc j.1 (d := i.toNat) (by omega)
      unfold cDec at z
      rw [if_pos hi] at z
      omega
    omega
theorem uU_iff (A : zNt) (i : Int) : cStuck A i ↔ uL A i 6 ≠ 0 ∧ uP A i 6 = 0 := by
  unfold uL uP
  show (zAny (fun s => decide (cHelp A i s ≠ -1)) 6 = false ∧ zAny (fun s => decide (cUp A s ∧ cSt A i s = 1)) 6 = true) ↔ (if zAny (fun t => decide (cUp A t ∧ cSt A i t = 1)) 6 = true then (1 : Int) else 0) ≠ 0 ∧ (if zAny (fun t => decide (cHelp A i t ≠ -1)) 6 = true then (1 : Int) else 0) = 0
  cases zAny (fun s => decide (cHelp A i s ≠ -1)) 6 <;> cases zAny (fun s => decide (cUp A s ∧ cSt A i s = 1)) 6 <;> decide
theorem zFind_all {f : Int → Bool} : ∀ {n : Nat}, zFind f n = -1 → ∀ i : Nat, i < n → f i = false
  | 0, _, i, hi => by omega
  | n + 1, h, i, hi => by
    rw [zFind] at h
    by_cases z : zFind f n ≠ -1
    · rw [if_pos z] at h; exact absurd h z
    · rw [if_neg z] at h
      by_cases y : f n = true
      · rw [if_pos y] at h; omega
      · by_cases e : i = n
        · rw [e]; exact Bool.eq_false_iff.mpr y
        · exact zFind_all (Decidable.not_not.mp z) i (by omega)
theorem help_lead {A : zNt} {d s : Int} (h1 : cSt A d s = 1) (hu : cUp A s) (hl : cUp A (cLead A d)) (hne : s ≠ cLead A d) : cHelp A d s ≠ -1 := fun z => by
  have l0 := hl.1
  have l6 := hl.2.1
  have q := zFind_all z (cLead A d).toNat (by omega)
  rw [Int.toNat_of_nonneg l0] at q
  exact of_decide_eq_false q ⟨Or.inl rfl, hne, hu, hl, h1⟩
theorem pat_ok {A : zNt} (ok : cOk A) (d s : Int) : (cSt A d s = 1 → 1 ≤ cPat A d s ∧ cPat A d s ≤ 20) ∧ (cSt A d s ≠ 1 → cPat A d s = -1) := by
  refine ⟨fun h => ?_, fun h => if_neg h⟩
  have hin := cSt_in (N := A) (d := d) (s := s) (by omega)
  have hn := ok_n ok
  unfold cPat
  rw [if_pos h]
  unfold cSt at h
  rw [if_pos hin] at h
  exact ⟨ok_p1 ok (by omega) h, (ok_pt ok (by omega)).2⟩
/-- the items that a site holds are one for each deal -/
theorem bit_it : ∀ x : Nat, x < 1024 → ∀ i : Nat, i < 10 → zAnd (zShr x i) 1 = 0 → (0 ≤ zOr x (zShl 1 i) ∧ zOr x (zShl 1 i) < 1024) ∧ mBits (zOr x (zShl 1 i)) 10 = mBits x 10 + 1 := by decide +kernel
theorem bit_w0 : ∀ x : Nat, x < 1024 → ∀ i : Nat, i < 10 → zAnd (zShr (zOr x (zShl 1 i)) 0) 1 = if 0 = i then 1 else zAnd (zShr x 0) 1 := by decide +kernel
theorem bit_w1 : ∀ x : Nat, x < 1024 → ∀ i : Nat, i < 10 → zAnd (zShr (zOr x (zShl 1 i)) 1) 1 = if 1 = i then 1 else zAnd (zShr x 1) 1 := by decide +kernel
theorem bit_w2 : ∀ x : Nat, x < 1024 → ∀ i : Nat, i < 10 → zAnd (zShr (zOr x (zShl 1 i)) 2) 1 = if 2 = i then 1 else zAnd (zShr x 2) 1 := by decide +kernel
theorem bit_w3 : ∀ x : Nat, x < 1024 → ∀ i : Nat, i < 10 → zAnd (zShr (zOr x (zShl 1 i)) 3) 1 = if 3 = i then 1 else zAnd (zShr x 3) 1 := by decide +kernel
theorem bit_w4 : ∀ x : Nat, x < 1024 → ∀ i : Nat, i < 10 → zAnd (zShr (zOr x (zShl 1 i)) 4) 1 = if 4 = i then 1 else zAnd (zShr x 4) 1 := by decide +kernel
theorem bit_w5 : ∀ x : Nat, x < 1024 → ∀ i : Nat, i < 10 → zAnd (zShr (zOr x (zShl 1 i)) 5) 1 = if 5 = i then 1 else zAnd (zShr x 5) 1 := by decide +kernel
theorem bit_w6 : ∀ x : Nat, x < 1024 → ∀ i : Nat, i < 10 → zAnd (zShr (zOr x (zShl 1 i)) 6) 1 = if 6 = i then 1 else zAnd (zShr x 6) 1 := by decide +kernel
theorem bit_w7 : ∀ x : Nat, x < 1024 → ∀ i : Nat, i < 10 → zAnd (zShr (zOr x (zShl 1 i)) 7) 1 = if 7 = i then 1 else zAnd (zShr x 7) 1 := by decide +kernel
theorem bit_w8 : ∀ x : Nat, x < 1024 → ∀ i : Nat, i < 10 → zAnd (zShr (zOr x (zShl 1 i)) 8) 1 = if 8 = i then 1 else zAnd (zShr x 8) 1 := by decide +kernel
theorem bit_w9 : ∀ x : Nat, x < 1024 → ∀ i : Nat, i < 10 → zAnd (zShr (zOr x (zShl 1 i)) 9) 1 = if 9 = i then 1 else zAnd (zShr x 9) 1 := by decide +kernel
theorem bit_i2 (x : Nat) (hx : x < 1024) (i : Nat) (hi : i < 10) (w : Nat) (hw : w < 10) : zAnd (zShr (zOr x (zShl 1 i)) w) 1 = if w = i then 1 else zAnd (zShr x w) 1 := match w, hw with
  | 0, _ => bit_w0 x hx i hi
  | 1, _ => bit_w1 x hx i hi
  | 2, _ => bit_w2 x hx i hi
  | 3, _ => bit_w3 x hx i hi
  | 4, _ => bit_w4 x hx i hi
  | 5, _ => bit_w5 x hx i hi
  | 6, _ => bit_w6 x hx i hi
  | 7, _ => bit_w7 x hx i hi
  | 8, _ => bit_w8 x hx i hi
  | 9, _ => bit_w9 x hx i hi
  | w + 10, h => absurd h (by omega)
theorem held_ok {A : zNt} (j : jN A) {s : Int} : ∀ n : Nat, (n : Int) ≤ A 0 0 → (0 ≤ cHeld A s n ∧ cHeld A s n < 1024) ∧ (∀ w : Nat, w < 10 → zAnd (zShr (cHeld A s n) w) 1 ≠ 0 → ∃ d : Nat, d < n ∧ cSt A d s = 1 ∧ A 2 d = w) ∧ mBits (cHeld A s n) 10 = zSum (fun d => if cSt A d s = 1 then 1 else 0) n
  | 0, _ => ⟨⟨Int.le_refl 0, by show (0 : Int) < 1024; decide⟩, fun w hw h => by
      have e : ∀ w : Nat, w < 10 → zAnd (zShr 0 w) 1 = 0 := by decide +kernel
      exact absurd (e w hw) h, by show mBits 0 10 = 0; decide +kernel⟩
  | n + 1, hn => by
    have ih := held_ok j (s := s) n (by omega)
    have hnn := ok_n j.1
    rw [cHeld, zSum]
    by_cases z : cSt A n s = 1
    · rw [if_pos z, if_pos z]
      have hit := ok_it j.1 (d := n) (by omega)
      have hx := ih.1
      have b0 : zAnd (zShr (cHeld A s n) (A 2 n)) 1 = 0 := by
        apply Classical.byContradiction
        intro y
        have y2 : zAnd (zShr (cHeld A s n) ((A 2 n).toNat : Nat)) 1 ≠ 0 := by rw [Int.toNat_of_nonneg hit.1]; exact y
        obtain ⟨d, hd, e1, e2⟩ := ih.2.1 (A 2 n).toNat (by omega) y2
        exact j.2.2.2.1 d n s (by omega) e1 z (by rw [Int.toNat_natCast, Int.toNat_natCast, e2]; omega)
      have q1 := bit_it (cHeld A s n).toNat (by omega) (A 2 n).toNat (by omega) (by rw [Int.toNat_of_nonneg hx.1, Int.toNat_of_nonneg hit.1]; exact b0)
      rw [Int.toNat_of_nonneg hx.1, Int.toNat_of_nonneg hit.1] at q1
      refine ⟨q1.1, fun w hw h => ?_, by rw [q1.2, ih.2.2]⟩
      have q2 := bit_i2 (cHeld A s n).toNat (by omega) (A 2 n).toNat (by omega) w hw
      rw [Int.toNat_of_nonneg hx.1, Int.toNat_of_nonneg hit.1] at q2
      rw [q2] at h
      by_cases y : w = (A 2 n).toNat
      · exact ⟨n, by omega, z, by omega⟩
      · rw [if_neg y] at h
        obtain ⟨d, hd, e1, e2⟩ := ih.2.1 w hw h
        exact ⟨d, by omega, e1, e2⟩
    · rw [if_neg z, if_neg z, Int.add_zero]
      refine ⟨ih.1, fun w hw h => ?_, ih.2.2⟩
      obtain ⟨d, hd, e1, e2⟩ := ih.2.1 w hw h
      exact ⟨d, by omega, e1, e2⟩
theorem held_bits {A : zNt} (j : jN A) (s : Int) : mBits (cHeld A s (A 0 0).toNat) 10 = uH A s (A 0 0) := (held_ok j (s := s) (A 0 0).toNat (by have := ok_n j.1; omega)).2.2
theorem stuck_le (A : zNt) (i : Int) : uU A i ≤ uO A i := by
  unfold uU uO
  have key : ∀ n : Nat, zSum (fun d => if cStuck A d then (1 : Int) else 0) n ≤ zSum (fun d => if cOpen A d then (1 : Int) else 0) n := fun n => by
    induction n with
    | zero => exact Int.le_refl _
    | succ n ih =>
      rw [zSum, zSum]
      have h : (if cStuck A n then (1 : Int) else 0) ≤ (if cOpen A n then (1 : Int) else 0) := by
        by_cases z : cStuck A n
        · have o : cOpen A n := by
            obtain ⟨s, hs, e⟩ := zAny_iff.mp z.2
            exact zAny_iff.mpr ⟨s, hs, decide_eq_true (Or.inr (of_decide_eq_true e).2)⟩
          rw [if_pos z, if_pos o]; exact Int.le_refl _
        · rw [if_neg z]; split <;> decide
      omega
  exact key _
theorem mem_6 (A : zNt) (d : Int) : ∀ n : Nat, zSum (fun t => if cSt A d t ≠ -1 then (1 : Int) else 0) n = n - zSum (fun t => if cSt A d t = -1 then (1 : Int) else 0) n
  | 0 => rfl
  | n + 1 => by
    rw [zSum, zSum, mem_6 A d n]
    by_cases z : cSt A d n = -1
    · rw [if_neg (fun y => y z), if_pos z]; omega
    · rw [if_pos z, if_neg z]; omega
theorem mems_eq (A : zNt) (h : 0 ≤ A 0 0) : cMems A = uM A (A 0 0) := by
  unfold cMems cCnt uM
  have key : ∀ n : Nat, zSum (fun d => zSum (fun t => if cSt A d t ≠ -1 then (1 : Int) else 0) 6) n = n * 6 - zSum (fun d => zSum (fun t => if cSt A d t = -1 then (1 : Int) else 0) 6) n := fun n => by
    induction n with
    | zero => rfl
    | succ n ih =>
      rw [show zSum (fun d => zSum (fun t => if cSt A d t ≠ -1 then (1 : Int) else 0) 6) (n + 1) = zSum (fun d => zSum (fun t => if cSt A d t ≠ -1 then (1 : Int) else 0) 6) n + zSum (fun t => if cSt A n t ≠ -1 then (1 : Int) else 0) 6 from rfl, show zSum (fun d => zSum (fun t => if cSt A d t = -1 then (1 : Int) else 0) 6) (n + 1) = zSum (fun d => zSum (fun t => if cSt A d t = -1 then (1 : Int) else 0) 6) n + zSum (fun t => if cSt A n t = -1 then (1 : Int) else 0) 6 from rfl, ih, mem_6]
      omega
  rw [key]
  omega
theorem cmp_0 {x : UInt64} (h : FP.dIsNaN x = false) : (0 : Int) = (Op.cmpValue (FP.dcmp x x) .l).toInt := by
  rw [fp_refl h]; rfl
theorem ddiv_nn {x y : Int} (h : y ≠ 0 ∧ zB y) : FP.dIsNaN (FP.ddiv (FP.i2d (iI x)) (FP.i2d (iI y))) = false := fp_ddiv (iI_ne0 h.2 h.1)
theorem share_0 {A : zNt} (h0 : 0 ≤ A 0 0) (h : uM A (A 0 0) = 0) : (0 : Int) = (Op.cmpValue (FP.dcmp (fShare A) FP.dconst0) .l).toInt := by
  have e : fShare A = FP.dconst0 := by unfold fShare; rw [if_neg (by rw [mems_eq A h0]; omega)]
  rw [e]
  exact cmp_0 (by decide +kernel)
theorem uM_nn (A : zNt) (i : Int) : 0 ≤ uM A i := zSum_nn (fun d => (zS01 (P := fun t => cSt A d t ≠ -1) 6).1)
theorem share_1 {A : zNt} (ok : cOk A) (h : uM A (A 0 0) ≠ 0) : (0 : Int) = (Op.cmpValue (FP.dcmp (fShare A) (FP.ddiv (FP.i2d (iI (uD A (A 0 0)))) (FP.i2d (iI (uM A (A 0 0)))))) .l).toInt := by
  have h0 := (ok_n ok).1
  have hp := uM_nn A (A 0 0)
  have e : fShare A = FP.ddiv (FP.i2d (iI (uD A (A 0 0)))) (FP.i2d (iI (uM A (A 0 0)))) := by
    unfold fShare
    rw [if_pos (by rw [mems_eq A h0]; omega), mems_eq A h0]
    rfl
  rw [e]
  exact cmp_0 (ddiv_nn ⟨h, by rw [← mems_eq A h0]; exact rg_mems ok⟩)
theorem uMk_b {A : zNt} (ok : cOk A) {i k : Int} (hi : 0 ≤ i ∧ i < A 0 0) (hk : 0 ≤ k ∧ k ≤ 6) : zB (uMk A i k) ∧ zB (uDk A i k) := by
  have hn := ok_n ok
  have a1 : uM A i ≤ 6 * (i.toNat : Nat) := zSum_le (fun d _ => (zS01 (P := fun t => cSt A d t ≠ -1) 6).2)
  have a2 := uM_nn A i
  have b1 : uD A i ≤ 6 * (i.toNat : Nat) := zSum_le (fun d _ => (zS01 (P := fun t => cSt A d t = 1) 6).2)
  have b2 : 0 ≤ uD A i := zSum_nn (fun d => (zS01 (P := fun t => cSt A d t = 1) 6).1)
  have c1 := zS01 (P := fun t => cSt A i t ≠ -1) k.toNat
  have c2 := zS01 (P := fun t => cSt A i t = 1) k.toNat
  unfold uMk uDk
  rw [zAcc_sum, zAcc_sum]
  unfold zB
  omega
theorem uO_b (A : zNt) (i : Int) : 0 ≤ uO A i ∧ uO A i ≤ i.toNat := zS01 (P := fun d => cOpen A d) i.toNat
theorem uU_b (A : zNt) (i : Int) : 0 ≤ uU A i ∧ uU A i ≤ i.toNat := zS01 (P := fun d => cStuck A d) i.toNat
theorem uH_b (A : zNt) (u i : Int) : 0 ≤ uH A u i ∧ uH A u i ≤ i.toNat := zS01 (P := fun d => cSt A d u = 1) i.toNat
