/-! THE LAW'S OWN METHODS: up, cell, act -/
theorem zAnd_nn (v : Int) : 0 ≤ zAnd v 2147483647 ∧ zAnd v 2147483647 < 2147483648 := by
  refine ⟨?_, (show zB (zAnd v 2147483647) from zB_toInt _).2⟩
  have h : ((iI v &&& iI 2147483647).toBitVec).msb = false := by
    rw [Int32.toBitVec_and, BitVec.msb_and]
    have e : (iI 2147483647).toBitVec.msb = false := by decide +kernel
    rw [e, Bool.and_false]
  show 0 ≤ ((iI v &&& iI 2147483647).toBitVec).toInt
  rw [BitVec.toInt_eq_toNat_of_msb h]
  exact Int.natCast_nonneg _
def pUp (v n : Int) : Int := zAnd v 2147483647 % n
theorem rg_up (v : Int) {n : Int} (h : 0 < n) : 0 ≤ pUp v n ∧ pUp v n < n := ⟨Int.emod_nonneg _ (by omega), Int.emod_lt_of_pos _ h⟩
theorem rg_reas (N : zNt) (d s : Int) : 0 ≤ cReas N d s ∧ cReas N d s ≤ 4 := by
  unfold cReas; (repeat' split) <;> decide
set_option maxHeartbeats 4000000 in
set_option maxRecDepth 100000 in
theorem c_L_up {l : Launch} {D : va_G} {G : zG} {ad : Nat → Nat} (hJ : zInj ad) (σ : zM) {v n : Int} (hv : zB v) (hn : 0 < n ∧ zB n)  : zKI l D G ad yL_up cL_up 2 (some .int) 0 [vI v, vI n] σ (fun z σ9 => z = pUp v n ∧ σ9 = σ) := by
  intro sz
  refine z_open hJ (by decide +kernel) (Nat.le_of_ble_eq_true rfl) ?_
  intro p e s0 m args below meth c hsz X hr hlocks
  refine z_sub [(0, vI v), (1, vI n)] (zSub_cons rfl (zSub_cons rfl zSub_nil)) ?_
  refine z_iload_n X dL_up_0 rfl ?_
  refine z_ldc X (n := 2147483647) (v := 2147483647) (zU_mem 318 (by decide +kernel) (by decide +kernel)) (by decide) dL_up_1 ?_
  refine z_and X dL_up_3 (zAnd_eq v 2147483647) ?_
  refine z_iload_n X dL_up_4 rfl ?_
  refine z_iremP X (zAnd_nn v).1 (zAnd_nn v).2 hn.1 hn.2.2 dL_up_5 ?_
  exact z_iret X hsz hr hlocks dL_up_6 ⟨rfl, rfl⟩
/-- cell: some int, the script stays -/
def cPc (b L : Nat) (xs : Nat → Int32) (k : Int) (sz : Nat) : Array Value → State → Prop := va_Pc [.ref b, vI k] (fun U => U.heap.size = sz ∧ va_X b L xs U U.heap ∧ b < sz)
def cQc (sz : Nat) : Array Value → State → Outcome → State → Prop := va_Qi (fun _ (_ : Unit) => True) (fun _ _ => True) (fun q => sz ≤ q)
def kCell (l : Launch) (b L : Nat) (xs : Nat → Int32) (k : Int) : Prop := ∀ sz, Met l yL_cell (.code yL_cell cL_cell 2 (some .int) :: zU) (zRm 0) (cPc b L xs k sz) (cQc sz) 0 0 (fun q => sz ≤ q)
set_option maxHeartbeats 4000000 in
set_option maxRecDepth 100000 in
theorem c_L_cell {l : Launch} {b L : Nat} {xs : Nat → Int32} (hL : L ≤ 260) {k : Int} (hk : 0 ≤ k ∧ k < 1000) : kCell l b L xs k := by
  intro sz
  refine Met.ofW (cc := cL_cell) (maxL := 2) (ret := some .int) (by decide +kernel) rfl ?_
  intro p e s m args below meth c s₁ B hml hv
  obtain ⟨rfl, hsz, hX, hb⟩ := hv
  have hts := atoms_spec (ws := Cond.code yL_cell cL_cell 2 (some .int) :: zU) B.pre
  have hl := lv_entry [.ref b, vI k] (n := 2) (Nat.le_of_ble_eq_true rfl)
  rw [lg_entry_eq]
  subst hsz
  suffices key : ∀ ls : Array Slot, lv_has ls 2 [(0, .ref b), (1, vI k)] → W p l e (zRm 0) s m #[Value.ref b, vI k] below meth c s.heap [] 0 0 (MQ below (cQc s.heap.size) #[Value.ref b, vI k] s 0 0 (fun q => s.heap.size ≤ q)) (F0 m 0 ls []) from key _ hl
  intro ls hl
  have hS : va_S (fun q => s.heap.size ≤ q) s.heap s.heap [] := va_S.rf
  have nA : ¬ (fun q => s.heap.size ≤ q) b := Nat.not_le.mpr hb
  have fin : ∀ v : Int32, W p l e (zRm 0) s m #[Value.ref b, vI k] below meth c s.heap [] 0 0 (MQ below (cQc s.heap.size) #[Value.ref b, vI k] s 0 0 (fun q => s.heap.size ≤ q)) (F0 m 20 ls [.int v]) := fun v => W.iret B.exec B.bytes B.returns (fun t ht hW => ⟨⟨v, (), rfl, trivial, trivial⟩, hS.F ht⟩) (fun q hq => absurd hq List.not_mem_nil) dL_cell_20 B.notSynchronized
  refine lv_iload_n B.exec B.bytes dL_cell_0 rfl (zL_at hl (i := 1) rfl) ?_
  refine lv_aload_n B.exec B.bytes dL_cell_1 rfl (zL_at hl (i := 0) rfl) ?_
  refine va_slen B.exec B.bytes hX hb nA hS dL_cell_2 ?_
  have eL : Int32.ofNat L = iI (L : Int) := Int32.ofInt_eq_ofNat.symm
  refine lv_icmp_ge B.exec B.bytes dL_cell_3 (tgt := 12) (by decide) (fun _ => ?_) (fun h1 => ?_)
  · refine lv_ldc B.exec B.bytes (findClass_of_methodNamed B.named) (v := 1812433253) (hts _ (List.mem_cons_of_mem _ (zU_mem 314 (by decide +kernel) (by decide +kernel)))) dL_cell_12 ?_
    refine lv_iload_n B.exec B.bytes dL_cell_14 rfl (zL_at hl (i := 1) rfl) ?_
    refine lv_sipush B.exec B.bytes dL_cell_15 rfl ?_
    refine lv_iadd B.exec B.bytes dL_cell_18 ?_
    refine lv_imul B.exec B.bytes dL_cell_19 ?_
    exact fin _
  · have hkL : k < (L : Int) := Int.not_le.mp (fun h2 => h1 (by rw [eL]; exact (iI_le (by unfold zB; omega) (by unfold zB; omega)).mpr h2))
    refine lv_aload_n B.exec B.bytes dL_cell_6 rfl (zL_at hl (i := 0) rfl) ?_
    refine lv_iload_n B.exec B.bytes dL_cell_7 rfl (zL_at hl (i := 1) rfl) ?_
    refine va_sld B.exec B.bytes hX hb nA hS (iI_in hk.1 hkL (by omega)) dL_cell_8 ?_
    refine lv_goto B.exec B.bytes dL_cell_9 (tgt := 20) (by decide) ?_
    exact fin _
section CC
variable {p : Program} {l : Launch} {e : Env} {R : Room} {s : State} {m : MethodId} {args : Array Value} {below : List Frame} {meth : Method} {c : Code} {cc : ByteArray} {nL : Nat} {own : String} {D : va_G} {G : zG} {ad : Nat → Nat} {cells slots : Nat} {Q : State → Prop}
variable {pc : Nat} {lv : List (Nat × Value)} {st : List Value} {σ : zM}
theorem c_blind {b L : Nat} {xs : Nat → Int32} {k : Int} {sz : Nat} : FrameBlind (cPc b L xs k sz) := fun a U g mk q => by
  obtain ⟨e1, e2, e3, e4⟩ := q
  exact ⟨e1, e2, va_X.moved (Vm.Alike.refl U.vm) e3, e4⟩
theorem z_callCell (X : zX p s m args c cc nL own D G ad) {idx b L : Nat} {k : Int} {xs : Nat → Int32} (hM : kCell l b L xs k) (K : zLkS own idx yL_cell cL_cell 2 (some .int) 2) (hX : va_X b L xs s s.heap) (hbl : b < s.heap.size) (hbA : ¬ zA ad s.heap.size b) (hR : 0 + 1 ≤ R.frames ∧ 8 + (2 + 11) + 30 * 0 ≤ R.locals) (hW : (st.map fun v => v.category).sum ≤ 8) (hcs : cells + 0 ≤ R.cells ∧ slots + 0 ≤ R.slots) (dd : decode cc pc = .ok (.invokestatic idx, 3))
    (kk : ∀ z : Int, zB z → zV p l e R s m args below meth c nL D G ad cells slots Q (pc + 3) lv (vI z :: st) σ) : zV p l e R s m args below meth c nL D G ad cells slots Q pc lv (vI k :: .ref b :: st) σ :=
  fun ls H locs h hP hS => va_calli (va_runS (As := [.ref b, vI k]) (rest := st) ⟨X.1, X.2.1, X.2.2.1, X.2.2.2.1, X.2.2.2.2.1⟩ (hM H.size) (cwS 2 X.2.2.2.2.1 (zU_goodIn (zLk_all K.1)) rfl rfl rfl K.2 hR) ⟨c_blind, fun U hU hW => ⟨rfl, by rw [hU], by rw [hU]; exact va_X.moved hW.alike (hX.kept (hS.2.1 b hbl hbA)), Nat.lt_of_lt_of_le hbl hS.1⟩⟩ rfl rfl h.1 rfl (lv_room hW) dd hcs) hS (fun q h1 h2 => absurd h1 (Nat.not_lt.mpr h2)) (fun q h1 => Or.inr (Nat.le_trans hS.1 h1)) (fun r _ t H1 locs1 ht _ _ _ _ hkp hS1 => by
    have k2 := kk r.toInt (iI_rng r) ls H1 locs1 h (hP.kept (fun i q hi => hkp q.1 ((hP i q hi).lt) (Nat.not_le.mpr (hP i q hi).lt))) hS1
    rw [show vI r.toInt = Value.int r from congrArg Value.int (iI_self r)] at k2
    exact k2)
end CC
/-- what act does: the deed's answer and the net behind it -/
def pDl (A : zNt) (y : Int) : Int := pUp y (A 0 0)
def pSt (y : Int) : Int := pUp (zShr y 3) 6
def pOt (y : Int) : Int := (pSt y + 1 + pUp (zShr y 6) 5) % 6
def pMk (y : Int) : Int := zOr (zShl 3 (pUp y 5)) (pUp (zShr y 3) 64)
def pLd (y : Int) : Int := pUp (zShr y 9) 6
def pYs (y : Int) : Int := if 0 < zAnd (zShr y 9) 7 then 1 else 0
def pAr (A : zNt) (mk : Int) (n : Nat) : Prop := zAny (fun s => decide (zAnd (zShr mk s) 1 ≠ 0 ∧ ¬ cUp A s)) n = false
abbrev pAre (A : zNt) (y : Int) : Prop := (A 0 0 < 8 ∧ cUp A (pLd y)) ∧ zAny (fun s => decide (zAnd (zShr (pMk y) s) 1 ≠ 0 ∧ ¬ cUp A s)) 6 = false
def pB (A : zNt) (y : Int) : Int × zNt := if pAre A y then (cAddR A (pLd y) (zAnd (pMk y) 63), cAddN A (pLd y) (zAnd (pMk y) 63) (pUp (zShr y 12) 3)) else (A 0 3, up2 A 0 3 (1 + pUp y 20))
def pV (A : zNt) (d s y : Int) : Int × zNt := if cUp A s ∧ cSt A d s = 0 then (cVoteR A d s (pYs y), cVoteN A d s (pYs y)) else (cPassR A 1, cPassN A 1)
def pD (A : zNt) (d y : Int) : Int × zNt := if cUp A (cLead A d) ∧ cDec A d = 0 then (cDecideR A d, cDecideN A d) else (A 0 3, up2 A 0 3 (1 + pUp y 20))
def pT (A : zNt) (d s : Int) : Int × zNt := if 0 ≤ cSt A d s ∧ cUp A s ∧ cUp A (cLead A d) ∧ 0 < cDec A d then (cTellR A d s, cTellN A d s) else (cPassR A 1, cPassN A 1)
def pK (A : zNt) (d s o : Int) : Int × zNt := if cSt A d s = 1 ∧ cUp A s ∧ cUp A o then (cAskR A d s o, cAskN A d s o) else (cPassR A 2, cPassN A 2)
def pX (A : zNt) (s : Int) : Int × zNt := if cUp A s then (cSilR A s, cSilN A s) else (cWkR A s, cWkN A s)
def pAct (A : zNt) (x y : Int) : Int × zNt :=
  if A 0 0 = 0 ∨ pUp x 20 < 2 then pB A y
  else if pUp x 20 < 9 then pV A (pDl A y) (pSt y) y
  else if pUp x 20 < 11 then pD A (pDl A y) y
  else if pUp x 20 < 14 then pT A (pDl A y) (pSt y)
  else if pUp x 20 < 16 then pK A (pDl A y) (pSt y) (pOt y)
  else if pUp x 20 < 18 then pX A (pSt y)
  else (cPassR A (1 + pUp y 20), cPassN A (1 + pUp y 20))
/-- masks -/
theorem mk_63 : ∀ a : Nat, a < 5 → ∀ b : Nat, b < 64 → (1 ≤ zAnd (zOr (zShl 3 a) b) 63 ∧ zAnd (zOr (zShl 3 a) b) 63 ≤ 63 ∧ 2 ≤ mBits (zAnd (zOr (zShl 3 a) b) 63) 6) ∧ ∀ s : Nat, s < 6 → zAnd (zShr (zAnd (zOr (zShl 3 a) b) 63) s) 1 = zAnd (zShr (zOr (zShl 3 a) b) s) 1 := by decide +kernel
theorem mk_in : ∀ m : Nat, m < 64 → ∀ u : Nat, u < 64 → (∀ s : Nat, s < 6 → zAnd (zShr m s) 1 = 0 ∨ zAnd (zShr u s) 1 ≠ 0) → zAnd u m = m := by decide +kernel
theorem mk_orb : ∀ m : Nat, m < 64 → ∀ u : Nat, u < 64 → ∀ ld : Nat, ld < 6 → (decide (zAnd u m = m ∧ zAnd (zShr u ld) 1 ≠ 0) && !decide (zAnd u (zOr m (zShl 1 ld)) = zOr m (zShl 1 ld))) = false := by decide +kernel
theorem mk_or (m : Nat) (hm : m < 64) (u : Nat) (hu : u < 64) (ld : Nat) (hl : ld < 6) (h1 : zAnd u m = m) (h2 : zAnd (zShr u ld) 1 ≠ 0) : zAnd u (zOr m (zShl 1 ld)) = zOr m (zShl 1 ld) := by
  have q := mk_orb m hm u hu ld hl
  rw [decide_eq_true (show zAnd u m = m ∧ zAnd (zShr u ld) 1 ≠ 0 from ⟨h1, h2⟩), Bool.true_and] at q
  exact of_decide_eq_true (by rw [← Bool.not_not (decide _), q]; rfl)
theorem pMk_ok (y : Int) : 1 ≤ zAnd (pMk y) 63 ∧ zAnd (pMk y) 63 ≤ 63 ∧ 2 ≤ mBits (zAnd (pMk y) 63) 6 := by
  have h1 := rg_up y (n := 5) (by decide)
  have h2 := rg_up (zShr y 3) (n := 64) (by decide)
  have q := (mk_63 (pUp y 5).toNat (by omega) (pUp (zShr y 3) 64).toNat (by omega)).1
  rw [Int.toNat_of_nonneg h1.1, Int.toNat_of_nonneg h2.1] at q
  exact q
theorem pMk_can {A : zNt} (ok : cOk A) {y : Int} (h : pAre A y) : cCanBegin A (pLd y) (zAnd (pMk y) 63) := by
  have h1 := rg_up y (n := 5) (by decide)
  have h2 := rg_up (zShr y 3) (n := 64) (by decide)
  have h3 := rg_up (zShr y 9) (n := 6) (by decide)
  have hu := ok_up ok
  have hm := pMk_ok y
  have q := (mk_63 (pUp y 5).toNat (by omega) (pUp (zShr y 3) 64).toNat (by omega)).2
  rw [Int.toNat_of_nonneg h1.1, Int.toNat_of_nonneg h2.1] at q
  have k1 := mk_in (zAnd (pMk y) 63).toNat (by omega) (A 0 1).toNat (by omega) (fun s hs => by
    rw [Int.toNat_of_nonneg (show 0 ≤ zAnd (pMk y) 63 by omega), Int.toNat_of_nonneg hu.1]
    have z := of_decide_eq_false (zAny_lt h.2 hs)
    have qs := q s hs
    by_cases w : zAnd (zShr (zAnd (pMk y) 63) s) 1 = 0
    · exact Or.inl w
    · refine Or.inr ?_
      have w2 : zAnd (zShr (pMk y) s) 1 ≠ 0 := fun y2 => w (qs.trans y2)
      have c : cUp A s := Decidable.not_not.mp (fun y2 => z ⟨w2, y2⟩)
      exact c.2.2)
  have k2 := mk_or (zAnd (pMk y) 63).toNat (by omega) (A 0 1).toNat (by omega) (pLd y).toNat (by unfold pLd; omega) k1 (by
    rw [Int.toNat_of_nonneg hu.1, Int.toNat_of_nonneg (show 0 ≤ pLd y from h3.1)]
    exact h.1.2.2.2)
  rw [Int.toNat_of_nonneg (show 0 ≤ zAnd (pMk y) 63 by omega), Int.toNat_of_nonneg hu.1, Int.toNat_of_nonneg (show 0 ≤ pLd y from h3.1)] at k2
  exact ⟨h.1.1, k2⟩
theorem act_inv {A : zNt} {y i b2 b3 : Int} (i0 : 0 ≤ i) (hv : (b2 = 0 ∨ b2 = 1) ∧ (b2 = 1 ↔ ((A 0 0 < 8 ∧ cUp A (pLd y)) ∧ zAny (fun s => decide (zAnd (zShr (pMk y) s) 1 ≠ 0 ∧ ¬ cUp A s)) i.toNat = false))) (h : (b3 = 0 ∨ b3 = 1) ∧ (b3 = 1 ↔ (b2 = 1 ∧ ¬ (zAnd (zShr (pMk y) i) 1 ≠ 0 ∧ ¬ cUp A i)))) : (b3 = 0 ∨ b3 = 1) ∧ (b3 = 1 ↔ ((A 0 0 < 8 ∧ cUp A (pLd y)) ∧ zAny (fun s => decide (zAnd (zShr (pMk y) s) 1 ≠ 0 ∧ ¬ cUp A s)) (i + 1).toNat = false)) := by
  refine ⟨h.1, h.2.trans ?_⟩
  rw [hv.2, show (i + 1).toNat = i.toNat + 1 by omega, zAny, Int.toNat_of_nonneg i0, Bool.or_eq_false_iff, decide_eq_false_iff_not]
  exact ⟨fun q => ⟨q.1.1, q.1.2, q.2⟩, fun q => ⟨⟨q.1, q.2.1⟩, q.2.2⟩⟩
