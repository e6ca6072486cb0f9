/-! areEntries: each entry once, and the log tells the states -/
/-- v of the deal d among the first k entries -/
def nK (A : zNt) (s : Int) (k : Nat) (d v : Int) : Prop := zAny (fun i => decide (cEntry A s i = 10 * d + v)) k = true
/-- the small row after k entries -/
def nF (A : zNt) (s : Int) (k : Nat) (f : Nat → Int) : Prop := ∀ d : Nat, d < 8 → (0 ≤ f d ∧ f d < 128) ∧ ∀ v : Nat, v < 7 → (zAnd (zShr (f d) v) 1 = 0 ∨ zAnd (zShr (f d) v) 1 = 1) ∧ (zAnd (zShr (f d) v) 1 = 1 ↔ nK A s k d v)
theorem or_bit : ∀ a : Nat, a < 128 → ∀ v : Nat, v < 7 → (0 ≤ zOr a (zShl 1 v) ∧ zOr a (zShl 1 v) < 128) ∧ ∀ w : Nat, w < 7 → zAnd (zShr (zOr a (zShl 1 v)) w) 1 = if w = v then 1 else zAnd (zShr a w) 1 := by decide +kernel
theorem nF_0 (A : zNt) (s : Int) : nF A s 0 (fun _ => 0) := fun d _ => ⟨⟨Int.le_refl 0, by show (0 : Int) < 128; decide⟩, fun v hv => by
  have e : ∀ v : Nat, v < 7 → zAnd (zShr 0 v) 1 = 0 := by decide +kernel
  rw [e v hv]
  exact ⟨Or.inl rfl, fun q => absurd q (by decide), fun q => absurd q Bool.false_ne_true⟩⟩
theorem nK_s {A : zNt} {s k d v : Int} (h : 0 ≤ k) : nK A s (k + 1).toNat d v ↔ nK A s k.toNat d v ∨ cEntry A s k = 10 * d + v := by
  unfold nK
  rw [show (k + 1).toNat = k.toNat + 1 by omega, zAny, Int.toNat_of_nonneg h, Bool.or_eq_true, decide_eq_true_iff]
/-- an entry, taken apart -/
theorem en_ok {A : zNt} (j : jN A) {s k : Int} (hs : 0 ≤ s ∧ s < 6) (h0 : 0 ≤ k) (h1 : k < cEnt A s) : (0 ≤ cEntry A s k / 10 ∧ cEntry A s k / 10 < A 0 0) ∧ (1 ≤ cEntry A s k % 10 ∧ cEntry A s k % 10 < 7 ∧ cEntry A s k % 10 ≠ 4) ∧ (0 ≤ cEntry A s k ∧ cEntry A s k < 100) ∧ ¬ nK A s k.toNat (cEntry A s k / 10) (cEntry A s k % 10) := by
  have hl := j.2.2.2.2 s hs.1 hs.2
  obtain ⟨d, v, e, p⟩ := hl.2.1 k h0 h1
  have hv := lP_v p
  have hd0 := p.1.1
  have hd1 := p.1.2
  have hn := ok_n j.1
  refine ⟨by omega, by omega, by omega, fun q => ?_⟩
  obtain ⟨i, hi, q2⟩ := zAny_iff.mp q
  have q3 := of_decide_eq_true q2
  have q4 : cEntry A s (i : Int) = cEntry A s k := by omega
  exact hl.1 i k (by omega) (by omega) h1 q4
theorem nF_s {A : zNt} (j : jN A) {s k : Int} {f : Nat → Int} (hs : 0 ≤ s ∧ s < 6) (h0 : 0 ≤ k) (h1 : k < cEnt A s) (hf : nF A s k.toNat f) : nF A s (k + 1).toNat (fun i => if i = (cEntry A s k / 10 % 8).toNat then zOr (f (cEntry A s k / 10 % 8).toNat) (zShl 1 (cEntry A s k % 10)) else f i) := by
  have hn := ok_n j.1
  obtain ⟨e1, e2, e3, -⟩ := en_ok j hs h0 h1
  intro d hd
  generalize hq : cEntry A s k / 10 = q at e1
  generalize hw : cEntry A s k % 10 = w at e2
  have e8 : (q % 8).toNat = q.toNat := by omega
  show (0 ≤ (if d = (q % 8).toNat then zOr (f (q % 8).toNat) (zShl 1 w) else f d) ∧ (if d = (q % 8).toNat then zOr (f (q % 8).toNat) (zShl 1 w) else f d) < 128) ∧ ∀ v : Nat, v < 7 → (zAnd (zShr (if d = (q % 8).toNat then zOr (f (q % 8).toNat) (zShl 1 w) else f d) v) 1 = 0 ∨ zAnd (zShr (if d = (q % 8).toNat then zOr (f (q % 8).toNat) (zShl 1 w) else f d) v) 1 = 1) ∧ (zAnd (zShr (if d = (q % 8).toNat then zOr (f (q % 8).toNat) (zShl 1 w) else f d) v) 1 = 1 ↔ _)
  rw [e8]
  by_cases z : d = q.toNat
  · rw [if_pos z]
    have hfd := hf q.toNat (by omega)
    have hb := or_bit (f q.toNat).toNat (by omega) w.toNat (by omega)
    rw [Int.toNat_of_nonneg hfd.1.1, Int.toNat_of_nonneg (by omega)] at hb
    refine ⟨hb.1, fun v hv => ?_⟩
    rw [hb.2 v hv]
    have hv2 := hfd.2 v hv
    rw [nK_s h0]
    by_cases y : v = w.toNat
    · rw [if_pos y]
      exact ⟨Or.inr rfl, fun _ => Or.inr (by omega), fun _ => rfl⟩
    · rw [if_neg y]
      refine ⟨hv2.1, hv2.2.trans ⟨fun g => Or.inl (by rw [z]; exact g), fun g => ?_⟩⟩
      rcases g with g | g
      · rw [z] at g; exact g
      · omega
  · rw [if_neg z]
    have hfd := hf d hd
    refine ⟨hfd.1, fun v hv => ?_⟩
    rw [nK_s h0]
    have hv2 := hfd.2 v hv
    refine ⟨hv2.1, hv2.2.trans ⟨fun g => Or.inl g, fun g => ?_⟩⟩
    rcases g with g | g
    · exact g
    · omega
/-- what the whole row tells of a deal -/
theorem nF_end {A : zNt} (j : jN A) {s d : Int} {f : Nat → Int} (hs : 0 ≤ s ∧ s < 6) (hd : 0 ≤ d ∧ d < A 0 0) (hf : nF A s (cEnt A s).toNat f) :
    ((zAnd (zShr (f d.toNat) 2) 1 = 1 ∧ cSt A d s = 2) ∨ (zAnd (zShr (f d.toNat) 2) 1 = 0 ∧ cSt A d s ≠ 2)) ∧ ((zAnd (zShr (f d.toNat) 3) 1 = 1 ∧ cSt A d s = 3) ∨ (zAnd (zShr (f d.toNat) 3) 1 = 0 ∧ cSt A d s ≠ 3)) ∧ (cSt A d s = 1 → zAnd (zShr (f d.toNat) 1) 1 = 1) ∧ ((zAnd (zShr (f d.toNat) 5) 1 = 1 ∧ cLead A d = s ∧ cDec A d = 2) ∨ (zAnd (zShr (f d.toNat) 5) 1 = 0 ∧ ¬ (cLead A d = s ∧ cDec A d = 2))) ∧ ((zAnd (zShr (f d.toNat) 6) 1 = 1 ∧ cLead A d = s ∧ cDec A d = 3) ∨ (zAnd (zShr (f d.toNat) 6) 1 = 0 ∧ ¬ (cLead A d = s ∧ cDec A d = 3))) := by
  have hn := ok_n j.1
  have hl := j.2.2.2.2 s hs.1 hs.2
  have hE := rg_ent j.1 s
  have key : ∀ v : Nat, v < 7 → 1 ≤ v → (zAnd (zShr (f d.toNat) v) 1 = 0 ∨ zAnd (zShr (f d.toNat) v) 1 = 1) ∧ (zAnd (zShr (f d.toNat) v) 1 = 1 → lP A s d v) ∧ (lQ A s d v → zAnd (zShr (f d.toNat) v) 1 = 1) := fun v hv h1 => by
    have q := (hf d.toNat (by omega)).2 v hv
    rw [Int.toNat_of_nonneg hd.1] at q
    refine ⟨q.1, fun z => ?_, fun z => q.2.mpr ?_⟩
    · obtain ⟨i, hi, e⟩ := zAny_iff.mp (q.2.mp z)
      have e1 := of_decide_eq_true e
      obtain ⟨d', v', e', p⟩ := hl.2.1 i (by omega) (by omega)
      have hv' := lP_v p
      have a1 : d' = d := by omega
      have a2 : v' = v := by omega
      rw [a1, a2] at p
      exact p
    · obtain ⟨i, a, b, e⟩ := hl.2.2 d v z
      exact zAny_hit (n := cEnt A s) a b (decide_eq_true e)
  have hc : cHas A d := hd
  have k1 := key 1 (by decide) (by decide)
  have k2 := key 2 (by decide) (by decide)
  have k3 := key 3 (by decide) (by decide)
  have k5 := key 5 (by decide) (by decide)
  have k6 := key 6 (by decide) (by decide)
  have c2 : lP A s d (2 : Nat) → cSt A d s = 2 := fun p => by have := p.2; omega
  have c3 : lP A s d (3 : Nat) → cSt A d s = 3 := fun p => by have := p.2; omega
  have c5 : lP A s d (5 : Nat) → cLead A d = s ∧ cDec A d = 2 := fun p => by have := p.2; omega
  have c6 : lP A s d (6 : Nat) → cLead A d = s ∧ cDec A d = 3 := fun p => by have := p.2; omega
  refine ⟨?_, ?_, fun z => k1.2.2 ⟨hc, Or.inl ⟨rfl, z⟩⟩, ?_, ?_⟩
  · rcases k2.1 with z | z
    · exact Or.inr ⟨z, fun y => by have := k2.2.2 ⟨hc, Or.inr (Or.inl ⟨rfl, y⟩)⟩; exact absurd (z.symm.trans this) (by decide)⟩
    · exact Or.inl ⟨z, c2 (k2.2.1 z)⟩
  · rcases k3.1 with z | z
    · exact Or.inr ⟨z, fun y => by have := k3.2.2 ⟨hc, Or.inr (Or.inr (Or.inl ⟨rfl, y⟩))⟩; exact absurd (z.symm.trans this) (by decide)⟩
    · exact Or.inl ⟨z, c3 (k3.2.1 z)⟩
  · rcases k5.1 with z | z
    · exact Or.inr ⟨z, fun y => by have := k5.2.2 ⟨hc, Or.inr (Or.inr (Or.inr (Or.inl ⟨rfl, y⟩)))⟩; exact absurd (z.symm.trans this) (by decide)⟩
    · exact Or.inl ⟨z, c5 (k5.2.1 z)⟩
  · rcases k6.1 with z | z
    · exact Or.inr ⟨z, fun y => by have := k6.2.2 ⟨hc, Or.inr (Or.inr (Or.inr (Or.inr ⟨rfl, y⟩)))⟩; exact absurd (z.symm.trans this) (by decide)⟩
    · exact Or.inl ⟨z, c6 (k6.2.1 z)⟩
theorem ery_end {A : zNt} {s : Int} : cEntry A s (cEnt A s) = -1 := if_neg (fun q => by omega)
theorem rg_ery {A : zNt} (j : jN A) {s : Int} (hs : 0 ≤ s ∧ s < 6) {k : Int} (h0 : 0 ≤ k) (h1 : k ≤ cEnt A s) : zB (cEntry A s k) := by
  by_cases z : k = cEnt A s
  · rw [z, ery_end]; exact ⟨by decide, by decide⟩
  · have := (en_ok j hs h0 (by omega)).2.2.1
    unfold zB; omega
theorem nF_no {A : zNt} {t k : Int} {f : Nat → Int} (hn : 0 ≤ A 0 0 ∧ A 0 0 ≤ 8) (hf : nF A t k.toNat f) (en : (0 ≤ cEntry A t k / 10 ∧ cEntry A t k / 10 < A 0 0) ∧ (1 ≤ cEntry A t k % 10 ∧ cEntry A t k % 10 < 7 ∧ cEntry A t k % 10 ≠ 4) ∧ (0 ≤ cEntry A t k ∧ cEntry A t k < 100) ∧ ¬ nK A t k.toNat (cEntry A t k / 10) (cEntry A t k % 10)) : zAnd (zShr (f (cEntry A t k / 10).toNat) (cEntry A t k % 10)) 1 = 0 := by
  obtain ⟨e1, e2, -, e4⟩ := en
  have q := (hf (cEntry A t k / 10).toNat (by omega)).2 (cEntry A t k % 10).toNat (by omega)
  rw [Int.toNat_of_nonneg e1.1, Int.toNat_of_nonneg (show 0 ≤ cEntry A t k % 10 by omega)] at q
  rcases q.1 with z | z
  · exact z
  · exact absurd (q.2.mp z) e4
set_option maxHeartbeats 4000000 in
set_option maxRecDepth 100000 in
theorem c_L_areEntries {l : Launch} {D : va_G} {G : zG} {ad : Nat → Nat} (hJ : zInj ad) (σ : zM) (fi : fI σ) (j : jN (gA σ)) {t : Int} (ht : zB t) (hs2 : 0 ≤ t ∧ t < 6)  : zKC l D G ad yL_areEntries cL_areEntries 9 (some .boolean) 9 1 8 [.ref (ad 0), vI t] σ (fun z σ9 => z = 1 ∧ σ9 = σ) := by
  intro sz
  refine z_openC hJ (by decide +kernel) (Nat.le_of_ble_eq_true rfl) ?_
  intro p e s0 m args below meth c hsz X hr hlocks
  have hn := ok_n fi.1
  have hE := rg_ent fi.1 t
  refine z_sub [(0, .ref (ad 0)), (1, vI t)] (zSub_cons rfl (zSub_cons rfl zSub_nil)) ?_
  refine z_bipush X dL_areEntries_0 rfl ?_
  refine z_newSe X u_arI (by decide) (by decide) dL_areEntries_2 (fun q0 hge hq0 => ?_)
  refine x_astore_n X dL_areEntries_4 (by decide) ?_
  refine x_sub [(0, .ref (ad 0)), (1, vI t), (2, .ref q0)] (zSub_cons rfl (zSub_cons rfl (zSub_cons rfl zSub_nil))) ?_
  refine x_aload_n X dL_areEntries_5 rfl ?_
  refine x_iload_n X dL_areEntries_6 rfl ?_
  refine x_callVI1 X (sE_st hq0) (c_X3_logLength hJ σ fi ht ⟨by omega, by omega⟩) kL_87 rfl (by decide) rfl ⟨(Nat.le_of_ble_eq_true rfl), (Nat.le_of_ble_eq_true rfl)⟩ (Nat.le_of_ble_eq_true rfl) ⟨(Nat.le_of_ble_eq_true rfl), (Nat.le_of_ble_eq_true rfl)⟩ dL_areEntries_7 (fun z9 σ1 hz9 => ?_)
  obtain ⟨rfl, e9⟩ := hz9
  rw [e9]
  refine x_istore_n X dL_areEntries_10 (by decide) ?_
  refine x_sub [(0, .ref (ad 0)), (1, vI t), (2, .ref q0), (3, vI (cEnt (gA σ) t))] (zSub_cons rfl (zSub_cons rfl (zSub_cons rfl (zSub_cons rfl zSub_nil)))) ?_
  refine x_aload_n X dL_areEntries_11 rfl ?_
  refine x_iload_n X dL_areEntries_12 rfl ?_
  refine x_iload_n X dL_areEntries_13 rfl ?_
  refine x_callVI2 X (sE_st hq0) (c_X3_log hJ σ fi ht (zB_sm (rg_ent fi.1 _)) ⟨by omega, by omega⟩ (by omega)) kL_90 rfl (by decide) rfl ⟨(Nat.le_of_ble_eq_true rfl), (Nat.le_of_ble_eq_true rfl)⟩ (Nat.le_of_ble_eq_true rfl) ⟨(Nat.le_of_ble_eq_true rfl), (Nat.le_of_ble_eq_true rfl)⟩ dL_areEntries_14 (fun z9 σ1 hz9 => ?_)
  obtain ⟨rfl, e9⟩ := hz9
  rw [e9]
  rw [ery_end]
  refine x_iconst X dL_areEntries_17 ?_
  refine x_icmp_ne X 25 dL_areEntries_18 (by decide) ⟨by decide, by decide⟩ ⟨by decide, by decide⟩ (fun h9 => absurd h9 (by decide)) (fun _ => ?_)
  refine x_iconst X dL_areEntries_21 ?_
  refine x_goto X 26 dL_areEntries_22 (by decide) ?_
  refine x_istore X dL_areEntries_26 (by decide) ?_
  refine x_sub [(0, .ref (ad 0)), (1, vI t), (2, .ref q0), (3, vI (cEnt (gA σ) t)), (4, vI 1)] (zSub_cons rfl (zSub_cons rfl (zSub_cons rfl (zSub_cons rfl (zSub_cons rfl zSub_nil))))) ?_
  refine x_iconst X dL_areEntries_28 ?_
  refine x_istore X dL_areEntries_29 (by decide) ?_
  refine x_sub [(0, .ref (ad 0)), (1, vI t), (2, .ref q0), (3, vI (cEnt (gA σ) t)), (4, vI 1), (5, vI 0)] (zSub_cons rfl (zSub_cons rfl (zSub_cons rfl (zSub_cons rfl (zSub_cons rfl (zSub_cons rfl zSub_nil)))))) ?_
  refine x_sub [(0, .ref (ad 0)), (1, vI t), (2, .ref q0), (3, vI (cEnt (gA σ) t)), (4, vI 1), (5, vI 0)] (zSub_cons rfl (zSub_cons rfl (zSub_cons rfl (zSub_cons rfl (zSub_cons rfl (zSub_cons rfl zSub_nil)))))) ?_
  refine zFor (S := Nat → Int) (cEnt (gA σ) t) (fun k f => nF (gA σ) t k.toNat f) (fun k f => xV (sE D G q0 f) p l e (iRm 9 1 8) s0 m args below meth c 9 D G ad 1 8 (zEC below (zQI D G ad sz (fun z σ9 => z = 1 ∧ σ9 = σ)) args s0 ad 1 8) 31 [(0, .ref (ad 0)), (1, vI t), (2, .ref q0), (3, vI (cEnt (gA σ) t)), (4, vI 1), (5, vI k)] [] σ) (fun k f k0 k1 hv ih => ?_) (fun _ => 0) hE.1 (nF_0 _ _)
  refine x_iload X dL_areEntries_31 rfl ?_
  refine x_iload_n X dL_areEntries_33 rfl ?_
  refine x_icmp_ge X 131 dL_areEntries_34 (by decide) (by first | assumption | exact ⟨by decide, by decide⟩ | (unfold zB at *; omega)) (zB_sm (rg_ent fi.1 _)) (fun c_1 => ?_) (fun c_1 => ?_)
  · refine x_iconst X dL_areEntries_131 ?_
    refine x_istore X dL_areEntries_132 (by decide) ?_
    refine x_sub [(0, .ref (ad 0)), (1, vI t), (2, .ref q0), (3, vI (cEnt (gA σ) t)), (4, vI 1), (5, vI 0)] (zSub_cons rfl (zSub_cons rfl (zSub_cons rfl (zSub_cons rfl (zSub_cons rfl (zSub_cons rfl zSub_nil)))))) ?_
    have hke : k = cEnt (gA σ) t := by omega
    subst hke
    refine x_sub [(0, .ref (ad 0)), (1, vI t), (2, .ref q0), (3, vI (cEnt (gA σ) t)), (4, vI 1), (5, vI 0)] (zSub_cons rfl (zSub_cons rfl (zSub_cons rfl (zSub_cons rfl (zSub_cons rfl (zSub_cons rfl zSub_nil)))))) ?_
    refine zFor (S := Unit) (gA σ 0 0) (fun i _ => True) (fun i _ => xV (sE D G q0 f) p l e (iRm 9 1 8) s0 m args below meth c 9 D G ad 1 8 (zEC below (zQI D G ad sz (fun z σ9 => z = 1 ∧ σ9 = σ)) args s0 ad 1 8) 134 [(0, .ref (ad 0)), (1, vI t), (2, .ref q0), (3, vI (cEnt (gA σ) t)), (4, vI 1), (5, vI i)] [] σ) (fun i _ i0 i1 _ ih2 => ?_) () (by omega) trivial
    refine x_iload X dL_areEntries_134 rfl ?_
    refine x_aload_n X dL_areEntries_136 rfl ?_
    refine x_callVI0 X (sE_st hq0) (c_X3_deals hJ σ fi  ) kL_9 rfl (by decide) rfl ⟨(Nat.le_of_ble_eq_true rfl), (Nat.le_of_ble_eq_true rfl)⟩ (Nat.le_of_ble_eq_true rfl) ⟨(Nat.le_of_ble_eq_true rfl), (Nat.le_of_ble_eq_true rfl)⟩ dL_areEntries_137 (fun z9 σ1 hz9 => ?_)
    obtain ⟨rfl, e9⟩ := hz9
    rw [e9]
    refine x_icmp_ge X 299 dL_areEntries_140 (by decide) (by first | assumption | exact ⟨by decide, by decide⟩ | (unfold zB at *; omega)) (zB_sm (ok_n fi.1)) (fun c_2 => ?_) (fun c_2 => ?_)
    · refine x_iload X dL_areEntries_299 rfl ?_
      exact x_zretC X hsz hr hlocks dL_areEntries_301 (Or.inr rfl) ⟨rfl, rfl⟩
    · refine x_iload X dL_areEntries_143 rfl ?_
      refine x_if_eq X 299 dL_areEntries_145 (by decide) ⟨by decide, by decide⟩ (fun h9 => absurd h9 (by decide)) (fun _ => ?_)
      have ne := nF_end j hs2 (d := i) ⟨i0, by omega⟩ hv
      refine x_aload_n X dL_areEntries_148 rfl ?_
      refine x_iload X dL_areEntries_149 rfl ?_
      refine x_iload_n X dL_areEntries_151 rfl ?_
      refine x_callVI2 X (sE_st hq0) (c_X3_state hJ σ fi (by first | assumption | exact ⟨by decide, by decide⟩ | (unfold zB at *; omega)) ht ⟨by omega, by omega⟩ ⟨by omega, by omega⟩) kL_33 rfl (by decide) rfl ⟨(Nat.le_of_ble_eq_true rfl), (Nat.le_of_ble_eq_true rfl)⟩ (Nat.le_of_ble_eq_true rfl) ⟨(Nat.le_of_ble_eq_true rfl), (Nat.le_of_ble_eq_true rfl)⟩ dL_areEntries_152 (fun z9 σ1 hz9 => ?_)
      obtain ⟨rfl, e9⟩ := hz9
      rw [e9]
      refine x_istore X dL_areEntries_155 (by decide) ?_
      refine x_sub [(0, .ref (ad 0)), (1, vI t), (2, .ref q0), (3, vI (cEnt (gA σ) t)), (4, vI 1), (5, vI i), (6, vI (cSt (gA σ) i t))] (zSub_cons rfl (zSub_cons rfl (zSub_cons rfl (zSub_cons rfl (zSub_cons rfl (zSub_cons rfl (zSub_cons rfl zSub_nil))))))) ?_
      suffices key157 : ∀ w : Int, (zB w ∧ (w = 2 ↔ (cLead (gA σ) i = t ∧ cDec (gA σ) i = 2)) ∧ (w = 3 ↔ (cLead (gA σ) i = t ∧ cDec (gA σ) i = 3))) → xV (sE D G q0 f) p l e (iRm 9 1 8) s0 m args below meth c 9 D G ad 1 8 (zEC below (zQI D G ad sz (fun z σ9 => z = 1 ∧ σ9 = σ)) args s0 ad 1 8) 177 [(0, .ref (ad 0)), (1, vI t), (2, .ref q0), (3, vI (cEnt (gA σ) t)), (4, vI 1), (5, vI i), (6, vI (cSt (gA σ) i t))] [vI w] σ by
        refine x_aload_n X dL_areEntries_157 rfl ?_
        refine x_iload X dL_areEntries_158 rfl ?_
        refine x_callVI1 X (sE_st hq0) (c_X3_leader hJ σ fi (by first | assumption | exact ⟨by decide, by decide⟩ | (unfold zB at *; omega)) ⟨by omega, by omega⟩) kL_43 rfl (by decide) rfl ⟨(Nat.le_of_ble_eq_true rfl), (Nat.le_of_ble_eq_true rfl)⟩ (Nat.le_of_ble_eq_true rfl) ⟨(Nat.le_of_ble_eq_true rfl), (Nat.le_of_ble_eq_true rfl)⟩ dL_areEntries_160 (fun z9 σ1 hz9 => ?_)
        obtain ⟨rfl, e9⟩ := hz9
        rw [e9]
        refine x_iload_n X dL_areEntries_163 rfl ?_
        refine x_icmp_ne X 176 dL_areEntries_164 (by decide) (zB_sm (rg_ld fi.1 _)) ht (fun c_3 => ?_) (fun c_3 => ?_)
        · refine x_iconst X dL_areEntries_176 ?_
          refine x_sub [(0, .ref (ad 0)), (1, vI t), (2, .ref q0), (3, vI (cEnt (gA σ) t)), (4, vI 1), (5, vI i), (6, vI (cSt (gA σ) i t))] (zSub_cons rfl (zSub_cons rfl (zSub_cons rfl (zSub_cons rfl (zSub_cons rfl (zSub_cons rfl (zSub_cons rfl zSub_nil))))))) ?_
          exact key157 _ ⟨⟨by decide, by decide⟩, by omega, by omega⟩
        · refine x_aload_n X dL_areEntries_167 rfl ?_
          refine x_iload X dL_areEntries_168 rfl ?_
          refine x_callVI1 X (sE_st hq0) (c_X3_decision hJ σ fi (by first | assumption | exact ⟨by decide, by decide⟩ | (unfold zB at *; omega)) ⟨by omega, by omega⟩) kL_46 rfl (by decide) rfl ⟨(Nat.le_of_ble_eq_true rfl), (Nat.le_of_ble_eq_true rfl)⟩ (Nat.le_of_ble_eq_true rfl) ⟨(Nat.le_of_ble_eq_true rfl), (Nat.le_of_ble_eq_true rfl)⟩ dL_areEntries_170 (fun z9 σ1 hz9 => ?_)
          obtain ⟨rfl, e9⟩ := hz9
          rw [e9]
          refine x_goto X 177 dL_areEntries_173 (by decide) ?_
          refine x_sub [(0, .ref (ad 0)), (1, vI t), (2, .ref q0), (3, vI (cEnt (gA σ) t)), (4, vI 1), (5, vI i), (6, vI (cSt (gA σ) i t))] (zSub_cons rfl (zSub_cons rfl (zSub_cons rfl (zSub_cons rfl (zSub_cons rfl (zSub_cons rfl (zSub_cons rfl zSub_nil))))))) ?_
          exact key157 _ ⟨(zB_sm (rg_dc fi.1 _)), by omega, by omega⟩
      intro w hw
      refine x_istore X dL_areEntries_177 (by decide) ?_
      refine x_sub [(0, .ref (ad 0)), (1, vI t), (2, .ref q0), (3, vI (cEnt (gA σ) t)), (4, vI 1), (5, vI i), (6, vI (cSt (gA σ) i t)), (7, vI w)] (zSub_cons rfl (zSub_cons rfl (zSub_cons rfl (zSub_cons rfl (zSub_cons rfl (zSub_cons rfl (zSub_cons rfl (zSub_cons rfl zSub_nil)))))))) ?_
      suffices key179 : xV (sE D G q0 f) p l e (iRm 9 1 8) s0 m args below meth c 9 D G ad 1 8 (zEC below (zQI D G ad sz (fun z σ9 => z = 1 ∧ σ9 = σ)) args s0 ad 1 8) 201 [(0, .ref (ad 0)), (1, vI t), (2, .ref q0), (3, vI (cEnt (gA σ) t)), (4, vI 1), (5, vI i), (6, vI (cSt (gA σ) i t)), (7, vI w)] [] σ by
        refine x_aload_n X dL_areEntries_179 rfl ?_
        refine x_iload X dL_areEntries_180 rfl ?_
        refine x_seld X (by omega) (by omega) dL_areEntries_182 ?_
        refine x_iconst X dL_areEntries_183 ?_
        refine x_shr X dL_areEntries_184 (zShr_eq (f i.toNat) 2) ?_
        refine x_iconst X dL_areEntries_185 ?_
        refine x_and X dL_areEntries_186 (zAnd_eq (zShr (f i.toNat) 2) 1) ?_
        refine x_iload X dL_areEntries_187 rfl ?_
        refine x_iconst X dL_areEntries_189 ?_
        refine x_icmp_ne X 197 dL_areEntries_190 (by decide) (zB_sm (rg_st fi.1 _ _)) ⟨by decide, by decide⟩ (fun c_4 => ?_) (fun c_4 => ?_)
        · refine x_iconst X dL_areEntries_197 ?_
          refine x_icmp_ne X 290 dL_areEntries_198 (by decide) (zB_toInt _) ⟨by decide, by decide⟩ (fun c_5 => (by exfalso; omega)) (fun c_5 => ?_)
          refine x_sub [(0, .ref (ad 0)), (1, vI t), (2, .ref q0), (3, vI (cEnt (gA σ) t)), (4, vI 1), (5, vI i), (6, vI (cSt (gA σ) i t)), (7, vI w)] (zSub_cons rfl (zSub_cons rfl (zSub_cons rfl (zSub_cons rfl (zSub_cons rfl (zSub_cons rfl (zSub_cons rfl (zSub_cons rfl zSub_nil)))))))) ?_
          exact key179
        · refine x_iconst X dL_areEntries_193 ?_
          refine x_goto X 198 dL_areEntries_194 (by decide) ?_
          refine x_icmp_ne X 290 dL_areEntries_198 (by decide) (zB_toInt _) ⟨by decide, by decide⟩ (fun c_6 => (by exfalso; omega)) (fun c_6 => ?_)
          refine x_sub [(0, .ref (ad 0)), (1, vI t), (2, .ref q0), (3, vI (cEnt (gA σ) t)), (4, vI 1), (5, vI i), (6, vI (cSt (gA σ) i t)), (7, vI w)] (zSub_cons rfl (zSub_cons rfl (zSub_cons rfl (zSub_cons rfl (zSub_cons rfl (zSub_cons rfl (zSub_cons rfl (zSub_cons rfl zSub_nil)))))))) ?_
          exact key179
      suffices key201 : xV (sE D G q0 f) p l e (iRm 9 1 8) s0 m args below meth c 9 D G ad 1 8 (zEC below (zQI D G ad sz (fun z σ9 => z = 1 ∧ σ9 = σ)) args s0 ad 1 8) 223 [(0, .ref (ad 0)), (1, vI t), (2, .ref q0), (3, vI (cEnt (gA σ) t)), (4, vI 1), (5, vI i), (6, vI (cSt (gA σ) i t)), (7, vI w)] [] σ by
        refine x_aload_n X dL_areEntries_201 rfl ?_
        refine x_iload X dL_areEntries_202 rfl ?_
        refine x_seld X (by omega) (by omega) dL_areEntries_204 ?_
        refine x_iconst X dL_areEntries_205 ?_
        refine x_shr X dL_areEntries_206 (zShr_eq (f i.toNat) 3) ?_
        refine x_iconst X dL_areEntries_207 ?_
        refine x_and X dL_areEntries_208 (zAnd_eq (zShr (f i.toNat) 3) 1) ?_
        refine x_iload X dL_areEntries_209 rfl ?_
        refine x_iconst X dL_areEntries_211 ?_
        refine x_icmp_ne X 219 dL_areEntries_212 (by decide) (zB_sm (rg_st fi.1 _ _)) ⟨by decide, by decide⟩ (fun c_7 => ?_) (fun c_7 => ?_)
        · refine x_iconst X dL_areEntries_219 ?_
          refine x_icmp_ne X 290 dL_areEntries_220 (by decide) (zB_toInt _) ⟨by decide, by decide⟩ (fun c_8 => (by exfalso; omega)) (fun c_8 => ?_)
          refine x_sub [(0, .ref (ad 0)), (1, vI t), (2, .ref q0), (3, vI (cEnt (gA σ) t)), (4, vI 1), (5, vI i), (6, vI (cSt (gA σ) i t)), (7, vI w)] (zSub_cons rfl (zSub_cons rfl (zSub_cons rfl (zSub_cons rfl (zSub_cons rfl (zSub_cons rfl (zSub_cons rfl (zSub_cons rfl zSub_nil)))))))) ?_
          exact key201
        · refine x_iconst X dL_areEntries_215 ?_
          refine x_goto X 220 dL_areEntries_216 (by decide) ?_
          refine x_icmp_ne X 290 dL_areEntries_220 (by decide) (zB_toInt _) ⟨by decide, by decide⟩ (fun c_9 => (by exfalso; omega)) (fun c_9 => ?_)
          refine x_sub [(0, .ref (ad 0)), (1, vI t), (2, .ref q0), (3, vI (cEnt (gA σ) t)), (4, vI 1), (5, vI i), (6, vI (cSt (gA σ) i t)), (7, vI w)] (zSub_cons rfl (zSub_cons rfl (zSub_cons rfl (zSub_cons rfl (zSub_cons rfl (zSub_cons rfl (zSub_cons rfl (zSub_cons rfl zSub_nil)))))))) ?_
          exact key201
      suffices key223 : xV (sE D G q0 f) p l e (iRm 9 1 8) s0 m args below meth c 9 D G ad 1 8 (zEC below (zQI D G ad sz (fun z σ9 => z = 1 ∧ σ9 = σ)) args s0 ad 1 8) 241 [(0, .ref (ad 0)), (1, vI t), (2, .ref q0), (3, vI (cEnt (gA σ) t)), (4, vI 1), (5, vI i), (6, vI (cSt (gA σ) i t)), (7, vI w)] [] σ by
        refine x_iload X dL_areEntries_223 rfl ?_
        refine x_iconst X dL_areEntries_225 ?_
        refine x_icmp_ne X 241 dL_areEntries_226 (by decide) (zB_sm (rg_st fi.1 _ _)) ⟨by decide, by decide⟩ (fun c_10 => ?_) (fun c_10 => ?_)
        · refine x_sub [(0, .ref (ad 0)), (1, vI t), (2, .ref q0), (3, vI (cEnt (gA σ) t)), (4, vI 1), (5, vI i), (6, vI (cSt (gA σ) i t)), (7, vI w)] (zSub_cons rfl (zSub_cons rfl (zSub_cons rfl (zSub_cons rfl (zSub_cons rfl (zSub_cons rfl (zSub_cons rfl (zSub_cons rfl zSub_nil)))))))) ?_
          exact key223
        · refine x_aload_n X dL_areEntries_229 rfl ?_
          refine x_iload X dL_areEntries_230 rfl ?_
          refine x_seld X (by omega) (by omega) dL_areEntries_232 ?_
          refine x_iconst X dL_areEntries_233 ?_
          refine x_shr X dL_areEntries_234 (zShr_eq (f i.toNat) 1) ?_
          refine x_iconst X dL_areEntries_235 ?_
          refine x_and X dL_areEntries_236 (zAnd_eq (zShr (f i.toNat) 1) 1) ?_
          refine x_iconst X dL_areEntries_237 ?_
          refine x_icmp_ne X 290 dL_areEntries_238 (by decide) (zB_toInt _) ⟨by decide, by decide⟩ (fun c_11 => (by exfalso; omega)) (fun c_11 => ?_)
          refine x_sub [(0, .ref (ad 0)), (1, vI t), (2, .ref q0), (3, vI (cEnt (gA σ) t)), (4, vI 1), (5, vI i), (6, vI (cSt (gA σ) i t)), (7, vI w)] (zSub_cons rfl (zSub_cons rfl (zSub_cons rfl (zSub_cons rfl (zSub_cons rfl (zSub_cons rfl (zSub_cons rfl (zSub_cons rfl zSub_nil)))))))) ?_
          exact key223
      suffices key241 : xV (sE D G q0 f) p l e (iRm 9 1 8) s0 m args below meth c 9 D G ad 1 8 (zEC below (zQI D G ad sz (fun z σ9 => z = 1 ∧ σ9 = σ)) args s0 ad 1 8) 263 [(0, .ref (ad 0)), (1, vI t), (2, .ref q0), (3, vI (cEnt (gA σ) t)), (4, vI 1), (5, vI i), (6, vI (cSt (gA σ) i t)), (7, vI w)] [] σ by
        refine x_aload_n X dL_areEntries_241 rfl ?_
        refine x_iload X dL_areEntries_242 rfl ?_
        refine x_seld X (by omega) (by omega) dL_areEntries_244 ?_
        refine x_iconst X dL_areEntries_245 ?_
        refine x_shr X dL_areEntries_246 (zShr_eq (f i.toNat) 5) ?_
        refine x_iconst X dL_areEntries_247 ?_
        refine x_and X dL_areEntries_248 (zAnd_eq (zShr (f i.toNat) 5) 1) ?_
        refine x_iload X dL_areEntries_249 rfl ?_
        refine x_iconst X dL_areEntries_251 ?_
        refine x_icmp_ne X 259 dL_areEntries_252 (by decide) hw.1 ⟨by decide, by decide⟩ (fun c_12 => ?_) (fun c_12 => ?_)
        · refine x_iconst X dL_areEntries_259 ?_
          refine x_icmp_ne X 290 dL_areEntries_260 (by decide) (zB_toInt _) ⟨by decide, by decide⟩ (fun c_13 => (by exfalso; omega)) (fun c_13 => ?_)
          refine x_sub [(0, .ref (ad 0)), (1, vI t), (2, .ref q0), (3, vI (cEnt (gA σ) t)), (4, vI 1), (5, vI i), (6, vI (cSt (gA σ) i t)), (7, vI w)] (zSub_cons rfl (zSub_cons rfl (zSub_cons rfl (zSub_cons rfl (zSub_cons rfl (zSub_cons rfl (zSub_cons rfl (zSub_cons rfl zSub_nil)))))))) ?_
          exact key241
        · refine x_iconst X dL_areEntries_255 ?_
          refine x_goto X 260 dL_areEntries_256 (by decide) ?_
          refine x_icmp_ne X 290 dL_areEntries_260 (by decide) (zB_toInt _) ⟨by decide, by decide⟩ (fun c_14 => (by exfalso; omega)) (fun c_14 => ?_)
          refine x_sub [(0, .ref (ad 0)), (1, vI t), (2, .ref q0), (3, vI (cEnt (gA σ) t)), (4, vI 1), (5, vI i), (6, vI (cSt (gA σ) i t)), (7, vI w)] (zSub_cons rfl (zSub_cons rfl (zSub_cons rfl (zSub_cons rfl (zSub_cons rfl (zSub_cons rfl (zSub_cons rfl (zSub_cons rfl zSub_nil)))))))) ?_
          exact key241
      suffices key263 : xV (sE D G q0 f) p l e (iRm 9 1 8) s0 m args below meth c 9 D G ad 1 8 (zEC below (zQI D G ad sz (fun z σ9 => z = 1 ∧ σ9 = σ)) args s0 ad 1 8) 286 [(0, .ref (ad 0)), (1, vI t), (2, .ref q0), (3, vI (cEnt (gA σ) t)), (4, vI 1), (5, vI i), (6, vI (cSt (gA σ) i t)), (7, vI w)] [] σ by
        refine x_aload_n X dL_areEntries_263 rfl ?_
        refine x_iload X dL_areEntries_264 rfl ?_
        refine x_seld X (by omega) (by omega) dL_areEntries_266 ?_
        refine x_bipush X dL_areEntries_267 rfl ?_
        refine x_shr X dL_areEntries_269 (zShr_eq (f i.toNat) 6) ?_
        refine x_iconst X dL_areEntries_270 ?_
        refine x_and X dL_areEntries_271 (zAnd_eq (zShr (f i.toNat) 6) 1) ?_
        refine x_iload X dL_areEntries_272 rfl ?_
        refine x_iconst X dL_areEntries_274 ?_
        refine x_icmp_ne X 282 dL_areEntries_275 (by decide) hw.1 ⟨by decide, by decide⟩ (fun c_15 => ?_) (fun c_15 => ?_)
        · refine x_iconst X dL_areEntries_282 ?_
          refine x_icmp_ne X 290 dL_areEntries_283 (by decide) (zB_toInt _) ⟨by decide, by decide⟩ (fun c_16 => (by exfalso; omega)) (fun c_16 => ?_)
          refine x_sub [(0, .ref (ad 0)), (1, vI t), (2, .ref q0), (3, vI (cEnt (gA σ) t)), (4, vI 1), (5, vI i), (6, vI (cSt (gA σ) i t)), (7, vI w)] (zSub_cons rfl (zSub_cons rfl (zSub_cons rfl (zSub_cons rfl (zSub_cons rfl (zSub_cons rfl (zSub_cons rfl (zSub_cons rfl zSub_nil)))))))) ?_
          exact key263
        · refine x_iconst X dL_areEntries_278 ?_
          refine x_goto X 283 dL_areEntries_279 (by decide) ?_
          refine x_icmp_ne X 290 dL_areEntries_283 (by decide) (zB_toInt _) ⟨by decide, by decide⟩ (fun c_17 => (by exfalso; omega)) (fun c_17 => ?_)
          refine x_sub [(0, .ref (ad 0)), (1, vI t), (2, .ref q0), (3, vI (cEnt (gA σ) t)), (4, vI 1), (5, vI i), (6, vI (cSt (gA σ) i t)), (7, vI w)] (zSub_cons rfl (zSub_cons rfl (zSub_cons rfl (zSub_cons rfl (zSub_cons rfl (zSub_cons rfl (zSub_cons rfl (zSub_cons rfl zSub_nil)))))))) ?_
          exact key263
      refine x_iconst X dL_areEntries_286 ?_
      refine x_goto X 291 dL_areEntries_287 (by decide) ?_
      refine x_istore X dL_areEntries_291 (by decide) ?_
      refine x_sub [(0, .ref (ad 0)), (1, vI t), (2, .ref q0), (3, vI (cEnt (gA σ) t)), (4, vI 1), (5, vI i), (6, vI (cSt (gA σ) i t)), (7, vI w)] (zSub_cons rfl (zSub_cons rfl (zSub_cons rfl (zSub_cons rfl (zSub_cons rfl (zSub_cons rfl (zSub_cons rfl (zSub_cons rfl zSub_nil)))))))) ?_
      refine x_iinc X dL_areEntries_293 rfl (by decide) ?_
      refine x_sub [(0, .ref (ad 0)), (1, vI t), (2, .ref q0), (3, vI (cEnt (gA σ) t)), (4, vI 1), (5, vI (i + 1))] (zSub_cons rfl (zSub_cons rfl (zSub_cons rfl (zSub_cons rfl (zSub_cons rfl (zSub_cons rfl zSub_nil)))))) ?_
      refine x_goto X 134 dL_areEntries_296 (by decide) ?_
      exact ih2 (by omega) () trivial
  · refine x_iload X dL_areEntries_37 rfl ?_
    refine x_if_eq X 131 dL_areEntries_39 (by decide) ⟨by decide, by decide⟩ (fun h9 => absurd h9 (by decide)) (fun _ => ?_)
    refine x_aload_n X dL_areEntries_42 rfl ?_
    refine x_iload_n X dL_areEntries_43 rfl ?_
    refine x_iload X dL_areEntries_44 rfl ?_
    refine x_callVI2 X (sE_st hq0) (c_X3_log hJ σ fi ht (by first | assumption | exact ⟨by decide, by decide⟩ | (unfold zB at *; omega)) ⟨by omega, by omega⟩ (by omega)) kL_90 rfl (by decide) rfl ⟨(Nat.le_of_ble_eq_true rfl), (Nat.le_of_ble_eq_true rfl)⟩ (Nat.le_of_ble_eq_true rfl) ⟨(Nat.le_of_ble_eq_true rfl), (Nat.le_of_ble_eq_true rfl)⟩ dL_areEntries_46 (fun z9 σ1 hz9 => ?_)
    obtain ⟨rfl, e9⟩ := hz9
    rw [e9]
    have en := en_ok j hs2 k0 (show k < cEnt (gA σ) t by omega)
    have hnk : zAnd (zShr (f (cEntry (gA σ) t k / 10).toNat) (cEntry (gA σ) t k % 10)) 1 = 0 := nF_no hn hv en
    refine x_istore X dL_areEntries_49 (by decide) ?_
    refine x_sub [(0, .ref (ad 0)), (1, vI t), (2, .ref q0), (3, vI (cEnt (gA σ) t)), (4, vI 1), (5, vI k), (6, vI (cEntry (gA σ) t k))] (zSub_cons rfl (zSub_cons rfl (zSub_cons rfl (zSub_cons rfl (zSub_cons rfl (zSub_cons rfl (zSub_cons rfl zSub_nil))))))) ?_
    refine x_iload X dL_areEntries_51 rfl ?_
    refine x_bipush X dL_areEntries_53 rfl ?_
    refine x_idivP X (by omega) (by omega) (by omega) (by omega) dL_areEntries_55 ?_
    refine x_istore X dL_areEntries_56 (by decide) ?_
    refine x_sub [(0, .ref (ad 0)), (1, vI t), (2, .ref q0), (3, vI (cEnt (gA σ) t)), (4, vI 1), (5, vI k), (6, vI (cEntry (gA σ) t k)), (7, vI ((cEntry (gA σ) t k) / 10))] (zSub_cons rfl (zSub_cons rfl (zSub_cons rfl (zSub_cons rfl (zSub_cons rfl (zSub_cons rfl (zSub_cons rfl (zSub_cons rfl zSub_nil)))))))) ?_
    refine x_iload X dL_areEntries_58 rfl ?_
    refine x_bipush X dL_areEntries_60 rfl ?_
    refine x_iremP X (by omega) (by omega) (by omega) (by omega) dL_areEntries_62 ?_
    refine x_istore X dL_areEntries_63 (by decide) ?_
    refine x_sub [(0, .ref (ad 0)), (1, vI t), (2, .ref q0), (3, vI (cEnt (gA σ) t)), (4, vI 1), (5, vI k), (6, vI (cEntry (gA σ) t k)), (7, vI ((cEntry (gA σ) t k) / 10)), (8, vI ((cEntry (gA σ) t k) % 10))] (zSub_cons rfl (zSub_cons rfl (zSub_cons rfl (zSub_cons rfl (zSub_cons rfl (zSub_cons rfl (zSub_cons rfl (zSub_cons rfl (zSub_cons rfl zSub_nil))))))))) ?_
    refine x_iload X dL_areEntries_65 rfl ?_
    refine x_aload_n X dL_areEntries_67 rfl ?_
    refine x_callVI0 X (sE_st hq0) (c_X3_deals hJ σ fi  ) kL_9 rfl (by decide) rfl ⟨(Nat.le_of_ble_eq_true rfl), (Nat.le_of_ble_eq_true rfl)⟩ (Nat.le_of_ble_eq_true rfl) ⟨(Nat.le_of_ble_eq_true rfl), (Nat.le_of_ble_eq_true rfl)⟩ dL_areEntries_68 (fun z9 σ1 hz9 => ?_)
    obtain ⟨rfl, e9⟩ := hz9
    rw [e9]
    refine x_icmp_ge X 108 dL_areEntries_71 (by decide) (by first | assumption | exact ⟨by decide, by decide⟩ | (unfold zB at *; omega)) (zB_sm (ok_n fi.1)) (fun c_18 => (by exfalso; omega)) (fun c_18 => ?_)
    refine x_iload X dL_areEntries_74 rfl ?_
    refine x_if_le X 108 dL_areEntries_76 (by decide) (by first | assumption | exact ⟨by decide, by decide⟩ | (unfold zB at *; omega)) (fun c_19 => (by exfalso; omega)) (fun c_19 => ?_)
    refine x_iload X dL_areEntries_79 rfl ?_
    refine x_bipush X dL_areEntries_81 rfl ?_
    refine x_icmp_ge X 108 dL_areEntries_83 (by decide) (by first | assumption | exact ⟨by decide, by decide⟩ | (unfold zB at *; omega)) ⟨by decide, by decide⟩ (fun c_20 => (by exfalso; omega)) (fun c_20 => ?_)
    refine x_iload X dL_areEntries_86 rfl ?_
    refine x_iconst X dL_areEntries_88 ?_
    refine x_icmp_eq X 108 dL_areEntries_89 (by decide) (by first | assumption | exact ⟨by decide, by decide⟩ | (unfold zB at *; omega)) ⟨by decide, by decide⟩ (fun c_21 => (by exfalso; omega)) (fun c_21 => ?_)
    refine x_aload_n X dL_areEntries_92 rfl ?_
    refine x_iload X dL_areEntries_93 rfl ?_
    refine x_seld X (by omega) (by omega) dL_areEntries_95 ?_
    refine x_iload X dL_areEntries_96 rfl ?_
    refine x_shr X dL_areEntries_98 (zShr_eq (f ((cEntry (gA σ) t k) / 10).toNat) ((cEntry (gA σ) t k) % 10)) ?_
    refine x_iconst X dL_areEntries_99 ?_
    refine x_and X dL_areEntries_100 (zAnd_eq (zShr (f ((cEntry (gA σ) t k) / 10).toNat) ((cEntry (gA σ) t k) % 10)) 1) ?_
    refine x_if_ne X 108 dL_areEntries_101 (by decide) (zB_toInt _) (fun c_22 => (by exfalso; omega)) (fun c_22 => ?_)
    refine x_iconst X dL_areEntries_104 ?_
    refine x_goto X 109 dL_areEntries_105 (by decide) ?_
    refine x_istore X dL_areEntries_109 (by decide) ?_
    refine x_sub [(0, .ref (ad 0)), (1, vI t), (2, .ref q0), (3, vI (cEnt (gA σ) t)), (4, vI 1), (5, vI k), (6, vI (cEntry (gA σ) t k)), (7, vI ((cEntry (gA σ) t k) / 10)), (8, vI ((cEntry (gA σ) t k) % 10))] (zSub_cons rfl (zSub_cons rfl (zSub_cons rfl (zSub_cons rfl (zSub_cons rfl (zSub_cons rfl (zSub_cons rfl (zSub_cons rfl (zSub_cons rfl zSub_nil))))))))) ?_
    refine x_aload_n X dL_areEntries_111 rfl ?_
    refine x_iload X dL_areEntries_112 rfl ?_
    refine x_bipush X dL_areEntries_114 rfl ?_
    refine x_iremP X (by omega) (by omega) (by omega) (by omega) dL_areEntries_116 ?_
    refine x_dup2 X dL_areEntries_117 rfl rfl ?_
    refine x_seld X (by omega) (by omega) dL_areEntries_118 ?_
    refine x_iconst X dL_areEntries_119 ?_
    refine x_iload X dL_areEntries_120 rfl ?_
    refine x_shl X dL_areEntries_122 (zShl_eq 1 ((cEntry (gA σ) t k) % 10)) ?_
    refine x_or X dL_areEntries_123 (zOr_eq (f (((cEntry (gA σ) t k) / 10) % 8).toNat) (zShl 1 ((cEntry (gA σ) t k) % 10))) ?_
    refine x_sest X hq0 hge (by omega) (by omega) dL_areEntries_124 ?_
    refine x_iinc X dL_areEntries_125 rfl (by decide) ?_
    refine x_sub [(0, .ref (ad 0)), (1, vI t), (2, .ref q0), (3, vI (cEnt (gA σ) t)), (4, vI 1), (5, vI (k + 1))] (zSub_cons rfl (zSub_cons rfl (zSub_cons rfl (zSub_cons rfl (zSub_cons rfl (zSub_cons rfl zSub_nil)))))) ?_
    refine x_goto X 31 dL_areEntries_128 (by decide) ?_
    exact ih (by omega) _ (nF_s j hs2 k0 (show k < cEnt (gA σ) t by omega) hv)
