/-! areKept: what has ended, and what was decided, is compared and written down -/
def kE (σ : zM) (A : zNt) (i : Int) : zM := (fun a b => if a = 5 ∧ (b : Int) < i then cSt A ((b : Int) / 6) ((b : Int) % 6) else σ.1 a b, σ.2)
def kR6 (σ : zM) (A : zNt) (i : Int) : zM := (fun a b => if a = 6 ∧ (b : Int) < i then cDec A b else σ.1 a b, σ.2)
theorem kE_0 (σ : zM) (A : zNt) : kE σ A 0 = σ := by
  obtain ⟨f, g⟩ := σ
  unfold kE
  refine congrArg (fun z => (z, g)) (funext fun a => funext fun b => ?_)
  exact if_neg (fun q => by have := q.2; omega)
theorem kR6_0 (σ : zM) (A : zNt) : kR6 σ A 0 = σ := by
  obtain ⟨f, g⟩ := σ
  unfold kR6
  refine congrArg (fun z => (z, g)) (funext fun a => funext fun b => ?_)
  exact if_neg (fun q => by have := q.2; omega)
theorem kE_rd {σ : zM} {A : zNt} {i : Int} (h : 0 ≤ i) : (kE σ A i).1 5 i.toNat = σ.1 5 i.toNat := if_neg (fun q => by have := q.2; omega)
theorem kR6_rd {σ : zM} {A : zNt} {i : Int} (h : 0 ≤ i) : (kR6 σ A i).1 6 i.toNat = σ.1 6 i.toNat := if_neg (fun q => by have := q.2; omega)
theorem kE_st {σ : zM} {A : zNt} {i : Int} (h : 0 ≤ i) : zS (kE σ A i) 5 i.toNat (cSt A (i / 6) (i % 6)) = kE σ A (i + 1) := by
  unfold zS kE
  refine congrArg (fun z => (z, σ.2)) (funext fun a => funext fun b => ?_)
  show (if a = 5 ∧ b = i.toNat then cSt A (i / 6) (i % 6) else (if a = 5 ∧ (b : Int) < i then cSt A ((b : Int) / 6) ((b : Int) % 6) else σ.1 a b)) = (if a = 5 ∧ (b : Int) < i + 1 then cSt A ((b : Int) / 6) ((b : Int) % 6) else σ.1 a b)
  by_cases q : a = 5 ∧ b = i.toNat
  · have e : (b : Int) = i := by omega
    rw [if_pos q, if_pos ⟨q.1, by omega⟩, e]
  · rw [if_neg q]
    by_cases z : a = 5 ∧ (b : Int) < i
    · rw [if_pos z, if_pos ⟨z.1, by omega⟩]
    · rw [if_neg z, if_neg (fun y => z ⟨y.1, by have := y.2; have : b ≠ i.toNat := fun w => q ⟨y.1, w⟩; omega⟩)]
theorem kR6_st {σ : zM} {A : zNt} {i : Int} (h : 0 ≤ i) : zS (kR6 σ A i) 6 i.toNat (cDec A i) = kR6 σ A (i + 1) := by
  unfold zS kR6
  refine congrArg (fun z => (z, σ.2)) (funext fun a => funext fun b => ?_)
  show (if a = 6 ∧ b = i.toNat then cDec A i else (if a = 6 ∧ (b : Int) < i then cDec A b else σ.1 a b)) = (if a = 6 ∧ (b : Int) < i + 1 then cDec A b else σ.1 a b)
  by_cases q : a = 6 ∧ b = i.toNat
  · have e : (b : Int) = i := by omega
    rw [if_pos q, if_pos ⟨q.1, by omega⟩, e]
  · rw [if_neg q]
    by_cases z : a = 6 ∧ (b : Int) < i
    · rw [if_pos z, if_pos ⟨z.1, by omega⟩]
    · rw [if_neg z, if_neg (fun y => z ⟨y.1, by have := y.2; have : b ≠ i.toNat := fun w => q ⟨y.1, w⟩; omega⟩)]
theorem gA_low {σ σ' : zM} (h : ∀ a, 7 ≤ a → σ'.1 a = σ.1 a) : gA σ' = gA σ := by
  funext r j
  show (if r < 8 then σ'.1 (8 + r) j else 0) = (if r < 8 then σ.1 (8 + r) j else 0)
  rw [h (8 + r) (by omega)]
theorem gH_low {σ σ' : zM} (h : ∀ a, a < 3 → σ'.1 a = σ.1 a) : hOk (gH σ) → hOk (gH σ') := hOk_cg (fun r hr => by
  show σ'.1 (1 + r) = σ.1 (1 + r)
  exact h (1 + r) (by omega))
theorem kE_o {σ : zM} {A : zNt} {i : Int} {a : Nat} (h : a ≠ 5) : (kE σ A i).1 a = σ.1 a := by
  funext b; exact if_neg (fun q => h q.1)
theorem kR6_o {σ : zM} {A : zNt} {i : Int} {a : Nat} (h : a ≠ 6) : (kR6 σ A i).1 a = σ.1 a := by
  funext b; exact if_neg (fun q => h q.1)
theorem gA_kE (σ : zM) (A : zNt) (i : Int) : gA (kE σ A i) = gA σ := gA_low (fun a h => kE_o (by omega))
theorem gA_kR (σ : zM) (A : zNt) (i : Int) : gA (kR6 σ A i) = gA σ := gA_low (fun a h => kR6_o (by omega))
theorem fI_kE {σ : zM} (fi : fI σ) (A : zNt) (i : Int) : fI (kE σ A i) := ⟨by rw [gA_kE]; exact fi.1, gH_low (fun a h => kE_o (by omega)) fi.2.1, trivial⟩
theorem fI_kR {σ : zM} (fi : fI σ) (A : zNt) (i : Int) : fI (kR6 σ A i) := ⟨by rw [gA_kR]; exact fi.1, gH_low (fun a h => kR6_o (by omega)) fi.2.1, trivial⟩
/-- the rows say what they may -/
def kOk (σ : zM) (A : zNt) : Prop := (∀ k : Int, 0 ≤ k → k < 6 * A 0 0 → σ.1 5 k.toNat < 2 ∨ cSt A (k / 6) (k % 6) = σ.1 5 k.toNat) ∧ (∀ d : Int, 0 ≤ d → d < A 0 0 → σ.1 6 d.toNat = 0 ∨ cDec A d = σ.1 6 d.toNat) ∧ (∀ k, k < 48 → zB (σ.1 5 k)) ∧ ∀ d, d < 8 → zB (σ.1 6 d)
set_option maxHeartbeats 4000000 in
set_option maxRecDepth 100000 in
theorem c_L_areKept {l : Launch} {D : va_G} {G : zG} {ad : Nat → Nat} (hJ : zInj ad) (σ : zM) (fi : fI σ) (hk : kOk σ (gA σ))  : zKI l D G ad yL_areKept cL_areKept 6 (some .boolean) 9 [.ref (ad 0), .ref (ad 5), .ref (ad 6)] σ (fun z σ9 => z = 1 ∧ σ9 = kR6 (kE σ (gA σ) (6 * gA σ 0 0)) (gA σ) (gA σ 0 0)) := by
  intro sz
  refine z_open hJ (by decide +kernel) (Nat.le_of_ble_eq_true rfl) ?_
  intro p e s0 m args below meth c hsz X hr hlocks
  have hn := ok_n fi.1
  refine z_sub [(0, .ref (ad 0)), (1, .ref (ad 5)), (2, .ref (ad 6))] (zSub_cons rfl (zSub_cons rfl (zSub_cons rfl zSub_nil))) ?_
  refine z_iconst X dL_areKept_0 ?_
  refine z_istore_n X dL_areKept_1 (by decide) ?_
  refine z_sub [(0, .ref (ad 0)), (1, .ref (ad 5)), (2, .ref (ad 6)), (3, vI 1)] (zSub_cons rfl (zSub_cons rfl (zSub_cons rfl (zSub_cons rfl zSub_nil)))) ?_
  refine z_iconst X dL_areKept_2 ?_
  refine z_istore X dL_areKept_3 (by decide) ?_
  refine z_sub [(0, .ref (ad 0)), (1, .ref (ad 5)), (2, .ref (ad 6)), (3, vI 1), (4, vI 0)] (zSub_cons rfl (zSub_cons rfl (zSub_cons rfl (zSub_cons rfl (zSub_cons rfl zSub_nil))))) ?_
  refine zV_at (kE_0 σ (gA σ)) ?_
  refine z_sub [(0, .ref (ad 0)), (1, .ref (ad 5)), (2, .ref (ad 6)), (3, vI 1), (4, vI 0)] (zSub_cons rfl (zSub_cons rfl (zSub_cons rfl (zSub_cons rfl (zSub_cons rfl zSub_nil))))) ?_
  refine zFor (S := Unit) (6 * gA σ 0 0) (fun i _ => True) (fun i _ => zV p l e (zRm 9) s0 m args below meth c 6 D G ad 0 0 (zE below (zQI D G ad sz (fun z σ9 => z = 1 ∧ σ9 = kR6 (kE σ (gA σ) (6 * gA σ 0 0)) (gA σ) (gA σ 0 0))) args s0 ad) 5 [(0, .ref (ad 0)), (1, .ref (ad 5)), (2, .ref (ad 6)), (3, vI 1), (4, vI i)] [] (kE σ (gA σ) i)) (fun i _ i0 i1 _ ih => ?_) () (by omega) trivial
  refine z_iload X dL_areKept_5 rfl ?_
  refine z_bipush X dL_areKept_7 rfl ?_
  refine z_aload_n X dL_areKept_9 rfl ?_
  refine z_callVI0 X (c_X3_deals hJ (kE σ (gA σ) i) (fI_kE fi _ _)  ) kL_9 rfl (by decide) rfl ⟨(Nat.le_of_ble_eq_true rfl), (Nat.le_of_ble_eq_true rfl)⟩ (Nat.le_of_ble_eq_true rfl) ⟨(Nat.le_of_ble_eq_true rfl), (Nat.le_of_ble_eq_true rfl)⟩ dL_areKept_10 (fun z9 σ1 hz9 => ?_)
  obtain ⟨rfl, rfl⟩ := hz9
  rw [gA_kE]
  refine z_imul X dL_areKept_13 ?_
  refine z_icmp_ge X 72 dL_areKept_14 (by decide) (by first | assumption | exact ⟨by decide, by decide⟩ | (unfold zB at *; omega)) (by first | assumption | exact ⟨by decide, by decide⟩ | (unfold zB at *; omega)) (fun c_1 => ?_) (fun c_1 => ?_)
  · refine z_iconst X dL_areKept_72 ?_
    refine z_istore X dL_areKept_73 (by decide) ?_
    refine z_sub [(0, .ref (ad 0)), (1, .ref (ad 5)), (2, .ref (ad 6)), (3, vI 1), (4, vI 0)] (zSub_cons rfl (zSub_cons rfl (zSub_cons rfl (zSub_cons rfl (zSub_cons rfl zSub_nil))))) ?_
    refine zV_at (kR6_0 (kE σ (gA σ) i) (gA σ)) ?_
    refine z_sub [(0, .ref (ad 0)), (1, .ref (ad 5)), (2, .ref (ad 6)), (3, vI 1), (4, vI 0)] (zSub_cons rfl (zSub_cons rfl (zSub_cons rfl (zSub_cons rfl (zSub_cons rfl zSub_nil))))) ?_
    refine zFor (S := Unit) (gA σ 0 0) (fun d _ => True) (fun d _ => zV p l e (zRm 9) s0 m args below meth c 6 D G ad 0 0 (zE below (zQI D G ad sz (fun z σ9 => z = 1 ∧ σ9 = kR6 (kE σ (gA σ) (6 * gA σ 0 0)) (gA σ) (gA σ 0 0))) args s0 ad) 75 [(0, .ref (ad 0)), (1, .ref (ad 5)), (2, .ref (ad 6)), (3, vI 1), (4, vI d)] [] (kR6 (kE σ (gA σ) i) (gA σ) d)) (fun d _ d0 d1 _ ih2 => ?_) () (by omega) trivial
    refine z_iload X dL_areKept_75 rfl ?_
    refine z_aload_n X dL_areKept_77 rfl ?_
    refine z_callVI0 X (c_X3_deals hJ (kR6 (kE σ (gA σ) i) (gA σ) d) (fI_kR (fI_kE fi _ _) _ _)  ) kL_9 rfl (by decide) rfl ⟨(Nat.le_of_ble_eq_true rfl), (Nat.le_of_ble_eq_true rfl)⟩ (Nat.le_of_ble_eq_true rfl) ⟨(Nat.le_of_ble_eq_true rfl), (Nat.le_of_ble_eq_true rfl)⟩ dL_areKept_78 (fun z9 σ1 hz9 => ?_)
    obtain ⟨rfl, rfl⟩ := hz9
    rw [gA_kR, gA_kE]
    refine z_icmp_ge X 130 dL_areKept_81 (by decide) (by first | assumption | exact ⟨by decide, by decide⟩ | (unfold zB at *; omega)) (zB_sm hn) (fun c_2 => ?_) (fun c_2 => ?_)
    · refine z_iload_n X dL_areKept_130 rfl ?_
      exact z_zret X hsz hr hlocks dL_areKept_131 (Or.inr rfl) ⟨rfl, by rw [show i = 6 * gA σ 0 0 by omega, show d = gA σ 0 0 by omega]⟩
    · refine z_iload_n X dL_areKept_84 rfl ?_
      refine z_if_eq X 112 dL_areKept_85 (by decide) ⟨by decide, by decide⟩ (fun h9 => absurd h9 (by decide)) (fun _ => ?_)
      refine z_aload_n X dL_areKept_88 rfl ?_
      refine z_iload X dL_areKept_89 rfl ?_
      refine z_iald X zArr_6 (by omega) (by omega) (by decide) dL_areKept_91 ?_
      rw [kR6_rd d0, show (kE σ (gA σ) i).1 6 = σ.1 6 from kE_o (by decide)]
      refine z_if_eq X 108 dL_areKept_92 (by decide) (hk.2.2.2 _ (by omega)) (fun c_3 => ?_) (fun c_3 => ?_)
      · refine z_iconst X dL_areKept_108 ?_
        refine z_goto X 113 dL_areKept_109 (by decide) ?_
        refine z_istore_n X dL_areKept_113 (by decide) ?_
        refine z_sub [(0, .ref (ad 0)), (1, .ref (ad 5)), (2, .ref (ad 6)), (3, vI 1), (4, vI d)] (zSub_cons rfl (zSub_cons rfl (zSub_cons rfl (zSub_cons rfl (zSub_cons rfl zSub_nil))))) ?_
        refine z_aload_n X dL_areKept_114 rfl ?_
        refine z_iload X dL_areKept_115 rfl ?_
        refine z_aload_n X dL_areKept_117 rfl ?_
        refine z_iload X dL_areKept_118 rfl ?_
        refine z_callVI1 X (c_X3_decision hJ (kR6 (kE σ (gA σ) i) (gA σ) d) (fI_kR (fI_kE fi _ _) _ _) (by first | assumption | exact ⟨by decide, by decide⟩ | (unfold zB at *; omega)) ⟨by omega, by rw [gA_kR, gA_kE]; omega⟩) kL_46 rfl (by decide) rfl ⟨(Nat.le_of_ble_eq_true rfl), (Nat.le_of_ble_eq_true rfl)⟩ (Nat.le_of_ble_eq_true rfl) ⟨(Nat.le_of_ble_eq_true rfl), (Nat.le_of_ble_eq_true rfl)⟩ dL_areKept_120 (fun z9 σ1 hz9 => ?_)
        obtain ⟨rfl, rfl⟩ := hz9
        rw [gA_kR, gA_kE]
        refine z_iast X zArr_6 (by omega) (by omega) (by decide) dL_areKept_123 ?_
        rw [kR6_st d0]
        refine z_iinc X dL_areKept_124 rfl (by decide) ?_
        refine z_sub [(0, .ref (ad 0)), (1, .ref (ad 5)), (2, .ref (ad 6)), (3, vI 1), (4, vI (d + 1))] (zSub_cons rfl (zSub_cons rfl (zSub_cons rfl (zSub_cons rfl (zSub_cons rfl zSub_nil))))) ?_
        refine z_goto X 75 dL_areKept_127 (by decide) ?_
        exact ih2 (by omega) () trivial
      · refine z_aload_n X dL_areKept_95 rfl ?_
        refine z_iload X dL_areKept_96 rfl ?_
        refine z_callVI1 X (c_X3_decision hJ (kR6 (kE σ (gA σ) i) (gA σ) d) (fI_kR (fI_kE fi _ _) _ _) (by first | assumption | exact ⟨by decide, by decide⟩ | (unfold zB at *; omega)) ⟨by omega, by rw [gA_kR, gA_kE]; omega⟩) kL_46 rfl (by decide) rfl ⟨(Nat.le_of_ble_eq_true rfl), (Nat.le_of_ble_eq_true rfl)⟩ (Nat.le_of_ble_eq_true rfl) ⟨(Nat.le_of_ble_eq_true rfl), (Nat.le_of_ble_eq_true rfl)⟩ dL_areKept_98 (fun z9 σ1 hz9 => ?_)
        obtain ⟨rfl, rfl⟩ := hz9
        rw [gA_kR, gA_kE]
        refine z_aload_n X dL_areKept_101 rfl ?_
        refine z_iload X dL_areKept_102 rfl ?_
        refine z_iald X zArr_6 (by omega) (by omega) (by decide) dL_areKept_104 ?_
        rw [kR6_rd d0, show (kE σ (gA σ) i).1 6 = σ.1 6 from kE_o (by decide)]
        refine z_icmp_ne X 112 dL_areKept_105 (by decide) (zB_sm (rg_dc fi.1 _)) (hk.2.2.2 _ (by omega)) (fun c_4 => (by exfalso; (have q := hk.2.1 d d0 (by omega)); omega)) (fun c_4 => ?_)
        refine z_iconst X dL_areKept_108 ?_
        refine z_goto X 113 dL_areKept_109 (by decide) ?_
        refine z_istore_n X dL_areKept_113 (by decide) ?_
        refine z_sub [(0, .ref (ad 0)), (1, .ref (ad 5)), (2, .ref (ad 6)), (3, vI 1), (4, vI d)] (zSub_cons rfl (zSub_cons rfl (zSub_cons rfl (zSub_cons rfl (zSub_cons rfl zSub_nil))))) ?_
        refine z_aload_n X dL_areKept_114 rfl ?_
        refine z_iload X dL_areKept_115 rfl ?_
        refine z_aload_n X dL_areKept_117 rfl ?_
        refine z_iload X dL_areKept_118 rfl ?_
        refine z_callVI1 X (c_X3_decision hJ (kR6 (kE σ (gA σ) i) (gA σ) d) (fI_kR (fI_kE fi _ _) _ _) (by first | assumption | exact ⟨by decide, by decide⟩ | (unfold zB at *; omega)) ⟨by omega, by rw [gA_kR, gA_kE]; omega⟩) kL_46 rfl (by decide) rfl ⟨(Nat.le_of_ble_eq_true rfl), (Nat.le_of_ble_eq_true rfl)⟩ (Nat.le_of_ble_eq_true rfl) ⟨(Nat.le_of_ble_eq_true rfl), (Nat.le_of_ble_eq_true rfl)⟩ dL_areKept_120 (fun z9 σ1 hz9 => ?_)
        obtain ⟨rfl, rfl⟩ := hz9
        rw [gA_kR, gA_kE]
        refine z_iast X zArr_6 (by omega) (by omega) (by decide) dL_areKept_123 ?_
        rw [kR6_st d0]
        refine z_iinc X dL_areKept_124 rfl (by decide) ?_
        refine z_sub [(0, .ref (ad 0)), (1, .ref (ad 5)), (2, .ref (ad 6)), (3, vI 1), (4, vI (d + 1))] (zSub_cons rfl (zSub_cons rfl (zSub_cons rfl (zSub_cons rfl (zSub_cons rfl zSub_nil))))) ?_
        refine z_goto X 75 dL_areKept_127 (by decide) ?_
        exact ih2 (by omega) () trivial
  · refine z_aload_n X dL_areKept_17 rfl ?_
    refine z_iload X dL_areKept_18 rfl ?_
    refine z_bipush X dL_areKept_20 rfl ?_
    refine z_idivP X (by omega) (by omega) (by omega) (by omega) dL_areKept_22 ?_
    refine z_iload X dL_areKept_23 rfl ?_
    refine z_bipush X dL_areKept_25 rfl ?_
    refine z_iremP X (by omega) (by omega) (by omega) (by omega) dL_areKept_27 ?_
    refine z_callVI2 X (c_X3_state hJ (kE σ (gA σ) i) (fI_kE fi _ _) (by first | assumption | exact ⟨by decide, by decide⟩ | (unfold zB at *; omega)) (by first | assumption | exact ⟨by decide, by decide⟩ | (unfold zB at *; omega)) ⟨by omega, by rw [gA_kE]; omega⟩ ⟨by omega, by omega⟩) kL_33 rfl (by decide) rfl ⟨(Nat.le_of_ble_eq_true rfl), (Nat.le_of_ble_eq_true rfl)⟩ (Nat.le_of_ble_eq_true rfl) ⟨(Nat.le_of_ble_eq_true rfl), (Nat.le_of_ble_eq_true rfl)⟩ dL_areKept_28 (fun z9 σ1 hz9 => ?_)
    obtain ⟨rfl, rfl⟩ := hz9
    rw [gA_kE]
    refine z_istore X dL_areKept_31 (by decide) ?_
    refine z_sub [(0, .ref (ad 0)), (1, .ref (ad 5)), (2, .ref (ad 6)), (3, vI 1), (4, vI i), (5, vI (cSt (gA σ) (i / 6) (i % 6)))] (zSub_cons rfl (zSub_cons rfl (zSub_cons rfl (zSub_cons rfl (zSub_cons rfl (zSub_cons rfl zSub_nil)))))) ?_
    refine z_iload_n X dL_areKept_33 rfl ?_
    refine z_if_eq X 58 dL_areKept_34 (by decide) ⟨by decide, by decide⟩ (fun h9 => absurd h9 (by decide)) (fun _ => ?_)
    refine z_aload_n X dL_areKept_37 rfl ?_
    refine z_iload X dL_areKept_38 rfl ?_
    refine z_iald X zArr_5 (by omega) (by omega) (by decide) dL_areKept_40 ?_
    rw [kE_rd i0]
    refine z_iconst X dL_areKept_41 ?_
    refine z_icmp_lt X 54 dL_areKept_42 (by decide) (hk.2.2.1 _ (by omega)) ⟨by decide, by decide⟩ (fun c_5 => ?_) (fun c_5 => ?_)
    · refine z_iconst X dL_areKept_54 ?_
      refine z_goto X 59 dL_areKept_55 (by decide) ?_
      refine z_istore_n X dL_areKept_59 (by decide) ?_
      refine z_sub [(0, .ref (ad 0)), (1, .ref (ad 5)), (2, .ref (ad 6)), (3, vI 1), (4, vI i), (5, vI (cSt (gA σ) (i / 6) (i % 6)))] (zSub_cons rfl (zSub_cons rfl (zSub_cons rfl (zSub_cons rfl (zSub_cons rfl (zSub_cons rfl zSub_nil)))))) ?_
      refine z_aload_n X dL_areKept_60 rfl ?_
      refine z_iload X dL_areKept_61 rfl ?_
      refine z_iload X dL_areKept_63 rfl ?_
      refine z_iast X zArr_5 (by omega) (by omega) (by decide) dL_areKept_65 ?_
      rw [kE_st i0]
      refine z_iinc X dL_areKept_66 rfl (by decide) ?_
      refine z_sub [(0, .ref (ad 0)), (1, .ref (ad 5)), (2, .ref (ad 6)), (3, vI 1), (4, vI (i + 1))] (zSub_cons rfl (zSub_cons rfl (zSub_cons rfl (zSub_cons rfl (zSub_cons rfl zSub_nil))))) ?_
      refine z_goto X 5 dL_areKept_69 (by decide) ?_
      exact ih (by omega) () trivial
    · refine z_iload X dL_areKept_45 rfl ?_
      refine z_aload_n X dL_areKept_47 rfl ?_
      refine z_iload X dL_areKept_48 rfl ?_
      refine z_iald X zArr_5 (by omega) (by omega) (by decide) dL_areKept_50 ?_
      rw [kE_rd i0]
      refine z_icmp_ne X 58 dL_areKept_51 (by decide) (zB_sm (rg_st fi.1 _ _)) (hk.2.2.1 _ (by omega)) (fun c_6 => (by exfalso; (have q := hk.1 i i0 (by omega)); omega)) (fun c_6 => ?_)
      refine z_iconst X dL_areKept_54 ?_
      refine z_goto X 59 dL_areKept_55 (by decide) ?_
      refine z_istore_n X dL_areKept_59 (by decide) ?_
      refine z_sub [(0, .ref (ad 0)), (1, .ref (ad 5)), (2, .ref (ad 6)), (3, vI 1), (4, vI i), (5, vI (cSt (gA σ) (i / 6) (i % 6)))] (zSub_cons rfl (zSub_cons rfl (zSub_cons rfl (zSub_cons rfl (zSub_cons rfl (zSub_cons rfl zSub_nil)))))) ?_
      refine z_aload_n X dL_areKept_60 rfl ?_
      refine z_iload X dL_areKept_61 rfl ?_
      refine z_iload X dL_areKept_63 rfl ?_
      refine z_iast X zArr_5 (by omega) (by omega) (by decide) dL_areKept_65 ?_
      rw [kE_st i0]
      refine z_iinc X dL_areKept_66 rfl (by decide) ?_
      refine z_sub [(0, .ref (ad 0)), (1, .ref (ad 5)), (2, .ref (ad 6)), (3, vI 1), (4, vI (i + 1))] (zSub_cons rfl (zSub_cons rfl (zSub_cons rfl (zSub_cons rfl (zSub_cons rfl zSub_nil))))) ?_
      refine z_goto X 5 dL_areKept_69 (by decide) ?_
      exact ih (by omega) () trivial
