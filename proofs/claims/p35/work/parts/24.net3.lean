theorem zAny_keep {f : Int → Bool} {i a : Int} (h0 : 0 ≤ i) (h : 0 < a ↔ zAny f i.toNat = true) (hf : f i = false) : 0 < a ↔ zAny f (i + 1).toNat = true := by
  rw [show (i + 1).toNat = i.toNat + 1 by omega, zAny, Int.toNat_of_nonneg h0, hf, Bool.or_false]; exact h
theorem zAny_inc {f : Int → Bool} {i a : Int} (h0 : 0 ≤ i) (ha : 0 ≤ a) (hf : f i = true) : 0 < a + 1 ↔ zAny f (i + 1).toNat = true := by
  rw [show (i + 1).toNat = i.toNat + 1 by omega, zAny, Int.toNat_of_nonneg h0, hf, Bool.or_true]
  exact ⟨fun _ => rfl, fun _ => by omega⟩
theorem rg_find (f : Int → Bool) : ∀ n : Nat, -1 ≤ zFind f n ∧ zFind f n < (n : Int) + 1
  | 0 => by rw [zFind]; exact ⟨by decide, by decide⟩
  | n + 1 => by
    have h := rg_find f n
    rw [zFind]
    split
    · omega
    · split <;> omega
theorem rg_help (N : zNt) (d s : Int) : -1 ≤ cHelp N d s ∧ cHelp N d s ≤ 6 := by
  have h := rg_find (fun o => decide ((o = cLead N d ∨ cAns (cSt N d o)) ∧ cCanAsk N d s o)) 6
  unfold cHelp
  omega
theorem ok_silN {N : zNt} (ok : cOk N) (s : Int) : cOk (cSilN N s) := by
  unfold cSilN; split
  · rename_i h; exact ok_sil ok ⟨h.1, h.2.1⟩
  · exact ok
theorem ok_wk1 {N : zNt} (ok : cOk N) (d s : Int) : cOk (cWk1 N d s) := by
  unfold cWk1; split
  · exact ok_enter ok ⟨by decide, by decide⟩
  · exact ok
theorem ok_wk2 {N : zNt} (ok : cOk N) (d s : Int) : cOk (cWk2 N d s) := by
  unfold cWk2; split
  · exact ok_settle ok ⟨by decide, by decide⟩
  · exact ok
theorem ok_wkL {N : zNt} (ok : cOk N) (s : Int) : ∀ d : Nat, cOk (cWkL N s d)
  | 0 => ok
  | d + 1 => ok_wk2 (ok_wk1 (ok_wkL ok s d) d s) d s
theorem ok_wkN {N : zNt} (ok : cOk N) (s : Int) : cOk (cWkN N s) := by
  unfold cWkN; split
  · rename_i h; exact ok_wkL (ok_wk ok h.1) s _
  · exact ok
set_option maxHeartbeats 4000000 in
set_option maxRecDepth 100000 in
theorem c_X2_countInState {l : Launch} {D : va_G} {G : zG} {ad : Nat → Nat} (hJ : zInj ad) {k : Nat} (hk : zNet k) (σ : zM) {N : Nat → Nat → Int} (ok : cOk N) {w : Int} (hw : zB w)  : zKI l D G ad yX2_countInState cX2_countInState 5 (some .int) 1 [.ref (ad k), vI w] (zBk σ k 8 N) (fun z σ9 => z = cCnt N w ∧ σ9 = (zBk σ k 8 N)) := by
  intro sz
  refine z_open hJ (by decide +kernel) (Nat.le_of_ble_eq_true rfl) ?_
  intro p e s0 m args below meth c hsz X hr hlocks
  have hn := ok_n ok
  refine z_sub [(0, .ref (ad k)), (1, vI w)] (zSub_cons rfl (zSub_cons rfl zSub_nil)) ?_
  refine z_iconst X dX2_countInState_0 ?_
  refine z_istore_n X dX2_countInState_1 (by decide) ?_
  refine z_sub [(0, .ref (ad k)), (1, vI w), (2, vI 0)] (zSub_cons rfl (zSub_cons rfl (zSub_cons rfl zSub_nil))) ?_
  refine z_iconst X dX2_countInState_2 ?_
  refine z_istore_n X dX2_countInState_3 (by decide) ?_
  refine z_sub [(0, .ref (ad k)), (1, vI w), (2, vI 0), (3, vI 0)] (zSub_cons rfl (zSub_cons rfl (zSub_cons rfl (zSub_cons rfl zSub_nil)))) ?_
  refine z_sub [(0, .ref (ad k)), (1, vI w), (2, vI 0), (3, vI 0)] (zSub_cons rfl (zSub_cons rfl (zSub_cons rfl (zSub_cons rfl zSub_nil)))) ?_
  refine zFor (S := Int) (N 0 0) (fun i a => a = zSum (fun d => zSum (fun s => if cSt N d s = w then 1 else 0) 6) i.toNat) (fun i a => zV p l e (zRm 1) s0 m args below meth c 5 D G ad 0 0 (zE below (zQI D G ad sz (fun z σ9 => z = cCnt N w ∧ σ9 = (zBk σ k 8 N))) args s0 ad) 4 [(0, .ref (ad k)), (1, vI w), (2, vI a), (3, vI i)] [] (zBk σ k 8 N)) (fun i a i0 i1 hv ih => ?_) 0 (by omega) rfl
  refine z_iload_n X dX2_countInState_4 rfl ?_
  refine z_aload_n X dX2_countInState_5 rfl ?_
  refine y_gNet0 X hk fX2_9 dX2_countInState_6 ?_
  refine z_icmp_ge X 48 dX2_countInState_9 (by decide) (by first | assumption | (unfold zB at *; omega)) (zB_sm (ok_n ok)) (fun c_1 => ?_) (fun c_1 => ?_)
  · refine z_iload_n X dX2_countInState_48 rfl ?_
    exact z_iret X hsz hr hlocks dX2_countInState_49 ⟨(by rw [hv, show i = N 0 0 by omega]; rfl), rfl⟩
  · refine z_iconst X dX2_countInState_12 ?_
    refine z_istore X dX2_countInState_13 (by decide) ?_
    refine z_sub [(0, .ref (ad k)), (1, vI w), (2, vI a), (3, vI i), (4, vI 0)] (zSub_cons rfl (zSub_cons rfl (zSub_cons rfl (zSub_cons rfl (zSub_cons rfl zSub_nil))))) ?_
    refine z_sub [(0, .ref (ad k)), (1, vI w), (2, vI a), (3, vI i), (4, vI 0)] (zSub_cons rfl (zSub_cons rfl (zSub_cons rfl (zSub_cons rfl (zSub_cons rfl zSub_nil))))) ?_
    refine zFor (S := Int) 6 (fun j b => b = zSum (fun d => zSum (fun s => if cSt N d s = w then 1 else 0) 6) i.toNat + zSum (fun s => if cSt N i s = w then 1 else 0) j.toNat) (fun j b => zV p l e (zRm 1) s0 m args below meth c 5 D G ad 0 0 (zE below (zQI D G ad sz (fun z σ9 => z = cCnt N w ∧ σ9 = (zBk σ k 8 N))) args s0 ad) 15 [(0, .ref (ad k)), (1, vI w), (2, vI b), (3, vI i), (4, vI j)] [] (zBk σ k 8 N)) (fun j b j0 j1 hvb ihb => ?_) a (by omega) (by rw [hv]; exact (Int.add_zero _).symm)
    refine z_iload X dX2_countInState_15 rfl ?_
    refine z_bipush X dX2_countInState_17 rfl ?_
    refine z_icmp_ge X 42 dX2_countInState_19 (by decide) (by first | assumption | (unfold zB at *; omega)) ⟨by decide, by decide⟩ (fun c_2 => ?_) (fun c_2 => ?_)
    · refine z_iinc X dX2_countInState_42 rfl (by decide) ?_
      refine z_sub [(0, .ref (ad k)), (1, vI w), (2, vI b), (3, vI (i + 1)), (4, vI j)] (zSub_cons rfl (zSub_cons rfl (zSub_cons rfl (zSub_cons rfl (zSub_cons rfl zSub_nil))))) ?_
      refine z_goto X 4 dX2_countInState_45 (by decide) ?_
      refine z_sub [(0, .ref (ad k)), (1, vI w), (2, vI b), (3, vI (i + 1))] (zSub_cons rfl (zSub_cons rfl (zSub_cons rfl (zSub_cons rfl zSub_nil)))) ?_
      exact ih (by omega) b (by rw [zSum_step i0, hvb, show j = 6 by omega]; rfl)
    · refine z_aload_n X dX2_countInState_22 rfl ?_
      refine z_iload_n X dX2_countInState_23 rfl ?_
      refine z_iload X dX2_countInState_24 rfl ?_
      refine z_callVI2 X (c_X2_stateOf hJ hk σ ok (by first | assumption | (unfold zB at *; omega)) (by first | assumption | (unfold zB at *; omega))) kX2_66 rfl (zNet_lt hk) (zNet_obj hk ad G _ _) ⟨(Nat.le_of_ble_eq_true rfl), (Nat.le_of_ble_eq_true rfl)⟩ (Nat.le_of_ble_eq_true rfl) ⟨Nat.zero_le _, Nat.zero_le _⟩ dX2_countInState_26 (fun z9 σ1 hz9 => ?_)
      obtain ⟨rfl, rfl⟩ := hz9
      refine z_iload_n X dX2_countInState_29 rfl ?_
      refine z_icmp_ne X 36 dX2_countInState_30 (by decide) (zB_sm (rg_st ok _ _)) hw (fun c_4 => ?_) (fun c_4 => ?_)
      · refine z_iinc X dX2_countInState_36 rfl (by decide) ?_
        refine z_sub [(0, .ref (ad k)), (1, vI w), (2, vI b), (3, vI i), (4, vI (j + 1))] (zSub_cons rfl (zSub_cons rfl (zSub_cons rfl (zSub_cons rfl (zSub_cons rfl zSub_nil))))) ?_
        refine z_goto X 15 dX2_countInState_39 (by decide) ?_
        refine z_sub [(0, .ref (ad k)), (1, vI w), (2, vI b), (3, vI i), (4, vI (j + 1))] (zSub_cons rfl (zSub_cons rfl (zSub_cons rfl (zSub_cons rfl (zSub_cons rfl zSub_nil))))) ?_
        exact ihb (by omega) b (by rw [zSum_step j0, ← Int.add_assoc, ← hvb]; grind)
      · refine z_iinc X dX2_countInState_33 rfl (by decide) ?_
        refine z_sub [(0, .ref (ad k)), (1, vI w), (2, vI (b + 1)), (3, vI i), (4, vI j)] (zSub_cons rfl (zSub_cons rfl (zSub_cons rfl (zSub_cons rfl (zSub_cons rfl zSub_nil))))) ?_
        refine z_iinc X dX2_countInState_36 rfl (by decide) ?_
        refine z_sub [(0, .ref (ad k)), (1, vI w), (2, vI (b + 1)), (3, vI i), (4, vI (j + 1))] (zSub_cons rfl (zSub_cons rfl (zSub_cons rfl (zSub_cons rfl (zSub_cons rfl zSub_nil))))) ?_
        refine z_goto X 15 dX2_countInState_39 (by decide) ?_
        refine z_sub [(0, .ref (ad k)), (1, vI w), (2, vI (b + 1)), (3, vI i), (4, vI (j + 1))] (zSub_cons rfl (zSub_cons rfl (zSub_cons rfl (zSub_cons rfl (zSub_cons rfl zSub_nil))))) ?_
        exact ihb (by omega) (b + 1) (by rw [zSum_step j0, ← Int.add_assoc, ← hvb]; grind)

set_option maxHeartbeats 4000000 in
set_option maxRecDepth 100000 in
theorem c_X2_isOpen {l : Launch} {D : va_G} {G : zG} {ad : Nat → Nat} (hJ : zInj ad) {k : Nat} (hk : zNet k) (σ : zM) {N : Nat → Nat → Int} (ok : cOk N) {d : Int} (hd : zB d)  : zKI l D G ad yX2_isOpen cX2_isOpen 4 (some .boolean) 1 [.ref (ad k), vI d] (zBk σ k 8 N) (fun z σ9 => z = (if cOpen N d then 1 else 0) ∧ σ9 = (zBk σ k 8 N)) := by
  intro sz
  refine z_open hJ (by decide +kernel) (Nat.le_of_ble_eq_true rfl) ?_
  intro p e s0 m args below meth c hsz X hr hlocks
  have hn := ok_n ok
  refine z_sub [(0, .ref (ad k)), (1, vI d)] (zSub_cons rfl (zSub_cons rfl zSub_nil)) ?_
  refine z_iconst X dX2_isOpen_0 ?_
  refine z_istore_n X dX2_isOpen_1 (by decide) ?_
  refine z_sub [(0, .ref (ad k)), (1, vI d), (2, vI 0)] (zSub_cons rfl (zSub_cons rfl (zSub_cons rfl zSub_nil))) ?_
  refine z_sub [(0, .ref (ad k)), (1, vI d), (2, vI 0)] (zSub_cons rfl (zSub_cons rfl (zSub_cons rfl zSub_nil))) ?_
  refine zFor (S := Unit) 6 (fun i _u => zAny (fun s => decide (cSt N d s = 0 ∨ cSt N d s = 1)) i.toNat = false) (fun i _u => zV p l e (zRm 1) s0 m args below meth c 4 D G ad 0 0 (zE below (zQI D G ad sz (fun z σ9 => z = (if cOpen N d then 1 else 0) ∧ σ9 = (zBk σ k 8 N))) args s0 ad) 2 [(0, .ref (ad k)), (1, vI d), (2, vI i)] [] (zBk σ k 8 N)) (fun i _u i0 i1 hv ih => ?_) () (by omega) rfl
  refine z_iload_n X dX2_isOpen_2 rfl ?_
  refine z_bipush X dX2_isOpen_3 rfl ?_
  refine z_icmp_ge X 32 dX2_isOpen_5 (by decide) (by first | assumption | (unfold zB at *; omega)) ⟨by decide, by decide⟩ (fun c_1 => ?_) (fun c_1 => ?_)
  · refine z_iconst X dX2_isOpen_32 ?_
    exact z_zret X hsz hr hlocks dX2_isOpen_33 (Or.inl rfl) ⟨(if_neg (show ¬ (zAny (fun s => decide (cSt N d s = 0 ∨ cSt N d s = 1)) 6 = true) from by have e : i = 6 := (by omega); subst e; intro h9; rw [show zAny (fun s => decide (cSt N d s = 0 ∨ cSt N d s = 1)) 6 = false from hv] at h9; exact absurd h9 (by decide))).symm, rfl⟩
  · refine z_aload_n X dX2_isOpen_8 rfl ?_
    refine z_iload_n X dX2_isOpen_9 rfl ?_
    refine z_iload_n X dX2_isOpen_10 rfl ?_
    refine z_callVI2 X (c_X2_stateOf hJ hk σ ok hd (by first | assumption | (unfold zB at *; omega))) kX2_66 rfl (zNet_lt hk) (zNet_obj hk ad G _ _) ⟨(Nat.le_of_ble_eq_true rfl), (Nat.le_of_ble_eq_true rfl)⟩ (Nat.le_of_ble_eq_true rfl) ⟨Nat.zero_le _, Nat.zero_le _⟩ dX2_isOpen_11 (fun z9 σ1 hz9 => ?_)
    obtain ⟨rfl, rfl⟩ := hz9
    refine z_istore_n X dX2_isOpen_14 (by decide) ?_
    refine z_sub [(0, .ref (ad k)), (1, vI d), (2, vI i), (3, vI (cSt N d i))] (zSub_cons rfl (zSub_cons rfl (zSub_cons rfl (zSub_cons rfl zSub_nil)))) ?_
    refine z_iload_n X dX2_isOpen_15 rfl ?_
    refine z_if_eq X 24 dX2_isOpen_16 (by decide) (zB_sm (rg_st ok _ _)) (fun c_3 => ?_) (fun c_3 => ?_)
    · refine z_iconst X dX2_isOpen_24 ?_
      exact z_zret X hsz hr hlocks dX2_isOpen_25 (Or.inr rfl) ⟨(if_pos (show zAny (fun s => decide (cSt N d s = 0 ∨ cSt N d s = 1)) 6 = true from zAny_hit (n := 6) i0 (by omega) (decide_eq_true (by omega)))).symm, rfl⟩
    · refine z_iload_n X dX2_isOpen_19 rfl ?_
      refine z_iconst X dX2_isOpen_20 ?_
      refine z_icmp_ne X 26 dX2_isOpen_21 (by decide) (zB_sm (rg_st ok _ _)) ⟨by decide, by decide⟩ (fun c_4 => ?_) (fun c_4 => ?_)
      · refine z_iinc X dX2_isOpen_26 rfl (by decide) ?_
        refine z_sub [(0, .ref (ad k)), (1, vI d), (2, vI (i + 1)), (3, vI (cSt N d i))] (zSub_cons rfl (zSub_cons rfl (zSub_cons rfl (zSub_cons rfl zSub_nil)))) ?_
        refine z_goto X 2 dX2_isOpen_29 (by decide) ?_
        refine z_sub [(0, .ref (ad k)), (1, vI d), (2, vI (i + 1))] (zSub_cons rfl (zSub_cons rfl (zSub_cons rfl zSub_nil))) ?_
        exact ih (by omega) () (zAny_step i0 hv (decide_eq_false (by omega)))
      · refine z_iconst X dX2_isOpen_24 ?_
        exact z_zret X hsz hr hlocks dX2_isOpen_25 (Or.inr rfl) ⟨(if_pos (show zAny (fun s => decide (cSt N d s = 0 ∨ cSt N d s = 1)) 6 = true from zAny_hit (n := 6) i0 (by omega) (decide_eq_true (by omega)))).symm, rfl⟩

set_option maxHeartbeats 4000000 in
set_option maxRecDepth 100000 in
theorem c_X2_countOpen {l : Launch} {D : va_G} {G : zG} {ad : Nat → Nat} (hJ : zInj ad) {k : Nat} (hk : zNet k) (σ : zM) {N : Nat → Nat → Int} (ok : cOk N)   : zKI l D G ad yX2_countOpen cX2_countOpen 3 (some .int) 2 [.ref (ad k)] (zBk σ k 8 N) (fun z σ9 => z = cOpens N ∧ σ9 = (zBk σ k 8 N)) := by
  intro sz
  refine z_open hJ (by decide +kernel) (Nat.le_of_ble_eq_true rfl) ?_
  intro p e s0 m args below meth c hsz X hr hlocks
  have hn := ok_n ok
  refine z_sub [(0, .ref (ad k))] (zSub_cons rfl zSub_nil) ?_
  refine z_iconst X dX2_countOpen_0 ?_
  refine z_istore_n X dX2_countOpen_1 (by decide) ?_
  refine z_sub [(0, .ref (ad k)), (1, vI 0)] (zSub_cons rfl (zSub_cons rfl zSub_nil)) ?_
  refine z_iconst X dX2_countOpen_2 ?_
  refine z_istore_n X dX2_countOpen_3 (by decide) ?_
  refine z_sub [(0, .ref (ad k)), (1, vI 0), (2, vI 0)] (zSub_cons rfl (zSub_cons rfl (zSub_cons rfl zSub_nil))) ?_
  refine z_sub [(0, .ref (ad k)), (1, vI 0), (2, vI 0)] (zSub_cons rfl (zSub_cons rfl (zSub_cons rfl zSub_nil))) ?_
  refine zFor (S := Int) (N 0 0) (fun i a => a = zSum (fun d => if cOpen N d then 1 else 0) i.toNat) (fun i a => zV p l e (zRm 2) s0 m args below meth c 3 D G ad 0 0 (zE below (zQI D G ad sz (fun z σ9 => z = cOpens N ∧ σ9 = (zBk σ k 8 N))) args s0 ad) 4 [(0, .ref (ad k)), (1, vI a), (2, vI i)] [] (zBk σ k 8 N)) (fun i a i0 i1 hv ih => ?_) 0 (by omega) rfl
  refine z_iload_n X dX2_countOpen_4 rfl ?_
  refine z_aload_n X dX2_countOpen_5 rfl ?_
  refine y_gNet0 X hk fX2_9 dX2_countOpen_6 ?_
  refine z_icmp_ge X 29 dX2_countOpen_9 (by decide) (by first | assumption | (unfold zB at *; omega)) (zB_sm (ok_n ok)) (fun c_1 => ?_) (fun c_1 => ?_)
  · refine z_iload_n X dX2_countOpen_29 rfl ?_
    exact z_iret X hsz hr hlocks dX2_countOpen_30 ⟨(by rw [hv, show i = N 0 0 by omega]; rfl), rfl⟩
  · refine z_aload_n X dX2_countOpen_12 rfl ?_
    refine z_iload_n X dX2_countOpen_13 rfl ?_
    refine z_callVI1 X (c_X2_isOpen hJ hk σ ok (by first | assumption | (unfold zB at *; omega))) kX2_136 rfl (zNet_lt hk) (zNet_obj hk ad G _ _) ⟨(Nat.le_of_ble_eq_true rfl), (Nat.le_of_ble_eq_true rfl)⟩ (Nat.le_of_ble_eq_true rfl) ⟨Nat.zero_le _, Nat.zero_le _⟩ dX2_countOpen_14 (fun z9 σ1 hz9 => ?_)
    obtain ⟨rfl, rfl⟩ := hz9
    refine z_ifb_eq X 23 dX2_countOpen_17 (by decide) (fun c_3 => ?_) (fun c_3 => ?_)
    · refine z_iinc X dX2_countOpen_23 rfl (by decide) ?_
      refine z_sub [(0, .ref (ad k)), (1, vI a), (2, vI (i + 1))] (zSub_cons rfl (zSub_cons rfl (zSub_cons rfl zSub_nil))) ?_
      refine z_goto X 4 dX2_countOpen_26 (by decide) ?_
      refine z_sub [(0, .ref (ad k)), (1, vI a), (2, vI (i + 1))] (zSub_cons rfl (zSub_cons rfl (zSub_cons rfl zSub_nil))) ?_
      exact ih (by omega) a (by rw [zSum_step i0, ← hv]; grind)
    · refine z_iinc X dX2_countOpen_20 rfl (by decide) ?_
      refine z_sub [(0, .ref (ad k)), (1, vI (a + 1)), (2, vI i)] (zSub_cons rfl (zSub_cons rfl (zSub_cons rfl zSub_nil))) ?_
      refine z_iinc X dX2_countOpen_23 rfl (by decide) ?_
      refine z_sub [(0, .ref (ad k)), (1, vI (a + 1)), (2, vI (i + 1))] (zSub_cons rfl (zSub_cons rfl (zSub_cons rfl zSub_nil))) ?_
      refine z_goto X 4 dX2_countOpen_26 (by decide) ?_
      refine z_sub [(0, .ref (ad k)), (1, vI (a + 1)), (2, vI (i + 1))] (zSub_cons rfl (zSub_cons rfl (zSub_cons rfl zSub_nil))) ?_
      exact ih (by omega) (a + 1) (by rw [zSum_step i0, ← hv]; grind)

set_option maxHeartbeats 4000000 in
set_option maxRecDepth 100000 in
theorem c_X2_helperFor {l : Launch} {D : va_G} {G : zG} {ad : Nat → Nat} (hJ : zInj ad) {k : Nat} (hk : zNet k) (σ : zM) {N : Nat → Nat → Int} (ok : cOk N) {d : Int} (hd : zB d) {s : Int} (hs : zB s)  : zKI l D G ad yX2_helperFor cX2_helperFor 6 (some .int) 2 [.ref (ad k), vI d, vI s] (zBk σ k 8 N) (fun z σ9 => z = cHelp N d s ∧ σ9 = (zBk σ k 8 N)) := by
  intro sz
  refine z_open hJ (by decide +kernel) (Nat.le_of_ble_eq_true rfl) ?_
  intro p e s0 m args below meth c hsz X hr hlocks
  have hn := ok_n ok
  refine z_sub [(0, .ref (ad k)), (1, vI d), (2, vI s)] (zSub_cons rfl (zSub_cons rfl (zSub_cons rfl zSub_nil))) ?_
  refine z_aload_n X dX2_helperFor_0 rfl ?_
  refine z_iload_n X dX2_helperFor_1 rfl ?_
  refine z_callVI1 X (c_X2_leaderOf hJ hk σ ok hd) kX2_82 rfl (zNet_lt hk) (zNet_obj hk ad G _ _) ⟨(Nat.le_of_ble_eq_true rfl), (Nat.le_of_ble_eq_true rfl)⟩ (Nat.le_of_ble_eq_true rfl) ⟨Nat.zero_le _, Nat.zero_le _⟩ dX2_helperFor_2 (fun z9 σ1 hz9 => ?_)
  obtain ⟨rfl, rfl⟩ := hz9
  refine z_istore_n X dX2_helperFor_5 (by decide) ?_
  refine z_sub [(0, .ref (ad k)), (1, vI d), (2, vI s), (3, vI (cLead N d))] (zSub_cons rfl (zSub_cons rfl (zSub_cons rfl (zSub_cons rfl zSub_nil)))) ?_
  refine z_iconst X dX2_helperFor_6 ?_
  refine z_istore X dX2_helperFor_7 (by decide) ?_
  refine z_sub [(0, .ref (ad k)), (1, vI d), (2, vI s), (3, vI (cLead N d)), (4, vI 0)] (zSub_cons rfl (zSub_cons rfl (zSub_cons rfl (zSub_cons rfl (zSub_cons rfl zSub_nil))))) ?_
  refine z_sub [(0, .ref (ad k)), (1, vI d), (2, vI s), (3, vI (cLead N d)), (4, vI 0)] (zSub_cons rfl (zSub_cons rfl (zSub_cons rfl (zSub_cons rfl (zSub_cons rfl zSub_nil))))) ?_
  refine zFor (S := Unit) 6 (fun i _u => zFind (fun o => decide ((o = cLead N d ∨ cAns (cSt N d o)) ∧ cCanAsk N d s o)) i.toNat = -1) (fun i _u => zV p l e (zRm 2) s0 m args below meth c 6 D G ad 0 0 (zE below (zQI D G ad sz (fun z σ9 => z = cHelp N d s ∧ σ9 = (zBk σ k 8 N))) args s0 ad) 9 [(0, .ref (ad k)), (1, vI d), (2, vI s), (3, vI (cLead N d)), (4, vI i)] [] (zBk σ k 8 N)) (fun i _u i0 i1 hv ih => ?_) () (by omega) rfl
  refine z_iload X dX2_helperFor_9 rfl ?_
  refine z_bipush X dX2_helperFor_11 rfl ?_
  refine z_icmp_ge X 67 dX2_helperFor_13 (by decide) (by first | assumption | (unfold zB at *; omega)) ⟨by decide, by decide⟩ (fun c_2 => ?_) (fun c_2 => ?_)
  · refine z_iconst X dX2_helperFor_67 ?_
    exact z_iret X hsz hr hlocks dX2_helperFor_68 ⟨(show zFind (fun o => decide ((o = cLead N d ∨ cAns (cSt N d o)) ∧ cCanAsk N d s o)) 6 = -1 from by have e : i = 6 := (by omega); subst e; exact hv).symm, rfl⟩
  · refine z_iload X dX2_helperFor_16 rfl ?_
    refine z_iload_n X dX2_helperFor_18 rfl ?_
    refine z_icmp_eq X 35 dX2_helperFor_19 (by decide) (by first | assumption | (unfold zB at *; omega)) (zB_sm (rg_ld ok _)) (fun c_3 => ?_) (fun c_3 => ?_)
    · refine z_iconst X dX2_helperFor_35 ?_
      refine z_goto X 40 dX2_helperFor_36 (by decide) ?_
      refine z_istore X dX2_helperFor_40 (by decide) ?_
      refine z_sub [(0, .ref (ad k)), (1, vI d), (2, vI s), (3, vI (cLead N d)), (4, vI i), (5, vI 1)] (zSub_cons rfl (zSub_cons rfl (zSub_cons rfl (zSub_cons rfl (zSub_cons rfl (zSub_cons rfl zSub_nil)))))) ?_
      refine z_iload X dX2_helperFor_42 rfl ?_
      refine z_if_eq X 61 dX2_helperFor_44 (by decide) ⟨by decide, by decide⟩ (fun h9 => absurd h9 (by decide)) (fun _ => ?_)
      refine z_aload_n X dX2_helperFor_47 rfl ?_
      refine z_iload_n X dX2_helperFor_48 rfl ?_
      refine z_iload_n X dX2_helperFor_49 rfl ?_
      refine z_iload X dX2_helperFor_50 rfl ?_
      refine z_callVI3 X (c_X2_canAsk hJ hk σ ok hd hs (by first | assumption | (unfold zB at *; omega))) kX2_115 rfl (zNet_lt hk) (zNet_obj hk ad G _ _) ⟨(Nat.le_of_ble_eq_true rfl), (Nat.le_of_ble_eq_true rfl)⟩ (Nat.le_of_ble_eq_true rfl) ⟨Nat.zero_le _, Nat.zero_le _⟩ dX2_helperFor_52 (fun z9 σ1 hz9 => ?_)
      obtain ⟨rfl, rfl⟩ := hz9
      refine z_ifb_eq X 61 dX2_helperFor_55 (by decide) (fun c_5 => ?_) (fun c_5 => ?_)
      · refine z_iinc X dX2_helperFor_61 rfl (by decide) ?_
        refine z_sub [(0, .ref (ad k)), (1, vI d), (2, vI s), (3, vI (cLead N d)), (4, vI (i + 1)), (5, vI 1)] (zSub_cons rfl (zSub_cons rfl (zSub_cons rfl (zSub_cons rfl (zSub_cons rfl (zSub_cons rfl zSub_nil)))))) ?_
        refine z_goto X 9 dX2_helperFor_64 (by decide) ?_
        refine z_sub [(0, .ref (ad k)), (1, vI d), (2, vI s), (3, vI (cLead N d)), (4, vI (i + 1))] (zSub_cons rfl (zSub_cons rfl (zSub_cons rfl (zSub_cons rfl (zSub_cons rfl zSub_nil))))) ?_
        exact ih (by omega) () (zFind_step i0 hv (decide_eq_false (by grind)))
      · refine z_iload X dX2_helperFor_58 rfl ?_
        exact z_iret X hsz hr hlocks dX2_helperFor_60 ⟨(show zFind (fun o => decide ((o = cLead N d ∨ cAns (cSt N d o)) ∧ cCanAsk N d s o)) 6 = i from zFind_hit (n := 6) i0 (by omega) hv (decide_eq_true (by grind))).symm, rfl⟩
    · refine z_aload_n X dX2_helperFor_22 rfl ?_
      refine z_iload_n X dX2_helperFor_23 rfl ?_
      refine z_iload X dX2_helperFor_24 rfl ?_
      refine z_callVI2 X (c_X2_stateOf hJ hk σ ok hd (by first | assumption | (unfold zB at *; omega))) kX2_66 rfl (zNet_lt hk) (zNet_obj hk ad G _ _) ⟨(Nat.le_of_ble_eq_true rfl), (Nat.le_of_ble_eq_true rfl)⟩ (Nat.le_of_ble_eq_true rfl) ⟨Nat.zero_le _, Nat.zero_le _⟩ dX2_helperFor_26 (fun z9 σ1 hz9 => ?_)
      obtain ⟨rfl, rfl⟩ := hz9
      refine z_callSI1 X (c_X2_isAnswer hJ _ (zB_sm (rg_st ok _ _))) kX2_145 ⟨(Nat.le_of_ble_eq_true rfl), (Nat.le_of_ble_eq_true rfl)⟩ (Nat.le_of_ble_eq_true rfl) ⟨Nat.zero_le _, Nat.zero_le _⟩ dX2_helperFor_29 (fun z9 σ1 hz9 => ?_)
      obtain ⟨rfl, rfl⟩ := hz9
      refine z_ifb_eq X 39 dX2_helperFor_32 (by decide) (fun c_8 => ?_) (fun c_8 => ?_)
      · refine z_iconst X dX2_helperFor_39 ?_
        refine z_istore X dX2_helperFor_40 (by decide) ?_
        refine z_sub [(0, .ref (ad k)), (1, vI d), (2, vI s), (3, vI (cLead N d)), (4, vI i), (5, vI 0)] (zSub_cons rfl (zSub_cons rfl (zSub_cons rfl (zSub_cons rfl (zSub_cons rfl (zSub_cons rfl zSub_nil)))))) ?_
        refine z_iload X dX2_helperFor_42 rfl ?_
        refine z_if_eq X 61 dX2_helperFor_44 (by decide) ⟨by decide, by decide⟩ (fun _ => ?_) (fun h9 => absurd h9 (by decide))
        refine z_iinc X dX2_helperFor_61 rfl (by decide) ?_
        refine z_sub [(0, .ref (ad k)), (1, vI d), (2, vI s), (3, vI (cLead N d)), (4, vI (i + 1)), (5, vI 0)] (zSub_cons rfl (zSub_cons rfl (zSub_cons rfl (zSub_cons rfl (zSub_cons rfl (zSub_cons rfl zSub_nil)))))) ?_
        refine z_goto X 9 dX2_helperFor_64 (by decide) ?_
        refine z_sub [(0, .ref (ad k)), (1, vI d), (2, vI s), (3, vI (cLead N d)), (4, vI (i + 1))] (zSub_cons rfl (zSub_cons rfl (zSub_cons rfl (zSub_cons rfl (zSub_cons rfl zSub_nil))))) ?_
        exact ih (by omega) () (zFind_step i0 hv (decide_eq_false (by grind)))
      · refine z_iconst X dX2_helperFor_35 ?_
        refine z_goto X 40 dX2_helperFor_36 (by decide) ?_
        refine z_istore X dX2_helperFor_40 (by decide) ?_
        refine z_sub [(0, .ref (ad k)), (1, vI d), (2, vI s), (3, vI (cLead N d)), (4, vI i), (5, vI 1)] (zSub_cons rfl (zSub_cons rfl (zSub_cons rfl (zSub_cons rfl (zSub_cons rfl (zSub_cons rfl zSub_nil)))))) ?_
        refine z_iload X dX2_helperFor_42 rfl ?_
        refine z_if_eq X 61 dX2_helperFor_44 (by decide) ⟨by decide, by decide⟩ (fun h9 => absurd h9 (by decide)) (fun _ => ?_)
        refine z_aload_n X dX2_helperFor_47 rfl ?_
        refine z_iload_n X dX2_helperFor_48 rfl ?_
        refine z_iload_n X dX2_helperFor_49 rfl ?_
        refine z_iload X dX2_helperFor_50 rfl ?_
        refine z_callVI3 X (c_X2_canAsk hJ hk σ ok hd hs (by first | assumption | (unfold zB at *; omega))) kX2_115 rfl (zNet_lt hk) (zNet_obj hk ad G _ _) ⟨(Nat.le_of_ble_eq_true rfl), (Nat.le_of_ble_eq_true rfl)⟩ (Nat.le_of_ble_eq_true rfl) ⟨Nat.zero_le _, Nat.zero_le _⟩ dX2_helperFor_52 (fun z9 σ1 hz9 => ?_)
        obtain ⟨rfl, rfl⟩ := hz9
        refine z_ifb_eq X 61 dX2_helperFor_55 (by decide) (fun c_10 => ?_) (fun c_10 => ?_)
        · refine z_iinc X dX2_helperFor_61 rfl (by decide) ?_
          refine z_sub [(0, .ref (ad k)), (1, vI d), (2, vI s), (3, vI (cLead N d)), (4, vI (i + 1)), (5, vI 1)] (zSub_cons rfl (zSub_cons rfl (zSub_cons rfl (zSub_cons rfl (zSub_cons rfl (zSub_cons rfl zSub_nil)))))) ?_
          refine z_goto X 9 dX2_helperFor_64 (by decide) ?_
          refine z_sub [(0, .ref (ad k)), (1, vI d), (2, vI s), (3, vI (cLead N d)), (4, vI (i + 1))] (zSub_cons rfl (zSub_cons rfl (zSub_cons rfl (zSub_cons rfl (zSub_cons rfl zSub_nil))))) ?_
          exact ih (by omega) () (zFind_step i0 hv (decide_eq_false (by grind)))
        · refine z_iload X dX2_helperFor_58 rfl ?_
          exact z_iret X hsz hr hlocks dX2_helperFor_60 ⟨(show zFind (fun o => decide ((o = cLead N d ∨ cAns (cSt N d o)) ∧ cCanAsk N d s o)) 6 = i from zFind_hit (n := 6) i0 (by omega) hv (decide_eq_true (by grind))).symm, rfl⟩

set_option maxHeartbeats 4000000 in
set_option maxRecDepth 100000 in
theorem c_X2_isStuck {l : Launch} {D : va_G} {G : zG} {ad : Nat → Nat} (hJ : zInj ad) {k : Nat} (hk : zNet k) (σ : zM) {N : Nat → Nat → Int} (ok : cOk N) {d : Int} (hd : zB d)  : zKI l D G ad yX2_isStuck cX2_isStuck 4 (some .boolean) 3 [.ref (ad k), vI d] (zBk σ k 8 N) (fun z σ9 => z = (if cStuck N d then 1 else 0) ∧ σ9 = (zBk σ k 8 N)) := by
  intro sz
  refine z_open hJ (by decide +kernel) (Nat.le_of_ble_eq_true rfl) ?_
  intro p e s0 m args below meth c hsz X hr hlocks
  have hn := ok_n ok
  refine z_sub [(0, .ref (ad k)), (1, vI d)] (zSub_cons rfl (zSub_cons rfl zSub_nil)) ?_
  refine z_iconst X dX2_isStuck_0 ?_
  refine z_istore_n X dX2_isStuck_1 (by decide) ?_
  refine z_sub [(0, .ref (ad k)), (1, vI d), (2, vI 0)] (zSub_cons rfl (zSub_cons rfl (zSub_cons rfl zSub_nil))) ?_
  refine z_iconst X dX2_isStuck_2 ?_
  refine z_istore_n X dX2_isStuck_3 (by decide) ?_
  refine z_sub [(0, .ref (ad k)), (1, vI d), (2, vI 0), (3, vI 0)] (zSub_cons rfl (zSub_cons rfl (zSub_cons rfl (zSub_cons rfl zSub_nil)))) ?_
  refine z_sub [(0, .ref (ad k)), (1, vI d), (2, vI 0), (3, vI 0)] (zSub_cons rfl (zSub_cons rfl (zSub_cons rfl (zSub_cons rfl zSub_nil)))) ?_
  refine zFor (S := Int) 6 (fun i a => zAny (fun s => decide (cHelp N d s ≠ -1)) i.toNat = false ∧ (0 ≤ a ∧ a ≤ i) ∧ (0 < a ↔ zAny (fun s => decide (cUp N s ∧ cSt N d s = 1)) i.toNat = true)) (fun i a => zV p l e (zRm 3) s0 m args below meth c 4 D G ad 0 0 (zE below (zQI D G ad sz (fun z σ9 => z = (if cStuck N d then 1 else 0) ∧ σ9 = (zBk σ k 8 N))) args s0 ad) 4 [(0, .ref (ad k)), (1, vI d), (2, vI a), (3, vI i)] [] (zBk σ k 8 N)) (fun i a i0 i1 hv ih => ?_) 0 (by omega) ⟨rfl, ⟨by decide, by decide⟩, fun h => absurd h (by decide), fun h => absurd h Bool.false_ne_true⟩
  refine z_iload_n X dX2_isStuck_4 rfl ?_
  refine z_bipush X dX2_isStuck_5 rfl ?_
  refine z_icmp_ge X 49 dX2_isStuck_7 (by decide) (by first | assumption | (unfold zB at *; omega)) ⟨by decide, by decide⟩ (fun c_1 => ?_) (fun c_1 => ?_)
  · refine z_iload_n X dX2_isStuck_49 rfl ?_
    refine z_if_le X 57 dX2_isStuck_50 (by decide) (by first | assumption | (unfold zB at *; omega)) (fun c_2 => ?_) (fun c_2 => ?_)
    · refine z_iconst X dX2_isStuck_57 ?_
      exact z_zret X hsz hr hlocks dX2_isStuck_58 (Or.inl rfl) ⟨(by have e : i = 6 := (by omega); subst e; have h8 : zAny (fun s => decide (cHelp N d s ≠ -1)) 6 = false := hv.1; have h7 : ¬ zAny (fun s => decide (cUp N s ∧ cSt N d s = 1)) 6 = true := fun h5 => (by have h4 := hv.2.2.mpr h5; omega); exact (if_neg (show ¬ (zAny (fun s => decide (cHelp N d s ≠ -1)) 6 = false ∧ zAny (fun s => decide (cUp N s ∧ cSt N d s = 1)) 6 = true) from fun h6 => h7 h6.2)).symm), rfl⟩
    · refine z_iconst X dX2_isStuck_53 ?_
      refine z_goto X 58 dX2_isStuck_54 (by decide) ?_
      exact z_zret X hsz hr hlocks dX2_isStuck_58 (Or.inr rfl) ⟨(by have e : i = 6 := (by omega); subst e; have h8 : zAny (fun s => decide (cHelp N d s ≠ -1)) 6 = false := hv.1; have h7 : zAny (fun s => decide (cUp N s ∧ cSt N d s = 1)) 6 = true := hv.2.2.mp (by omega); exact (if_pos (show zAny (fun s => decide (cHelp N d s ≠ -1)) 6 = false ∧ zAny (fun s => decide (cUp N s ∧ cSt N d s = 1)) 6 = true from ⟨h8, h7⟩)).symm), rfl⟩
  · refine z_aload_n X dX2_isStuck_10 rfl ?_
    refine z_iload_n X dX2_isStuck_11 rfl ?_
    refine z_iload_n X dX2_isStuck_12 rfl ?_
    refine z_callVI2 X (c_X2_helperFor hJ hk σ ok hd (by first | assumption | (unfold zB at *; omega))) kX2_142 rfl (zNet_lt hk) (zNet_obj hk ad G _ _) ⟨(Nat.le_of_ble_eq_true rfl), (Nat.le_of_ble_eq_true rfl)⟩ (Nat.le_of_ble_eq_true rfl) ⟨Nat.zero_le _, Nat.zero_le _⟩ dX2_isStuck_13 (fun z9 σ1 hz9 => ?_)
    obtain ⟨rfl, rfl⟩ := hz9
    refine z_iconst X dX2_isStuck_16 ?_
    refine z_icmp_eq X 22 dX2_isStuck_17 (by decide) (zB_sm (rg_help _ _ _)) ⟨by decide, by decide⟩ (fun c_4 => ?_) (fun c_4 => ?_)
    · refine z_aload_n X dX2_isStuck_22 rfl ?_
      refine z_iload_n X dX2_isStuck_23 rfl ?_
      refine z_callVI1 X (c_X2_isAwake hJ hk σ ok (by first | assumption | (unfold zB at *; omega))) kX2_79 rfl (zNet_lt hk) (zNet_obj hk ad G _ _) ⟨(Nat.le_of_ble_eq_true rfl), (Nat.le_of_ble_eq_true rfl)⟩ (Nat.le_of_ble_eq_true rfl) ⟨Nat.zero_le _, Nat.zero_le _⟩ dX2_isStuck_24 (fun z9 σ1 hz9 => ?_)
      obtain ⟨rfl, rfl⟩ := hz9
      refine z_ifb_eq X 43 dX2_isStuck_27 (by decide) (fun c_6 => ?_) (fun c_6 => ?_)
      · refine z_iinc X dX2_isStuck_43 rfl (by decide) ?_
        refine z_sub [(0, .ref (ad k)), (1, vI d), (2, vI a), (3, vI (i + 1))] (zSub_cons rfl (zSub_cons rfl (zSub_cons rfl (zSub_cons rfl zSub_nil)))) ?_
        refine z_goto X 4 dX2_isStuck_46 (by decide) ?_
        refine z_sub [(0, .ref (ad k)), (1, vI d), (2, vI a), (3, vI (i + 1))] (zSub_cons rfl (zSub_cons rfl (zSub_cons rfl (zSub_cons rfl zSub_nil)))) ?_
        exact ih (by omega) a ⟨zAny_step i0 hv.1 (decide_eq_false (by omega)), by omega, zAny_keep i0 hv.2.2 (by grind)⟩
      · refine z_aload_n X dX2_isStuck_30 rfl ?_
        refine z_iload_n X dX2_isStuck_31 rfl ?_
        refine z_iload_n X dX2_isStuck_32 rfl ?_
        refine z_callVI2 X (c_X2_stateOf hJ hk σ ok hd (by first | assumption | (unfold zB at *; omega))) kX2_66 rfl (zNet_lt hk) (zNet_obj hk ad G _ _) ⟨(Nat.le_of_ble_eq_true rfl), (Nat.le_of_ble_eq_true rfl)⟩ (Nat.le_of_ble_eq_true rfl) ⟨Nat.zero_le _, Nat.zero_le _⟩ dX2_isStuck_33 (fun z9 σ1 hz9 => ?_)
        obtain ⟨rfl, rfl⟩ := hz9
        refine z_iconst X dX2_isStuck_36 ?_
        refine z_icmp_ne X 43 dX2_isStuck_37 (by decide) (zB_sm (rg_st ok _ _)) ⟨by decide, by decide⟩ (fun c_8 => ?_) (fun c_8 => ?_)
        · refine z_iinc X dX2_isStuck_43 rfl (by decide) ?_
          refine z_sub [(0, .ref (ad k)), (1, vI d), (2, vI a), (3, vI (i + 1))] (zSub_cons rfl (zSub_cons rfl (zSub_cons rfl (zSub_cons rfl zSub_nil)))) ?_
          refine z_goto X 4 dX2_isStuck_46 (by decide) ?_
          refine z_sub [(0, .ref (ad k)), (1, vI d), (2, vI a), (3, vI (i + 1))] (zSub_cons rfl (zSub_cons rfl (zSub_cons rfl (zSub_cons rfl zSub_nil)))) ?_
          exact ih (by omega) a ⟨zAny_step i0 hv.1 (decide_eq_false (by omega)), by omega, zAny_keep i0 hv.2.2 (by grind)⟩
        · refine z_iinc X dX2_isStuck_40 rfl (by decide) ?_
          refine z_sub [(0, .ref (ad k)), (1, vI d), (2, vI (a + 1)), (3, vI i)] (zSub_cons rfl (zSub_cons rfl (zSub_cons rfl (zSub_cons rfl zSub_nil)))) ?_
          refine z_iinc X dX2_isStuck_43 rfl (by decide) ?_
          refine z_sub [(0, .ref (ad k)), (1, vI d), (2, vI (a + 1)), (3, vI (i + 1))] (zSub_cons rfl (zSub_cons rfl (zSub_cons rfl (zSub_cons rfl zSub_nil)))) ?_
          refine z_goto X 4 dX2_isStuck_46 (by decide) ?_
          refine z_sub [(0, .ref (ad k)), (1, vI d), (2, vI (a + 1)), (3, vI (i + 1))] (zSub_cons rfl (zSub_cons rfl (zSub_cons rfl (zSub_cons rfl zSub_nil)))) ?_
          exact ih (by omega) (a + 1) ⟨zAny_step i0 hv.1 (decide_eq_false (by omega)), by omega, zAny_inc i0 hv.2.1.1 (by grind)⟩
    · refine z_iconst X dX2_isStuck_20 ?_
      exact z_zret X hsz hr hlocks dX2_isStuck_21 (Or.inl rfl) ⟨(if_neg (show ¬ (zAny (fun s => decide (cHelp N d s ≠ -1)) 6 = false ∧ zAny (fun s => decide (cUp N s ∧ cSt N d s = 1)) 6 = true) from fun h9 => by rw [show zAny (fun s => decide (cHelp N d s ≠ -1)) 6 = true from zAny_hit (n := 6) i0 (by omega) (decide_eq_true (by omega))] at h9; exact absurd h9.1 (by decide))).symm, rfl⟩

set_option maxHeartbeats 4000000 in
set_option maxRecDepth 100000 in
theorem c_X2_countStuck {l : Launch} {D : va_G} {G : zG} {ad : Nat → Nat} (hJ : zInj ad) {k : Nat} (hk : zNet k) (σ : zM) {N : Nat → Nat → Int} (ok : cOk N)   : zKI l D G ad yX2_countStuck cX2_countStuck 3 (some .int) 4 [.ref (ad k)] (zBk σ k 8 N) (fun z σ9 => z = cStucks N ∧ σ9 = (zBk σ k 8 N)) := by
  intro sz
  refine z_open hJ (by decide +kernel) (Nat.le_of_ble_eq_true rfl) ?_
  intro p e s0 m args below meth c hsz X hr hlocks
  have hn := ok_n ok
  refine z_sub [(0, .ref (ad k))] (zSub_cons rfl zSub_nil) ?_
  refine z_iconst X dX2_countStuck_0 ?_
  refine z_istore_n X dX2_countStuck_1 (by decide) ?_
  refine z_sub [(0, .ref (ad k)), (1, vI 0)] (zSub_cons rfl (zSub_cons rfl zSub_nil)) ?_
  refine z_iconst X dX2_countStuck_2 ?_
  refine z_istore_n X dX2_countStuck_3 (by decide) ?_
  refine z_sub [(0, .ref (ad k)), (1, vI 0), (2, vI 0)] (zSub_cons rfl (zSub_cons rfl (zSub_cons rfl zSub_nil))) ?_
  refine z_sub [(0, .ref (ad k)), (1, vI 0), (2, vI 0)] (zSub_cons rfl (zSub_cons rfl (zSub_cons rfl zSub_nil))) ?_
  refine zFor (S := Int) (N 0 0) (fun i a => a = zSum (fun d => if cStuck N d then 1 else 0) i.toNat) (fun i a => zV p l e (zRm 4) s0 m args below meth c 3 D G ad 0 0 (zE below (zQI D G ad sz (fun z σ9 => z = cStucks N ∧ σ9 = (zBk σ k 8 N))) args s0 ad) 4 [(0, .ref (ad k)), (1, vI a), (2, vI i)] [] (zBk σ k 8 N)) (fun i a i0 i1 hv ih => ?_) 0 (by omega) rfl
  refine z_iload_n X dX2_countStuck_4 rfl ?_
  refine z_aload_n X dX2_countStuck_5 rfl ?_
  refine y_gNet0 X hk fX2_9 dX2_countStuck_6 ?_
  refine z_icmp_ge X 29 dX2_countStuck_9 (by decide) (by first | assumption | (unfold zB at *; omega)) (zB_sm (ok_n ok)) (fun c_1 => ?_) (fun c_1 => ?_)
  · refine z_iload_n X dX2_countStuck_29 rfl ?_
    exact z_iret X hsz hr hlocks dX2_countStuck_30 ⟨(by rw [hv, show i = N 0 0 by omega]; rfl), rfl⟩
  · refine z_aload_n X dX2_countStuck_12 rfl ?_
    refine z_iload_n X dX2_countStuck_13 rfl ?_
    refine z_callVI1 X (c_X2_isStuck hJ hk σ ok (by first | assumption | (unfold zB at *; omega))) kX2_139 rfl (zNet_lt hk) (zNet_obj hk ad G _ _) ⟨(Nat.le_of_ble_eq_true rfl), (Nat.le_of_ble_eq_true rfl)⟩ (Nat.le_of_ble_eq_true rfl) ⟨Nat.zero_le _, Nat.zero_le _⟩ dX2_countStuck_14 (fun z9 σ1 hz9 => ?_)
    obtain ⟨rfl, rfl⟩ := hz9
    refine z_ifb_eq X 23 dX2_countStuck_17 (by decide) (fun c_3 => ?_) (fun c_3 => ?_)
    · refine z_iinc X dX2_countStuck_23 rfl (by decide) ?_
      refine z_sub [(0, .ref (ad k)), (1, vI a), (2, vI (i + 1))] (zSub_cons rfl (zSub_cons rfl (zSub_cons rfl zSub_nil))) ?_
      refine z_goto X 4 dX2_countStuck_26 (by decide) ?_
      refine z_sub [(0, .ref (ad k)), (1, vI a), (2, vI (i + 1))] (zSub_cons rfl (zSub_cons rfl (zSub_cons rfl zSub_nil))) ?_
      exact ih (by omega) a (by rw [zSum_step i0, ← hv]; grind)
    · refine z_iinc X dX2_countStuck_20 rfl (by decide) ?_
      refine z_sub [(0, .ref (ad k)), (1, vI (a + 1)), (2, vI i)] (zSub_cons rfl (zSub_cons rfl (zSub_cons rfl zSub_nil))) ?_
      refine z_iinc X dX2_countStuck_23 rfl (by decide) ?_
      refine z_sub [(0, .ref (ad k)), (1, vI (a + 1)), (2, vI (i + 1))] (zSub_cons rfl (zSub_cons rfl (zSub_cons rfl zSub_nil))) ?_
      refine z_goto X 4 dX2_countStuck_26 (by decide) ?_
      refine z_sub [(0, .ref (ad k)), (1, vI (a + 1)), (2, vI (i + 1))] (zSub_cons rfl (zSub_cons rfl (zSub_cons rfl zSub_nil))) ?_
      exact ih (by omega) (a + 1) (by rw [zSum_step i0, ← hv]; grind)

set_option maxHeartbeats 4000000 in
set_option maxRecDepth 100000 in
theorem c_X2_countMembers {l : Launch} {D : va_G} {G : zG} {ad : Nat → Nat} (hJ : zInj ad) {k : Nat} (hk : zNet k) (σ : zM) {N : Nat → Nat → Int} (ok : cOk N)   : zKI l D G ad yX2_countMembers cX2_countMembers 1 (some .int) 2 [.ref (ad k)] (zBk σ k 8 N) (fun z σ9 => z = cMems N ∧ σ9 = (zBk σ k 8 N)) := by
  intro sz
  refine z_open hJ (by decide +kernel) (Nat.le_of_ble_eq_true rfl) ?_
  intro p e s0 m args below meth c hsz X hr hlocks
  have hn := ok_n ok
  refine z_sub [(0, .ref (ad k))] (zSub_cons rfl zSub_nil) ?_
  refine z_aload_n X dX2_countMembers_0 rfl ?_
  refine y_gNet0 X hk fX2_9 dX2_countMembers_1 ?_
  refine z_bipush X dX2_countMembers_4 rfl ?_
  refine z_imul X dX2_countMembers_6 ?_
  refine z_aload_n X dX2_countMembers_7 rfl ?_
  refine z_iconst X dX2_countMembers_8 ?_
  refine z_callVI1 X (c_X2_countInState hJ hk σ ok ⟨by decide, by decide⟩) kX2_122 rfl (zNet_lt hk) (zNet_obj hk ad G _ _) ⟨(Nat.le_of_ble_eq_true rfl), (Nat.le_of_ble_eq_true rfl)⟩ (Nat.le_of_ble_eq_true rfl) ⟨Nat.zero_le _, Nat.zero_le _⟩ dX2_countMembers_9 (fun z9 σ1 hz9 => ?_)
  obtain ⟨rfl, rfl⟩ := hz9
  refine z_isub X dX2_countMembers_12 ?_
  exact z_iret X hsz hr hlocks dX2_countMembers_13 ⟨(by first | rfl | ((try simp only [cMems]); split <;> first | rfl | omega | (exfalso; omega)) | (simp [cMems]; done) | (simp_all [cMems]; done)), rfl⟩

set_option maxHeartbeats 4000000 in
set_option maxRecDepth 100000 in
theorem c_X2_reasonAgainstYes {l : Launch} {D : va_G} {G : zG} {ad : Nat → Nat} (hJ : zInj ad) {k : Nat} (hk : zNet k) (σ : zM) {N : Nat → Nat → Int} (ok : cOk N) {d : Int} (hd : zB d) {s : Int} (hs : zB s)  : zKI l D G ad yX2_reasonAgainstYes cX2_reasonAgainstYes 4 (some .int) 2 [.ref (ad k), vI d, vI s] (zBk σ k 8 N) (fun z σ9 => z = cReas N d s ∧ σ9 = (zBk σ k 8 N)) := by
  intro sz
  refine z_open hJ (by decide +kernel) (Nat.le_of_ble_eq_true rfl) ?_
  intro p e s0 m args below meth c hsz X hr hlocks
  have hn := ok_n ok
  refine z_sub [(0, .ref (ad k)), (1, vI d), (2, vI s)] (zSub_cons rfl (zSub_cons rfl (zSub_cons rfl zSub_nil))) ?_
  refine z_aload_n X dX2_reasonAgainstYes_0 rfl ?_
  refine z_iload_n X dX2_reasonAgainstYes_1 rfl ?_
  refine z_iload_n X dX2_reasonAgainstYes_2 rfl ?_
  refine z_callVI2 X (c_X2_stateOf hJ hk σ ok hd hs) kX2_66 rfl (zNet_lt hk) (zNet_obj hk ad G _ _) ⟨(Nat.le_of_ble_eq_true rfl), (Nat.le_of_ble_eq_true rfl)⟩ (Nat.le_of_ble_eq_true rfl) ⟨Nat.zero_le _, Nat.zero_le _⟩ dX2_reasonAgainstYes_3 (fun z9 σ1 hz9 => ?_)
  obtain ⟨rfl, rfl⟩ := hz9
  refine z_istore_n X dX2_reasonAgainstYes_6 (by decide) ?_
  refine z_sub [(0, .ref (ad k)), (1, vI d), (2, vI s), (3, vI (cSt N d s))] (zSub_cons rfl (zSub_cons rfl (zSub_cons rfl (zSub_cons rfl zSub_nil)))) ?_
  refine z_iload_n X dX2_reasonAgainstYes_7 rfl ?_
  refine z_iconst X dX2_reasonAgainstYes_8 ?_
  refine z_icmp_ne X 14 dX2_reasonAgainstYes_9 (by decide) (zB_sm (rg_st ok _ _)) ⟨by decide, by decide⟩ (fun c_2 => ?_) (fun c_2 => ?_)
  · refine z_aload_n X dX2_reasonAgainstYes_14 rfl ?_
    refine z_iload_n X dX2_reasonAgainstYes_15 rfl ?_
    refine z_callVI1 X (c_X2_isAwake hJ hk σ ok hs) kX2_79 rfl (zNet_lt hk) (zNet_obj hk ad G _ _) ⟨(Nat.le_of_ble_eq_true rfl), (Nat.le_of_ble_eq_true rfl)⟩ (Nat.le_of_ble_eq_true rfl) ⟨Nat.zero_le _, Nat.zero_le _⟩ dX2_reasonAgainstYes_16 (fun z9 σ1 hz9 => ?_)
    obtain ⟨rfl, rfl⟩ := hz9
    refine z_ifb_ne X 24 dX2_reasonAgainstYes_19 (by decide) (fun c_4 => ?_) (fun c_4 => ?_)
    · refine z_iload_n X dX2_reasonAgainstYes_24 rfl ?_
      refine z_if_eq X 30 dX2_reasonAgainstYes_25 (by decide) (zB_sm (rg_st ok _ _)) (fun c_5 => ?_) (fun c_5 => ?_)
      · have hin := cSt_in (N := N) (d := d) (s := s) (by omega)
        refine z_aload_n X dX2_reasonAgainstYes_30 rfl ?_
        refine z_iload_n X dX2_reasonAgainstYes_31 rfl ?_
        refine z_iload_n X dX2_reasonAgainstYes_32 rfl ?_
        refine z_callVI2 X (c_X2_holdsForAnother hJ hk σ ok hd hs (by first | omega | assumption)) kX2_95 rfl (zNet_lt hk) (zNet_obj hk ad G _ _) ⟨(Nat.le_of_ble_eq_true rfl), (Nat.le_of_ble_eq_true rfl)⟩ (Nat.le_of_ble_eq_true rfl) ⟨Nat.zero_le _, Nat.zero_le _⟩ dX2_reasonAgainstYes_33 (fun z9 σ1 hz9 => ?_)
        obtain ⟨rfl, rfl⟩ := hz9
        refine z_ifb_eq X 43 dX2_reasonAgainstYes_36 (by decide) (fun c_7 => ?_) (fun c_7 => ?_)
        · refine z_iconst X dX2_reasonAgainstYes_43 ?_
          exact z_iret X hsz hr hlocks dX2_reasonAgainstYes_44 ⟨(by first | rfl | grind [cReas]), rfl⟩
        · refine z_iconst X dX2_reasonAgainstYes_39 ?_
          refine z_goto X 44 dX2_reasonAgainstYes_40 (by decide) ?_
          exact z_iret X hsz hr hlocks dX2_reasonAgainstYes_44 ⟨(by first | rfl | grind [cReas]), rfl⟩
      · refine z_iconst X dX2_reasonAgainstYes_28 ?_
        exact z_iret X hsz hr hlocks dX2_reasonAgainstYes_29 ⟨(by first | rfl | grind [cReas]), rfl⟩
    · refine z_iconst X dX2_reasonAgainstYes_22 ?_
      exact z_iret X hsz hr hlocks dX2_reasonAgainstYes_23 ⟨(by first | rfl | grind [cReas]), rfl⟩
  · refine z_iconst X dX2_reasonAgainstYes_12 ?_
    exact z_iret X hsz hr hlocks dX2_reasonAgainstYes_13 ⟨(by first | rfl | grind [cReas]), rfl⟩

set_option maxHeartbeats 4000000 in
set_option maxRecDepth 100000 in
theorem c_X2_itemsHeldBy {l : Launch} {D : va_G} {G : zG} {ad : Nat → Nat} (hJ : zInj ad) {k : Nat} (hk : zNet k) (σ : zM) {N : Nat → Nat → Int} (ok : cOk N) {s : Int} (hs : zB s)  : zKI l D G ad yX2_itemsHeldBy cX2_itemsHeldBy 4 (some .int) 1 [.ref (ad k), vI s] (zBk σ k 8 N) (fun z σ9 => z = cHeld N s (N 0 0).toNat ∧ σ9 = (zBk σ k 8 N)) := by
  intro sz
  refine z_open hJ (by decide +kernel) (Nat.le_of_ble_eq_true rfl) ?_
  intro p e s0 m args below meth c hsz X hr hlocks
  have hn := ok_n ok
  refine z_sub [(0, .ref (ad k)), (1, vI s)] (zSub_cons rfl (zSub_cons rfl zSub_nil)) ?_
  refine z_iconst X dX2_itemsHeldBy_0 ?_
  refine z_istore_n X dX2_itemsHeldBy_1 (by decide) ?_
  refine z_sub [(0, .ref (ad k)), (1, vI s), (2, vI 0)] (zSub_cons rfl (zSub_cons rfl (zSub_cons rfl zSub_nil))) ?_
  refine z_iconst X dX2_itemsHeldBy_2 ?_
  refine z_istore_n X dX2_itemsHeldBy_3 (by decide) ?_
  refine z_sub [(0, .ref (ad k)), (1, vI s), (2, vI 0), (3, vI 0)] (zSub_cons rfl (zSub_cons rfl (zSub_cons rfl (zSub_cons rfl zSub_nil)))) ?_
  refine z_sub [(0, .ref (ad k)), (1, vI s), (2, vI 0), (3, vI 0)] (zSub_cons rfl (zSub_cons rfl (zSub_cons rfl (zSub_cons rfl zSub_nil)))) ?_
  refine zFor (S := Int) (N 0 0) (fun i a => a = cHeld N s i.toNat) (fun i a => zV p l e (zRm 1) s0 m args below meth c 4 D G ad 0 0 (zE below (zQI D G ad sz (fun z σ9 => z = cHeld N s (N 0 0).toNat ∧ σ9 = (zBk σ k 8 N))) args s0 ad) 4 [(0, .ref (ad k)), (1, vI s), (2, vI a), (3, vI i)] [] (zBk σ k 8 N)) (fun i a i0 i1 hv ih => ?_) 0 (by omega) rfl
  refine z_iload_n X dX2_itemsHeldBy_4 rfl ?_
  refine z_aload_n X dX2_itemsHeldBy_5 rfl ?_
  refine y_gNet0 X hk fX2_9 dX2_itemsHeldBy_6 ?_
  refine z_icmp_ge X 39 dX2_itemsHeldBy_9 (by decide) (by first | assumption | (unfold zB at *; omega)) (zB_sm (ok_n ok)) (fun c_1 => ?_) (fun c_1 => ?_)
  · refine z_iload_n X dX2_itemsHeldBy_39 rfl ?_
    exact z_iret X hsz hr hlocks dX2_itemsHeldBy_40 ⟨(by rw [hv, show i = N 0 0 by omega]), rfl⟩
  · refine z_aload_n X dX2_itemsHeldBy_12 rfl ?_
    refine z_iload_n X dX2_itemsHeldBy_13 rfl ?_
    refine z_iload_n X dX2_itemsHeldBy_14 rfl ?_
    refine z_callVI2 X (c_X2_stateOf hJ hk σ ok (by first | assumption | (unfold zB at *; omega)) hs) kX2_66 rfl (zNet_lt hk) (zNet_obj hk ad G _ _) ⟨(Nat.le_of_ble_eq_true rfl), (Nat.le_of_ble_eq_true rfl)⟩ (Nat.le_of_ble_eq_true rfl) ⟨Nat.zero_le _, Nat.zero_le _⟩ dX2_itemsHeldBy_15 (fun z9 σ1 hz9 => ?_)
    obtain ⟨rfl, rfl⟩ := hz9
    refine z_iconst X dX2_itemsHeldBy_18 ?_
    refine z_icmp_ne X 33 dX2_itemsHeldBy_19 (by decide) (zB_sm (rg_st ok _ _)) ⟨by decide, by decide⟩ (fun c_3 => ?_) (fun c_3 => ?_)
    · refine z_iinc X dX2_itemsHeldBy_33 rfl (by decide) ?_
      refine z_sub [(0, .ref (ad k)), (1, vI s), (2, vI a), (3, vI (i + 1))] (zSub_cons rfl (zSub_cons rfl (zSub_cons rfl (zSub_cons rfl zSub_nil)))) ?_
      refine z_goto X 4 dX2_itemsHeldBy_36 (by decide) ?_
      refine z_sub [(0, .ref (ad k)), (1, vI s), (2, vI a), (3, vI (i + 1))] (zSub_cons rfl (zSub_cons rfl (zSub_cons rfl (zSub_cons rfl zSub_nil)))) ?_
      exact ih (by omega) a (by rw [cHeld_step i0, ← hv]; grind)
    · refine z_iload_n X dX2_itemsHeldBy_22 rfl ?_
      refine z_iconst X dX2_itemsHeldBy_23 ?_
      refine z_aload_n X dX2_itemsHeldBy_24 rfl ?_
      refine y_gNet5 X hk fX2_28 dX2_itemsHeldBy_25 ?_
      refine z_iload_n X dX2_itemsHeldBy_28 rfl ?_
      refine y_iald X 2 (zNA2 hk) (by decide) (by omega) (by omega) (by decide) dX2_itemsHeldBy_29 ?_
      refine z_shl X dX2_itemsHeldBy_30 (zShl_eq 1 (N 2 i.toNat)) ?_
      refine z_or X dX2_itemsHeldBy_31 (zOr_eq a (zShl 1 (N 2 i.toNat))) ?_
      refine z_istore_n X dX2_itemsHeldBy_32 (by decide) ?_
      refine z_sub [(0, .ref (ad k)), (1, vI s), (2, vI (zOr a (zShl 1 (N 2 i.toNat)))), (3, vI i)] (zSub_cons rfl (zSub_cons rfl (zSub_cons rfl (zSub_cons rfl zSub_nil)))) ?_
      refine z_iinc X dX2_itemsHeldBy_33 rfl (by decide) ?_
      refine z_sub [(0, .ref (ad k)), (1, vI s), (2, vI (zOr a (zShl 1 (N 2 i.toNat)))), (3, vI (i + 1))] (zSub_cons rfl (zSub_cons rfl (zSub_cons rfl (zSub_cons rfl zSub_nil)))) ?_
      refine z_goto X 4 dX2_itemsHeldBy_36 (by decide) ?_
      refine z_sub [(0, .ref (ad k)), (1, vI s), (2, vI (zOr a (zShl 1 (N 2 i.toNat)))), (3, vI (i + 1))] (zSub_cons rfl (zSub_cons rfl (zSub_cons rfl (zSub_cons rfl zSub_nil)))) ?_
      exact ih (by omega) (zOr a (zShl 1 (N 2 i.toNat))) (by rw [cHeld_step i0, ← hv]; grind)

set_option maxHeartbeats 4000000 in
set_option maxRecDepth 100000 in
theorem c_X2_silence {l : Launch} {D : va_G} {G : zG} {ad : Nat → Nat} (hJ : zInj ad) {k : Nat} (hk : zNet k) (σ : zM) {N : Nat → Nat → Int} (ok : cOk N) {s : Int} (hs : zB s)  : zKI l D G ad yX2_silence cX2_silence 4 (some .int) 1 [.ref (ad k), vI s] (zBk σ k 8 N) (fun z σ9 => z = cSilR N s ∧ σ9 = (zBk σ k 8 (cSilN N s))) := by
  intro sz
  refine z_open hJ (by decide +kernel) (Nat.le_of_ble_eq_true rfl) ?_
  intro p e s0 m args below meth c hsz X hr hlocks
  have hn := ok_n ok
  refine z_sub [(0, .ref (ad k)), (1, vI s)] (zSub_cons rfl (zSub_cons rfl zSub_nil)) ?_
  refine z_aload_n X dX2_silence_0 rfl ?_
  refine z_iload_n X dX2_silence_1 rfl ?_
  refine z_callVI1 X (c_X2_isAwake hJ hk σ ok hs) kX2_79 rfl (zNet_lt hk) (zNet_obj hk ad G _ _) ⟨(Nat.le_of_ble_eq_true rfl), (Nat.le_of_ble_eq_true rfl)⟩ (Nat.le_of_ble_eq_true rfl) ⟨Nat.zero_le _, Nat.zero_le _⟩ dX2_silence_2 (fun z9 σ1 hz9 => ?_)
  obtain ⟨rfl, rfl⟩ := hz9
  refine z_ifb_ne X 10 dX2_silence_5 (by decide) (fun c_2 => ?_) (fun c_2 => ?_)
  · refine z_aload_n X dX2_silence_10 rfl ?_
    refine z_dup X dX2_silence_11 rfl ?_
    refine y_gNet1 X hk fX2_15 dX2_silence_12 ?_
    refine z_iconst X dX2_silence_15 ?_
    refine z_iload_n X dX2_silence_16 rfl ?_
    refine z_shl X dX2_silence_17 (zShl_eq 1 s) ?_
    refine z_iconst X dX2_silence_18 ?_
    refine z_xor X dX2_silence_19 (zXor_eq (zShl 1 s) (-1)) ?_
    refine z_and X dX2_silence_20 (zAnd_eq (N 0 1) (zXor (zShl 1 s) (-1))) ?_
    refine y_pNet1 X hk fX2_15 dX2_silence_21 ?_
    rw [show (up2 N 0 1 (zAnd (N 0 1) (zXor (zShl 1 s) (-1)))) = (cSil N s) from rfl]
    refine z_iconst X dX2_silence_24 ?_
    refine z_istore_n X dX2_silence_25 (by decide) ?_
    refine z_sub [(0, .ref (ad k)), (1, vI s), (2, vI 0)] (zSub_cons rfl (zSub_cons rfl (zSub_cons rfl zSub_nil))) ?_
    refine z_iconst X dX2_silence_26 ?_
    refine z_istore_n X dX2_silence_27 (by decide) ?_
    refine z_sub [(0, .ref (ad k)), (1, vI s), (2, vI 0), (3, vI 0)] (zSub_cons rfl (zSub_cons rfl (zSub_cons rfl (zSub_cons rfl zSub_nil)))) ?_
    refine z_sub [(0, .ref (ad k)), (1, vI s), (2, vI 0), (3, vI 0)] (zSub_cons rfl (zSub_cons rfl (zSub_cons rfl (zSub_cons rfl zSub_nil)))) ?_
    have hn2 : cSil N s 0 0 = N 0 0 := rfl
    refine zFor (S := Int) (N 0 0) (fun i a => a = zSum (fun d => if cSt (cSil N s) d s = 1 then 1 else 0) i.toNat) (fun i a => zV p l e (zRm 1) s0 m args below meth c 4 D G ad 0 0 (zE below (zQI D G ad sz (fun z σ9 => z = cSilR N s ∧ σ9 = (zBk σ k 8 (cSilN N s)))) args s0 ad) 28 [(0, .ref (ad k)), (1, vI s), (2, vI a), (3, vI i)] [] (zBk σ k 8 (cSil N s))) (fun i a i0 i1 hv ih => ?_) 0 (by omega) rfl
    refine z_iload_n X dX2_silence_28 rfl ?_
    refine z_aload_n X dX2_silence_29 rfl ?_
    refine y_gNet0 X hk fX2_9 dX2_silence_30 ?_
    refine z_icmp_ge X 55 dX2_silence_33 (by decide) (by first | assumption | (unfold zB at *; omega)) (zB_sm (ok_n (ok_sil ok ⟨c_2.1, c_2.2.1⟩))) (fun c_3 => ?_) (fun c_3 => ?_)
    · refine z_iload_n X dX2_silence_55 rfl ?_
      exact z_iret X hsz hr hlocks dX2_silence_56 ⟨(by unfold cSilR; rw [if_pos c_2, hv, show i = N 0 0 by omega]; rfl), (congrArg (zBk σ _ _) (if_pos c_2).symm)⟩
    · refine z_aload_n X dX2_silence_36 rfl ?_
      refine z_iload_n X dX2_silence_37 rfl ?_
      refine z_iload_n X dX2_silence_38 rfl ?_
      refine z_callVI2 X (c_X2_stateOf hJ hk σ (ok_sil ok ⟨c_2.1, c_2.2.1⟩) (by first | assumption | (unfold zB at *; omega)) hs) kX2_66 rfl (zNet_lt hk) (zNet_obj hk ad G _ _) ⟨(Nat.le_of_ble_eq_true rfl), (Nat.le_of_ble_eq_true rfl)⟩ (Nat.le_of_ble_eq_true rfl) ⟨Nat.zero_le _, Nat.zero_le _⟩ dX2_silence_39 (fun z9 σ1 hz9 => ?_)
      obtain ⟨rfl, rfl⟩ := hz9
      refine z_iconst X dX2_silence_42 ?_
      refine z_icmp_ne X 49 dX2_silence_43 (by decide) (zB_sm (rg_st (ok_sil ok ⟨c_2.1, c_2.2.1⟩) _ _)) ⟨by decide, by decide⟩ (fun c_5 => ?_) (fun c_5 => ?_)
      · refine z_iinc X dX2_silence_49 rfl (by decide) ?_
        refine z_sub [(0, .ref (ad k)), (1, vI s), (2, vI a), (3, vI (i + 1))] (zSub_cons rfl (zSub_cons rfl (zSub_cons rfl (zSub_cons rfl zSub_nil)))) ?_
        refine z_goto X 28 dX2_silence_52 (by decide) ?_
        refine z_sub [(0, .ref (ad k)), (1, vI s), (2, vI a), (3, vI (i + 1))] (zSub_cons rfl (zSub_cons rfl (zSub_cons rfl (zSub_cons rfl zSub_nil)))) ?_
        exact ih (by omega) a (by rw [zSum_step i0, ← hv]; grind)
      · refine z_iinc X dX2_silence_46 rfl (by decide) ?_
        refine z_sub [(0, .ref (ad k)), (1, vI s), (2, vI (a + 1)), (3, vI i)] (zSub_cons rfl (zSub_cons rfl (zSub_cons rfl (zSub_cons rfl zSub_nil)))) ?_
        refine z_iinc X dX2_silence_49 rfl (by decide) ?_
        refine z_sub [(0, .ref (ad k)), (1, vI s), (2, vI (a + 1)), (3, vI (i + 1))] (zSub_cons rfl (zSub_cons rfl (zSub_cons rfl (zSub_cons rfl zSub_nil)))) ?_
        refine z_goto X 28 dX2_silence_52 (by decide) ?_
        refine z_sub [(0, .ref (ad k)), (1, vI s), (2, vI (a + 1)), (3, vI (i + 1))] (zSub_cons rfl (zSub_cons rfl (zSub_cons rfl (zSub_cons rfl zSub_nil)))) ?_
        exact ih (by omega) (a + 1) (by rw [zSum_step i0, ← hv]; grind)
  · refine z_iconst X dX2_silence_8 ?_
    exact z_iret X hsz hr hlocks dX2_silence_9 ⟨(if_neg c_2).symm, (congrArg (zBk σ _ _) (if_neg c_2).symm)⟩

set_option maxHeartbeats 4000000 in
set_option maxRecDepth 100000 in
theorem c_X2_wake {l : Launch} {D : va_G} {G : zG} {ad : Nat → Nat} (hJ : zInj ad) {k : Nat} (hk : zNet k) (σ : zM) {N : Nat → Nat → Int} (ok : cOk N) {s : Int} (hs : zB s)  : zKI l D G ad yX2_wake cX2_wake 4 (some .int) 2 [.ref (ad k), vI s] (zBk σ k 8 N) (fun z σ9 => z = cWkR N s ∧ σ9 = (zBk σ k 8 (cWkN N s))) := by
  intro sz
  refine z_open hJ (by decide +kernel) (Nat.le_of_ble_eq_true rfl) ?_
  intro p e s0 m args below meth c hsz X hr hlocks
  have hn := ok_n ok
  refine z_sub [(0, .ref (ad k)), (1, vI s)] (zSub_cons rfl (zSub_cons rfl zSub_nil)) ?_
  refine z_iload_n X dX2_wake_0 rfl ?_
  refine z_callNI1 X (c_X3_isSite hJ _ hs) kX2_72 ⟨(Nat.le_of_ble_eq_true rfl), (Nat.le_of_ble_eq_true rfl)⟩ (Nat.le_of_ble_eq_true rfl) ⟨Nat.zero_le _, Nat.zero_le _⟩ dX2_wake_1 (fun z9 σ1 hz9 => ?_)
  obtain ⟨rfl, rfl⟩ := hz9
  refine z_ifb_eq X 15 dX2_wake_4 (by decide) (fun c_2 => ?_) (fun c_2 => ?_)
  · refine z_iconst X dX2_wake_15 ?_
    exact z_iret X hsz hr hlocks dX2_wake_16 ⟨(by unfold cWkR; rw [if_neg (by grind)]), (congrArg (zBk σ _ _) (by unfold cWkN; rw [if_neg (by grind)]))⟩
  · refine z_aload_n X dX2_wake_7 rfl ?_
    refine z_iload_n X dX2_wake_8 rfl ?_
    refine z_callVI1 X (c_X2_isAwake hJ hk σ ok hs) kX2_79 rfl (zNet_lt hk) (zNet_obj hk ad G _ _) ⟨(Nat.le_of_ble_eq_true rfl), (Nat.le_of_ble_eq_true rfl)⟩ (Nat.le_of_ble_eq_true rfl) ⟨Nat.zero_le _, Nat.zero_le _⟩ dX2_wake_9 (fun z9 σ1 hz9 => ?_)
    obtain ⟨rfl, rfl⟩ := hz9
    refine z_ifb_eq X 17 dX2_wake_12 (by decide) (fun c_4 => ?_) (fun c_4 => ?_)
    · refine z_aload_n X dX2_wake_17 rfl ?_
      refine z_iload_n X dX2_wake_18 rfl ?_
      refine z_callVI1 X (c_X2_entriesOf hJ hk σ ok hs) kX2_75 rfl (zNet_lt hk) (zNet_obj hk ad G _ _) ⟨(Nat.le_of_ble_eq_true rfl), (Nat.le_of_ble_eq_true rfl)⟩ (Nat.le_of_ble_eq_true rfl) ⟨Nat.zero_le _, Nat.zero_le _⟩ dX2_wake_19 (fun z9 σ1 hz9 => ?_)
      obtain ⟨rfl, rfl⟩ := hz9
      refine z_istore_n X dX2_wake_22 (by decide) ?_
      refine z_sub [(0, .ref (ad k)), (1, vI s), (2, vI (cEnt N s))] (zSub_cons rfl (zSub_cons rfl (zSub_cons rfl zSub_nil))) ?_
      refine z_aload_n X dX2_wake_23 rfl ?_
      refine z_dup X dX2_wake_24 rfl ?_
      refine y_gNet1 X hk fX2_15 dX2_wake_25 ?_
      refine z_iconst X dX2_wake_28 ?_
      refine z_iload_n X dX2_wake_29 rfl ?_
      refine z_shl X dX2_wake_30 (zShl_eq 1 s) ?_
      refine z_or X dX2_wake_31 (zOr_eq (N 0 1) (zShl 1 s)) ?_
      refine y_pNet1 X hk fX2_15 dX2_wake_32 ?_
      rw [show (up2 N 0 1 (zOr (N 0 1) (zShl 1 s))) = (cWk N s) from rfl]
      refine z_iconst X dX2_wake_35 ?_
      refine z_istore_n X dX2_wake_36 (by decide) ?_
      refine z_sub [(0, .ref (ad k)), (1, vI s), (2, vI (cEnt N s)), (3, vI 0)] (zSub_cons rfl (zSub_cons rfl (zSub_cons rfl (zSub_cons rfl zSub_nil)))) ?_
      refine z_sub [(0, .ref (ad k)), (1, vI s), (2, vI (cEnt N s)), (3, vI 0)] (zSub_cons rfl (zSub_cons rfl (zSub_cons rfl (zSub_cons rfl zSub_nil)))) ?_
      refine zFor (S := zNt) (N 0 0) (fun i M => M = cWkL (cWk N s) s i.toNat ∧ cOk M ∧ M 0 0 = N 0 0) (fun i M => zV p l e (zRm 2) s0 m args below meth c 4 D G ad 0 0 (zE below (zQI D G ad sz (fun z σ9 => z = cWkR N s ∧ σ9 = (zBk σ k 8 (cWkN N s)))) args s0 ad) 37 [(0, .ref (ad k)), (1, vI s), (2, vI (cEnt N s)), (3, vI i)] [] (zBk σ k 8 M)) (fun i M i0 i1 hv ih => ?_) (cWk N s) (by omega) ⟨rfl, (ok_wk ok (by omega)), rfl⟩
      have hn2 := hv.2.2
      refine z_iload_n X dX2_wake_37 rfl ?_
      refine z_aload_n X dX2_wake_38 rfl ?_
      refine y_gNet0 X hk fX2_9 dX2_wake_39 ?_
      refine z_icmp_ge X 90 dX2_wake_42 (by decide) (by first | assumption | (unfold zB at *; omega)) (zB_sm (ok_n hv.2.1)) (fun c_6 => ?_) (fun c_6 => ?_)
      · refine z_aload_n X dX2_wake_90 rfl ?_
        refine z_iload_n X dX2_wake_91 rfl ?_
        refine z_callVI1 X (c_X2_entriesOf hJ hk σ hv.2.1 hs) kX2_75 rfl (zNet_lt hk) (zNet_obj hk ad G _ _) ⟨(Nat.le_of_ble_eq_true rfl), (Nat.le_of_ble_eq_true rfl)⟩ (Nat.le_of_ble_eq_true rfl) ⟨Nat.zero_le _, Nat.zero_le _⟩ dX2_wake_92 (fun z9 σ1 hz9 => ?_)
        obtain ⟨rfl, rfl⟩ := hz9
        refine z_iload_n X dX2_wake_95 rfl ?_
        refine z_isub X dX2_wake_96 ?_
        exact z_iret X hsz hr hlocks dX2_wake_97 ⟨(by unfold cWkR cWkN; have h9 : cCanWk N s := (by grind); rw [if_pos h9, if_pos h9, hv.1, show i = N 0 0 by omega]), (congrArg (zBk σ _ _) (by unfold cWkN; have h9 : cCanWk N s := (by grind); rw [if_pos h9, hv.1, show i = N 0 0 by omega]))⟩
      · refine z_aload_n X dX2_wake_45 rfl ?_
        refine z_iload_n X dX2_wake_46 rfl ?_
        refine z_iload_n X dX2_wake_47 rfl ?_
        refine z_callVI2 X (c_X2_stateOf hJ hk σ hv.2.1 (by first | assumption | (unfold zB at *; omega)) hs) kX2_66 rfl (zNet_lt hk) (zNet_obj hk ad G _ _) ⟨(Nat.le_of_ble_eq_true rfl), (Nat.le_of_ble_eq_true rfl)⟩ (Nat.le_of_ble_eq_true rfl) ⟨Nat.zero_le _, Nat.zero_le _⟩ dX2_wake_48 (fun z9 σ1 hz9 => ?_)
        obtain ⟨rfl, rfl⟩ := hz9
        refine z_if_ne X 61 dX2_wake_51 (by decide) (zB_sm (rg_st hv.2.1 _ _)) (fun c_9 => ?_) (fun c_9 => ?_)
        · refine z_aload_n X dX2_wake_61 rfl ?_
          refine z_iload_n X dX2_wake_62 rfl ?_
          refine z_callVI1 X (c_X2_leaderOf hJ hk σ hv.2.1 (by first | assumption | (unfold zB at *; omega))) kX2_82 rfl (zNet_lt hk) (zNet_obj hk ad G _ _) ⟨(Nat.le_of_ble_eq_true rfl), (Nat.le_of_ble_eq_true rfl)⟩ (Nat.le_of_ble_eq_true rfl) ⟨Nat.zero_le _, Nat.zero_le _⟩ dX2_wake_63 (fun z9 σ1 hz9 => ?_)
          obtain ⟨rfl, rfl⟩ := hz9
          refine z_iload_n X dX2_wake_66 rfl ?_
          refine z_icmp_ne X 84 dX2_wake_67 (by decide) (zB_sm (rg_ld hv.2.1 _)) hs (fun c_11 => ?_) (fun c_11 => ?_)
          · refine z_iinc X dX2_wake_84 rfl (by decide) ?_
            refine z_sub [(0, .ref (ad k)), (1, vI s), (2, vI (cEnt N s)), (3, vI (i + 1))] (zSub_cons rfl (zSub_cons rfl (zSub_cons rfl (zSub_cons rfl zSub_nil)))) ?_
            refine z_goto X 37 dX2_wake_87 (by decide) ?_
            refine z_sub [(0, .ref (ad k)), (1, vI s), (2, vI (cEnt N s)), (3, vI (i + 1))] (zSub_cons rfl (zSub_cons rfl (zSub_cons rfl (zSub_cons rfl zSub_nil)))) ?_
            exact ih (by omega) M ⟨by rw [cWkL_step i0, ← hv.1]; grind [cWk1, cWk2], hv.2.1, by first | exact hv.2.2 | (rw [← hv.2.2]; simp only [n_enter, n_settle])⟩
          · refine z_aload_n X dX2_wake_70 rfl ?_
            refine z_iload_n X dX2_wake_71 rfl ?_
            refine z_callVI1 X (c_X2_decisionOf hJ hk σ hv.2.1 (by first | assumption | (unfold zB at *; omega))) kX2_85 rfl (zNet_lt hk) (zNet_obj hk ad G _ _) ⟨(Nat.le_of_ble_eq_true rfl), (Nat.le_of_ble_eq_true rfl)⟩ (Nat.le_of_ble_eq_true rfl) ⟨Nat.zero_le _, Nat.zero_le _⟩ dX2_wake_72 (fun z9 σ1 hz9 => ?_)
            obtain ⟨rfl, rfl⟩ := hz9
            refine z_if_ne X 84 dX2_wake_75 (by decide) (zB_sm (rg_dc hv.2.1 _)) (fun c_13 => ?_) (fun c_13 => ?_)
            · refine z_iinc X dX2_wake_84 rfl (by decide) ?_
              refine z_sub [(0, .ref (ad k)), (1, vI s), (2, vI (cEnt N s)), (3, vI (i + 1))] (zSub_cons rfl (zSub_cons rfl (zSub_cons rfl (zSub_cons rfl zSub_nil)))) ?_
              refine z_goto X 37 dX2_wake_87 (by decide) ?_
              refine z_sub [(0, .ref (ad k)), (1, vI s), (2, vI (cEnt N s)), (3, vI (i + 1))] (zSub_cons rfl (zSub_cons rfl (zSub_cons rfl (zSub_cons rfl zSub_nil)))) ?_
              exact ih (by omega) M ⟨by rw [cWkL_step i0, ← hv.1]; grind [cWk1, cWk2], hv.2.1, by first | exact hv.2.2 | (rw [← hv.2.2]; simp only [n_enter, n_settle])⟩
            · refine z_aload_n X dX2_wake_78 rfl ?_
              refine z_iload_n X dX2_wake_79 rfl ?_
              refine z_iconst X dX2_wake_80 ?_
              refine z_callVV2 X (c_X2_settle hJ hk σ hv.2.1 (by first | assumption | (unfold zB at *; omega)) ⟨by decide, by decide⟩ (by first | omega | assumption)) kX2_108 rfl (zNet_lt hk) (zNet_obj hk ad G _ _) ⟨(Nat.le_of_ble_eq_true rfl), (Nat.le_of_ble_eq_true rfl)⟩ (Nat.le_of_ble_eq_true rfl) ⟨Nat.zero_le _, Nat.zero_le _⟩ dX2_wake_81 (fun σ1 hz9 => ?_)
              obtain rfl := hz9
              refine z_iinc X dX2_wake_84 rfl (by decide) ?_
              refine z_sub [(0, .ref (ad k)), (1, vI s), (2, vI (cEnt N s)), (3, vI (i + 1))] (zSub_cons rfl (zSub_cons rfl (zSub_cons rfl (zSub_cons rfl zSub_nil)))) ?_
              refine z_goto X 37 dX2_wake_87 (by decide) ?_
              refine z_sub [(0, .ref (ad k)), (1, vI s), (2, vI (cEnt N s)), (3, vI (i + 1))] (zSub_cons rfl (zSub_cons rfl (zSub_cons rfl (zSub_cons rfl zSub_nil)))) ?_
              exact ih (by omega) (cSettle M i 3) ⟨by rw [cWkL_step i0, ← hv.1]; grind [cWk1, cWk2], (ok_settle hv.2.1 (by first | omega | assumption)), by first | exact hv.2.2 | (rw [← hv.2.2]; simp only [n_enter, n_settle])⟩
        · refine z_aload_n X dX2_wake_54 rfl ?_
          refine z_iload_n X dX2_wake_55 rfl ?_
          refine z_iload_n X dX2_wake_56 rfl ?_
          refine z_iconst X dX2_wake_57 ?_
          refine z_callVV3 X (c_X2_enter hJ hk σ hv.2.1 (by first | assumption | (unfold zB at *; omega)) hs ⟨by decide, by decide⟩ (by first | omega | assumption)) kX2_98 rfl (zNet_lt hk) (zNet_obj hk ad G _ _) ⟨(Nat.le_of_ble_eq_true rfl), (Nat.le_of_ble_eq_true rfl)⟩ (Nat.le_of_ble_eq_true rfl) ⟨Nat.zero_le _, Nat.zero_le _⟩ dX2_wake_58 (fun σ1 hz9 => ?_)
          obtain rfl := hz9
          refine z_aload_n X dX2_wake_61 rfl ?_
          refine z_iload_n X dX2_wake_62 rfl ?_
          refine z_callVI1 X (c_X2_leaderOf hJ hk σ (ok_enter hv.2.1 (by first | omega | assumption)) (by first | assumption | (unfold zB at *; omega))) kX2_82 rfl (zNet_lt hk) (zNet_obj hk ad G _ _) ⟨(Nat.le_of_ble_eq_true rfl), (Nat.le_of_ble_eq_true rfl)⟩ (Nat.le_of_ble_eq_true rfl) ⟨Nat.zero_le _, Nat.zero_le _⟩ dX2_wake_63 (fun z9 σ1 hz9 => ?_)
          obtain ⟨rfl, rfl⟩ := hz9
          refine z_iload_n X dX2_wake_66 rfl ?_
          refine z_icmp_ne X 84 dX2_wake_67 (by decide) (zB_sm (rg_ld (ok_enter hv.2.1 (by first | omega | assumption)) _)) hs (fun c_17 => ?_) (fun c_17 => ?_)
          · refine z_iinc X dX2_wake_84 rfl (by decide) ?_
            refine z_sub [(0, .ref (ad k)), (1, vI s), (2, vI (cEnt N s)), (3, vI (i + 1))] (zSub_cons rfl (zSub_cons rfl (zSub_cons rfl (zSub_cons rfl zSub_nil)))) ?_
            refine z_goto X 37 dX2_wake_87 (by decide) ?_
            refine z_sub [(0, .ref (ad k)), (1, vI s), (2, vI (cEnt N s)), (3, vI (i + 1))] (zSub_cons rfl (zSub_cons rfl (zSub_cons rfl (zSub_cons rfl zSub_nil)))) ?_
            exact ih (by omega) (cEnter M i s 3) ⟨by rw [cWkL_step i0, ← hv.1]; grind [cWk1, cWk2], (ok_enter hv.2.1 (by first | omega | assumption)), by first | exact hv.2.2 | (rw [← hv.2.2]; simp only [n_enter, n_settle])⟩
          · refine z_aload_n X dX2_wake_70 rfl ?_
            refine z_iload_n X dX2_wake_71 rfl ?_
            refine z_callVI1 X (c_X2_decisionOf hJ hk σ (ok_enter hv.2.1 (by first | omega | assumption)) (by first | assumption | (unfold zB at *; omega))) kX2_85 rfl (zNet_lt hk) (zNet_obj hk ad G _ _) ⟨(Nat.le_of_ble_eq_true rfl), (Nat.le_of_ble_eq_true rfl)⟩ (Nat.le_of_ble_eq_true rfl) ⟨Nat.zero_le _, Nat.zero_le _⟩ dX2_wake_72 (fun z9 σ1 hz9 => ?_)
            obtain ⟨rfl, rfl⟩ := hz9
            refine z_if_ne X 84 dX2_wake_75 (by decide) (zB_sm (rg_dc (ok_enter hv.2.1 (by first | omega | assumption)) _)) (fun c_19 => ?_) (fun c_19 => ?_)
            · refine z_iinc X dX2_wake_84 rfl (by decide) ?_
              refine z_sub [(0, .ref (ad k)), (1, vI s), (2, vI (cEnt N s)), (3, vI (i + 1))] (zSub_cons rfl (zSub_cons rfl (zSub_cons rfl (zSub_cons rfl zSub_nil)))) ?_
              refine z_goto X 37 dX2_wake_87 (by decide) ?_
              refine z_sub [(0, .ref (ad k)), (1, vI s), (2, vI (cEnt N s)), (3, vI (i + 1))] (zSub_cons rfl (zSub_cons rfl (zSub_cons rfl (zSub_cons rfl zSub_nil)))) ?_
              exact ih (by omega) (cEnter M i s 3) ⟨by rw [cWkL_step i0, ← hv.1]; grind [cWk1, cWk2], (ok_enter hv.2.1 (by first | omega | assumption)), by first | exact hv.2.2 | (rw [← hv.2.2]; simp only [n_enter, n_settle])⟩
            · refine z_aload_n X dX2_wake_78 rfl ?_
              refine z_iload_n X dX2_wake_79 rfl ?_
              refine z_iconst X dX2_wake_80 ?_
              refine z_callVV2 X (c_X2_settle hJ hk σ (ok_enter hv.2.1 (by first | omega | assumption)) (by first | assumption | (unfold zB at *; omega)) ⟨by decide, by decide⟩ (by first | omega | assumption)) kX2_108 rfl (zNet_lt hk) (zNet_obj hk ad G _ _) ⟨(Nat.le_of_ble_eq_true rfl), (Nat.le_of_ble_eq_true rfl)⟩ (Nat.le_of_ble_eq_true rfl) ⟨Nat.zero_le _, Nat.zero_le _⟩ dX2_wake_81 (fun σ1 hz9 => ?_)
              obtain rfl := hz9
              refine z_iinc X dX2_wake_84 rfl (by decide) ?_
              refine z_sub [(0, .ref (ad k)), (1, vI s), (2, vI (cEnt N s)), (3, vI (i + 1))] (zSub_cons rfl (zSub_cons rfl (zSub_cons rfl (zSub_cons rfl zSub_nil)))) ?_
              refine z_goto X 37 dX2_wake_87 (by decide) ?_
              refine z_sub [(0, .ref (ad k)), (1, vI s), (2, vI (cEnt N s)), (3, vI (i + 1))] (zSub_cons rfl (zSub_cons rfl (zSub_cons rfl (zSub_cons rfl zSub_nil)))) ?_
              exact ih (by omega) (cSettle (cEnter M i s 3) i 3) ⟨by rw [cWkL_step i0, ← hv.1]; grind [cWk1, cWk2], (ok_settle (ok_enter hv.2.1 (by first | omega | assumption)) (by first | omega | assumption)), by first | exact hv.2.2 | (rw [← hv.2.2]; simp only [n_enter, n_settle])⟩
    · refine z_iconst X dX2_wake_15 ?_
      exact z_iret X hsz hr hlocks dX2_wake_16 ⟨(by unfold cWkR; rw [if_neg (by grind)]), (congrArg (zBk σ _ _) (by unfold cWkN; rw [if_neg (by grind)]))⟩

set_option maxHeartbeats 4000000 in
set_option maxRecDepth 100000 in
theorem c_X2_losesPatience {l : Launch} {D : va_G} {G : zG} {ad : Nat → Nat} (hJ : zInj ad) {k : Nat} (hk : zNet k) (σ : zM) {N : Nat → Nat → Int} (ok : cOk N) {d : Int} (hd : zB d) {s : Int} (hs : zB s)  : zKI l D G ad yX2_losesPatience cX2_losesPatience 4 (some .boolean) 1 [.ref (ad k), vI d, vI s] (zBk σ k 8 N) (fun z σ9 => z = (if cLoseP N d s then 1 else 0) ∧ σ9 = (zBk σ k 8 (cLoseN N d s))) := by
  intro sz
  refine z_open hJ (by decide +kernel) (Nat.le_of_ble_eq_true rfl) ?_
  intro p e s0 m args below meth c hsz X hr hlocks
  have hn := ok_n ok
  refine z_sub [(0, .ref (ad k)), (1, vI d), (2, vI s)] (zSub_cons rfl (zSub_cons rfl (zSub_cons rfl zSub_nil))) ?_
  refine z_aload_n X dX2_losesPatience_0 rfl ?_
  refine z_iload_n X dX2_losesPatience_1 rfl ?_
  refine z_callVI1 X (c_X2_isAwake hJ hk σ ok hs) kX2_79 rfl (zNet_lt hk) (zNet_obj hk ad G _ _) ⟨(Nat.le_of_ble_eq_true rfl), (Nat.le_of_ble_eq_true rfl)⟩ (Nat.le_of_ble_eq_true rfl) ⟨Nat.zero_le _, Nat.zero_le _⟩ dX2_losesPatience_2 (fun z9 σ1 hz9 => ?_)
  obtain ⟨rfl, rfl⟩ := hz9
  refine z_ifb_eq X 18 dX2_losesPatience_5 (by decide) (fun c_2 => ?_) (fun c_2 => ?_)
  · refine z_iconst X dX2_losesPatience_18 ?_
    exact z_zret X hsz hr hlocks dX2_losesPatience_19 (Or.inl rfl) ⟨(by first | rfl | grind [cLoseN]), (congrArg (zBk σ _ _) (by first | rfl | grind [cLoseN] | (rw [up2_up2]; grind [cLoseN]) | (unfold cLoseN; grind [up2_up2, up2_rw])))⟩
  · refine z_aload_n X dX2_losesPatience_8 rfl ?_
    refine z_iload_n X dX2_losesPatience_9 rfl ?_
    refine z_iload_n X dX2_losesPatience_10 rfl ?_
    refine z_callVI2 X (c_X2_stateOf hJ hk σ ok hd hs) kX2_66 rfl (zNet_lt hk) (zNet_obj hk ad G _ _) ⟨(Nat.le_of_ble_eq_true rfl), (Nat.le_of_ble_eq_true rfl)⟩ (Nat.le_of_ble_eq_true rfl) ⟨Nat.zero_le _, Nat.zero_le _⟩ dX2_losesPatience_11 (fun z9 σ1 hz9 => ?_)
    obtain ⟨rfl, rfl⟩ := hz9
    refine z_iconst X dX2_losesPatience_14 ?_
    refine z_icmp_eq X 20 dX2_losesPatience_15 (by decide) (zB_sm (rg_st ok _ _)) ⟨by decide, by decide⟩ (fun c_4 => ?_) (fun c_4 => ?_)
    · have hin := cSt_in (N := N) (d := d) (s := s) (by omega)
      have hp := ok_pt ok (j := (d * 6 + s).toNat) (by omega)
      refine z_iload_n X dX2_losesPatience_20 rfl ?_
      refine z_bipush X dX2_losesPatience_21 rfl ?_
      refine z_imul X dX2_losesPatience_23 ?_
      refine z_iload_n X dX2_losesPatience_24 rfl ?_
      refine z_iadd X dX2_losesPatience_25 ?_
      refine z_istore_n X dX2_losesPatience_26 (by decide) ?_
      refine z_sub [(0, .ref (ad k)), (1, vI d), (2, vI s), (3, vI ((d * 6) + s))] (zSub_cons rfl (zSub_cons rfl (zSub_cons rfl (zSub_cons rfl zSub_nil)))) ?_
      refine z_aload_n X dX2_losesPatience_27 rfl ?_
      refine y_gNet8 X hk fX2_37 dX2_losesPatience_28 ?_
      refine z_iload_n X dX2_losesPatience_31 rfl ?_
      refine z_dup2 X dX2_losesPatience_32 rfl rfl ?_
      refine y_iald X 5 (zNA5 hk) (by decide) (by omega) (by omega) (by decide) dX2_losesPatience_33 ?_
      refine z_iconst X dX2_losesPatience_34 ?_
      refine z_isub X dX2_losesPatience_35 ?_
      refine y_iast X 5 (zNA5 hk) (by decide) (by omega) (by omega) (by decide) dX2_losesPatience_36 ?_
      refine z_aload_n X dX2_losesPatience_37 rfl ?_
      refine y_gNet8 X hk fX2_37 dX2_losesPatience_38 ?_
      refine z_iload_n X dX2_losesPatience_41 rfl ?_
      refine y_iald X 5 (zNA5 hk) (by decide) (by omega) (by omega) (by decide) dX2_losesPatience_42 ?_
      rw [up2_at]
      refine z_if_le X 48 dX2_losesPatience_43 (by decide) (by unfold zB; omega) (fun c_5 => ?_) (fun c_5 => ?_)
      · refine z_aload_n X dX2_losesPatience_48 rfl ?_
        refine y_gNet8 X hk fX2_37 dX2_losesPatience_49 ?_
        refine z_iload_n X dX2_losesPatience_52 rfl ?_
        refine z_aload_n X dX2_losesPatience_53 rfl ?_
        refine y_gNet3 X hk fX2_21 dX2_losesPatience_54 ?_
        refine y_iast X 5 (zNA5 hk) (by decide) (by omega) (by omega) (by decide) dX2_losesPatience_57 ?_
        refine z_iconst X dX2_losesPatience_58 ?_
        exact z_zret X hsz hr hlocks dX2_losesPatience_59 (Or.inr rfl) ⟨(by first | rfl | grind [cLoseN]), (congrArg (zBk σ _ _) (by first | rfl | grind [cLoseN] | (rw [up2_up2]; grind [cLoseN]) | (unfold cLoseN; grind [up2_up2, up2_rw])))⟩
      · refine z_iconst X dX2_losesPatience_46 ?_
        exact z_zret X hsz hr hlocks dX2_losesPatience_47 (Or.inl rfl) ⟨(by first | rfl | grind [cLoseN]), (congrArg (zBk σ _ _) (by first | rfl | grind [cLoseN] | (rw [up2_up2]; grind [cLoseN]) | (unfold cLoseN; grind [up2_up2, up2_rw])))⟩
    · refine z_iconst X dX2_losesPatience_18 ?_
      exact z_zret X hsz hr hlocks dX2_losesPatience_19 (Or.inl rfl) ⟨(by first | rfl | grind [cLoseN]), (congrArg (zBk σ _ _) (by first | rfl | grind [cLoseN] | (rw [up2_up2]; grind [cLoseN]) | (unfold cLoseN; grind [up2_up2, up2_rw])))⟩

set_option maxHeartbeats 4000000 in
set_option maxRecDepth 100000 in
theorem c_X2_tickDeal {l : Launch} {D : va_G} {G : zG} {ad : Nat → Nat} (hJ : zInj ad) {k : Nat} (hk : zNet k) (σ : zM) {N : Nat → Nat → Int} (ok : cOk N) {d : Int} (hd : zB d)  : zKV l D G ad yX2_tickDeal cX2_tickDeal 4 none 3 [.ref (ad k), vI d] (zBk σ k 8 N) (fun σ9 => σ9 = (zBk σ k 8 (cTickD N d))) := by
  intro sz
  refine z_open hJ (by decide +kernel) (Nat.le_of_ble_eq_true rfl) ?_
  intro p e s0 m args below meth c hsz X hr hlocks
  have hn := ok_n ok
  refine z_sub [(0, .ref (ad k)), (1, vI d)] (zSub_cons rfl (zSub_cons rfl zSub_nil)) ?_
  refine z_iconst X dX2_tickDeal_0 ?_
  refine z_istore_n X dX2_tickDeal_1 (by decide) ?_
  refine z_sub [(0, .ref (ad k)), (1, vI d), (2, vI 0)] (zSub_cons rfl (zSub_cons rfl (zSub_cons rfl zSub_nil))) ?_
  refine z_sub [(0, .ref (ad k)), (1, vI d), (2, vI 0)] (zSub_cons rfl (zSub_cons rfl (zSub_cons rfl zSub_nil))) ?_
  refine zFor (S := zNt) 6 (fun i M => M = cTickL N d i.toNat ∧ cOk M ∧ M 0 0 = N 0 0) (fun i M => zV p l e (zRm 3) s0 m args below meth c 4 D G ad 0 0 (zE below (zQV D G ad sz (fun σ9 => σ9 = (zBk σ k 8 (cTickD N d)))) args s0 ad) 2 [(0, .ref (ad k)), (1, vI d), (2, vI i)] [] (zBk σ k 8 M)) (fun i M i0 i1 hv ih => ?_) N (by omega) ⟨rfl, ok, rfl⟩
  have hn2 := hv.2.2
  refine z_iload_n X dX2_tickDeal_2 rfl ?_
  refine z_bipush X dX2_tickDeal_3 rfl ?_
  refine z_icmp_ge X 45 dX2_tickDeal_5 (by decide) (by first | assumption | (unfold zB at *; omega)) ⟨by decide, by decide⟩ (fun c_1 => ?_) (fun c_1 => ?_)
  · exact z_vret X hsz hr hlocks dX2_tickDeal_45 (congrArg (zBk σ _ _) (by rw [hv.1, show i = 6 by omega]; rfl))
  · refine z_aload_n X dX2_tickDeal_8 rfl ?_
    refine z_iload_n X dX2_tickDeal_9 rfl ?_
    refine z_iload_n X dX2_tickDeal_10 rfl ?_
    refine z_callVI2 X (c_X2_losesPatience hJ hk σ hv.2.1 hd (by first | assumption | (unfold zB at *; omega))) kX2_129 rfl (zNet_lt hk) (zNet_obj hk ad G _ _) ⟨(Nat.le_of_ble_eq_true rfl), (Nat.le_of_ble_eq_true rfl)⟩ (Nat.le_of_ble_eq_true rfl) ⟨Nat.zero_le _, Nat.zero_le _⟩ dX2_tickDeal_11 (fun z9 σ1 hz9 => ?_)
    obtain ⟨rfl, rfl⟩ := hz9
    refine z_ifb_eq X 39 dX2_tickDeal_14 (by decide) (fun c_3 => ?_) (fun c_3 => ?_)
    · refine z_iinc X dX2_tickDeal_39 rfl (by decide) ?_
      refine z_sub [(0, .ref (ad k)), (1, vI d), (2, vI (i + 1))] (zSub_cons rfl (zSub_cons rfl (zSub_cons rfl zSub_nil))) ?_
      refine z_goto X 2 dX2_tickDeal_42 (by decide) ?_
      refine z_sub [(0, .ref (ad k)), (1, vI d), (2, vI (i + 1))] (zSub_cons rfl (zSub_cons rfl (zSub_cons rfl zSub_nil))) ?_
      exact ih (by omega) (cLoseN M d i) ⟨by rw [cTickL_step i0, ← hv.1]; unfold cTickS; rw [if_neg c_3], (ok_lose hv.2.1 _ _), by rw [n_lose]; exact hv.2.2⟩
    · refine z_iconst X dX2_tickDeal_17 ?_
      refine z_istore_n X dX2_tickDeal_18 (by decide) ?_
      refine z_sub [(0, .ref (ad k)), (1, vI d), (2, vI i), (3, vI 0)] (zSub_cons rfl (zSub_cons rfl (zSub_cons rfl (zSub_cons rfl zSub_nil)))) ?_
      refine z_sub [(0, .ref (ad k)), (1, vI d), (2, vI i), (3, vI 0)] (zSub_cons rfl (zSub_cons rfl (zSub_cons rfl (zSub_cons rfl zSub_nil)))) ?_
      refine zFor (S := zNt) 6 (fun j K => K = cAskL (cLoseN M d i) d i j.toNat ∧ cOk K ∧ K 0 0 = N 0 0) (fun j K => zV p l e (zRm 3) s0 m args below meth c 4 D G ad 0 0 (zE below (zQV D G ad sz (fun σ9 => σ9 = (zBk σ k 8 (cTickD N d)))) args s0 ad) 19 [(0, .ref (ad k)), (1, vI d), (2, vI i), (3, vI j)] [] (zBk σ k 8 K)) (fun j K j0 j1 hvb ihb => ?_) (cLoseN M d i) (by omega) ⟨rfl, ok_lose hv.2.1 _ _, by rw [n_lose]; exact hv.2.2⟩
      refine z_iload_n X dX2_tickDeal_19 rfl ?_
      refine z_bipush X dX2_tickDeal_20 rfl ?_
      refine z_icmp_ge X 39 dX2_tickDeal_22 (by decide) (by first | assumption | (unfold zB at *; omega)) ⟨by decide, by decide⟩ (fun c_4 => ?_) (fun c_4 => ?_)
      · refine z_iinc X dX2_tickDeal_39 rfl (by decide) ?_
        refine z_sub [(0, .ref (ad k)), (1, vI d), (2, vI (i + 1)), (3, vI j)] (zSub_cons rfl (zSub_cons rfl (zSub_cons rfl (zSub_cons rfl zSub_nil)))) ?_
        refine z_goto X 2 dX2_tickDeal_42 (by decide) ?_
        refine z_sub [(0, .ref (ad k)), (1, vI d), (2, vI (i + 1))] (zSub_cons rfl (zSub_cons rfl (zSub_cons rfl zSub_nil))) ?_
        exact ih (by omega) K ⟨by rw [cTickL_step i0, ← hv.1]; unfold cTickS; rw [if_pos c_3, hvb.1, show j = 6 by omega]; rfl, hvb.2.1, hvb.2.2⟩
      · refine z_aload_n X dX2_tickDeal_25 rfl ?_
        refine z_iload_n X dX2_tickDeal_26 rfl ?_
        refine z_iload_n X dX2_tickDeal_27 rfl ?_
        refine z_iload_n X dX2_tickDeal_28 rfl ?_
        refine z_callVI3 X (c_X2_putQuestion hJ hk σ hvb.2.1 hd (by first | assumption | (unfold zB at *; omega)) (by first | assumption | (unfold zB at *; omega))) kX2_132 rfl (zNet_lt hk) (zNet_obj hk ad G _ _) ⟨(Nat.le_of_ble_eq_true rfl), (Nat.le_of_ble_eq_true rfl)⟩ (Nat.le_of_ble_eq_true rfl) ⟨Nat.zero_le _, Nat.zero_le _⟩ dX2_tickDeal_29 (fun z9 σ1 hz9 => ?_)
        obtain ⟨rfl, rfl⟩ := hz9
        refine z_pop X dX2_tickDeal_32 rfl ?_
        refine z_iinc X dX2_tickDeal_33 rfl (by decide) ?_
        refine z_sub [(0, .ref (ad k)), (1, vI d), (2, vI i), (3, vI (j + 1))] (zSub_cons rfl (zSub_cons rfl (zSub_cons rfl (zSub_cons rfl zSub_nil)))) ?_
        refine z_goto X 19 dX2_tickDeal_36 (by decide) ?_
        refine z_sub [(0, .ref (ad k)), (1, vI d), (2, vI i), (3, vI (j + 1))] (zSub_cons rfl (zSub_cons rfl (zSub_cons rfl (zSub_cons rfl zSub_nil)))) ?_
        exact ihb (by omega) (cAskN K d i j) ⟨by rw [cAskL_step j0, ← hvb.1], (ok_ask hvb.2.1 _ _ _), by rw [n_ask]; exact hvb.2.2⟩

set_option maxHeartbeats 4000000 in
set_option maxRecDepth 100000 in
theorem c_X2_letPass {l : Launch} {D : va_G} {G : zG} {ad : Nat → Nat} (hJ : zInj ad) {k : Nat} (hk : zNet k) (σ : zM) {N : Nat → Nat → Int} (ok : cOk N) {t : Int} (ht : zB t) (ht0 : 0 ≤ t) : zKI l D G ad yX2_letPass cX2_letPass 5 (some .int) 4 [.ref (ad k), vI t] (zBk σ k 8 N) (fun z σ9 => z = cPassR N t ∧ σ9 = (zBk σ k 8 (cPassN N t))) := by
  intro sz
  refine z_open hJ (by decide +kernel) (Nat.le_of_ble_eq_true rfl) ?_
  intro p e s0 m args below meth c hsz X hr hlocks
  have hn := ok_n ok
  refine z_sub [(0, .ref (ad k)), (1, vI t)] (zSub_cons rfl (zSub_cons rfl zSub_nil)) ?_
  refine z_aload_n X dX2_letPass_0 rfl ?_
  refine z_iconst X dX2_letPass_1 ?_
  refine z_callVI1 X (c_X2_countInState hJ hk σ ok ⟨by decide, by decide⟩) kX2_122 rfl (zNet_lt hk) (zNet_obj hk ad G _ _) ⟨(Nat.le_of_ble_eq_true rfl), (Nat.le_of_ble_eq_true rfl)⟩ (Nat.le_of_ble_eq_true rfl) ⟨Nat.zero_le _, Nat.zero_le _⟩ dX2_letPass_2 (fun z9 σ1 hz9 => ?_)
  obtain ⟨rfl, rfl⟩ := hz9
  refine z_aload_n X dX2_letPass_5 rfl ?_
  refine z_iconst X dX2_letPass_6 ?_
  refine z_callVI1 X (c_X2_countInState hJ hk σ ok ⟨by decide, by decide⟩) kX2_122 rfl (zNet_lt hk) (zNet_obj hk ad G _ _) ⟨(Nat.le_of_ble_eq_true rfl), (Nat.le_of_ble_eq_true rfl)⟩ (Nat.le_of_ble_eq_true rfl) ⟨Nat.zero_le _, Nat.zero_le _⟩ dX2_letPass_7 (fun z9 σ1 hz9 => ?_)
  obtain ⟨rfl, rfl⟩ := hz9
  refine z_iadd X dX2_letPass_10 ?_
  refine z_istore_n X dX2_letPass_11 (by decide) ?_
  refine z_sub [(0, .ref (ad k)), (1, vI t), (2, vI ((cCnt N 2) + (cCnt N 3)))] (zSub_cons rfl (zSub_cons rfl (zSub_cons rfl zSub_nil))) ?_
  refine z_iconst X dX2_letPass_12 ?_
  refine z_istore_n X dX2_letPass_13 (by decide) ?_
  refine z_sub [(0, .ref (ad k)), (1, vI t), (2, vI ((cCnt N 2) + (cCnt N 3))), (3, vI 0)] (zSub_cons rfl (zSub_cons rfl (zSub_cons rfl (zSub_cons rfl zSub_nil)))) ?_
  refine z_sub [(0, .ref (ad k)), (1, vI t), (2, vI ((cCnt N 2) + (cCnt N 3))), (3, vI 0)] (zSub_cons rfl (zSub_cons rfl (zSub_cons rfl (zSub_cons rfl zSub_nil)))) ?_
  refine zFor (S := zNt) t (fun i M => M = cPassL N i.toNat ∧ cOk M ∧ M 0 0 = N 0 0) (fun i M => zV p l e (zRm 4) s0 m args below meth c 5 D G ad 0 0 (zE below (zQI D G ad sz (fun z σ9 => z = cPassR N t ∧ σ9 = (zBk σ k 8 (cPassN N t)))) args s0 ad) 14 [(0, .ref (ad k)), (1, vI t), (2, vI ((cCnt N 2) + (cCnt N 3))), (3, vI i)] [] (zBk σ k 8 M)) (fun i M i0 i1 hv ih => ?_) N (by omega) ⟨rfl, ok, rfl⟩
  have hn2 := hv.2.2
  refine z_iload_n X dX2_letPass_14 rfl ?_
  refine z_iload_n X dX2_letPass_15 rfl ?_
  refine z_icmp_ge X 49 dX2_letPass_16 (by decide) ⟨by omega, by have := ht.2; omega⟩ ht (fun c_3 => ?_) (fun c_3 => ?_)
  · refine z_aload_n X dX2_letPass_49 rfl ?_
    refine z_iconst X dX2_letPass_50 ?_
    refine z_callVI1 X (c_X2_countInState hJ hk σ hv.2.1 ⟨by decide, by decide⟩) kX2_122 rfl (zNet_lt hk) (zNet_obj hk ad G _ _) ⟨(Nat.le_of_ble_eq_true rfl), (Nat.le_of_ble_eq_true rfl)⟩ (Nat.le_of_ble_eq_true rfl) ⟨Nat.zero_le _, Nat.zero_le _⟩ dX2_letPass_51 (fun z9 σ1 hz9 => ?_)
    obtain ⟨rfl, rfl⟩ := hz9
    refine z_aload_n X dX2_letPass_54 rfl ?_
    refine z_iconst X dX2_letPass_55 ?_
    refine z_callVI1 X (c_X2_countInState hJ hk σ hv.2.1 ⟨by decide, by decide⟩) kX2_122 rfl (zNet_lt hk) (zNet_obj hk ad G _ _) ⟨(Nat.le_of_ble_eq_true rfl), (Nat.le_of_ble_eq_true rfl)⟩ (Nat.le_of_ble_eq_true rfl) ⟨Nat.zero_le _, Nat.zero_le _⟩ dX2_letPass_56 (fun z9 σ1 hz9 => ?_)
    obtain ⟨rfl, rfl⟩ := hz9
    refine z_iadd X dX2_letPass_59 ?_
    refine z_iload_n X dX2_letPass_60 rfl ?_
    refine z_isub X dX2_letPass_61 ?_
    exact z_iret X hsz hr hlocks dX2_letPass_62 ⟨(by unfold cPassR cPassN; rw [hv.1, show i = t by omega]), (congrArg (zBk σ _ _) (by rw [hv.1, show i = t by omega]; rfl))⟩
  · refine z_iconst X dX2_letPass_19 ?_
    refine z_istore X dX2_letPass_20 (by decide) ?_
    refine z_sub [(0, .ref (ad k)), (1, vI t), (2, vI ((cCnt N 2) + (cCnt N 3))), (3, vI i), (4, vI 0)] (zSub_cons rfl (zSub_cons rfl (zSub_cons rfl (zSub_cons rfl (zSub_cons rfl zSub_nil))))) ?_
    refine z_sub [(0, .ref (ad k)), (1, vI t), (2, vI ((cCnt N 2) + (cCnt N 3))), (3, vI i), (4, vI 0)] (zSub_cons rfl (zSub_cons rfl (zSub_cons rfl (zSub_cons rfl (zSub_cons rfl zSub_nil))))) ?_
    refine zFor (S := zNt) (N 0 0) (fun j K => K = cTickA M j.toNat ∧ cOk K ∧ K 0 0 = N 0 0) (fun j K => zV p l e (zRm 4) s0 m args below meth c 5 D G ad 0 0 (zE below (zQI D G ad sz (fun z σ9 => z = cPassR N t ∧ σ9 = (zBk σ k 8 (cPassN N t)))) args s0 ad) 22 [(0, .ref (ad k)), (1, vI t), (2, vI ((cCnt N 2) + (cCnt N 3))), (3, vI i), (4, vI j)] [] (zBk σ k 8 K)) (fun j K j0 j1 hvb ihb => ?_) M (by omega) ⟨rfl, hv.2.1, hv.2.2⟩
    have hn3 := hvb.2.2
    refine z_iload X dX2_letPass_22 rfl ?_
    refine z_aload_n X dX2_letPass_24 rfl ?_
    refine y_gNet0 X hk fX2_9 dX2_letPass_25 ?_
    refine z_icmp_ge X 43 dX2_letPass_28 (by decide) (by first | assumption | (unfold zB at *; omega)) (zB_sm (ok_n hvb.2.1)) (fun c_6 => ?_) (fun c_6 => ?_)
    · refine z_iinc X dX2_letPass_43 rfl (by decide) ?_
      refine z_sub [(0, .ref (ad k)), (1, vI t), (2, vI ((cCnt N 2) + (cCnt N 3))), (3, vI (i + 1)), (4, vI j)] (zSub_cons rfl (zSub_cons rfl (zSub_cons rfl (zSub_cons rfl (zSub_cons rfl zSub_nil))))) ?_
      refine z_goto X 14 dX2_letPass_46 (by decide) ?_
      refine z_sub [(0, .ref (ad k)), (1, vI t), (2, vI ((cCnt N 2) + (cCnt N 3))), (3, vI (i + 1))] (zSub_cons rfl (zSub_cons rfl (zSub_cons rfl (zSub_cons rfl zSub_nil)))) ?_
      exact ih (by omega) K ⟨by rw [cPassL_step i0, ← hv.1, hvb.1, show j = N 0 0 by omega], hvb.2.1, hvb.2.2⟩
    · refine z_aload_n X dX2_letPass_31 rfl ?_
      refine z_iload X dX2_letPass_32 rfl ?_
      refine z_callVV1 X (c_X2_tickDeal hJ hk σ hvb.2.1 (by first | assumption | (unfold zB at *; omega))) kX2_125 rfl (zNet_lt hk) (zNet_obj hk ad G _ _) ⟨(Nat.le_of_ble_eq_true rfl), (Nat.le_of_ble_eq_true rfl)⟩ (Nat.le_of_ble_eq_true rfl) ⟨Nat.zero_le _, Nat.zero_le _⟩ dX2_letPass_34 (fun σ1 hz9 => ?_)
      obtain rfl := hz9
      refine z_iinc X dX2_letPass_37 rfl (by decide) ?_
      refine z_sub [(0, .ref (ad k)), (1, vI t), (2, vI ((cCnt N 2) + (cCnt N 3))), (3, vI i), (4, vI (j + 1))] (zSub_cons rfl (zSub_cons rfl (zSub_cons rfl (zSub_cons rfl (zSub_cons rfl zSub_nil))))) ?_
      refine z_goto X 22 dX2_letPass_40 (by decide) ?_
      refine z_sub [(0, .ref (ad k)), (1, vI t), (2, vI ((cCnt N 2) + (cCnt N 3))), (3, vI i), (4, vI (j + 1))] (zSub_cons rfl (zSub_cons rfl (zSub_cons rfl (zSub_cons rfl (zSub_cons rfl zSub_nil))))) ?_
      exact ihb (by omega) (cTickD K j) ⟨by rw [cTickA_step j0, ← hvb.1], (ok_tickL hvb.2.1 _ 6), by unfold cTickD; rw [n_tickL]; exact hvb.2.2⟩
