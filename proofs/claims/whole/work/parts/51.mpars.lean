/-! the parser of the reference: N 0 4 the length, 5 the place, 6 .. 9 letter, first, second, third; N 2 the signs -/
def qOk (N : zNt) : Prop := ((0 ≤ N 0 5 ∧ N 0 5 ≤ N 0 4) ∧ N 0 4 ≤ 60) ∧ ∀ j, j < 60 → 0 ≤ N 2 j ∧ N 2 j ≤ 126
theorem qk_at {N : zNt} (h : qOk N) : (0 ≤ N 0 5 ∧ N 0 5 ≤ N 0 4) ∧ N 0 4 ≤ 60 := h.1
theorem qk_sg {N : zNt} (h : qOk N) {j : Nat} (hj : j < 60) : 0 ≤ N 2 j ∧ N 2 j ≤ 126 := h.2 j hj
def rS (N : zNt) : Int := if N 0 5 < N 0 4 then N 2 (N 0 5).toNat else 0
theorem rg_S {N : zNt} (ok : qOk N) : 0 ≤ rS N ∧ rS N ≤ 126 := by
  have h := ok.1
  unfold rS; split
  · exact qk_sg ok (by omega)
  · exact ⟨by decide, by decide⟩
theorem rS_w {N : zNt} {f : Nat} {x : Int} (h : f ≠ 4 ∧ f ≠ 5) : rS (up2 N 0 f x) = rS N := by
  unfold rS
  rw [up2_ne _ _ (fun q => h.2 q.2.symm), up2_ne _ _ (fun q => h.1 q.2.symm), up2_rw _ _ (by decide)]
theorem qk_w {N : zNt} {f : Nat} {x : Int} (ok : qOk N) (h : f ≠ 4 ∧ f ≠ 5) : qOk (up2 N 0 f x) := by
  refine ⟨?_, fun j hj => by rw [up2_rw _ _ (by decide)]; exact ok.2 j hj⟩
  rw [up2_ne _ _ (fun q => h.2 q.2.symm), up2_ne _ _ (fun q => h.1 q.2.symm)]
  exact ok.1
theorem qk_n {N : zNt} (ok : qOk N) (h : rS N ≠ 0) : qOk (up2 N 0 5 (N 0 5 + 1)) := by
  have h1 := ok.1
  have h2 : N 0 5 < N 0 4 := by
    apply Classical.byContradiction
    intro q
    exact h (by unfold rS; rw [if_neg q])
  refine ⟨?_, fun j hj => by rw [up2_rw _ _ (by decide)]; exact ok.2 j hj⟩
  rw [up2_at, up2_ne _ _ (by decide)]
  omega
theorem qk_same {N : zNt} (ok : qOk N) : qOk (up2 N 0 5 (N 0 5 + 0)) := by
  refine ⟨?_, fun j hj => by rw [up2_rw _ _ (by decide)]; exact ok.2 j hj⟩
  rw [up2_at, up2_ne _ _ (by decide)]
  have := ok.1
  omega
def rTk (N : zNt) (x : Int) : zNt := up2 N 0 5 (N 0 5 + (if rS N = x then 1 else 0))
theorem rTk_yes {N : zNt} {x : Int} (h : rS N = x) : rTk N x = up2 N 0 5 (N 0 5 + 1) := by unfold rTk; rw [if_pos h]
theorem rTk_no {N : zNt} {x : Int} (h : ¬ rS N = x) : rTk N x = N := by unfold rTk; rw [if_neg h, Int.add_zero]; exact up2_self N 0 5
theorem qk_tk {N : zNt} {x : Int} (ok : qOk N) (h : 0 < x) : qOk (rTk N x) := by
  by_cases e : rS N = x
  · rw [rTk_yes e]; exact qk_n ok (by omega)
  · rw [rTk_no e]; exact ok
def rDg (N : zNt) (m : Int) : Int := if 48 ≤ rS N ∧ rS N ≤ 48 + m then rS N - 48 else -1
theorem rg_Dg {N : zNt} (ok : qOk N) (m : Int) : -1 ≤ rDg N m ∧ rDg N m ≤ 78 := by
  have := rg_S ok
  unfold rDg; split <;> omega
def rDgN (N : zNt) (m : Int) : zNt := up2 N 0 5 (N 0 5 + (if rDg N m = -1 then 0 else 1))
theorem qk_dg {N : zNt} (ok : qOk N) (m : Int) : qOk (rDgN N m) := by
  unfold rDgN
  split
  · exact qk_same ok
  · refine qk_n ok (fun e => ?_)
    have : rDg N m = -1 := by unfold rDg; rw [e]; rw [if_neg (by omega)]
    omega
/-- a digit, kept in the field f -/
def rDs (N : zNt) (f : Nat) (m : Int) : zNt := up2 (rDgN N m) 0 f (rDg N m)
theorem qk_ds {N : zNt} (ok : qOk N) (f : Nat) (m : Int) (h : f ≠ 4 ∧ f ≠ 5) : qOk (rDs N f m) := qk_w (qk_dg ok m) h
abbrev rTi (N : zNt) : Prop := 49 ≤ rS N ∧ rS N ≤ 57
def rTiN (N : zNt) : zNt := if ¬ (49 ≤ rS N ∧ rS N ≤ 57) then N else if (48 ≤ rS (rDs N 7 9) ∧ rS (rDs N 7 9) ≤ 57) ∧ 10 * rDg N 9 + rS (rDs N 7 9) - 48 ≤ 20 then up2 (rDgN (rDs N 7 9) 9) 0 7 (10 * rDg N 9 + rDg (rDs N 7 9) 9) else rDs N 7 9
theorem qk_ti {N : zNt} (ok : qOk N) : qOk (rTiN N) := by
  unfold rTiN
  split
  · exact ok
  · split
    · exact qk_w (qk_dg (qk_ds ok _ _ (by decide)) _) (by decide)
    · exact qk_ds ok _ _ (by decide)
def rHd (N : zNt) : zNt := up2 (up2 N 0 6 (rS N)) 0 5 (N 0 5 + 1)
theorem rHd_tk {N : zNt} {x : Int} (h : rS N = x) : rTk (up2 N 0 6 (rS N)) x = rHd N := rTk_yes ((rS_w (by decide)).trans h)
theorem qk_hd {N : zNt} (ok : qOk N) (h : rS N ≠ 0) : qOk (rHd N) := qk_n (N := up2 N 0 6 (rS N)) (qk_w ok (by decide)) (fun e => h ((rS_w (by decide)).symm.trans e))
def rThN (A : zNt) (y : Int) : zNt := if rS A - 48 = y then up2 A 0 9 (-1) else rDs A 9 5
def rVN (x : Int) (A : zNt) : zNt :=
  if rDg A 7 = -1 ∨ x = 100 then rDs A 7 7 else if rDg (rDs A 7 7) 5 = -1 ∨ x ≠ 97 then rDs (rDs A 7 7) 8 5 else rThN (rDs (rDs A 7 7) 8 5) (rDg (rDs A 7 7) 5)
def rVc (x : Int) (A : zNt) : Bool :=
  if rDg A 7 = -1 ∨ x = 100 then decide (rDg A 7 ≠ -1) else if rDg (rDs A 7 7) 5 = -1 ∨ x ≠ 97 then decide (rDg (rDs A 7 7) 5 ≠ -1)
  else decide (¬ rS (rDs (rDs A 7 7) 8 5) - 48 = rDg (rDs A 7 7) 5 ∧ rDg (rDs (rDs A 7 7) 8 5) 5 ≠ -1)
/-- an action is read: what it leaves, and whether it is one -/
def rAcN (N : zNt) : zNt := if rS N = 116 then rTiN (rHd N) else if rS N = 120 ∨ rS N = 117 then rDs (rHd N) 7 5 else if rS N = 121 ∨ rS N = 110 ∨ rS N = 100 ∨ rS N = 103 ∨ rS N = 97 then rVN (rS N) (rHd N) else up2 N 0 6 (rS N)
def rAc (N : zNt) : Bool := if rS N = 116 then decide (rTi (rHd N)) else if rS N = 120 ∨ rS N = 117 then decide (rDg (rHd N) 5 ≠ -1) else if rS N = 121 ∨ rS N = 110 ∨ rS N = 100 ∨ rS N = 103 ∨ rS N = 97 then rVc (rS N) (rHd N) else false
theorem qk_ac {N : zNt} (ok : qOk N) : qOk (rAcN N) := by
  have hh : rS N ≠ 0 → qOk (rHd N) := qk_hd ok
  unfold rAcN
  split
  · exact qk_ti (hh (by omega))
  · split
    · exact qk_ds (hh (by omega)) _ _ (by decide)
    · split
      · have h1 := hh (by omega)
        have h2 := qk_ds h1 7 7 (by decide)
        have h3 := qk_ds h2 8 5 (by decide)
        unfold rVN rThN
        split
        · exact h2
        · split
          · exact h3
          · split
            · exact qk_w h3 (by decide)
            · exact qk_ds h3 _ _ (by decide)
      · exact qk_w ok (by decide)
set_option maxHeartbeats 4000000 in
set_option maxRecDepth 100000 in
theorem c_X4_sign {l : Launch} {D : va_G} {G : zG} {ad : Nat → Nat} (hJ : zInj ad) (σ : zM) {N : Nat → Nat → Int} (ok : qOk N)   : zKI l D G ad yX4_sign cX4_sign 1 (some .int) 0 [.ref (ad 5)] (zBk σ 5 3 N) (fun z σ9 => z = rS N ∧ σ9 = (zBk σ 5 3 N)) := by
  intro sz
  refine z_open hJ (by decide +kernel) (Nat.le_of_ble_eq_true rfl) ?_
  intro p e s0 m args below meth c hsz X hr hlocks
  have hA := qk_at ok
  refine z_sub [(0, .ref (ad 5))] (zSub_cons rfl zSub_nil) ?_
  refine z_aload_n X dX4_sign_0 rfl ?_
  refine y_gMod5 X fX4_143 dX4_sign_1 ?_
  refine z_aload_n X dX4_sign_4 rfl ?_
  refine y_gMod4 X fX4_140 dX4_sign_5 ?_
  refine z_icmp_ge X 23 dX4_sign_8 (by decide) (by unfold zB; omega) (by unfold zB; omega) (fun c_1 => ?_) (fun c_1 => ?_)
  · refine z_iconst X dX4_sign_23 ?_
    exact z_iret X hsz hr hlocks dX4_sign_24 ⟨(by unfold rS; first | rw [if_pos (by omega)] | rw [if_neg (by omega)]), rfl⟩
  · refine z_aload_n X dX4_sign_11 rfl ?_
    refine y_gMod3 X fX4_13 dX4_sign_12 ?_
    refine z_aload_n X dX4_sign_15 rfl ?_
    refine y_gMod5 X fX4_143 dX4_sign_16 ?_
    refine y_iald X 2 (zArr_7) (by decide) (by omega) (by omega) (by decide) dX4_sign_19 ?_
    refine z_goto X 24 dX4_sign_20 (by decide) ?_
    exact z_iret X hsz hr hlocks dX4_sign_24 ⟨(by unfold rS; first | rw [if_pos (by omega)] | rw [if_neg (by omega)]), rfl⟩

set_option maxHeartbeats 4000000 in
set_option maxRecDepth 100000 in
theorem c_X4_takes {l : Launch} {D : va_G} {G : zG} {ad : Nat → Nat} (hJ : zInj ad) (σ : zM) {N : Nat → Nat → Int} (ok : qOk N) {x : Int} (hx : zB x) (hx0 : 0 < x) : zKI l D G ad yX4_takes cX4_takes 3 (some .boolean) 1 [.ref (ad 5), vI x] (zBk σ 5 3 N) (fun z σ9 => z = (if rS N = x then 1 else 0) ∧ σ9 = (zBk σ 5 3 (rTk N x))) := by
  intro sz
  refine z_open hJ (by decide +kernel) (Nat.le_of_ble_eq_true rfl) ?_
  intro p e s0 m args below meth c hsz X hr hlocks
  have hA := qk_at ok
  have hS := rg_S ok
  refine z_sub [(0, .ref (ad 5)), (1, vI x)] (zSub_cons rfl (zSub_cons rfl zSub_nil)) ?_
  refine z_aload_n X dX4_takes_0 rfl ?_
  refine z_callVI0 X (c_X4_sign hJ σ ok) kX4_146 rfl (by decide) rfl ⟨(Nat.le_of_ble_eq_true rfl), (Nat.le_of_ble_eq_true rfl)⟩ (Nat.le_of_ble_eq_true rfl) ⟨Nat.zero_le _, Nat.zero_le _⟩ dX4_takes_1 (fun z9 σ1 hz9 => ?_)
  obtain ⟨rfl, rfl⟩ := hz9
  refine z_iload_n X dX4_takes_4 rfl ?_
  refine z_icmp_ne X 12 dX4_takes_5 (by decide) (zB_sm (rg_S ok)) hx (fun c_2 => ?_) (fun c_2 => ?_)
  · refine z_iconst X dX4_takes_12 ?_
    refine z_istore_n X dX4_takes_13 (by decide) ?_
    refine z_sub [(0, .ref (ad 5)), (1, vI x), (2, vI 0)] (zSub_cons rfl (zSub_cons rfl (zSub_cons rfl zSub_nil))) ?_
    refine z_aload_n X dX4_takes_14 rfl ?_
    refine z_dup X dX4_takes_15 rfl ?_
    refine y_gMod5 X fX4_143 dX4_takes_16 ?_
    refine z_iload_n X dX4_takes_19 rfl ?_
    refine z_if_eq X 27 dX4_takes_20 (by decide) ⟨by decide, by decide⟩ (fun _ => ?_) (fun h9 => absurd h9 (by decide))
    refine z_iconst X dX4_takes_27 ?_
    refine z_iadd X dX4_takes_28 ?_
    refine y_pMod5 X fX4_143 dX4_takes_29 ?_
    refine z_iload_n X dX4_takes_32 rfl ?_
    exact z_zret X hsz hr hlocks dX4_takes_33 (Or.inl rfl) ⟨(by grind), (congrArg (zBk σ _ _) (by unfold rTk; grind))⟩
  · refine z_iconst X dX4_takes_8 ?_
    refine z_goto X 13 dX4_takes_9 (by decide) ?_
    refine z_istore_n X dX4_takes_13 (by decide) ?_
    refine z_sub [(0, .ref (ad 5)), (1, vI x), (2, vI 1)] (zSub_cons rfl (zSub_cons rfl (zSub_cons rfl zSub_nil))) ?_
    refine z_aload_n X dX4_takes_14 rfl ?_
    refine z_dup X dX4_takes_15 rfl ?_
    refine y_gMod5 X fX4_143 dX4_takes_16 ?_
    refine z_iload_n X dX4_takes_19 rfl ?_
    refine z_if_eq X 27 dX4_takes_20 (by decide) ⟨by decide, by decide⟩ (fun h9 => absurd h9 (by decide)) (fun _ => ?_)
    refine z_iconst X dX4_takes_23 ?_
    refine z_goto X 28 dX4_takes_24 (by decide) ?_
    refine z_iadd X dX4_takes_28 ?_
    refine y_pMod5 X fX4_143 dX4_takes_29 ?_
    refine z_iload_n X dX4_takes_32 rfl ?_
    exact z_zret X hsz hr hlocks dX4_takes_33 (Or.inr rfl) ⟨(by grind), (congrArg (zBk σ _ _) (by unfold rTk; grind))⟩

set_option maxHeartbeats 4000000 in
set_option maxRecDepth 100000 in
theorem c_X4_digit {l : Launch} {D : va_G} {G : zG} {ad : Nat → Nat} (hJ : zInj ad) (σ : zM) {N : Nat → Nat → Int} (ok : qOk N) {x : Int} (hx : zB x) (hx9 : 0 ≤ x ∧ x ≤ 9) : zKI l D G ad yX4_digit cX4_digit 3 (some .int) 1 [.ref (ad 5), vI x] (zBk σ 5 3 N) (fun z σ9 => z = rDg N x ∧ σ9 = (zBk σ 5 3 (rDgN N x))) := by
  intro sz
  refine z_open hJ (by decide +kernel) (Nat.le_of_ble_eq_true rfl) ?_
  intro p e s0 m args below meth c hsz X hr hlocks
  have hA := qk_at ok
  have hS := rg_S ok
  refine z_sub [(0, .ref (ad 5)), (1, vI x)] (zSub_cons rfl (zSub_cons rfl zSub_nil)) ?_
  refine z_aload_n X dX4_digit_0 rfl ?_
  refine z_callVI0 X (c_X4_sign hJ σ ok) kX4_146 rfl (by decide) rfl ⟨(Nat.le_of_ble_eq_true rfl), (Nat.le_of_ble_eq_true rfl)⟩ (Nat.le_of_ble_eq_true rfl) ⟨Nat.zero_le _, Nat.zero_le _⟩ dX4_digit_1 (fun z9 σ1 hz9 => ?_)
  obtain ⟨rfl, rfl⟩ := hz9
  refine z_bipush X dX4_digit_4 rfl ?_
  refine z_bipush X dX4_digit_6 rfl ?_
  refine z_iload_n X dX4_digit_8 rfl ?_
  refine z_iadd X dX4_digit_9 ?_
  refine z_callSI3 X (c_X4_in hJ _ (zB_sm (rg_S ok)) ⟨by decide, by decide⟩ (by first | assumption | (unfold zB at *; omega))) kX4_20 ⟨(Nat.le_of_ble_eq_true rfl), (Nat.le_of_ble_eq_true rfl)⟩ (Nat.le_of_ble_eq_true rfl) ⟨Nat.zero_le _, Nat.zero_le _⟩ dX4_digit_10 (fun z9 σ1 hz9 => ?_)
  obtain ⟨rfl, rfl⟩ := hz9
  refine z_ifb_eq X 26 dX4_digit_13 (by decide) (fun c_3 => ?_) (fun c_3 => ?_)
  · refine z_iconst X dX4_digit_26 ?_
    refine z_istore_n X dX4_digit_27 (by decide) ?_
    refine z_sub [(0, .ref (ad 5)), (1, vI x), (2, vI (-1))] (zSub_cons rfl (zSub_cons rfl (zSub_cons rfl zSub_nil))) ?_
    refine z_aload_n X dX4_digit_28 rfl ?_
    refine z_dup X dX4_digit_29 rfl ?_
    refine y_gMod5 X fX4_143 dX4_digit_30 ?_
    refine z_iload_n X dX4_digit_33 rfl ?_
    refine z_iconst X dX4_digit_34 ?_
    refine z_icmp_ne X 42 dX4_digit_35 (by decide) ⟨by decide, by decide⟩ ⟨by decide, by decide⟩ (fun h9 => absurd h9 (by decide)) (fun _ => ?_)
    refine z_iconst X dX4_digit_38 ?_
    refine z_goto X 43 dX4_digit_39 (by decide) ?_
    refine z_iadd X dX4_digit_43 ?_
    refine y_pMod5 X fX4_143 dX4_digit_44 ?_
    refine z_iload_n X dX4_digit_47 rfl ?_
    exact z_iret X hsz hr hlocks dX4_digit_48 ⟨(by unfold rDg; grind), (congrArg (zBk σ _ _) (by unfold rDgN rDg; grind))⟩
  · refine z_aload_n X dX4_digit_16 rfl ?_
    refine z_callVI0 X (c_X4_sign hJ σ ok) kX4_146 rfl (by decide) rfl ⟨(Nat.le_of_ble_eq_true rfl), (Nat.le_of_ble_eq_true rfl)⟩ (Nat.le_of_ble_eq_true rfl) ⟨Nat.zero_le _, Nat.zero_le _⟩ dX4_digit_17 (fun z9 σ1 hz9 => ?_)
    obtain ⟨rfl, rfl⟩ := hz9
    refine z_bipush X dX4_digit_20 rfl ?_
    refine z_isub X dX4_digit_22 ?_
    refine z_goto X 27 dX4_digit_23 (by decide) ?_
    refine z_istore_n X dX4_digit_27 (by decide) ?_
    refine z_sub [(0, .ref (ad 5)), (1, vI x), (2, vI ((rS N) - 48))] (zSub_cons rfl (zSub_cons rfl (zSub_cons rfl zSub_nil))) ?_
    refine z_aload_n X dX4_digit_28 rfl ?_
    refine z_dup X dX4_digit_29 rfl ?_
    refine y_gMod5 X fX4_143 dX4_digit_30 ?_
    refine z_iload_n X dX4_digit_33 rfl ?_
    refine z_iconst X dX4_digit_34 ?_
    refine z_icmp_ne X 42 dX4_digit_35 (by decide) (by first | assumption | (unfold zB at *; omega)) ⟨by decide, by decide⟩ (fun c_5 => ?_) (fun c_5 => ?_)
    · refine z_iconst X dX4_digit_42 ?_
      refine z_iadd X dX4_digit_43 ?_
      refine y_pMod5 X fX4_143 dX4_digit_44 ?_
      refine z_iload_n X dX4_digit_47 rfl ?_
      exact z_iret X hsz hr hlocks dX4_digit_48 ⟨(by unfold rDg; grind), (congrArg (zBk σ _ _) (by unfold rDgN rDg; grind))⟩
    · refine z_iconst X dX4_digit_38 ?_
      refine z_goto X 43 dX4_digit_39 (by decide) ?_
      refine z_iadd X dX4_digit_43 ?_
      refine y_pMod5 X fX4_143 dX4_digit_44 ?_
      refine z_iload_n X dX4_digit_47 rfl ?_
      exact z_iret X hsz hr hlocks dX4_digit_48 ⟨(by unfold rDg; grind), (congrArg (zBk σ _ _) (by unfold rDgN rDg; grind))⟩

set_option maxHeartbeats 4000000 in
set_option maxRecDepth 100000 in
theorem c_X4_readsTicks {l : Launch} {D : va_G} {G : zG} {ad : Nat → Nat} (hJ : zInj ad) (σ : zM) {N : Nat → Nat → Int} (ok : qOk N)   : zKI l D G ad yX4_readsTicks cX4_readsTicks 1 (some .boolean) 2 [.ref (ad 5)] (zBk σ 5 3 N) (fun z σ9 => z = (if rTi N then 1 else 0) ∧ σ9 = (zBk σ 5 3 (rTiN N))) := by
  intro sz
  refine z_open hJ (by decide +kernel) (Nat.le_of_ble_eq_true rfl) ?_
  intro p e s0 m args below meth c hsz X hr hlocks
  have hA := qk_at ok
  have hS := rg_S ok
  have hG := rg_Dg ok 9
  refine z_sub [(0, .ref (ad 5))] (zSub_cons rfl zSub_nil) ?_
  refine z_aload_n X dX4_readsTicks_0 rfl ?_
  refine z_callVI0 X (c_X4_sign hJ σ ok) kX4_146 rfl (by decide) rfl ⟨(Nat.le_of_ble_eq_true rfl), (Nat.le_of_ble_eq_true rfl)⟩ (Nat.le_of_ble_eq_true rfl) ⟨Nat.zero_le _, Nat.zero_le _⟩ dX4_readsTicks_1 (fun z9 σ1 hz9 => ?_)
  obtain ⟨rfl, rfl⟩ := hz9
  refine z_bipush X dX4_readsTicks_4 rfl ?_
  refine z_bipush X dX4_readsTicks_6 rfl ?_
  refine z_callSI3 X (c_X4_in hJ _ (zB_sm (rg_S ok)) ⟨by decide, by decide⟩ ⟨by decide, by decide⟩) kX4_20 ⟨(Nat.le_of_ble_eq_true rfl), (Nat.le_of_ble_eq_true rfl)⟩ (Nat.le_of_ble_eq_true rfl) ⟨Nat.zero_le _, Nat.zero_le _⟩ dX4_readsTicks_8 (fun z9 σ1 hz9 => ?_)
  obtain ⟨rfl, rfl⟩ := hz9
  refine z_ifb_ne X 16 dX4_readsTicks_11 (by decide) (fun c_3 => ?_) (fun c_3 => ?_)
  · refine z_aload_n X dX4_readsTicks_16 rfl ?_
    refine z_aload_n X dX4_readsTicks_17 rfl ?_
    refine z_bipush X dX4_readsTicks_18 rfl ?_
    refine z_callVI1 X (c_X4_digit hJ σ ok ⟨by decide, by decide⟩ (by decide)) kX4_149 rfl (by decide) rfl ⟨(Nat.le_of_ble_eq_true rfl), (Nat.le_of_ble_eq_true rfl)⟩ (Nat.le_of_ble_eq_true rfl) ⟨Nat.zero_le _, Nat.zero_le _⟩ dX4_readsTicks_20 (fun z9 σ1 hz9 => ?_)
    obtain ⟨rfl, rfl⟩ := hz9
    refine y_pMod7 X fX4_152 dX4_readsTicks_23 ?_
    rw [show (up2 (rDgN N 9) 0 7 (rDg N 9)) = rDs N 7 9 from rfl]
    have hS2 := rg_S (qk_ds ok 7 9 (by decide))
    refine z_aload_n X dX4_readsTicks_26 rfl ?_
    refine z_callVI0 X (c_X4_sign hJ σ (qk_ds ok _ _ (by decide))) kX4_146 rfl (by decide) rfl ⟨(Nat.le_of_ble_eq_true rfl), (Nat.le_of_ble_eq_true rfl)⟩ (Nat.le_of_ble_eq_true rfl) ⟨Nat.zero_le _, Nat.zero_le _⟩ dX4_readsTicks_27 (fun z9 σ1 hz9 => ?_)
    obtain ⟨rfl, rfl⟩ := hz9
    refine z_bipush X dX4_readsTicks_30 rfl ?_
    refine z_bipush X dX4_readsTicks_32 rfl ?_
    refine z_callSI3 X (c_X4_in hJ _ (zB_sm (rg_S (qk_ds ok _ _ (by decide)))) ⟨by decide, by decide⟩ ⟨by decide, by decide⟩) kX4_20 ⟨(Nat.le_of_ble_eq_true rfl), (Nat.le_of_ble_eq_true rfl)⟩ (Nat.le_of_ble_eq_true rfl) ⟨Nat.zero_le _, Nat.zero_le _⟩ dX4_readsTicks_34 (fun z9 σ1 hz9 => ?_)
    obtain ⟨rfl, rfl⟩ := hz9
    refine z_ifb_eq X 78 dX4_readsTicks_37 (by decide) (fun c_7 => ?_) (fun c_7 => ?_)
    · refine z_iconst X dX4_readsTicks_78 ?_
      exact z_zret X hsz hr hlocks dX4_readsTicks_79 (Or.inr rfl) ⟨(by unfold rTi; grind), (congrArg (zBk σ _ _) (by unfold rTiN; (repeat' split) <;> first | rfl | omega))⟩
    · refine z_bipush X dX4_readsTicks_40 rfl ?_
      refine z_aload_n X dX4_readsTicks_42 rfl ?_
      refine y_gMod7 X fX4_152 dX4_readsTicks_43 ?_
      rw [show rDs N 7 9 0 7 = rDg N 9 from up2_at _ _ _ _]
      refine z_imul X dX4_readsTicks_46 ?_
      refine z_aload_n X dX4_readsTicks_47 rfl ?_
      refine z_callVI0 X (c_X4_sign hJ σ (qk_ds ok _ _ (by decide))) kX4_146 rfl (by decide) rfl ⟨(Nat.le_of_ble_eq_true rfl), (Nat.le_of_ble_eq_true rfl)⟩ (Nat.le_of_ble_eq_true rfl) ⟨Nat.zero_le _, Nat.zero_le _⟩ dX4_readsTicks_48 (fun z9 σ1 hz9 => ?_)
      obtain ⟨rfl, rfl⟩ := hz9
      refine z_iadd X dX4_readsTicks_51 ?_
      refine z_bipush X dX4_readsTicks_52 rfl ?_
      refine z_isub X dX4_readsTicks_54 ?_
      refine z_bipush X dX4_readsTicks_55 rfl ?_
      refine z_icmp_gt X 78 dX4_readsTicks_57 (by decide) (by first | assumption | (unfold zB at *; omega)) ⟨by decide, by decide⟩ (fun c_9 => ?_) (fun c_9 => ?_)
      · refine z_iconst X dX4_readsTicks_78 ?_
        exact z_zret X hsz hr hlocks dX4_readsTicks_79 (Or.inr rfl) ⟨(by unfold rTi; grind), (congrArg (zBk σ _ _) (by unfold rTiN; (repeat' split) <;> first | rfl | omega))⟩
      · refine z_aload_n X dX4_readsTicks_60 rfl ?_
        refine z_bipush X dX4_readsTicks_61 rfl ?_
        refine z_aload_n X dX4_readsTicks_63 rfl ?_
        refine y_gMod7 X fX4_152 dX4_readsTicks_64 ?_
        rw [show rDs N 7 9 0 7 = rDg N 9 from up2_at _ _ _ _]
        refine z_imul X dX4_readsTicks_67 ?_
        refine z_aload_n X dX4_readsTicks_68 rfl ?_
        refine z_bipush X dX4_readsTicks_69 rfl ?_
        refine z_callVI1 X (c_X4_digit hJ σ (qk_ds ok _ _ (by decide)) ⟨by decide, by decide⟩ (by decide)) kX4_149 rfl (by decide) rfl ⟨(Nat.le_of_ble_eq_true rfl), (Nat.le_of_ble_eq_true rfl)⟩ (Nat.le_of_ble_eq_true rfl) ⟨Nat.zero_le _, Nat.zero_le _⟩ dX4_readsTicks_71 (fun z9 σ1 hz9 => ?_)
        obtain ⟨rfl, rfl⟩ := hz9
        refine z_iadd X dX4_readsTicks_74 ?_
        refine y_pMod7 X fX4_152 dX4_readsTicks_75 ?_
        refine z_iconst X dX4_readsTicks_78 ?_
        exact z_zret X hsz hr hlocks dX4_readsTicks_79 (Or.inr rfl) ⟨(by unfold rTi; grind), (congrArg (zBk σ _ _) (by unfold rTiN; (repeat' split) <;> first | rfl | omega))⟩
  · refine z_iconst X dX4_readsTicks_14 ?_
    exact z_zret X hsz hr hlocks dX4_readsTicks_15 (Or.inl rfl) ⟨(by unfold rTi; grind), (congrArg (zBk σ _ _) (by unfold rTiN; (repeat' split) <;> first | rfl | omega))⟩

set_option maxHeartbeats 4000000 in
set_option maxRecDepth 100000 in
theorem c_X4_readsAction {l : Launch} {D : va_G} {G : zG} {ad : Nat → Nat} (hJ : zInj ad) (σ : zM) {N : Nat → Nat → Int} (ok : qOk N)   : zKI l D G ad yX4_readsAction cX4_readsAction 1 (some .boolean) 3 [.ref (ad 5)] (zBk σ 5 3 N) (fun z σ9 => z = (if rAc N = true then 1 else 0) ∧ σ9 = (zBk σ 5 3 (rAcN N))) := by
  intro sz
  refine z_open hJ (by decide +kernel) (Nat.le_of_ble_eq_true rfl) ?_
  intro p e s0 m args below meth c hsz X hr hlocks
  have hA := qk_at ok
  have hS := rg_S ok
  refine z_sub [(0, .ref (ad 5))] (zSub_cons rfl zSub_nil) ?_
  refine z_aload_n X dX4_readsAction_0 rfl ?_
  refine z_aload_n X dX4_readsAction_1 rfl ?_
  refine z_callVI0 X (c_X4_sign hJ σ ok) kX4_146 rfl (by decide) rfl ⟨(Nat.le_of_ble_eq_true rfl), (Nat.le_of_ble_eq_true rfl)⟩ (Nat.le_of_ble_eq_true rfl) ⟨Nat.zero_le _, Nat.zero_le _⟩ dX4_readsAction_2 (fun z9 σ1 hz9 => ?_)
  obtain ⟨rfl, rfl⟩ := hz9
  refine y_pMod6 X fX4_155 dX4_readsAction_5 ?_
  refine z_aload_n X dX4_readsAction_8 rfl ?_
  refine z_bipush X dX4_readsAction_9 rfl ?_
  refine z_callVI1 X (c_X4_takes hJ σ (qk_w ok (by decide)) ⟨by decide, by decide⟩ (by decide)) kX4_158 rfl (by decide) rfl ⟨(Nat.le_of_ble_eq_true rfl), (Nat.le_of_ble_eq_true rfl)⟩ (Nat.le_of_ble_eq_true rfl) ⟨Nat.zero_le _, Nat.zero_le _⟩ dX4_readsAction_11 (fun z9 σ1 hz9 => ?_)
  obtain ⟨rfl, rfl⟩ := hz9
  rw [show rS (up2 N 0 6 (rS N)) = rS N from rS_w (by decide)]
  refine z_ifb_eq X 22 dX4_readsAction_14 (by decide) (fun c_3 => ?_) (fun c_3 => ?_)
  · rw [show rTk (up2 N 0 6 (rS N)) 116 = up2 N 0 6 (rS N) from rTk_no (fun q => c_3 ((rS_w (by decide)).symm.trans q))]
    refine z_aload_n X dX4_readsAction_22 rfl ?_
    refine z_bipush X dX4_readsAction_23 rfl ?_
    refine z_callVI1 X (c_X4_takes hJ σ (qk_w ok (by decide)) ⟨by decide, by decide⟩ (by decide)) kX4_158 rfl (by decide) rfl ⟨(Nat.le_of_ble_eq_true rfl), (Nat.le_of_ble_eq_true rfl)⟩ (Nat.le_of_ble_eq_true rfl) ⟨Nat.zero_le _, Nat.zero_le _⟩ dX4_readsAction_25 (fun z9 σ1 hz9 => ?_)
    obtain ⟨rfl, rfl⟩ := hz9
    rw [show rS (up2 N 0 6 (rS N)) = rS N from rS_w (by decide)]
    refine z_ifb_ne X 40 dX4_readsAction_28 (by decide) (fun c_5 => ?_) (fun c_5 => ?_)
    · rw [show rTk (up2 N 0 6 (rS N)) 120 = rHd N from rHd_tk c_5]
      have okH : qOk (rHd N) := qk_hd ok (by omega)
      refine z_aload_n X dX4_readsAction_40 rfl ?_
      refine z_aload_n X dX4_readsAction_41 rfl ?_
      refine z_iconst X dX4_readsAction_42 ?_
      refine z_callVI1 X (c_X4_digit hJ σ okH ⟨by decide, by decide⟩ (by decide)) kX4_149 rfl (by decide) rfl ⟨(Nat.le_of_ble_eq_true rfl), (Nat.le_of_ble_eq_true rfl)⟩ (Nat.le_of_ble_eq_true rfl) ⟨Nat.zero_le _, Nat.zero_le _⟩ dX4_readsAction_43 (fun z9 σ1 hz9 => ?_)
      obtain ⟨rfl, rfl⟩ := hz9
      refine y_pMod7 X fX4_152 dX4_readsAction_46 ?_
      rw [show (up2 (rDgN (rHd N) 5) 0 7 (rDg (rHd N) 5)) = rDs (rHd N) 7 5 from rfl]
      refine z_aload_n X dX4_readsAction_49 rfl ?_
      refine y_gMod7 X fX4_152 dX4_readsAction_50 ?_
      rw [show (rDs (rHd N) 7 5) 0 7 = (rDg (rHd N) 5) from rfl]
      refine z_iconst X dX4_readsAction_53 ?_
      refine z_icmp_eq X 61 dX4_readsAction_54 (by decide) (zB_sm (rg_Dg okH _)) ⟨by decide, by decide⟩ (fun c_7 => ?_) (fun c_7 => ?_)
      · refine z_iconst X dX4_readsAction_61 ?_
        exact z_zret X hsz hr hlocks dX4_readsAction_62 (Or.inl rfl) ⟨(by unfold rAc rVc; simp only [rTi]; grind), (congrArg (zBk σ _ _) (by unfold rAcN rVN rThN; (try simp only [*]); first | rfl | grind))⟩
      · refine z_iconst X dX4_readsAction_57 ?_
        refine z_goto X 62 dX4_readsAction_58 (by decide) ?_
        exact z_zret X hsz hr hlocks dX4_readsAction_62 (Or.inr rfl) ⟨(by unfold rAc rVc; simp only [rTi]; grind), (congrArg (zBk σ _ _) (by unfold rAcN rVN rThN; (try simp only [*]); first | rfl | grind))⟩
    · rw [show rTk (up2 N 0 6 (rS N)) 120 = up2 N 0 6 (rS N) from rTk_no (fun q => c_5 ((rS_w (by decide)).symm.trans q))]
      refine z_aload_n X dX4_readsAction_31 rfl ?_
      refine z_bipush X dX4_readsAction_32 rfl ?_
      refine z_callVI1 X (c_X4_takes hJ σ (qk_w ok (by decide)) ⟨by decide, by decide⟩ (by decide)) kX4_158 rfl (by decide) rfl ⟨(Nat.le_of_ble_eq_true rfl), (Nat.le_of_ble_eq_true rfl)⟩ (Nat.le_of_ble_eq_true rfl) ⟨Nat.zero_le _, Nat.zero_le _⟩ dX4_readsAction_34 (fun z9 σ1 hz9 => ?_)
      obtain ⟨rfl, rfl⟩ := hz9
      rw [show rS (up2 N 0 6 (rS N)) = rS N from rS_w (by decide)]
      refine z_ifb_eq X 63 dX4_readsAction_37 (by decide) (fun c_9 => ?_) (fun c_9 => ?_)
      · rw [show rTk (up2 N 0 6 (rS N)) 117 = up2 N 0 6 (rS N) from rTk_no (fun q => c_9 ((rS_w (by decide)).symm.trans q))]
        have J : rS N = 121 ∨ rS N = 110 ∨ rS N = 100 ∨ rS N = 103 ∨ rS N = 97 → zV p l e (zRm 3) s0 m args below meth c 1 D G ad 0 0 (zE below (zQI D G ad sz (fun z σ9 => z = (if rAc N = true then 1 else 0) ∧ σ9 = (zBk σ 5 3 (rAcN N)))) args s0 ad) 110 [(0, .ref (ad 5))] [] (zBk σ 5 3 (rHd N)) := by
          intro hJ9
          have okH : qOk (rHd N) := qk_hd ok (by omega)
          refine z_aload_n X dX4_readsAction_110 rfl ?_
          refine z_aload_n X dX4_readsAction_111 rfl ?_
          refine z_bipush X dX4_readsAction_112 rfl ?_
          refine z_callVI1 X (c_X4_digit hJ σ okH ⟨by decide, by decide⟩ (by decide)) kX4_149 rfl (by decide) rfl ⟨(Nat.le_of_ble_eq_true rfl), (Nat.le_of_ble_eq_true rfl)⟩ (Nat.le_of_ble_eq_true rfl) ⟨Nat.zero_le _, Nat.zero_le _⟩ dX4_readsAction_114 (fun z9 σ1 hz9 => ?_)
          obtain ⟨rfl, rfl⟩ := hz9
          refine y_pMod7 X fX4_152 dX4_readsAction_117 ?_
          rw [show (up2 (rDgN (rHd N) 7) 0 7 (rDg (rHd N) 7)) = rDs (rHd N) 7 7 from rfl]
          have ok1 : qOk (rDs (rHd N) 7 7) := qk_ds okH _ _ (by decide)
          refine z_aload_n X dX4_readsAction_120 rfl ?_
          refine y_gMod7 X fX4_152 dX4_readsAction_121 ?_
          rw [show (rDs (rHd N) 7 7) 0 7 = (rDg (rHd N) 7) from rfl]
          refine z_iconst X dX4_readsAction_124 ?_
          refine z_icmp_eq X 137 dX4_readsAction_125 (by decide) (zB_sm (rg_Dg okH _)) ⟨by decide, by decide⟩ (fun c_11 => ?_) (fun c_11 => ?_)
          · refine z_aload_n X dX4_readsAction_137 rfl ?_
            refine y_gMod7 X fX4_152 dX4_readsAction_138 ?_
            rw [show (rDs (rHd N) 7 7) 0 7 = (rDg (rHd N) 7) from rfl]
            refine z_iconst X dX4_readsAction_141 ?_
            refine z_icmp_eq X 149 dX4_readsAction_142 (by decide) (zB_sm (rg_Dg okH _)) ⟨by decide, by decide⟩ (fun c_12 => ?_) (fun c_12 => ?_)
            · refine z_iconst X dX4_readsAction_149 ?_
              exact z_zret X hsz hr hlocks dX4_readsAction_150 (Or.inl rfl) ⟨(by unfold rAc rVc; simp only [rTi]; grind), (congrArg (zBk σ _ _) (by unfold rAcN rVN rThN; (try simp only [*]); first | rfl | grind))⟩
            · refine z_iconst X dX4_readsAction_145 ?_
              refine z_goto X 150 dX4_readsAction_146 (by decide) ?_
              exact z_zret X hsz hr hlocks dX4_readsAction_150 (Or.inr rfl) ⟨(by unfold rAc rVc; simp only [rTi]; grind), (congrArg (zBk σ _ _) (by unfold rAcN rVN rThN; (try simp only [*]); first | rfl | grind))⟩
          · refine z_aload_n X dX4_readsAction_128 rfl ?_
            refine y_gMod6 X fX4_155 dX4_readsAction_129 ?_
            rw [show (rDs (rHd N) 7 7) 0 6 = (rS N) from rfl]
            refine z_bipush X dX4_readsAction_132 rfl ?_
            refine z_icmp_ne X 151 dX4_readsAction_134 (by decide) (by unfold zB; omega) ⟨by decide, by decide⟩ (fun c_13 => ?_) (fun c_13 => ?_)
            · refine z_aload_n X dX4_readsAction_151 rfl ?_
              refine z_aload_n X dX4_readsAction_152 rfl ?_
              refine z_iconst X dX4_readsAction_153 ?_
              refine z_callVI1 X (c_X4_digit hJ σ ok1 ⟨by decide, by decide⟩ (by decide)) kX4_149 rfl (by decide) rfl ⟨(Nat.le_of_ble_eq_true rfl), (Nat.le_of_ble_eq_true rfl)⟩ (Nat.le_of_ble_eq_true rfl) ⟨Nat.zero_le _, Nat.zero_le _⟩ dX4_readsAction_154 (fun z9 σ1 hz9 => ?_)
              obtain ⟨rfl, rfl⟩ := hz9
              refine y_pMod8 X fX4_165 dX4_readsAction_157 ?_
              rw [show (up2 (rDgN (rDs (rHd N) 7 7) 5) 0 8 (rDg (rDs (rHd N) 7 7) 5)) = rDs (rDs (rHd N) 7 7) 8 5 from rfl]
              have ok2 : qOk (rDs (rDs (rHd N) 7 7) 8 5) := qk_ds ok1 _ _ (by decide)
              refine z_aload_n X dX4_readsAction_160 rfl ?_
              refine y_gMod8 X fX4_165 dX4_readsAction_161 ?_
              rw [show (rDs (rDs (rHd N) 7 7) 8 5) 0 8 = (rDg (rDs (rHd N) 7 7) 5) from rfl]
              refine z_iconst X dX4_readsAction_164 ?_
              refine z_icmp_eq X 177 dX4_readsAction_165 (by decide) (zB_sm (rg_Dg ok1 _)) ⟨by decide, by decide⟩ (fun c_15 => ?_) (fun c_15 => ?_)
              · refine z_aload_n X dX4_readsAction_177 rfl ?_
                refine y_gMod8 X fX4_165 dX4_readsAction_178 ?_
                rw [show (rDs (rDs (rHd N) 7 7) 8 5) 0 8 = (rDg (rDs (rHd N) 7 7) 5) from rfl]
                refine z_iconst X dX4_readsAction_181 ?_
                refine z_icmp_eq X 189 dX4_readsAction_182 (by decide) (zB_sm (rg_Dg ok1 _)) ⟨by decide, by decide⟩ (fun c_16 => ?_) (fun c_16 => ?_)
                · refine z_iconst X dX4_readsAction_189 ?_
                  exact z_zret X hsz hr hlocks dX4_readsAction_190 (Or.inl rfl) ⟨(by unfold rAc rVc; simp only [rTi]; grind), (congrArg (zBk σ _ _) (by unfold rAcN rVN rThN; (try simp only [*]); first | rfl | grind))⟩
                · refine z_iconst X dX4_readsAction_185 ?_
                  refine z_goto X 190 dX4_readsAction_186 (by decide) ?_
                  exact z_zret X hsz hr hlocks dX4_readsAction_190 (Or.inr rfl) ⟨(by unfold rAc rVc; simp only [rTi]; grind), (congrArg (zBk σ _ _) (by unfold rAcN rVN rThN; (try simp only [*]); first | rfl | grind))⟩
              · refine z_aload_n X dX4_readsAction_168 rfl ?_
                refine y_gMod6 X fX4_155 dX4_readsAction_169 ?_
                rw [show (rDs (rDs (rHd N) 7 7) 8 5) 0 6 = (rS N) from rfl]
                refine z_bipush X dX4_readsAction_172 rfl ?_
                refine z_icmp_eq X 191 dX4_readsAction_174 (by decide) (by unfold zB; omega) ⟨by decide, by decide⟩ (fun c_17 => ?_) (fun c_17 => ?_)
                · have hS2 := rg_S ok2
                  have hG2 := rg_Dg ok1 5
                  refine z_aload_n X dX4_readsAction_191 rfl ?_
                  refine z_aload_n X dX4_readsAction_192 rfl ?_
                  refine z_callVI0 X (c_X4_sign hJ σ ok2) kX4_146 rfl (by decide) rfl ⟨(Nat.le_of_ble_eq_true rfl), (Nat.le_of_ble_eq_true rfl)⟩ (Nat.le_of_ble_eq_true rfl) ⟨Nat.zero_le _, Nat.zero_le _⟩ dX4_readsAction_193 (fun z9 σ1 hz9 => ?_)
                  obtain ⟨rfl, rfl⟩ := hz9
                  refine z_bipush X dX4_readsAction_196 rfl ?_
                  refine z_isub X dX4_readsAction_198 ?_
                  refine z_aload_n X dX4_readsAction_199 rfl ?_
                  refine y_gMod8 X fX4_165 dX4_readsAction_200 ?_
                  rw [show (rDs (rDs (rHd N) 7 7) 8 5) 0 8 = (rDg (rDs (rHd N) 7 7) 5) from rfl]
                  refine z_icmp_ne X 210 dX4_readsAction_203 (by decide) (by first | assumption | (unfold zB at *; omega)) (zB_sm (rg_Dg ok1 _)) (fun c_19 => ?_) (fun c_19 => ?_)
                  · refine z_aload_n X dX4_readsAction_210 rfl ?_
                    refine z_iconst X dX4_readsAction_211 ?_
                    refine z_callVI1 X (c_X4_digit hJ σ ok2 ⟨by decide, by decide⟩ (by decide)) kX4_149 rfl (by decide) rfl ⟨(Nat.le_of_ble_eq_true rfl), (Nat.le_of_ble_eq_true rfl)⟩ (Nat.le_of_ble_eq_true rfl) ⟨Nat.zero_le _, Nat.zero_le _⟩ dX4_readsAction_212 (fun z9 σ1 hz9 => ?_)
                    obtain ⟨rfl, rfl⟩ := hz9
                    refine y_pMod9 X fX4_168 dX4_readsAction_215 ?_
                    rw [show (up2 (rDgN (rDs (rDs (rHd N) 7 7) 8 5) 5) 0 9 (rDg (rDs (rDs (rHd N) 7 7) 8 5) 5)) = rDs (rDs (rDs (rHd N) 7 7) 8 5) 9 5 from rfl]
                    refine z_aload_n X dX4_readsAction_218 rfl ?_
                    refine y_gMod9 X fX4_168 dX4_readsAction_219 ?_
                    rw [show (rDs (rDs (rDs (rHd N) 7 7) 8 5) 9 5) 0 9 = (rDg (rDs (rDs (rHd N) 7 7) 8 5) 5) from rfl]
                    refine z_iconst X dX4_readsAction_222 ?_
                    refine z_icmp_eq X 230 dX4_readsAction_223 (by decide) (zB_sm (rg_Dg ok2 _)) ⟨by decide, by decide⟩ (fun c_21 => ?_) (fun c_21 => ?_)
                    · refine z_iconst X dX4_readsAction_230 ?_
                      exact z_zret X hsz hr hlocks dX4_readsAction_231 (Or.inl rfl) ⟨(by unfold rAc rVc; simp only [rTi]; grind), (congrArg (zBk σ _ _) (by unfold rAcN rVN rThN; grind))⟩
                    · refine z_iconst X dX4_readsAction_226 ?_
                      refine z_goto X 231 dX4_readsAction_227 (by decide) ?_
                      exact z_zret X hsz hr hlocks dX4_readsAction_231 (Or.inr rfl) ⟨(by unfold rAc rVc; simp only [rTi]; grind), (congrArg (zBk σ _ _) (by unfold rAcN rVN rThN; grind))⟩
                  · refine z_iconst X dX4_readsAction_206 ?_
                    refine z_goto X 215 dX4_readsAction_207 (by decide) ?_
                    refine y_pMod9 X fX4_168 dX4_readsAction_215 ?_
                    refine z_aload_n X dX4_readsAction_218 rfl ?_
                    refine y_gMod9 X fX4_168 dX4_readsAction_219 ?_
                    rw [show (up2 (rDs (rDs (rHd N) 7 7) 8 5) 0 9 (-1)) 0 9 = (-1) from rfl]
                    refine z_iconst X dX4_readsAction_222 ?_
                    refine z_icmp_eq X 230 dX4_readsAction_223 (by decide) ⟨by decide, by decide⟩ ⟨by decide, by decide⟩ (fun _ => ?_) (fun h9 => absurd h9 (by decide))
                    refine z_iconst X dX4_readsAction_230 ?_
                    exact z_zret X hsz hr hlocks dX4_readsAction_231 (Or.inl rfl) ⟨(by unfold rAc rVc; simp only [rTi]; grind), (congrArg (zBk σ _ _) (by unfold rAcN rVN rThN; (try simp only [*]); first | rfl | grind))⟩
                · refine z_aload_n X dX4_readsAction_177 rfl ?_
                  refine y_gMod8 X fX4_165 dX4_readsAction_178 ?_
                  rw [show (rDs (rDs (rHd N) 7 7) 8 5) 0 8 = (rDg (rDs (rHd N) 7 7) 5) from rfl]
                  refine z_iconst X dX4_readsAction_181 ?_
                  refine z_icmp_eq X 189 dX4_readsAction_182 (by decide) (zB_sm (rg_Dg ok1 _)) ⟨by decide, by decide⟩ (fun c_22 => ?_) (fun c_22 => ?_)
                  · refine z_iconst X dX4_readsAction_189 ?_
                    exact z_zret X hsz hr hlocks dX4_readsAction_190 (Or.inl rfl) ⟨(by unfold rAc rVc; simp only [rTi]; grind), (congrArg (zBk σ _ _) (by unfold rAcN rVN rThN; (try simp only [*]); first | rfl | grind))⟩
                  · refine z_iconst X dX4_readsAction_185 ?_
                    refine z_goto X 190 dX4_readsAction_186 (by decide) ?_
                    exact z_zret X hsz hr hlocks dX4_readsAction_190 (Or.inr rfl) ⟨(by unfold rAc rVc; simp only [rTi]; grind), (congrArg (zBk σ _ _) (by unfold rAcN rVN rThN; (try simp only [*]); first | rfl | grind))⟩
            · refine z_aload_n X dX4_readsAction_137 rfl ?_
              refine y_gMod7 X fX4_152 dX4_readsAction_138 ?_
              rw [show (rDs (rHd N) 7 7) 0 7 = (rDg (rHd N) 7) from rfl]
              refine z_iconst X dX4_readsAction_141 ?_
              refine z_icmp_eq X 149 dX4_readsAction_142 (by decide) (zB_sm (rg_Dg okH _)) ⟨by decide, by decide⟩ (fun c_23 => ?_) (fun c_23 => ?_)
              · refine z_iconst X dX4_readsAction_149 ?_
                exact z_zret X hsz hr hlocks dX4_readsAction_150 (Or.inl rfl) ⟨(by unfold rAc rVc; simp only [rTi]; grind), (congrArg (zBk σ _ _) (by unfold rAcN rVN rThN; (try simp only [*]); first | rfl | grind))⟩
              · refine z_iconst X dX4_readsAction_145 ?_
                refine z_goto X 150 dX4_readsAction_146 (by decide) ?_
                exact z_zret X hsz hr hlocks dX4_readsAction_150 (Or.inr rfl) ⟨(by unfold rAc rVc; simp only [rTi]; grind), (congrArg (zBk σ _ _) (by unfold rAcN rVN rThN; (try simp only [*]); first | rfl | grind))⟩
        refine z_aload_n X dX4_readsAction_63 rfl ?_
        refine z_bipush X dX4_readsAction_64 rfl ?_
        refine z_callVI1 X (c_X4_takes hJ σ (qk_w ok (by decide)) ⟨by decide, by decide⟩ (by decide)) kX4_158 rfl (by decide) rfl ⟨(Nat.le_of_ble_eq_true rfl), (Nat.le_of_ble_eq_true rfl)⟩ (Nat.le_of_ble_eq_true rfl) ⟨Nat.zero_le _, Nat.zero_le _⟩ dX4_readsAction_66 (fun z9 σ1 hz9 => ?_)
        obtain ⟨rfl, rfl⟩ := hz9
        rw [show rS (up2 N 0 6 (rS N)) = rS N from rS_w (by decide)]
        refine z_ifb_ne X 110 dX4_readsAction_69 (by decide) (fun c_25 => ?_) (fun c_25 => ?_)
        · rw [show rTk (up2 N 0 6 (rS N)) 121 = rHd N from rHd_tk c_25]
          exact J (by grind)
        · rw [show rTk (up2 N 0 6 (rS N)) 121 = up2 N 0 6 (rS N) from rTk_no (fun q => c_25 ((rS_w (by decide)).symm.trans q))]
          refine z_aload_n X dX4_readsAction_72 rfl ?_
          refine z_bipush X dX4_readsAction_73 rfl ?_
          refine z_callVI1 X (c_X4_takes hJ σ (qk_w ok (by decide)) ⟨by decide, by decide⟩ (by decide)) kX4_158 rfl (by decide) rfl ⟨(Nat.le_of_ble_eq_true rfl), (Nat.le_of_ble_eq_true rfl)⟩ (Nat.le_of_ble_eq_true rfl) ⟨Nat.zero_le _, Nat.zero_le _⟩ dX4_readsAction_75 (fun z9 σ1 hz9 => ?_)
          obtain ⟨rfl, rfl⟩ := hz9
          rw [show rS (up2 N 0 6 (rS N)) = rS N from rS_w (by decide)]
          refine z_ifb_ne X 110 dX4_readsAction_78 (by decide) (fun c_27 => ?_) (fun c_27 => ?_)
          · rw [show rTk (up2 N 0 6 (rS N)) 110 = rHd N from rHd_tk c_27]
            exact J (by grind)
          · rw [show rTk (up2 N 0 6 (rS N)) 110 = up2 N 0 6 (rS N) from rTk_no (fun q => c_27 ((rS_w (by decide)).symm.trans q))]
            refine z_aload_n X dX4_readsAction_81 rfl ?_
            refine z_bipush X dX4_readsAction_82 rfl ?_
            refine z_callVI1 X (c_X4_takes hJ σ (qk_w ok (by decide)) ⟨by decide, by decide⟩ (by decide)) kX4_158 rfl (by decide) rfl ⟨(Nat.le_of_ble_eq_true rfl), (Nat.le_of_ble_eq_true rfl)⟩ (Nat.le_of_ble_eq_true rfl) ⟨Nat.zero_le _, Nat.zero_le _⟩ dX4_readsAction_84 (fun z9 σ1 hz9 => ?_)
            obtain ⟨rfl, rfl⟩ := hz9
            rw [show rS (up2 N 0 6 (rS N)) = rS N from rS_w (by decide)]
            refine z_ifb_ne X 110 dX4_readsAction_87 (by decide) (fun c_29 => ?_) (fun c_29 => ?_)
            · rw [show rTk (up2 N 0 6 (rS N)) 100 = rHd N from rHd_tk c_29]
              exact J (by grind)
            · rw [show rTk (up2 N 0 6 (rS N)) 100 = up2 N 0 6 (rS N) from rTk_no (fun q => c_29 ((rS_w (by decide)).symm.trans q))]
              refine z_aload_n X dX4_readsAction_90 rfl ?_
              refine z_bipush X dX4_readsAction_91 rfl ?_
              refine z_callVI1 X (c_X4_takes hJ σ (qk_w ok (by decide)) ⟨by decide, by decide⟩ (by decide)) kX4_158 rfl (by decide) rfl ⟨(Nat.le_of_ble_eq_true rfl), (Nat.le_of_ble_eq_true rfl)⟩ (Nat.le_of_ble_eq_true rfl) ⟨Nat.zero_le _, Nat.zero_le _⟩ dX4_readsAction_93 (fun z9 σ1 hz9 => ?_)
              obtain ⟨rfl, rfl⟩ := hz9
              rw [show rS (up2 N 0 6 (rS N)) = rS N from rS_w (by decide)]
              refine z_ifb_ne X 110 dX4_readsAction_96 (by decide) (fun c_31 => ?_) (fun c_31 => ?_)
              · rw [show rTk (up2 N 0 6 (rS N)) 103 = rHd N from rHd_tk c_31]
                exact J (by grind)
              · rw [show rTk (up2 N 0 6 (rS N)) 103 = up2 N 0 6 (rS N) from rTk_no (fun q => c_31 ((rS_w (by decide)).symm.trans q))]
                refine z_aload_n X dX4_readsAction_99 rfl ?_
                refine z_bipush X dX4_readsAction_100 rfl ?_
                refine z_callVI1 X (c_X4_takes hJ σ (qk_w ok (by decide)) ⟨by decide, by decide⟩ (by decide)) kX4_158 rfl (by decide) rfl ⟨(Nat.le_of_ble_eq_true rfl), (Nat.le_of_ble_eq_true rfl)⟩ (Nat.le_of_ble_eq_true rfl) ⟨Nat.zero_le _, Nat.zero_le _⟩ dX4_readsAction_102 (fun z9 σ1 hz9 => ?_)
                obtain ⟨rfl, rfl⟩ := hz9
                rw [show rS (up2 N 0 6 (rS N)) = rS N from rS_w (by decide)]
                refine z_ifb_ne X 110 dX4_readsAction_105 (by decide) (fun c_33 => ?_) (fun c_33 => ?_)
                · rw [show rTk (up2 N 0 6 (rS N)) 97 = rHd N from rHd_tk c_33]
                  exact J (by grind)
                · rw [show rTk (up2 N 0 6 (rS N)) 97 = up2 N 0 6 (rS N) from rTk_no (fun q => c_33 ((rS_w (by decide)).symm.trans q))]
                  refine z_iconst X dX4_readsAction_108 ?_
                  exact z_zret X hsz hr hlocks dX4_readsAction_109 (Or.inl rfl) ⟨(by unfold rAc rVc; simp only [rTi]; grind), (congrArg (zBk σ _ _) (by unfold rAcN rVN rThN; (try simp only [*]); first | rfl | grind))⟩
      · rw [show rTk (up2 N 0 6 (rS N)) 117 = rHd N from rHd_tk c_9]
        have okH : qOk (rHd N) := qk_hd ok (by omega)
        refine z_aload_n X dX4_readsAction_40 rfl ?_
        refine z_aload_n X dX4_readsAction_41 rfl ?_
        refine z_iconst X dX4_readsAction_42 ?_
        refine z_callVI1 X (c_X4_digit hJ σ okH ⟨by decide, by decide⟩ (by decide)) kX4_149 rfl (by decide) rfl ⟨(Nat.le_of_ble_eq_true rfl), (Nat.le_of_ble_eq_true rfl)⟩ (Nat.le_of_ble_eq_true rfl) ⟨Nat.zero_le _, Nat.zero_le _⟩ dX4_readsAction_43 (fun z9 σ1 hz9 => ?_)
        obtain ⟨rfl, rfl⟩ := hz9
        refine y_pMod7 X fX4_152 dX4_readsAction_46 ?_
        rw [show (up2 (rDgN (rHd N) 5) 0 7 (rDg (rHd N) 5)) = rDs (rHd N) 7 5 from rfl]
        refine z_aload_n X dX4_readsAction_49 rfl ?_
        refine y_gMod7 X fX4_152 dX4_readsAction_50 ?_
        rw [show (rDs (rHd N) 7 5) 0 7 = (rDg (rHd N) 5) from rfl]
        refine z_iconst X dX4_readsAction_53 ?_
        refine z_icmp_eq X 61 dX4_readsAction_54 (by decide) (zB_sm (rg_Dg okH _)) ⟨by decide, by decide⟩ (fun c_35 => ?_) (fun c_35 => ?_)
        · refine z_iconst X dX4_readsAction_61 ?_
          exact z_zret X hsz hr hlocks dX4_readsAction_62 (Or.inl rfl) ⟨(by unfold rAc rVc; simp only [rTi]; grind), (congrArg (zBk σ _ _) (by unfold rAcN rVN rThN; (try simp only [*]); first | rfl | grind))⟩
        · refine z_iconst X dX4_readsAction_57 ?_
          refine z_goto X 62 dX4_readsAction_58 (by decide) ?_
          exact z_zret X hsz hr hlocks dX4_readsAction_62 (Or.inr rfl) ⟨(by unfold rAc rVc; simp only [rTi]; grind), (congrArg (zBk σ _ _) (by unfold rAcN rVN rThN; (try simp only [*]); first | rfl | grind))⟩
  · rw [show rTk (up2 N 0 6 (rS N)) 116 = rHd N from rHd_tk c_3]
    have okH : qOk (rHd N) := qk_hd ok (by omega)
    refine z_aload_n X dX4_readsAction_17 rfl ?_
    refine z_callVI0 X (c_X4_readsTicks hJ σ okH) kX4_161 rfl (by decide) rfl ⟨(Nat.le_of_ble_eq_true rfl), (Nat.le_of_ble_eq_true rfl)⟩ (Nat.le_of_ble_eq_true rfl) ⟨Nat.zero_le _, Nat.zero_le _⟩ dX4_readsAction_18 (fun z9 σ1 hz9 => ?_)
    obtain ⟨rfl, rfl⟩ := hz9
    exact z_zret X hsz hr hlocks dX4_readsAction_21 zB01 ⟨(by unfold rAc rVc; simp only [rTi]; grind), (congrArg (zBk σ _ _) (by unfold rAcN rVN rThN; (try simp only [*]); first | rfl | grind))⟩
