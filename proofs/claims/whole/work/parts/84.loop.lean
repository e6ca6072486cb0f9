/-! THE LAW'S LOOP -/
theorem and31 (x : Int) : 0 ≤ zAnd x 31 ∧ zAnd x 31 ≤ 31 := by
  unfold zAnd
  have h : (iI x &&& iI 31).toBitVec = (iI x).toBitVec &&& 31#32 := by rw [Int32.toBitVec_and]; rfl
  have h2 : (iI x &&& iI 31).toInt = ((iI x).toBitVec &&& 31#32).toInt := by rw [← h]; rfl
  rw [h2]
  have h4 : ((iI x).toBitVec &&& 31#32).toNat = (iI x).toBitVec.toNat % 32 := by
    rw [BitVec.toNat_and]
    exact Nat.and_two_pow_sub_one_eq_mod _ 5
  have h5 := BitVec.toInt_eq_toNat_cond ((iI x).toBitVec &&& 31#32)
  rw [h4] at h5
  have h6 : (iI x).toBitVec.toNat % 32 < 32 := Nat.mod_lt _ (by decide)
  rw [if_pos (by omega)] at h5
  omega
section LW
variable {p : Program} {l : Launch} {en : Env} {s : State} {m : MethodId} {below : List Frame} {meth : Method} {c : Code} {D : va_G} {G : zG} {ad : Nat → Nat} {cells slots : Nat} {Q : State → Prop}
variable {σ : zM} {b L : Nat} {xs : Nat → Int32} {i : Int}
set_option maxHeartbeats 4000000 in
set_option maxRecDepth 100000 in
theorem lw_sw (W : zLw p s m b c D G ad L xs) (hJ : zInj ad) (hl : l.stackTraces = false) (g : gI σ) (hi : 0 ≤ i ∧ i + 4 ≤ L) (hr : cells + 4 ≤ room_1.cells ∧ slots + 6 * 4 ≤ room_1.slots) (k : ∀ σ2, gI σ2 → zV p l en room_1 s m #[.ref b] below meth c 9 D G ad (cells + 4) (slots + 6 * 4) Q 1769 (lwL b ad i) [] σ2) : zV p l en room_1 s m #[.ref b] below meth c 9 D G ad cells slots Q 32 (lwL b ad i) [] σ := by
  have X := W.1
  have hL := W.2.2.2.2.2
  refine z_aload_n X dL_law_32 rfl ?_
  refine z_iload X dL_law_33 rfl ?_
  refine z_sld X W.2.2.1 W.2.2.2.1 W.2.2.2.2.1 hL (by omega) dL_law_35 ?_
  refine z_bipush X dL_law_36 (by decide) ?_
  refine z_and X dL_law_38 (zAnd_eq _ _) ?_
  have hz := and31 (xs i.toNat).toInt
  generalize zAnd (xs i.toNat).toInt 31 = v at hz ⊢
  have hv : v = 0 ∨ v = 1 ∨ v = 2 ∨ v = 3 ∨ v = 4 ∨ v = 5 ∨ v = 6 ∨ v = 7 ∨ v = 8 ∨ v = 9 ∨ v = 10 ∨ v = 11 ∨ v = 12 ∨ v = 13 ∨ v = 14 ∨ v = 15 ∨ v = 16 ∨ v = 17 ∨ v = 18 ∨ v = 19 ∨ v = 20 ∨ v = 21 ∨ v = 22 ∨ v = 23 ∨ v = 24 ∨ v = 25 ∨ v = 26 ∨ v = 27 ∨ v = 28 ∨ v = 29 ∨ v = 30 ∨ v = 31 := by omega
  rcases hv with hv | hv | hv | hv | hv | hv | hv | hv | hv | hv | hv | hv | hv | hv | hv | hv | hv | hv | hv | hv | hv | hv | hv | hv | hv | hv | hv | hv | hv | hv | hv | hv
  · exact z_tabIn X 0 180 141 hv dL_law_39 (by decide) (by decide) rfl (by decide) (lc_begin W hJ hl g hi hr k)
  · exact z_tabIn X 1 260 221 hv dL_law_39 (by decide) (by decide) rfl (by decide) (lc_vote W hJ hl g hi hr k)
  · exact z_tabIn X 2 356 317 hv dL_law_39 (by decide) (by decide) rfl (by decide) (lc_decide W hJ hl g hi hr k)
  · exact z_tabIn X 3 412 373 hv dL_law_39 (by decide) (by decide) rfl (by decide) (lc_tell W hJ hl g hi hr k)
  · exact z_tabIn X 4 480 441 hv dL_law_39 (by decide) (by decide) rfl (by decide) (lc_ask W hJ hl g hi hr k)
  · exact z_tabIn X 5 560 521 hv dL_law_39 (by decide) (by decide) rfl (by decide) (lc_fallSilent W hJ hl g hi hr k)
  · exact z_tabIn X 6 616 577 hv dL_law_39 (by decide) (by decide) rfl (by decide) (lc_comeBack W hJ hl g hi hr k)
  · exact z_tabIn X 7 672 633 hv dL_law_39 (by decide) (by decide) rfl (by decide) (lc_pass W hJ hl g hi hr k)
  · exact z_tabIn X 8 728 689 hv dL_law_39 (by decide) (by decide) rfl (by decide) (lc_setPatience W hJ hl g hi hr k)
  · exact z_tabIn X 9 784 745 hv dL_law_39 (by decide) (by decide) rfl (by decide) (lc_deals W hJ hl g hi hr k)
  · exact z_tabIn X 10 797 758 hv dL_law_39 (by decide) (by decide) rfl (by decide) (lc_isUp W hJ hl g hi hr k)
  · exact z_tabIn X 11 860 821 hv dL_law_39 (by decide) (by decide) rfl (by decide) (lc_state W hJ hl g hi hr k)
  · exact z_tabIn X 12 928 889 hv dL_law_39 (by decide) (by decide) rfl (by decide) (lc_decision W hJ hl g hi hr k)
  · exact z_tabIn X 13 984 945 hv dL_law_39 (by decide) (by decide) rfl (by decide) (lc_leader W hJ hl g hi hr k)
  · exact z_tabIn X 14 1040 1001 hv dL_law_39 (by decide) (by decide) rfl (by decide) (lc_patience W hJ hl g hi hr k)
  · exact z_tabIn X 15 1108 1069 hv dL_law_39 (by decide) (by decide) rfl (by decide) (lc_open W hJ hl g hi hr k)
  · exact z_tabIn X 16 1121 1082 hv dL_law_39 (by decide) (by decide) rfl (by decide) (lc_stuck W hJ hl g hi hr k)
  · exact z_tabIn X 17 1134 1095 hv dL_law_39 (by decide) (by decide) rfl (by decide) (lc_logLength W hJ hl g hi hr k)
  · exact z_tabIn X 18 1190 1151 hv dL_law_39 (by decide) (by decide) rfl (by decide) (lc_log W hJ hl g hi hr k)
  · exact z_tabIn X 19 1258 1219 hv dL_law_39 (by decide) (by decide) rfl (by decide) (lc_held W hJ hl g hi hr k)
  · exact z_tabIn X 20 1314 1275 hv dL_law_39 (by decide) (by decide) rfl (by decide) (lc_asked W hJ hl g hi hr k)
  · exact z_tabIn X 21 1327 1288 hv dL_law_39 (by decide) (by decide) rfl (by decide) (lc_doubtShare W hJ hl g hi hr k)
  · exact z_tabIn X 22 1368 1329 hv dL_law_39 (by decide) (by decide) rfl (by decide) (lc_reason W hJ hl g hi hr k)
  · exact z_tabIn X 23 1436 1397 hv dL_law_39 (by decide) (by decide) rfl (by decide) (lc_helper W hJ hl g hi hr k)
  · exact z_tabIn X 24 1504 1465 hv dL_law_39 (by decide) (by decide) rfl (by decide) (lc_ticksToEnd W hJ hl g hi hr k)
  · exact z_tabIn X 25 1572 1533 hv dL_law_39 (by decide) (by decide) rfl (by decide) (lc_append W hJ hl g hi hr k)
  · exact z_tabIn X 26 1628 1589 hv dL_law_39 (by decide) (by decide) rfl (by decide) (lc_clearText W hJ hl g hi hr k)
  · exact z_tabIn X 27 1641 1602 hv dL_law_39 (by decide) (by decide) rfl (by decide) (lc_firstError W hJ hl g hi hr k)
  · exact z_tabIn X 28 1654 1615 hv dL_law_39 (by decide) (by decide) rfl (by decide) (lc_run W hJ hl g hi hr k)
  · exact z_tabIn X 29 1698 1659 hv dL_law_39 (by decide) (by decide) rfl (by decide) (lc_undo W hJ hl g hi hr k)
  · exact z_tabIn X 30 1742 1703 hv dL_law_39 (by decide) (by decide) rfl (by decide) (lc_savedStates W hJ hl g hi hr k)
  · exact z_tabIn X 31 1755 1716 hv dL_law_39 (by decide) (by decide) rfl (by decide) (lc_digest W hJ hl g hi hr k)
/-- the loop: every end of it goes on at 1775 -/
theorem lw_loop (W : zLw p s m b c D G ad L xs) (hJ : zInj ad) (hl : l.stackTraces = false) (kend : ∀ (i : Int) (σ2 : zM) (c2 s2 : Nat), c2 ≤ room_1.cells → s2 ≤ room_1.slots → zV p l en room_1 s m #[.ref b] below meth c 9 D G ad c2 s2 Q 1775 (lwL b ad i) [] σ2) : ∀ (f : Nat) (σ : zM) (i : Int) (cells slots : Nat), gI σ → 0 ≤ i ∧ i ≤ L → (L : Int) - i < 4 * (f + 1) → cells + 4 * f ≤ room_1.cells ∧ slots + 24 * f ≤ room_1.slots → zV p l en room_1 s m #[.ref b] below meth c 9 D G ad cells slots Q 23 (lwL b ad i) [] σ
  | f, σ, i, cells, slots, g, hi, hf, hr => by
    have X := W.1
    have hL := W.2.2.2.2.2
    refine z_iload X dL_law_23 rfl ?_
    refine z_aload_n X dL_law_25 rfl ?_
    refine z_slen X W.2.2.1 W.2.2.2.1 W.2.2.2.2.1 dL_law_26 ?_
    refine z_iconst X dL_law_27 ?_
    refine z_isub X dL_law_28 ?_
    refine z_icmp_gt X 1775 dL_law_29 (by decide) (by unfold zB; omega) (by unfold zB; omega) (fun _ => ?_) (fun q => ?_)
    · exact kend i σ cells slots (by omega) (by omega)
    · cases f with
      | zero => exact absurd hf (by omega)
      | succ f =>
        refine lw_sw W hJ hl g (by omega) (by omega) (fun σ2 g2 => ?_)
        refine z_iinc X dL_law_1769 rfl (by decide) ?_
        refine z_goto X 23 dL_law_1772 (by decide) ?_
        refine z_sub (lwL b ad (i + 4)) (lwSub rfl rfl rfl rfl rfl) ?_
        exact lw_loop W hJ hl kend f σ2 (i + 4) (cells + 4) (slots + 6 * 4) g2 (by omega) (by omega) (by omega)
end LW
