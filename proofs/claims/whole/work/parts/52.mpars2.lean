section Lk
variable {p : Program} {l : Launch} {e : Env} {R : Room} {s : State} {m : MethodId} {args : Array Value} {below : List Frame} {meth : Method} {c : Code} {cc : ByteArray} {nL : Nat} {own : String} {D : va_G} {G : zG} {ad : Nat → Nat} {cells slots : Nat} {Q : State → Prop}
variable {pc : Nat} {lv : List (Nat × Value)} {st : List Value} {σ : zM}
theorem z_lookIn (X : zX p s m args c cc nL own D G ad) {x : Int} (v : Int) (tgt : Nat) (off : Int) {dflt : Int} {ps : Array (Int × Int)} {len : Nat} (hx : x = v) (d : decode cc pc = .ok (.lookupswitch dflt ps, len)) (hp : (ps.toList.zip (ps.toList.drop 1)).all (fun (a, next) => a.1 < next.1) = true) (ho : Op.lookupswitch.offset ps.toList dflt (iI v).toInt = off) (ht : (pc : Int) + off = (tgt : Int))
    (k : zV p l e R s m args below meth c nL D G ad cells slots Q tgt lv st σ) : zV p l e R s m args below meth c nL D G ad cells slots Q pc lv (vI x :: st) σ := by
  subst hx
  exact fun ls H locs h hP hS => lv_lookup X.1 X.2.1 d hp ho ht (k ls H locs h hP hS)
theorem z_lookOut (X : zX p s m args c cc nL own D G ad) {x : Int} (hb : zB x) (tgt : Nat) {dflt : Int} {ps : Array (Int × Int)} {len : Nat} (d : decode cc pc = .ok (.lookupswitch dflt ps, len)) (hp : (ps.toList.zip (ps.toList.drop 1)).all (fun (a, next) => a.1 < next.1) = true) (ho : Op.lookupswitch.offset ps.toList dflt x = dflt) (ht : (pc : Int) + dflt = (tgt : Int))
    (k : zV p l e R s m args below meth c nL D G ad cells slots Q tgt lv st σ) : zV p l e R s m args below meth c nL D G ad cells slots Q pc lv (vI x :: st) σ :=
  fun ls H locs hl hP hS => lv_lookup X.1 X.2.1 d hp (by rw [iI_toInt hb]; exact ho) ht (k ls H locs hl hP hS)
end Lk
theorem zLk6 {x d a1 a2 a3 a4 a5 a6 b1 b2 b3 b4 b5 b6 : Int} (h : x ≠ a1 ∧ x ≠ a2 ∧ x ≠ a3 ∧ x ≠ a4 ∧ x ≠ a5 ∧ x ≠ a6) : Op.lookupswitch.offset [(a1, b1), (a2, b2), (a3, b3), (a4, b4), (a5, b5), (a6, b6)] d x = d := by
  obtain ⟨h1, h2, h3, h4, h5, h6⟩ := h
  rw [Op.lookupswitch.offset_cons, if_neg (fun q => h1 q.symm), Op.lookupswitch.offset_cons, if_neg (fun q => h2 q.symm), Op.lookupswitch.offset_cons, if_neg (fun q => h3 q.symm), Op.lookupswitch.offset_cons, if_neg (fun q => h4 q.symm), Op.lookupswitch.offset_cons, if_neg (fun q => h5 q.symm), Op.lookupswitch.offset_cons, if_neg (fun q => h6 q.symm)]
  rfl
def qTx (N : zNt) : Prop := (0 ≤ N 0 4 ∧ N 0 4 ≤ 60) ∧ ∀ j, j < 60 → 0 ≤ N 2 j ∧ N 2 j ≤ 126
theorem qx_w {N : zNt} (h : qTx N) {f : Nat} (x : Int) (hf : f ≠ 4 := by decide) : qTx (up2 N 0 f x) := ⟨by rw [up2_ne _ _ (fun q => hf q.2.symm)]; exact h.1, fun j hj => by rw [up2_rw _ _ (by decide)]; exact h.2 j hj⟩
theorem qk_0 {N : zNt} (h : qTx N) : qOk (up2 N 0 5 0) := by
  have := h.1
  refine ⟨?_, fun j hj => by rw [up2_rw _ _ (by decide)]; exact h.2 j hj⟩
  rw [up2_at, up2_ne _ _ (by decide)]
  omega
/-- only the parser's fields differ -/
def rFr (N M : zNt) : Prop := (∀ j, (j < 5 ∨ 9 < j) → M 0 j = N 0 j) ∧ ∀ r j, 1 ≤ r → M r j = N r j
theorem rFr_rf (N : zNt) : rFr N N := ⟨fun _ _ => rfl, fun _ _ _ => rfl⟩
theorem rFr_tr {A B C : zNt} (h : rFr A B) (h' : rFr B C) : rFr A C := ⟨fun j q => (h'.1 j q).trans (h.1 j q), fun r j q => (h'.2 r j q).trans (h.2 r j q)⟩
theorem rFr_w (N : zNt) {f : Nat} (x : Int) (hf : 5 ≤ f ∧ f ≤ 9) : rFr N (up2 N 0 f x) := ⟨fun j q => up2_ne _ _ (fun z => by omega), fun r j q => up2_rw _ _ (by omega) _⟩
theorem rFr_ds (N : zNt) (f : Nat) (y : Int) (hf : 5 ≤ f ∧ f ≤ 9) : rFr N (rDs N f y) := rFr_tr (rFr_w _ _ (by decide)) (rFr_w _ _ hf)
theorem rFr_dg (N : zNt) (y : Int) : rFr N (rDgN N y) := rFr_w _ _ (by decide)
theorem rFr_hd (N : zNt) : rFr N (rHd N) := rFr_tr (rFr_w _ _ (by decide)) (rFr_w _ _ (by decide))
theorem rFr_ti (N : zNt) : rFr N (rTiN N) := by
  unfold rTiN
  split
  · exact rFr_rf N
  · split
    · exact rFr_tr (rFr_tr (rFr_ds _ _ _ (by decide)) (rFr_dg _ _)) (rFr_w _ _ (by decide))
    · exact rFr_ds _ _ _ (by decide)
theorem rFr_ac (N : zNt) : rFr N (rAcN N) := by
  unfold rAcN
  split
  · exact rFr_tr (rFr_hd N) (rFr_ti _)
  · split
    · exact rFr_tr (rFr_hd N) (rFr_ds _ _ _ (by decide))
    · split
      · refine rFr_tr (rFr_hd N) ?_
        unfold rVN rThN
        split
        · exact rFr_ds _ _ _ (by decide)
        · split
          · exact rFr_tr (rFr_ds _ _ _ (by decide)) (rFr_ds _ _ _ (by decide))
          · split
            · exact rFr_tr (rFr_tr (rFr_ds _ _ _ (by decide)) (rFr_ds _ _ _ (by decide))) (rFr_w _ _ (by decide))
            · exact rFr_tr (rFr_tr (rFr_ds _ _ _ (by decide)) (rFr_ds _ _ _ (by decide))) (rFr_ds _ _ _ (by decide))
      · exact rFr_w _ _ (by decide)
theorem rFr_tk (N : zNt) (x : Int) : rFr N (rTk N x) := rFr_w _ _ (by decide)
theorem rTk_4 (N : zNt) (x : Int) : rTk N x 0 4 = N 0 4 := (rFr_tk N x).1 4 (by decide)
theorem rAcN_4 (N : zNt) : rAcN N 0 4 = N 0 4 := (rFr_ac N).1 4 (by decide)
theorem rDg_5 (N : zNt) (y : Int) : N 0 5 ≤ rDgN N y 0 5 := by
  unfold rDgN
  rw [up2_at]
  split <;> omega
theorem rDs_5 (N : zNt) (f : Nat) (y : Int) (hf : f ≠ 5) : N 0 5 ≤ rDs N f y 0 5 := by
  unfold rDs
  rw [up2_ne _ _ (fun q => hf q.2.symm)]
  exact rDg_5 N y
theorem rHd_5 (N : zNt) : N 0 5 ≤ rHd N 0 5 := by
  have : rHd N 0 5 = N 0 5 + 1 := up2_at _ _ _ _
  omega
theorem rTi_5 (N : zNt) : N 0 5 ≤ rTiN N 0 5 := by
  unfold rTiN
  split
  · exact Int.le_refl _
  · split
    · rw [up2_ne _ _ (by decide)]
      exact Int.le_trans (rDs_5 N 7 9 (by decide)) (rDg_5 _ _)
    · exact rDs_5 N 7 9 (by decide)
theorem rAcN_5 (N : zNt) : N 0 5 ≤ rAcN N 0 5 := by
  unfold rAcN
  split
  · exact Int.le_trans (rHd_5 N) (rTi_5 _)
  · split
    · exact Int.le_trans (rHd_5 N) (rDs_5 _ _ _ (by decide))
    · split
      · refine Int.le_trans (rHd_5 N) ?_
        have h1 := rDs_5 (rHd N) 7 7 (by decide)
        have h2 := rDs_5 (rDs (rHd N) 7 7) 8 5 (by decide)
        have h3 := rDs_5 (rDs (rDs (rHd N) 7 7) 8 5) 9 5 (by decide)
        unfold rVN rThN
        split
        · exact h1
        · split
          · omega
          · split
            · rw [up2_ne _ _ (by decide)]; omega
            · omega
      · rw [up2_ne _ _ (by decide)]; exact Int.le_refl _
theorem rTk_adv {M : zNt} {i : Int} (h : rS (rAcN M) = 59) (hi : i ≤ M 0 5) : i + 1 ≤ rTk (rAcN M) 59 0 5 := by
  have q1 := rAcN_5 M
  have q2 : rTk (rAcN M) 59 0 5 = rAcN M 0 5 + 1 := by rw [rTk_yes h]; exact up2_at _ _ _ _
  omega
/-- the whole text -/
def rAA : Nat → zNt → Bool × zNt
  | 0, N => (false, N)
  | f + 1, N => if rAc N = true then (if rAcN N 0 5 = rAcN N 0 4 then (true, rAcN N) else if rS (rAcN N) = 59 then rAA f (rTk (rAcN N) 59) else (false, rAcN N)) else (false, rAcN N)
set_option maxHeartbeats 4000000 in
set_option maxRecDepth 100000 in
theorem c_X4_areActions {l : Launch} {D : va_G} {G : zG} {ad : Nat → Nat} (hJ : zInj ad) (σ : zM) {N : Nat → Nat → Int}   (tq : qTx N) : zKI l D G ad yX4_areActions cX4_areActions 1 (some .boolean) 4 [.ref (ad 5)] (zBk σ 5 3 N) (fun z σ9 => z = (if (rAA 61 (up2 N 0 5 0)).1 = true then 1 else 0) ∧ σ9 = (zBk σ 5 3 ((rAA 61 (up2 N 0 5 0)).2))) := by
  intro sz
  refine z_open hJ (by decide +kernel) (Nat.le_of_ble_eq_true rfl) ?_
  intro p e s0 m args below meth c hsz X hr hlocks
  refine z_sub [(0, .ref (ad 5))] (zSub_cons rfl zSub_nil) ?_
  refine z_aload_n X dX4_areActions_0 rfl ?_
  refine z_iconst X dX4_areActions_1 ?_
  refine y_pMod5 X fX4_143 dX4_areActions_2 ?_
  refine z_sub [(0, .ref (ad 5))] (zSub_cons rfl zSub_nil) ?_
  refine zFor (S := zNt) 60 (fun i M => qOk M ∧ M 0 4 = N 0 4 ∧ i ≤ M 0 5 ∧ rAA (61 - i).toNat M = rAA 61 (up2 N 0 5 0)) (fun i M => zV p l e (zRm 4) s0 m args below meth c 1 D G ad 0 0 (zE below (zQI D G ad sz (fun z σ9 => z = (if (rAA 61 (up2 N 0 5 0)).1 = true then 1 else 0) ∧ σ9 = (zBk σ 5 3 ((rAA 61 (up2 N 0 5 0)).2)))) args s0 ad) 5 [(0, .ref (ad 5))] [] (zBk σ 5 3 M)) (fun i M i0 i1 hv ih => ?_) (up2 N 0 5 0) (by omega) ⟨qk_0 tq, rfl, Int.le_refl _, rfl⟩
  have hA1 := qk_at (qk_ac hv.1)
  have q41 := rAcN_4 M
  have q51 := rAcN_5 M
  refine z_aload_n X dX4_areActions_5 rfl ?_
  refine z_callVI0 X (c_X4_readsAction hJ _ hv.1) kX4_171 rfl (by decide) rfl ⟨(Nat.le_of_ble_eq_true rfl), (Nat.le_of_ble_eq_true rfl)⟩ (Nat.le_of_ble_eq_true rfl) ⟨Nat.zero_le _, Nat.zero_le _⟩ dX4_areActions_6 (fun z9 σ1 hz9 => ?_)
  obtain ⟨rfl, rfl⟩ := hz9
  refine z_ifb_eq X 36 dX4_areActions_9 (by decide) (fun c_2 => ?_) (fun c_2 => ?_)
  · refine z_iconst X dX4_areActions_36 ?_
    exact z_zret X hsz hr hlocks dX4_areActions_37 (Or.inl rfl) ⟨(by rw [← hv.2.2.2, show (61 - i).toNat = (61 - (i + 1)).toNat + 1 by omega, rAA, if_neg c_2]; try rfl), (congrArg (zBk σ _ _) (by rw [← hv.2.2.2, show (61 - i).toNat = (61 - (i + 1)).toNat + 1 by omega, rAA, if_neg c_2]; try rfl))⟩
  · refine z_aload_n X dX4_areActions_12 rfl ?_
    refine y_gMod5 X fX4_143 dX4_areActions_13 ?_
    refine z_aload_n X dX4_areActions_16 rfl ?_
    refine y_gMod4 X fX4_140 dX4_areActions_17 ?_
    refine z_icmp_ne X 25 dX4_areActions_20 (by decide) (by unfold zB; omega) (by unfold zB; omega) (fun c_3 => ?_) (fun c_3 => ?_)
    · refine z_aload_n X dX4_areActions_25 rfl ?_
      refine z_bipush X dX4_areActions_26 rfl ?_
      refine z_callVI1 X (c_X4_takes hJ _ (qk_ac hv.1) ⟨by decide, by decide⟩ (by decide)) kX4_158 rfl (by decide) rfl ⟨(Nat.le_of_ble_eq_true rfl), (Nat.le_of_ble_eq_true rfl)⟩ (Nat.le_of_ble_eq_true rfl) ⟨Nat.zero_le _, Nat.zero_le _⟩ dX4_areActions_28 (fun z9 σ1 hz9 => ?_)
      obtain ⟨rfl, rfl⟩ := hz9
      refine z_ifb_ne X 5 dX4_areActions_31 (by decide) (fun c_5 => ?_) (fun c_5 => ?_)
      · refine z_sub [(0, .ref (ad 5))] (zSub_cons rfl zSub_nil) ?_
        exact ih (by omega) (rTk (rAcN M) 59) ⟨qk_tk (qk_ac hv.1) (by decide), (rTk_4 _ _).trans ((rAcN_4 _).trans hv.2.1), rTk_adv c_5 hv.2.2.1, (by rw [← hv.2.2.2, show (61 - i).toNat = (61 - (i + 1)).toNat + 1 by omega, rAA, if_pos c_2, if_neg c_3, if_pos c_5])⟩
      · refine z_iconst X dX4_areActions_34 ?_
        exact z_zret X hsz hr hlocks dX4_areActions_35 (Or.inl rfl) ⟨(by rw [← hv.2.2.2, show (61 - i).toNat = (61 - (i + 1)).toNat + 1 by omega, rAA, if_pos c_2, if_neg c_3, if_neg c_5]; try rfl), (congrArg (zBk σ _ _) (by rw [rTk_no c_5, ← hv.2.2.2, show (61 - i).toNat = (61 - (i + 1)).toNat + 1 by omega, rAA, if_pos c_2, if_neg c_3, if_neg c_5]))⟩
    · refine z_iconst X dX4_areActions_23 ?_
      exact z_zret X hsz hr hlocks dX4_areActions_24 (Or.inr rfl) ⟨(by rw [← hv.2.2.2, show (61 - i).toNat = (61 - (i + 1)).toNat + 1 by omega, rAA, if_pos c_2, if_pos c_3]; try rfl), (congrArg (zBk σ _ _) (by rw [← hv.2.2.2, show (61 - i).toNat = (61 - (i + 1)).toNat + 1 by omega, rAA, if_pos c_2, if_pos c_3]; try rfl))⟩

set_option maxHeartbeats 4000000 in
set_option maxRecDepth 100000 in
theorem c_X4_firstError {l : Launch} {D : va_G} {G : zG} {ad : Nat → Nat} (hJ : zInj ad) (σ : zM) {N : Nat → Nat → Int}   (tq : qTx N) : zKI l D G ad yX4_firstError cX4_firstError 1 (some .int) 5 [.ref (ad 5)] (zBk σ 5 3 N) (fun z σ9 => z = (rAA 61 (up2 (up2 N 0 0 0) 0 5 0)).2 0 5 ∧ σ9 = (zBk σ 5 3 ((rAA 61 (up2 (up2 N 0 0 0) 0 5 0)).2))) := by
  intro sz
  refine z_open hJ (by decide +kernel) (Nat.le_of_ble_eq_true rfl) ?_
  intro p e s0 m args below meth c hsz X hr hlocks
  refine z_sub [(0, .ref (ad 5))] (zSub_cons rfl zSub_nil) ?_
  refine z_aload_n X dX4_firstError_0 rfl ?_
  refine z_iconst X dX4_firstError_1 ?_
  refine y_pMod0 X fX4_16 dX4_firstError_2 ?_
  refine z_aload_n X dX4_firstError_5 rfl ?_
  refine z_callVI0 X (c_X4_areActions hJ _ (by first | exact tq | exact qx_w tq _)) kX4_174 rfl (by decide) rfl ⟨(Nat.le_of_ble_eq_true rfl), (Nat.le_of_ble_eq_true rfl)⟩ (Nat.le_of_ble_eq_true rfl) ⟨Nat.zero_le _, Nat.zero_le _⟩ dX4_firstError_6 (fun z9 σ1 hz9 => ?_)
  obtain ⟨rfl, rfl⟩ := hz9
  refine z_pop X dX4_firstError_9 rfl ?_
  refine z_aload_n X dX4_firstError_10 rfl ?_
  refine y_gMod5 X fX4_143 dX4_firstError_11 ?_
  exact z_iret X hsz hr hlocks dX4_firstError_14 ⟨rfl, (congrArg (zBk σ _ _) rfl)⟩
