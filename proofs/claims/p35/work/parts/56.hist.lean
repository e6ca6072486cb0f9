/-! the history: N 0 1 its count, N 1 the cells of its six Nets -/
def hOk (N : zNt) : Prop := (0 ≤ N 0 1 ∧ N 0 1 ≤ 6) ∧ (∀ j, j < 6 → zNet (N 1 j).toNat ∧ 24 ≤ N 1 j) ∧ ∀ i j, i < 6 → j < 6 → N 1 i = N 1 j → i = j
theorem hk_c {N : zNt} (h : hOk N) : 0 ≤ N 0 1 ∧ N 0 1 ≤ 6 := h.1
theorem hk_z {N : zNt} (h : hOk N) {j : Nat} (hj : j < 6) : zNet (N 1 j).toNat ∧ 24 ≤ N 1 j := h.2.1 j hj
theorem hk_v {N : zNt} (h : hOk N) {j : Nat} (hj : j < 6) : ((N 1 j).toNat : Int) = N 1 j := Int.toNat_of_nonneg (by have := (h.2.1 j hj).2; omega)
/-- the row moved down below i -/
def hShL (N : zNt) (i : Nat) : zNt := fun r j => if r = 1 ∧ j + 1 < i then N 1 (j + 1) else N r j
theorem hShL_1 (N : zNt) : hShL N (1 : Int).toNat = N := by
  funext r j
  exact if_neg (by omega)
theorem hShL_rd {N : zNt} {i : Int} (h : 1 ≤ i) : hShL N i.toNat 1 i.toNat = N 1 i.toNat := if_neg (by omega)
theorem hShL_step {N : zNt} {i : Int} (h : 1 ≤ i) : up2 (hShL N i.toNat) 1 (i - 1).toNat (N 1 i.toNat) = hShL N (i + 1).toNat := by
  funext r j
  unfold up2 hShL
  by_cases e : r = 1 ∧ j = (i - 1).toNat
  · obtain ⟨rfl, rfl⟩ := e
    rw [if_pos ⟨rfl, rfl⟩, if_pos ⟨rfl, by omega⟩]
    exact congrArg (N 1) (by omega)
  · rw [if_neg e]
    by_cases q : r = 1 ∧ j + 1 < i.toNat
    · rw [if_pos q, if_pos ⟨q.1, by omega⟩]
    · rw [if_neg q, if_neg (by omega)]
def hRot (N : zNt) : zNt := up2 (up2 (hShL N 6) 1 5 (N 1 0)) 0 1 5
theorem hRot_1 (N : zNt) {j : Nat} (hj : j < 6) : hRot N 1 j = N 1 ((j + 1) % 6) := by
  unfold hRot
  rw [up2_rw _ _ (by decide)]
  by_cases e : j = 5
  · subst e; rw [up2_at]
  · rw [up2_ne _ _ (fun q => e q.2)]
    unfold hShL
    rw [if_pos ⟨rfl, by omega⟩]
    exact congrArg (N 1) (by omega)
theorem hk_rot {N : zNt} (h : hOk N) : hOk (hRot N) := by
  have e : hRot N 0 1 = 5 := up2_at _ _ _ _
  refine ⟨by omega, fun j hj => by rw [hRot_1 N hj]; exact h.2.1 _ (by omega), fun i j hi hj q => ?_⟩
  rw [hRot_1 N hi, hRot_1 N hj] at q
  have := h.2.2 _ _ (by omega) (by omega) q
  omega
def hPre (N : zNt) : zNt := if N 0 1 < 6 then N else hRot N
def hRes (σ : zM) (N : zNt) : zM := if 0 < N 0 1 then zBk (zBk σ 8 8 (zRd σ (N 1 (N 0 1 - 1).toNat).toNat)) 1 2 (up2 N 0 1 (N 0 1 - 1)) else zBk σ 1 2 N
theorem zBk_sw {σ : zM} {k : Nat} {N M : zNt} (h : 3 ≤ k) : zBk (zBk σ 1 2 N) k 8 M = zBk (zBk σ k 8 M) 1 2 N := by
  unfold zBk
  refine congrArg (fun z => (z, σ.2)) (funext fun a => funext fun b => ?_)
  show (if k ≤ a ∧ a < k + 8 then M (a - k) b else (if 1 ≤ a ∧ a < 1 + 2 then N (a - 1) b else σ.1 a b)) = (if 1 ≤ a ∧ a < 1 + 2 then N (a - 1) b else (if k ≤ a ∧ a < k + 8 then M (a - k) b else σ.1 a b))
  by_cases h1 : 1 ≤ a ∧ a < 1 + 2
  · rw [if_pos h1, if_neg (by omega), if_pos h1]
  · rw [if_neg h1, if_neg h1]
theorem zRd_out {σ : zM} {k : Nat} {N : zNt} (h : 3 ≤ k) : zRd (zBk σ 1 2 N) k = zRd σ k := by
  funext r j
  exact congrFun (zBk_out (by omega)) j
section Hs
variable {p : Program} {l : Launch} {e : Env} {R : Room} {s : State} {m : MethodId} {args : Array Value} {below : List Frame} {meth : Method} {c : Code} {cc : ByteArray} {nL : Nat} {own : String} {D : va_G} {G : zG} {ad : Nat → Nat} {cells slots : Nat} {Q : State → Prop}
variable {pc : Nat} {lv : List (Nat × Value)} {st : List Value} {σ : zM} {N : zNt}
theorem y_aald (X : zX p s m args c cc nL own D G ad) {i : Int} (h0 : 0 ≤ i) (h1 : i < 6) (d : decode cc pc = .ok (.aaload, 1))
    (kk : zV p l e R s m args below meth c nL D G ad cells slots Q (pc + 1) lv (.ref (ad (N 1 i.toNat).toNat) :: st) (zBk σ 1 2 N)) : zV p l e R s m args below meth c nL D G ad cells slots Q pc lv (vI i :: .ref (ad (1 + 1)) :: st) (zBk σ 1 2 N) :=
  z_aald X h0 h1 d (by rw [show (zBk σ 1 2 N).1 2 i.toNat = N 1 i.toNat from congrFun (zBk_row (k := 1) (r := 1) (by decide)) _]; exact kk)
theorem y_aast (X : zX p s m args c cc nL own D G ad) {i : Int} {k : Nat} {v : Int} (Z : zNet k ∧ 24 ≤ v) (h0 : 0 ≤ i) (h1 : i < 6) (d : decode cc pc = .ok (.aastore, 1))
    (kk : zV p l e R s m args below meth c nL D G ad cells slots Q (pc + 1) lv st (zBk σ 1 2 (up2 N 1 i.toNat k))) : zV p l e R s m args below meth c nL D G ad cells slots Q pc lv (.ref (ad k) :: vI i :: .ref (ad (1 + 1)) :: st) (zBk σ 1 2 N) :=
  z_aast X Z.1 h0 h1 d (by rw [show zS (zBk σ 1 2 N) 2 i.toNat k = zBk σ 1 2 (up2 N 1 i.toNat k) from zS_bk (k := 1) (r := 1) (by decide)]; exact kk)
end Hs
set_option maxHeartbeats 4000000 in
set_option maxRecDepth 100000 in
theorem c_X1_size {l : Launch} {D : va_G} {G : zG} {ad : Nat → Nat} (hJ : zInj ad) (σ : zM) {N : Nat → Nat → Int} (ok : hOk N)   : zKI l D G ad yX1_size cX1_size 1 (some .int) 0 [.ref (ad 1)] (zBk σ 1 2 N) (fun z σ9 => z = N 0 1 ∧ σ9 = (zBk σ 1 2 N)) := by
  intro sz
  refine z_open hJ (by decide +kernel) (Nat.le_of_ble_eq_true rfl) ?_
  intro p e s0 m args below meth c hsz X hr hlocks
  have hc := hk_c ok
  refine z_sub [(0, .ref (ad 1))] (zSub_cons rfl zSub_nil) ?_
  refine z_aload_n X dX1_size_0 rfl ?_
  refine y_gHis1 X fX1_17 dX1_size_1 ?_
  exact z_iret X hsz hr hlocks dX1_size_4 ⟨(by first | rfl | ((try simp only [cEnd]); split <;> first | rfl | omega | (exfalso; omega)) | (simp [cEnd]; done) | (simp_all [cEnd]; done)), rfl⟩

set_option maxHeartbeats 4000000 in
set_option maxRecDepth 100000 in
theorem c_X1_discardOldest {l : Launch} {D : va_G} {G : zG} {ad : Nat → Nat} (hJ : zInj ad) (σ : zM) {N : Nat → Nat → Int} (ok : hOk N)   : zKV l D G ad yX1_discardOldest cX1_discardOldest 3 none 0 [.ref (ad 1)] (zBk σ 1 2 N) (fun σ9 => σ9 = zBk σ 1 2 (hRot N)) := by
  intro sz
  refine z_open hJ (by decide +kernel) (Nat.le_of_ble_eq_true rfl) ?_
  intro p e s0 m args below meth c hsz X hr hlocks
  have hc := hk_c ok
  refine z_sub [(0, .ref (ad 1))] (zSub_cons rfl zSub_nil) ?_
  refine z_aload_n X dX1_discardOldest_0 rfl ?_
  refine y_gHis0 X fX1_11 dX1_discardOldest_1 ?_
  refine z_iconst X dX1_discardOldest_4 ?_
  refine y_aald X (by omega) (by omega) dX1_discardOldest_5 ?_
  have hz0 := hk_z ok (j := (0 : Int).toNat) (by decide)
  refine z_astore_n X dX1_discardOldest_6 (by decide) ?_
  refine z_sub [(0, .ref (ad 1)), (1, .ref (ad ((N 1 (0 : Int).toNat).toNat)))] (zSub_cons rfl (zSub_cons rfl zSub_nil)) ?_
  refine z_iconst X dX1_discardOldest_7 ?_
  refine z_istore_n X dX1_discardOldest_8 (by decide) ?_
  refine z_sub [(0, .ref (ad 1)), (1, .ref (ad ((N 1 (0 : Int).toNat).toNat))), (2, vI 1)] (zSub_cons rfl (zSub_cons rfl (zSub_cons rfl zSub_nil))) ?_
  refine z_sub [(0, .ref (ad 1)), (1, .ref (ad ((N 1 (0 : Int).toNat).toNat))), (2, vI 1)] (zSub_cons rfl (zSub_cons rfl (zSub_cons rfl zSub_nil))) ?_
  rw [show zBk σ 1 2 N = zBk σ 1 2 (hShL N (1 : Int).toNat) from congrArg (zBk σ 1 2) (hShL_1 N).symm]
  refine zForL (S := Unit) 1 6 (fun i _u => True) (fun i _u => zV p l e (zRm 0) s0 m args below meth c 3 D G ad 0 0 (zE below (zQV D G ad sz (fun σ9 => σ9 = zBk σ 1 2 (hRot N))) args s0 ad) 9 [(0, .ref (ad 1)), (1, .ref (ad ((N 1 (0 : Int).toNat).toNat))), (2, vI i)] [] (zBk σ 1 2 (hShL N i.toNat))) (fun i _u i0 i1 hv ih => ?_) () (by decide) trivial
  refine z_iload_n X dX1_discardOldest_9 rfl ?_
  refine z_bipush X dX1_discardOldest_10 rfl ?_
  refine z_icmp_ge X 35 dX1_discardOldest_12 (by decide) (by first | assumption | (unfold zB at *; omega)) ⟨by decide, by decide⟩ (fun c_1 => ?_) (fun c_1 => ?_)
  · refine z_aload_n X dX1_discardOldest_35 rfl ?_
    refine y_gHis0 X fX1_11 dX1_discardOldest_36 ?_
    refine z_iconst X dX1_discardOldest_39 ?_
    refine z_aload_n X dX1_discardOldest_40 rfl ?_
    refine y_aast X hz0 (by omega) (by omega) dX1_discardOldest_41 ?_
    refine z_aload_n X dX1_discardOldest_42 rfl ?_
    refine z_iconst X dX1_discardOldest_43 ?_
    refine y_pHis1 X fX1_17 dX1_discardOldest_44 ?_
    exact z_vret X hsz hr hlocks dX1_discardOldest_47 (by rw [show i = 6 by omega, hk_v ok (j := (0 : Int).toNat) (by decide)]; rfl)
  · refine z_aload_n X dX1_discardOldest_15 rfl ?_
    refine y_gHis0 X fX1_11 dX1_discardOldest_16 ?_
    refine z_iload_n X dX1_discardOldest_19 rfl ?_
    refine z_iconst X dX1_discardOldest_20 ?_
    refine z_isub X dX1_discardOldest_21 ?_
    refine z_aload_n X dX1_discardOldest_22 rfl ?_
    refine y_gHis0 X fX1_11 dX1_discardOldest_23 ?_
    refine z_iload_n X dX1_discardOldest_26 rfl ?_
    refine y_aald X (by omega) (by omega) dX1_discardOldest_27 ?_
    rw [show hShL N i.toNat 1 i.toNat = N 1 i.toNat from hShL_rd i0]
    have hz := hk_z ok (j := i.toNat) (by omega)
    refine y_aast X hz (by omega) (by omega) dX1_discardOldest_28 ?_
    rw [show (up2 (hShL N i.toNat) 1 (i - 1).toNat ((N 1 i.toNat).toNat : Int)) = hShL N (i + 1).toNat from by rw [hk_v ok (j := i.toNat) (by omega)]; exact hShL_step i0]
    refine z_iinc X dX1_discardOldest_29 rfl (by decide) ?_
    refine z_sub [(0, .ref (ad 1)), (1, .ref (ad ((N 1 (0 : Int).toNat).toNat))), (2, vI (i + 1))] (zSub_cons rfl (zSub_cons rfl (zSub_cons rfl zSub_nil))) ?_
    refine z_goto X 9 dX1_discardOldest_32 (by decide) ?_
    refine z_sub [(0, .ref (ad 1)), (1, .ref (ad ((N 1 (0 : Int).toNat).toNat))), (2, vI (i + 1))] (zSub_cons rfl (zSub_cons rfl (zSub_cons rfl zSub_nil))) ?_
    exact ih (by omega) () trivial

set_option maxHeartbeats 4000000 in
set_option maxRecDepth 100000 in
theorem c_X1_save {l : Launch} {D : va_G} {G : zG} {ad : Nat → Nat} (hJ : zInj ad) (σ : zM) {N : Nat → Nat → Int} (ok : hOk N)   : zKV l D G ad yX1_save cX1_save 3 none 3 [.ref (ad 1), .ref (ad 8)] (zBk σ 1 2 N) (fun σ9 => σ9 = zBk (zBk σ ((hPre N) 1 (hPre N 0 1).toNat).toNat 8 (zRd σ 8)) 1 2 (up2 (hPre N) 0 1 (hPre N 0 1 + 1))) := by
  intro sz
  refine z_open hJ (by decide +kernel) (Nat.le_of_ble_eq_true rfl) ?_
  intro p e s0 m args below meth c hsz X hr hlocks
  have hc := hk_c ok
  refine z_sub [(0, .ref (ad 1)), (1, .ref (ad 8))] (zSub_cons rfl (zSub_cons rfl zSub_nil)) ?_
  refine z_aload_n X dX1_save_0 rfl ?_
  refine y_gHis1 X fX1_17 dX1_save_1 ?_
  refine z_bipush X dX1_save_4 rfl ?_
  refine z_icmp_lt X 13 dX1_save_6 (by decide) (zB_sm hc) ⟨by decide, by decide⟩ (fun c_1 => ?_) (fun c_1 => ?_)
  · have hp : hPre N = N := if_pos (by omega)
    have okp := ok
    refine z_aload_n X dX1_save_13 rfl ?_
    refine y_gHis0 X fX1_11 dX1_save_14 ?_
    refine z_aload_n X dX1_save_17 rfl ?_
    refine y_gHis1 X fX1_17 dX1_save_18 ?_
    refine y_aald X (by omega) (by omega) dX1_save_21 ?_
    refine z_astore_n X dX1_save_22 (by decide) ?_
    refine z_sub [(0, .ref (ad 1)), (1, .ref (ad 8)), (2, .ref (ad ((N 1 (N 0 1).toNat).toNat)))] (zSub_cons rfl (zSub_cons rfl (zSub_cons rfl zSub_nil))) ?_
    refine z_aload_n X dX1_save_23 rfl ?_
    refine z_null X dX1_save_24 ?_
    refine z_aload_n X dX1_save_27 rfl ?_
    refine z_aload_n X dX1_save_28 rfl ?_
    have hz := hk_z okp (j := (N 0 1).toNat) (by omega)
    refine z_callVV1 X (c_X2_copyFrom hJ hz.1 (by unfold zNet; decide) (by omega) _) kX1_25 rfl (zNet_lt hz.1) (zNet_obj hz.1 ad G _ _) ⟨(Nat.le_of_ble_eq_true rfl), (Nat.le_of_ble_eq_true rfl)⟩ (Nat.le_of_ble_eq_true rfl) ⟨Nat.zero_le _, Nat.zero_le _⟩ dX1_save_29 (fun σ1 hz9 => ?_)
    obtain rfl := hz9
    rw [zBk_sw (by omega), zRd_out (by omega)]
    refine z_aload_n X dX1_save_32 rfl ?_
    refine z_dup X dX1_save_33 rfl ?_
    refine y_gHis1 X fX1_17 dX1_save_34 ?_
    refine z_iconst X dX1_save_37 ?_
    refine z_iadd X dX1_save_38 ?_
    refine y_pHis1 X fX1_17 dX1_save_39 ?_
    exact z_vret X hsz hr hlocks dX1_save_42 (by rw [hp])
  · refine z_aload_n X dX1_save_9 rfl ?_
    refine z_callVV0 X (c_X1_discardOldest hJ σ ok) kX1_22 rfl (by decide) rfl ⟨(Nat.le_of_ble_eq_true rfl), (Nat.le_of_ble_eq_true rfl)⟩ (Nat.le_of_ble_eq_true rfl) ⟨Nat.zero_le _, Nat.zero_le _⟩ dX1_save_10 (fun σ1 hz9 => ?_)
    obtain rfl := hz9
    have hp : hPre N = hRot N := if_neg (by omega)
    have okp := hk_rot ok
    have hcp : hRot N 0 1 = 5 := up2_at _ _ _ _
    refine z_aload_n X dX1_save_13 rfl ?_
    refine y_gHis0 X fX1_11 dX1_save_14 ?_
    refine z_aload_n X dX1_save_17 rfl ?_
    refine y_gHis1 X fX1_17 dX1_save_18 ?_
    refine y_aald X (by omega) (by omega) dX1_save_21 ?_
    refine z_astore_n X dX1_save_22 (by decide) ?_
    refine z_sub [(0, .ref (ad 1)), (1, .ref (ad 8)), (2, .ref (ad (((hRot N) 1 ((hRot N) 0 1).toNat).toNat)))] (zSub_cons rfl (zSub_cons rfl (zSub_cons rfl zSub_nil))) ?_
    refine z_aload_n X dX1_save_23 rfl ?_
    refine z_null X dX1_save_24 ?_
    refine z_aload_n X dX1_save_27 rfl ?_
    refine z_aload_n X dX1_save_28 rfl ?_
    have hz := hk_z okp (j := ((hRot N) 0 1).toNat) (by omega)
    refine z_callVV1 X (c_X2_copyFrom hJ hz.1 (by unfold zNet; decide) (by omega) _) kX1_25 rfl (zNet_lt hz.1) (zNet_obj hz.1 ad G _ _) ⟨(Nat.le_of_ble_eq_true rfl), (Nat.le_of_ble_eq_true rfl)⟩ (Nat.le_of_ble_eq_true rfl) ⟨Nat.zero_le _, Nat.zero_le _⟩ dX1_save_29 (fun σ1 hz9 => ?_)
    obtain rfl := hz9
    rw [zBk_sw (by omega), zRd_out (by omega)]
    refine z_aload_n X dX1_save_32 rfl ?_
    refine z_dup X dX1_save_33 rfl ?_
    refine y_gHis1 X fX1_17 dX1_save_34 ?_
    refine z_iconst X dX1_save_37 ?_
    refine z_iadd X dX1_save_38 ?_
    refine y_pHis1 X fX1_17 dX1_save_39 ?_
    exact z_vret X hsz hr hlocks dX1_save_42 (by rw [hp])

set_option maxHeartbeats 4000000 in
set_option maxRecDepth 100000 in
theorem c_X1_restore {l : Launch} {D : va_G} {G : zG} {ad : Nat → Nat} (hJ : zInj ad) (σ : zM) {N : Nat → Nat → Int} (ok : hOk N)   : zKV l D G ad yX1_restore cX1_restore 3 none 3 [.ref (ad 1), .ref (ad 8)] (zBk σ 1 2 N) (fun σ9 => σ9 = hRes σ N) := by
  intro sz
  refine z_open hJ (by decide +kernel) (Nat.le_of_ble_eq_true rfl) ?_
  intro p e s0 m args below meth c hsz X hr hlocks
  have hc := hk_c ok
  refine z_sub [(0, .ref (ad 1)), (1, .ref (ad 8))] (zSub_cons rfl (zSub_cons rfl zSub_nil)) ?_
  refine z_aload_n X dX1_restore_0 rfl ?_
  refine y_gHis1 X fX1_17 dX1_restore_1 ?_
  refine z_if_gt X 8 dX1_restore_4 (by decide) (zB_sm hc) (fun c_1 => ?_) (fun c_1 => ?_)
  · refine z_aload_n X dX1_restore_8 rfl ?_
    refine z_dup X dX1_restore_9 rfl ?_
    refine y_gHis1 X fX1_17 dX1_restore_10 ?_
    refine z_iconst X dX1_restore_13 ?_
    refine z_isub X dX1_restore_14 ?_
    refine y_pHis1 X fX1_17 dX1_restore_15 ?_
    refine z_aload_n X dX1_restore_18 rfl ?_
    refine y_gHis0 X fX1_11 dX1_restore_19 ?_
    refine z_aload_n X dX1_restore_22 rfl ?_
    refine y_gHis1 X fX1_17 dX1_restore_23 ?_
    rw [show (up2 N 0 1 ((N 0 1) - 1)) 0 1 = N 0 1 - 1 from up2_at _ _ _ _]
    have hz := hk_z ok (j := (N 0 1 - 1).toNat) (by omega)
    refine y_aald X (by omega) (by omega) dX1_restore_26 ?_
    rw [show (up2 N 0 1 ((N 0 1) - 1)) 1 (N 0 1 - 1).toNat = N 1 (N 0 1 - 1).toNat from up2_rw _ _ (by decide) _]
    refine z_astore_n X dX1_restore_27 (by decide) ?_
    refine z_sub [(0, .ref (ad 1)), (1, .ref (ad 8)), (2, .ref (ad ((N 1 (N 0 1 - 1).toNat).toNat)))] (zSub_cons rfl (zSub_cons rfl (zSub_cons rfl zSub_nil))) ?_
    refine z_aload_n X dX1_restore_28 rfl ?_
    refine z_null X dX1_restore_29 ?_
    refine z_aload_n X dX1_restore_32 rfl ?_
    refine z_aload_n X dX1_restore_33 rfl ?_
    refine z_callVV1 X (c_X2_copyFrom hJ (by unfold zNet; decide) hz.1 (by omega) _) kX1_25 rfl (by decide) (zNet_obj (by unfold zNet; decide) ad G _ _) ⟨(Nat.le_of_ble_eq_true rfl), (Nat.le_of_ble_eq_true rfl)⟩ (Nat.le_of_ble_eq_true rfl) ⟨Nat.zero_le _, Nat.zero_le _⟩ dX1_restore_34 (fun σ1 hz9 => ?_)
    obtain rfl := hz9
    exact z_vret X hsz hr hlocks dX1_restore_37 (by unfold hRes; rw [if_pos (by omega), zRd_out (by omega), zBk_sw (by omega)])
  · exact z_vret X hsz hr hlocks dX1_restore_7 (by unfold hRes; rw [if_neg (by omega)])
