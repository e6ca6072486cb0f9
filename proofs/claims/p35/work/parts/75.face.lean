/-! THE FACE, where no call throws -/
def zUsh (a b : Int) : Int := ((iI a).toUInt32 >>> ((iI b).toUInt32 &&& Int32.toUInt32 31)).toInt32.toInt
/-- a static method of another class -/
def zLkO (own : String) (idx : Nat) (y : MethodName) (bytes : ByteArray) (maxL : Nat) (ret : Option FieldType) (n : Nat) : Prop :=
  (∀ w ∈ va_wsS own idx y [Cond.code y bytes maxL ret], w ∈ zU) ∧ (y.cls ≠ "java/lang/invoke/MethodHandle" ∧ y.cls ≠ "java/lang/invoke/VarHandle" ∧ (parseMethodDescriptor y.desc).map (fun d => d.parameters.length) = some n)
section FB
variable {p : Program} {l : Launch} {e : Env} {R : Room} {s : State} {m : MethodId} {args : Array Value} {below : List Frame} {meth : Method} {c : Code} {cc : ByteArray} {nL : Nat} {own : String} {D : va_G} {G : zG} {ad : Nat → Nat} {cells slots : Nat} {Q : State → Prop}
variable {pc : Nat} {lv : List (Nat × Value)} {st : List Value} {σ : zM}
theorem z_iushr (X : zX p s m args c cc nL own D G ad) {a b : Int} (d : decode cc pc = .ok (.iushr, 1))
    (k : zV p l e R s m args below meth c nL D G ad cells slots Q (pc + 1) lv (vI (zUsh a b) :: st) σ) : zV p l e R s m args below meth c nL D G ad cells slots Q pc lv (vI b :: vI a :: st) σ :=
  fun ls H locs h hP hS => lv_iushr X.1 X.2.1 d (iI_self _).symm (k ls H locs h hP hS)
theorem z_ldcw (X : zX p s m args c cc nL own D G ad) {ix : Nat} {n : Int} {v : Int32} (hw : Cond.constant own ix v ∈ zU) (hv : v = iI n := by decide) (d : decode cc pc = .ok (.ldc_w ix, 3))
    (k : zV p l e R s m args below meth c nL D G ad cells slots Q (pc + 3) lv (vI n :: st) σ) : zV p l e R s m args below meth c nL D G ad cells slots Q pc lv st σ :=
  fun ls H locs h hP hS => lv_ldcw X.1 X.2.1 X.2.2.2.1 (X.2.2.2.2.1 _ hw) d (by subst hv; exact k ls H locs h hP hS)
theorem z_callOI1 (X : zX p s m args c cc nL own D G ad) {idx maxL d : Nat} {y : MethodName} {bytes : ByteArray} {ret : Option FieldType} {a0 : Value} {Post : Int → zM → Prop} (hM : zKI l D G ad y bytes maxL ret d [a0] σ Post) (K : zLkO own idx y bytes maxL ret 1) (hR : d + 1 ≤ R.frames ∧ 8 + (maxL + 11) + 30 * d ≤ R.locals) (hW : (st.map fun v => v.category).sum ≤ 8) (hcs : cells ≤ R.cells ∧ slots ≤ R.slots) (dd : decode cc pc = .ok (.invokestatic idx, 3))
    (kk : ∀ (z : Int) (σ1 : zM), Post z σ1 → zV p l e R s m args below meth c nL D G ad cells slots Q (pc + 3) lv (vI z :: st) σ1) : zV p l e R s m args below meth c nL D G ad cells slots Q pc lv (a0 :: st) σ :=
  fun ls H locs h hP hS => va_calli (va_runS (As := [a0]) (rest := st) ⟨X.1, X.2.1, X.2.2.1, X.2.2.2.1, X.2.2.2.2.1⟩ (hM _) (va_cwS 1 X.2.2.2.2.1 (zU_goodIn (zLk_all K.1)) rfl rfl rfl K.2 hR) ⟨z_blind, fun U hU hW => ⟨rfl, by rw [hU], by rw [hU]; exact hP, va_K.moved hW.alike X.2.2.2.2.2.1, va_Nw.warmM hW X.2.2.2.2.2.2.2⟩⟩ rfl rfl h.1 rfl (lv_room hW) dd hcs) hS (zA_old hS) (zA_free hS) (fun r σ1 t H1 locs1 ht _ hp hB _ _ hS1 => by
    obtain ⟨z, rfl, hp⟩ := hp
    exact kk z σ1 hp ls H1 locs1 h (by rw [← ht]; exact hB) hS1)
end FB
theorem kX3_37 : zLkO RX3 37 yJ6_bitCount_0f7a4 cJ6_bitCount_0f7a4 1 (some .int) 1 := ⟨zAllc (zU_mem 351 (by decide +kernel) (by decide +kernel)) (zAllc u_sJ6_bitCount_0f7a4 (zAllc (zU_mem 23 (by decide +kernel) (by decide +kernel)) (zAll1 u_cJ6_bitCount_0f7a4))), by decide +kernel, by decide +kernel, by decide +kernel⟩
def jB1 (x : Int) : Int := x - zAnd (zUsh x 1) 1431655765
def jB2 (x : Int) : Int := zAnd (jB1 x) 858993459 + zAnd (zUsh (jB1 x) 2) 858993459
def jB3 (x : Int) : Int := zAnd (jB2 x + zUsh (jB2 x) 4) 252645135
def jB4 (x : Int) : Int := jB3 x + zUsh (jB3 x) 8
def jB5 (x : Int) : Int := jB4 x + zUsh (jB4 x) 16
def jBc (x : Int) : Int := zAnd (jB5 x) 63
theorem jBc_63 : ∀ x : Nat, x < 64 → jBc x = mBits x 6 := by decide +kernel
theorem jBc_eq {x : Int} (h : 1 ≤ x ∧ x ≤ 63) : jBc x = mBits x 6 := by
  have q := jBc_63 x.toNat (by omega)
  rw [Int.toNat_of_nonneg (by omega)] at q
  exact q
set_option maxHeartbeats 4000000 in
set_option maxRecDepth 100000 in
theorem c_J6_bitCount {l : Launch} {D : va_G} {G : zG} {ad : Nat → Nat} (hJ : zInj ad) (σ : zM) {x : Int} (hx : zB x) : zKI l D G ad yJ6_bitCount_0f7a4 cJ6_bitCount_0f7a4 1 (some .int) 0 [vI x] σ (fun z σ9 => z = jBc x ∧ σ9 = σ) := by
  intro sz
  refine z_open hJ (by decide +kernel) (Nat.le_of_ble_eq_true rfl) ?_
  intro p e s0 m args below meth c hsz X hr hlocks
  refine z_sub [(0, vI x)] (zSub_cons rfl zSub_nil) ?_
  refine z_iload_n X dJ6_bitCount_0f7a4_0 rfl ?_
  refine z_iload_n X dJ6_bitCount_0f7a4_1 rfl ?_
  refine z_iconst X dJ6_bitCount_0f7a4_2 ?_
  refine z_iushr X dJ6_bitCount_0f7a4_3 ?_
  refine z_ldcw X (n := 1431655765) (v := 1431655765) (zU_mem 354 (by decide +kernel) (by decide +kernel)) (by decide) dJ6_bitCount_0f7a4_4 ?_
  refine z_and X dJ6_bitCount_0f7a4_7 (zAnd_eq _ _) ?_
  refine z_isub X dJ6_bitCount_0f7a4_8 ?_
  refine z_istore_n X dJ6_bitCount_0f7a4_9 (by decide) ?_
  refine z_sub [(0, vI (jB1 x))] (zSub_cons rfl zSub_nil) ?_
  refine z_iload_n X dJ6_bitCount_0f7a4_10 rfl ?_
  refine z_ldcw X (n := 858993459) (v := 858993459) (zU_mem 355 (by decide +kernel) (by decide +kernel)) (by decide) dJ6_bitCount_0f7a4_11 ?_
  refine z_and X dJ6_bitCount_0f7a4_14 (zAnd_eq _ _) ?_
  refine z_iload_n X dJ6_bitCount_0f7a4_15 rfl ?_
  refine z_iconst X dJ6_bitCount_0f7a4_16 ?_
  refine z_iushr X dJ6_bitCount_0f7a4_17 ?_
  refine z_ldcw X (n := 858993459) (v := 858993459) (zU_mem 355 (by decide +kernel) (by decide +kernel)) (by decide) dJ6_bitCount_0f7a4_18 ?_
  refine z_and X dJ6_bitCount_0f7a4_21 (zAnd_eq _ _) ?_
  refine z_iadd X dJ6_bitCount_0f7a4_22 ?_
  refine z_istore_n X dJ6_bitCount_0f7a4_23 (by decide) ?_
  refine z_sub [(0, vI (jB2 x))] (zSub_cons rfl zSub_nil) ?_
  refine z_iload_n X dJ6_bitCount_0f7a4_24 rfl ?_
  refine z_iload_n X dJ6_bitCount_0f7a4_25 rfl ?_
  refine z_iconst X dJ6_bitCount_0f7a4_26 ?_
  refine z_iushr X dJ6_bitCount_0f7a4_27 ?_
  refine z_iadd X dJ6_bitCount_0f7a4_28 ?_
  refine z_ldcw X (n := 252645135) (v := 252645135) (zU_mem 356 (by decide +kernel) (by decide +kernel)) (by decide) dJ6_bitCount_0f7a4_29 ?_
  refine z_and X dJ6_bitCount_0f7a4_32 (zAnd_eq _ _) ?_
  refine z_istore_n X dJ6_bitCount_0f7a4_33 (by decide) ?_
  refine z_sub [(0, vI (jB3 x))] (zSub_cons rfl zSub_nil) ?_
  refine z_iload_n X dJ6_bitCount_0f7a4_34 rfl ?_
  refine z_iload_n X dJ6_bitCount_0f7a4_35 rfl ?_
  refine z_bipush X dJ6_bitCount_0f7a4_36 rfl ?_
  refine z_iushr X dJ6_bitCount_0f7a4_38 ?_
  refine z_iadd X dJ6_bitCount_0f7a4_39 ?_
  refine z_istore_n X dJ6_bitCount_0f7a4_40 (by decide) ?_
  refine z_sub [(0, vI (jB4 x))] (zSub_cons rfl zSub_nil) ?_
  refine z_iload_n X dJ6_bitCount_0f7a4_41 rfl ?_
  refine z_iload_n X dJ6_bitCount_0f7a4_42 rfl ?_
  refine z_bipush X dJ6_bitCount_0f7a4_43 rfl ?_
  refine z_iushr X dJ6_bitCount_0f7a4_45 ?_
  refine z_iadd X dJ6_bitCount_0f7a4_46 ?_
  refine z_istore_n X dJ6_bitCount_0f7a4_47 (by decide) ?_
  refine z_sub [(0, vI (jB5 x))] (zSub_cons rfl zSub_nil) ?_
  refine z_iload_n X dJ6_bitCount_0f7a4_48 rfl ?_
  refine z_bipush X dJ6_bitCount_0f7a4_49 rfl ?_
  refine z_and X dJ6_bitCount_0f7a4_51 (zAnd_eq _ _) ?_
  exact z_iret X hsz hr hlocks dJ6_bitCount_0f7a4_52 ⟨rfl, rfl⟩
theorem zS01 {P : Int → Prop} [DecidablePred P] (n : Nat) : 0 ≤ zSum (fun i => if P i then (1 : Int) else 0) n ∧ zSum (fun i => if P i then (1 : Int) else 0) n ≤ n := zSum_01' (fun i => by show 0 ≤ (if P i then (1 : Int) else 0) ∧ (if P i then (1 : Int) else 0) ≤ 1; split <;> decide) n
theorem rg_cnt {N : zNt} (ok : cOk N) (v : Int) : 0 ≤ cCnt N v ∧ cCnt N v ≤ 48 := by
  have hn := ok_n ok
  unfold cCnt
  have h1 : ∀ d : Nat, 0 ≤ zSum (fun s => if cSt N d s = v then (1 : Int) else 0) 6 ∧ zSum (fun s => if cSt N d s = v then (1 : Int) else 0) 6 ≤ 6 := fun d => zS01 (P := fun s => cSt N d s = v) 6
  have h2 : zSum (fun d => zSum (fun s => if cSt N d s = v then (1 : Int) else 0) 6) (N 0 0).toNat ≤ 6 * ((N 0 0).toNat : Nat) := zSum_le (fun i _ => (h1 i).2)
  have h3 : 0 ≤ zSum (fun d => zSum (fun s => if cSt N d s = v then (1 : Int) else 0) 6) (N 0 0).toNat := zSum_nn (fun i => (h1 i).1)
  omega
theorem rg_mems {N : zNt} (ok : cOk N) : zB (cMems N) := by
  have hn := ok_n ok
  have h := rg_cnt ok (-1)
  unfold cMems zB
  omega
def fShare (A : zNt) : UInt64 := if 0 < cMems A then FP.ddiv (FP.i2d (iI (cCnt A 1))) (FP.i2d (iI (cMems A))) else FP.dconst0
/-- undo: the last saved state comes back -/
def fUn (σ : zM) : zM := zBk (zBk σ 8 8 (zRd σ ((gH σ) 1 ((gH σ) 0 1 - 1).toNat).toNat)) 1 2 (up2 (gH σ) 0 1 ((gH σ) 0 1 - 1))
set_option maxHeartbeats 4000000 in
set_option maxRecDepth 100000 in
theorem c_X3_checkSite {l : Launch} {D : va_G} {G : zG} {ad : Nat → Nat} (hJ : zInj ad) (σ : zM) {s : Int} (hs : zB s) (h0 : 0 ≤ s ∧ s ≤ 5) : zKV l D G ad yX3_checkSite cX3_checkSite 1 none 6 [vI s] σ (fun σ9 => σ9 = σ) := by
  intro sz
  refine z_open hJ (by decide +kernel) (Nat.le_of_ble_eq_true rfl) ?_
  intro p e s0 m args below meth c hsz X hr hlocks
  refine z_sub [(0, vI s)] (zSub_cons rfl zSub_nil) ?_
  refine z_iload_n X dX3_checkSite_0 rfl ?_
  refine z_callSI1 X (c_X3_isSite hJ σ hs) kX3_252 ⟨(Nat.le_of_ble_eq_true rfl), (Nat.le_of_ble_eq_true rfl)⟩ (Nat.le_of_ble_eq_true rfl) ⟨(Nat.le_of_ble_eq_true rfl), (Nat.le_of_ble_eq_true rfl)⟩ dX3_checkSite_1 (fun z9 σ1 hz9 => ?_)
  obtain ⟨rfl, e9⟩ := hz9
  rw [e9]
  refine z_ifb_ne X 17 dX3_checkSite_4 (by decide) (fun c_1 => ?_) (fun c_1 => ?_)
  · exact z_vret X hsz hr hlocks dX3_checkSite_17 rfl
  · exact absurd (⟨h0.1, by omega⟩ : 0 ≤ s ∧ s < 6) c_1

set_option maxHeartbeats 4000000 in
set_option maxRecDepth 100000 in
theorem c_X3_checkDeal {l : Launch} {D : va_G} {G : zG} {ad : Nat → Nat} (hJ : zInj ad) (σ : zM) (fi : fI σ) {d : Int} (hd : zB d) (h0 : cHas (gA σ) d) : zKV l D G ad yX3_checkDeal cX3_checkDeal 2 none 6 [.ref (ad 0), vI d] σ (fun σ9 => σ9 = σ) := by
  intro sz
  refine z_open hJ (by decide +kernel) (Nat.le_of_ble_eq_true rfl) ?_
  intro p e s0 m args below meth c hsz X hr hlocks
  refine z_sub [(0, .ref (ad 0)), (1, vI d)] (zSub_cons rfl (zSub_cons rfl zSub_nil)) ?_
  refine z_aload_n X dX3_checkDeal_0 rfl ?_
  refine y_gDea0 X fX3_12 dX3_checkDeal_1 ?_
  refine z_iload_n X dX3_checkDeal_4 rfl ?_
  refine z_callVI1 X (zKI_at (gA_bk σ) (c_X2_hasDeal hJ zn8 σ (N := gA σ) fi.1 hd)) kX3_247 rfl (by decide) (zNet_obj zn8 ad G _ _) ⟨(Nat.le_of_ble_eq_true rfl), (Nat.le_of_ble_eq_true rfl)⟩ (Nat.le_of_ble_eq_true rfl) ⟨(Nat.le_of_ble_eq_true rfl), (Nat.le_of_ble_eq_true rfl)⟩ dX3_checkDeal_5 (fun z9 σ1 hz9 => ?_)
  obtain ⟨rfl, rfl⟩ := hz9
  rw [gA_bk]
  refine z_ifb_ne X 21 dX3_checkDeal_8 (by decide) (fun c_1 => ?_) (fun c_1 => ?_)
  · exact z_vret X hsz hr hlocks dX3_checkDeal_21 rfl
  · exact absurd h0 c_1

set_option maxHeartbeats 4000000 in
set_option maxRecDepth 100000 in
theorem c_X3_checkDealAndSite {l : Launch} {D : va_G} {G : zG} {ad : Nat → Nat} (hJ : zInj ad) (σ : zM) (fi : fI σ) {d : Int} (hd : zB d) {s : Int} (hs : zB s) (h0 : cHas (gA σ) d) (h1 : 0 ≤ s ∧ s ≤ 5) : zKV l D G ad yX3_checkDealAndSite cX3_checkDealAndSite 3 none 7 [.ref (ad 0), vI d, vI s] σ (fun σ9 => σ9 = σ) := by
  intro sz
  refine z_open hJ (by decide +kernel) (Nat.le_of_ble_eq_true rfl) ?_
  intro p e s0 m args below meth c hsz X hr hlocks
  refine z_sub [(0, .ref (ad 0)), (1, vI d), (2, vI s)] (zSub_cons rfl (zSub_cons rfl (zSub_cons rfl zSub_nil))) ?_
  refine z_aload_n X dX3_checkDealAndSite_0 rfl ?_
  refine z_iload_n X dX3_checkDealAndSite_1 rfl ?_
  refine z_callVV1 X (c_X3_checkDeal hJ σ fi hd h0) kX3_82 rfl (by decide) rfl ⟨(Nat.le_of_ble_eq_true rfl), (Nat.le_of_ble_eq_true rfl)⟩ (Nat.le_of_ble_eq_true rfl) ⟨(Nat.le_of_ble_eq_true rfl), (Nat.le_of_ble_eq_true rfl)⟩ dX3_checkDealAndSite_2 (fun σ1 hz9 => ?_)
  rw [show σ1 = σ from hz9]
  refine z_iload_n X dX3_checkDealAndSite_5 rfl ?_
  refine z_callSV1 X (c_X3_checkSite hJ σ hs h1) kX3_33 ⟨(Nat.le_of_ble_eq_true rfl), (Nat.le_of_ble_eq_true rfl)⟩ (Nat.le_of_ble_eq_true rfl) ⟨(Nat.le_of_ble_eq_true rfl), (Nat.le_of_ble_eq_true rfl)⟩ dX3_checkDealAndSite_6 (fun σ1 hz9 => ?_)
  rw [show σ1 = σ from hz9]
  exact z_vret X hsz hr hlocks dX3_checkDealAndSite_9 rfl

set_option maxHeartbeats 4000000 in
set_option maxRecDepth 100000 in
theorem c_X3_begin {l : Launch} {D : va_G} {G : zG} {ad : Nat → Nat} (hJ : zInj ad) (σ : zM) (fi : fI σ) {ld : Int} (hld : zB ld) {mk : Int} (hmk : zB mk) {it : Int} (hit : zB it) (hL : 0 ≤ ld ∧ ld ≤ 5) (hm : 1 ≤ mk ∧ mk ≤ 63) (hb : 2 ≤ mBits mk 6) (hi : 0 ≤ it ∧ it ≤ 9) (hc : cCanBegin (gA σ) ld mk) : zKI l D G ad yX3_begin cX3_begin 4 (some .int) 8 [.ref (ad 0), vI ld, vI mk, vI it] σ (fun z σ9 => z = cAddR (gA σ) ld mk ∧ σ9 = zBk (fSv σ) 8 8 (cAddN (gA σ) ld mk it)) := by
  intro sz
  refine z_open hJ (by decide +kernel) (Nat.le_of_ble_eq_true rfl) ?_
  intro p e s0 m args below meth c hsz X hr hlocks
  refine z_sub [(0, .ref (ad 0)), (1, vI ld), (2, vI mk), (3, vI it)] (zSub_cons rfl (zSub_cons rfl (zSub_cons rfl (zSub_cons rfl zSub_nil)))) ?_
  refine z_iload_n X dX3_begin_0 rfl ?_
  refine z_callSV1 X (c_X3_checkSite hJ σ hld hL) kX3_33 ⟨(Nat.le_of_ble_eq_true rfl), (Nat.le_of_ble_eq_true rfl)⟩ (Nat.le_of_ble_eq_true rfl) ⟨(Nat.le_of_ble_eq_true rfl), (Nat.le_of_ble_eq_true rfl)⟩ dX3_begin_1 (fun σ1 hz9 => ?_)
  rw [show σ1 = σ from hz9]
  refine z_iload_n X dX3_begin_4 rfl ?_
  refine z_iconst X dX3_begin_5 ?_
  refine z_icmp_lt X 23 dX3_begin_6 (by decide) hmk ⟨by decide, by decide⟩ (fun c_1 => ?_) (fun c_1 => ?_)
  · exact (by first | exact absurd hc c_1 | (exfalso; have hb9 := jBc_eq (x := mk) hm; omega))
  · refine z_iload_n X dX3_begin_9 rfl ?_
    refine z_bipush X dX3_begin_10 rfl ?_
    refine z_icmp_gt X 23 dX3_begin_12 (by decide) hmk ⟨by decide, by decide⟩ (fun c_2 => ?_) (fun c_2 => ?_)
    · exact (by first | exact absurd hc c_2 | (exfalso; have hb9 := jBc_eq (x := mk) hm; omega))
    · refine z_iload_n X dX3_begin_15 rfl ?_
      refine z_callOI1 X (c_J6_bitCount hJ σ hmk) kX3_37 ⟨(Nat.le_of_ble_eq_true rfl), (Nat.le_of_ble_eq_true rfl)⟩ (Nat.le_of_ble_eq_true rfl) ⟨(Nat.le_of_ble_eq_true rfl), (Nat.le_of_ble_eq_true rfl)⟩ dX3_begin_16 (fun z9 σ1 hz9 => ?_)
      obtain ⟨rfl, e9⟩ := hz9
      rw [e9]
      refine z_iconst X dX3_begin_19 ?_
      refine z_icmp_ge X 33 dX3_begin_20 (by decide) (zB_toInt _) ⟨by decide, by decide⟩ (fun c_3 => ?_) (fun c_3 => ?_)
      · refine z_iload_n X dX3_begin_33 rfl ?_
        refine z_if_lt X 43 dX3_begin_34 (by decide) hit (fun c_4 => ?_) (fun c_4 => ?_)
        · exact (by first | exact absurd hc c_4 | (exfalso; have hb9 := jBc_eq (x := mk) hm; omega))
        · refine z_iload_n X dX3_begin_37 rfl ?_
          refine z_bipush X dX3_begin_38 rfl ?_
          refine z_icmp_lt X 53 dX3_begin_40 (by decide) hit ⟨by decide, by decide⟩ (fun c_5 => ?_) (fun c_5 => ?_)
          · refine z_aload_n X dX3_begin_53 rfl ?_
            refine y_gDea0 X fX3_12 dX3_begin_54 ?_
            refine z_iload_n X dX3_begin_57 rfl ?_
            refine z_iload_n X dX3_begin_58 rfl ?_
            refine z_callVI2 X (zKI_at (gA_bk σ) (c_X2_canBegin hJ zn8 σ (N := gA σ) fi.1 hld hmk)) kX3_52 rfl (by decide) (zNet_obj zn8 ad G _ _) ⟨(Nat.le_of_ble_eq_true rfl), (Nat.le_of_ble_eq_true rfl)⟩ (Nat.le_of_ble_eq_true rfl) ⟨(Nat.le_of_ble_eq_true rfl), (Nat.le_of_ble_eq_true rfl)⟩ dX3_begin_59 (fun z9 σ1 hz9 => ?_)
            obtain ⟨rfl, rfl⟩ := hz9
            rw [gA_bk]
            refine z_ifb_ne X 75 dX3_begin_62 (by decide) (fun c_6 => ?_) (fun c_6 => ?_)
            · refine z_aload_n X dX3_begin_75 rfl ?_
              refine y_gDea2 X fX3_22 dX3_begin_76 ?_
              refine z_aload_n X dX3_begin_79 rfl ?_
              refine y_gDea0 X fX3_12 dX3_begin_80 ?_
              refine z_callVV1 X (zKV_at (gH_bk σ) (c_X1_save hJ σ (N := gH σ) fi.2.1)) kX3_61 rfl (by decide) rfl ⟨(Nat.le_of_ble_eq_true rfl), (Nat.le_of_ble_eq_true rfl)⟩ (Nat.le_of_ble_eq_true rfl) ⟨(Nat.le_of_ble_eq_true rfl), (Nat.le_of_ble_eq_true rfl)⟩ dX3_begin_83 (fun σ1 hz9 => ?_)
              obtain rfl : σ1 = fSv σ := hz9
              refine z_aload_n X dX3_begin_86 rfl ?_
              refine y_gDea0 X fX3_12 dX3_begin_87 ?_
              refine z_iload_n X dX3_begin_90 rfl ?_
              refine z_iload_n X dX3_begin_91 rfl ?_
              refine z_iload_n X dX3_begin_92 rfl ?_
              refine z_callVI3 X (zKI_at (fSv_bk8 fi.2.1) (c_X2_addDeal hJ zn8 (fSv σ) (N := gA σ) fi.1 hld hmk hit)) kX3_65 rfl (by decide) (zNet_obj zn8 ad G _ _) ⟨(Nat.le_of_ble_eq_true rfl), (Nat.le_of_ble_eq_true rfl)⟩ (Nat.le_of_ble_eq_true rfl) ⟨(Nat.le_of_ble_eq_true rfl), (Nat.le_of_ble_eq_true rfl)⟩ dX3_begin_93 (fun z9 σ1 hz9 => ?_)
              obtain ⟨rfl, rfl⟩ := hz9
              exact z_iret X hsz hr hlocks dX3_begin_96 ⟨rfl, rfl⟩
            · exact (by first | exact absurd hc c_6 | (exfalso; have hb9 := jBc_eq (x := mk) hm; omega))
          · exact (by first | exact absurd hc c_5 | (exfalso; have hb9 := jBc_eq (x := mk) hm; omega))
      · exact (by first | exact absurd hc c_3 | (exfalso; have hb9 := jBc_eq (x := mk) hm; omega))

set_option maxHeartbeats 4000000 in
set_option maxRecDepth 100000 in
theorem c_X3_vote {l : Launch} {D : va_G} {G : zG} {ad : Nat → Nat} (hJ : zInj ad) (σ : zM) (fi : fI σ) {d : Int} (hd : zB d) {s : Int} (hs : zB s) {y : Int} (hy : zB y) (hD : cHas (gA σ) d) (hS : 0 ≤ s ∧ s ≤ 5) (hc : cCanVote (gA σ) d s) : zKI l D G ad yX3_vote cX3_vote 4 (some .int) 8 [.ref (ad 0), vI d, vI s, vI y] σ (fun z σ9 => z = cVoteR (gA σ) d s y ∧ σ9 = zBk (fSv σ) 8 8 (cVoteN (gA σ) d s y)) := by
  intro sz
  refine z_open hJ (by decide +kernel) (Nat.le_of_ble_eq_true rfl) ?_
  intro p e s0 m args below meth c hsz X hr hlocks
  refine z_sub [(0, .ref (ad 0)), (1, vI d), (2, vI s), (3, vI y)] (zSub_cons rfl (zSub_cons rfl (zSub_cons rfl (zSub_cons rfl zSub_nil)))) ?_
  refine z_aload_n X dX3_vote_0 rfl ?_
  refine z_iload_n X dX3_vote_1 rfl ?_
  refine z_iload_n X dX3_vote_2 rfl ?_
  refine z_callVV2 X (c_X3_checkDealAndSite hJ σ fi hd hs hD hS) kX3_69 rfl (by decide) rfl ⟨(Nat.le_of_ble_eq_true rfl), (Nat.le_of_ble_eq_true rfl)⟩ (Nat.le_of_ble_eq_true rfl) ⟨(Nat.le_of_ble_eq_true rfl), (Nat.le_of_ble_eq_true rfl)⟩ dX3_vote_3 (fun σ1 hz9 => ?_)
  rw [show σ1 = σ from hz9]
  refine z_aload_n X dX3_vote_6 rfl ?_
  refine y_gDea0 X fX3_12 dX3_vote_7 ?_
  refine z_iload_n X dX3_vote_10 rfl ?_
  refine z_iload_n X dX3_vote_11 rfl ?_
  refine z_callVI2 X (zKI_at (gA_bk σ) (c_X2_canVote hJ zn8 σ (N := gA σ) fi.1 hd hs)) kX3_73 rfl (by decide) (zNet_obj zn8 ad G _ _) ⟨(Nat.le_of_ble_eq_true rfl), (Nat.le_of_ble_eq_true rfl)⟩ (Nat.le_of_ble_eq_true rfl) ⟨(Nat.le_of_ble_eq_true rfl), (Nat.le_of_ble_eq_true rfl)⟩ dX3_vote_12 (fun z9 σ1 hz9 => ?_)
  obtain ⟨rfl, rfl⟩ := hz9
  rw [gA_bk]
  refine z_ifb_ne X 28 dX3_vote_15 (by decide) (fun c_1 => ?_) (fun c_1 => ?_)
  · refine z_aload_n X dX3_vote_28 rfl ?_
    refine y_gDea2 X fX3_22 dX3_vote_29 ?_
    refine z_aload_n X dX3_vote_32 rfl ?_
    refine y_gDea0 X fX3_12 dX3_vote_33 ?_
    refine z_callVV1 X (zKV_at (gH_bk σ) (c_X1_save hJ σ (N := gH σ) fi.2.1)) kX3_61 rfl (by decide) rfl ⟨(Nat.le_of_ble_eq_true rfl), (Nat.le_of_ble_eq_true rfl)⟩ (Nat.le_of_ble_eq_true rfl) ⟨(Nat.le_of_ble_eq_true rfl), (Nat.le_of_ble_eq_true rfl)⟩ dX3_vote_36 (fun σ1 hz9 => ?_)
    obtain rfl : σ1 = fSv σ := hz9
    refine z_aload_n X dX3_vote_39 rfl ?_
    refine y_gDea0 X fX3_12 dX3_vote_40 ?_
    refine z_iload_n X dX3_vote_43 rfl ?_
    refine z_iload_n X dX3_vote_44 rfl ?_
    refine z_iload_n X dX3_vote_45 rfl ?_
    refine z_callVI3 X (zKI_at (fSv_bk8 fi.2.1) (c_X2_castVote hJ zn8 (fSv σ) (N := gA σ) fi.1 hd hs hy)) kX3_78 rfl (by decide) (zNet_obj zn8 ad G _ _) ⟨(Nat.le_of_ble_eq_true rfl), (Nat.le_of_ble_eq_true rfl)⟩ (Nat.le_of_ble_eq_true rfl) ⟨(Nat.le_of_ble_eq_true rfl), (Nat.le_of_ble_eq_true rfl)⟩ dX3_vote_46 (fun z9 σ1 hz9 => ?_)
    obtain ⟨rfl, rfl⟩ := hz9
    exact z_iret X hsz hr hlocks dX3_vote_49 ⟨rfl, rfl⟩
  · exact absurd hc c_1

set_option maxHeartbeats 4000000 in
set_option maxRecDepth 100000 in
theorem c_X3_decide {l : Launch} {D : va_G} {G : zG} {ad : Nat → Nat} (hJ : zInj ad) (σ : zM) (fi : fI σ) {d : Int} (hd : zB d) (hD : cHas (gA σ) d) (hc : cCanDecide (gA σ) d) : zKI l D G ad yX3_decide cX3_decide 2 (some .int) 8 [.ref (ad 0), vI d] σ (fun z σ9 => z = cDecideR (gA σ) d ∧ σ9 = zBk (fSv σ) 8 8 (cDecideN (gA σ) d)) := by
  intro sz
  refine z_open hJ (by decide +kernel) (Nat.le_of_ble_eq_true rfl) ?_
  intro p e s0 m args below meth c hsz X hr hlocks
  refine z_sub [(0, .ref (ad 0)), (1, vI d)] (zSub_cons rfl (zSub_cons rfl zSub_nil)) ?_
  refine z_aload_n X dX3_decide_0 rfl ?_
  refine z_iload_n X dX3_decide_1 rfl ?_
  refine z_callVV1 X (c_X3_checkDeal hJ σ fi hd hD) kX3_82 rfl (by decide) rfl ⟨(Nat.le_of_ble_eq_true rfl), (Nat.le_of_ble_eq_true rfl)⟩ (Nat.le_of_ble_eq_true rfl) ⟨(Nat.le_of_ble_eq_true rfl), (Nat.le_of_ble_eq_true rfl)⟩ dX3_decide_2 (fun σ1 hz9 => ?_)
  rw [show σ1 = σ from hz9]
  refine z_aload_n X dX3_decide_5 rfl ?_
  refine y_gDea0 X fX3_12 dX3_decide_6 ?_
  refine z_iload_n X dX3_decide_9 rfl ?_
  refine z_callVI1 X (zKI_at (gA_bk σ) (c_X2_canDecide hJ zn8 σ (N := gA σ) fi.1 hd)) kX3_85 rfl (by decide) (zNet_obj zn8 ad G _ _) ⟨(Nat.le_of_ble_eq_true rfl), (Nat.le_of_ble_eq_true rfl)⟩ (Nat.le_of_ble_eq_true rfl) ⟨(Nat.le_of_ble_eq_true rfl), (Nat.le_of_ble_eq_true rfl)⟩ dX3_decide_10 (fun z9 σ1 hz9 => ?_)
  obtain ⟨rfl, rfl⟩ := hz9
  rw [gA_bk]
  refine z_ifb_ne X 26 dX3_decide_13 (by decide) (fun c_1 => ?_) (fun c_1 => ?_)
  · refine z_aload_n X dX3_decide_26 rfl ?_
    refine y_gDea2 X fX3_22 dX3_decide_27 ?_
    refine z_aload_n X dX3_decide_30 rfl ?_
    refine y_gDea0 X fX3_12 dX3_decide_31 ?_
    refine z_callVV1 X (zKV_at (gH_bk σ) (c_X1_save hJ σ (N := gH σ) fi.2.1)) kX3_61 rfl (by decide) rfl ⟨(Nat.le_of_ble_eq_true rfl), (Nat.le_of_ble_eq_true rfl)⟩ (Nat.le_of_ble_eq_true rfl) ⟨(Nat.le_of_ble_eq_true rfl), (Nat.le_of_ble_eq_true rfl)⟩ dX3_decide_34 (fun σ1 hz9 => ?_)
    obtain rfl : σ1 = fSv σ := hz9
    refine z_aload_n X dX3_decide_37 rfl ?_
    refine y_gDea0 X fX3_12 dX3_decide_38 ?_
    refine z_iload_n X dX3_decide_41 rfl ?_
    refine z_callVI1 X (zKI_at (fSv_bk8 fi.2.1) (c_X2_makeDecision hJ zn8 (fSv σ) (N := gA σ) fi.1 hd)) kX3_91 rfl (by decide) (zNet_obj zn8 ad G _ _) ⟨(Nat.le_of_ble_eq_true rfl), (Nat.le_of_ble_eq_true rfl)⟩ (Nat.le_of_ble_eq_true rfl) ⟨(Nat.le_of_ble_eq_true rfl), (Nat.le_of_ble_eq_true rfl)⟩ dX3_decide_42 (fun z9 σ1 hz9 => ?_)
    obtain ⟨rfl, rfl⟩ := hz9
    exact z_iret X hsz hr hlocks dX3_decide_45 ⟨rfl, rfl⟩
  · exact absurd hc c_1

set_option maxHeartbeats 4000000 in
set_option maxRecDepth 100000 in
theorem c_X3_tell {l : Launch} {D : va_G} {G : zG} {ad : Nat → Nat} (hJ : zInj ad) (σ : zM) (fi : fI σ) {d : Int} (hd : zB d) {s : Int} (hs : zB s) (hD : cHas (gA σ) d) (hS : 0 ≤ s ∧ s ≤ 5) (hc : cCanTell (gA σ) d s) : zKI l D G ad yX3_tell cX3_tell 3 (some .int) 8 [.ref (ad 0), vI d, vI s] σ (fun z σ9 => z = cTellR (gA σ) d s ∧ σ9 = zBk (fSv σ) 8 8 (cTellN (gA σ) d s)) := by
  intro sz
  refine z_open hJ (by decide +kernel) (Nat.le_of_ble_eq_true rfl) ?_
  intro p e s0 m args below meth c hsz X hr hlocks
  refine z_sub [(0, .ref (ad 0)), (1, vI d), (2, vI s)] (zSub_cons rfl (zSub_cons rfl (zSub_cons rfl zSub_nil))) ?_
  refine z_aload_n X dX3_tell_0 rfl ?_
  refine z_iload_n X dX3_tell_1 rfl ?_
  refine z_iload_n X dX3_tell_2 rfl ?_
  refine z_callVV2 X (c_X3_checkDealAndSite hJ σ fi hd hs hD hS) kX3_69 rfl (by decide) rfl ⟨(Nat.le_of_ble_eq_true rfl), (Nat.le_of_ble_eq_true rfl)⟩ (Nat.le_of_ble_eq_true rfl) ⟨(Nat.le_of_ble_eq_true rfl), (Nat.le_of_ble_eq_true rfl)⟩ dX3_tell_3 (fun σ1 hz9 => ?_)
  rw [show σ1 = σ from hz9]
  refine z_aload_n X dX3_tell_6 rfl ?_
  refine y_gDea0 X fX3_12 dX3_tell_7 ?_
  refine z_iload_n X dX3_tell_10 rfl ?_
  refine z_iload_n X dX3_tell_11 rfl ?_
  refine z_callVI2 X (zKI_at (gA_bk σ) (c_X2_canTell hJ zn8 σ (N := gA σ) fi.1 hd hs)) kX3_94 rfl (by decide) (zNet_obj zn8 ad G _ _) ⟨(Nat.le_of_ble_eq_true rfl), (Nat.le_of_ble_eq_true rfl)⟩ (Nat.le_of_ble_eq_true rfl) ⟨(Nat.le_of_ble_eq_true rfl), (Nat.le_of_ble_eq_true rfl)⟩ dX3_tell_12 (fun z9 σ1 hz9 => ?_)
  obtain ⟨rfl, rfl⟩ := hz9
  rw [gA_bk]
  refine z_ifb_ne X 28 dX3_tell_15 (by decide) (fun c_1 => ?_) (fun c_1 => ?_)
  · refine z_aload_n X dX3_tell_28 rfl ?_
    refine y_gDea2 X fX3_22 dX3_tell_29 ?_
    refine z_aload_n X dX3_tell_32 rfl ?_
    refine y_gDea0 X fX3_12 dX3_tell_33 ?_
    refine z_callVV1 X (zKV_at (gH_bk σ) (c_X1_save hJ σ (N := gH σ) fi.2.1)) kX3_61 rfl (by decide) rfl ⟨(Nat.le_of_ble_eq_true rfl), (Nat.le_of_ble_eq_true rfl)⟩ (Nat.le_of_ble_eq_true rfl) ⟨(Nat.le_of_ble_eq_true rfl), (Nat.le_of_ble_eq_true rfl)⟩ dX3_tell_36 (fun σ1 hz9 => ?_)
    obtain rfl : σ1 = fSv σ := hz9
    refine z_aload_n X dX3_tell_39 rfl ?_
    refine y_gDea0 X fX3_12 dX3_tell_40 ?_
    refine z_iload_n X dX3_tell_43 rfl ?_
    refine z_iload_n X dX3_tell_44 rfl ?_
    refine z_callVI2 X (zKI_at (fSv_bk8 fi.2.1) (c_X2_tellMember hJ zn8 (fSv σ) (N := gA σ) fi.1 hd hs)) kX3_99 rfl (by decide) (zNet_obj zn8 ad G _ _) ⟨(Nat.le_of_ble_eq_true rfl), (Nat.le_of_ble_eq_true rfl)⟩ (Nat.le_of_ble_eq_true rfl) ⟨(Nat.le_of_ble_eq_true rfl), (Nat.le_of_ble_eq_true rfl)⟩ dX3_tell_45 (fun z9 σ1 hz9 => ?_)
    obtain ⟨rfl, rfl⟩ := hz9
    exact z_iret X hsz hr hlocks dX3_tell_48 ⟨rfl, rfl⟩
  · exact absurd hc c_1

set_option maxHeartbeats 4000000 in
set_option maxRecDepth 100000 in
theorem c_X3_ask {l : Launch} {D : va_G} {G : zG} {ad : Nat → Nat} (hJ : zInj ad) (σ : zM) (fi : fI σ) {d : Int} (hd : zB d) {s : Int} (hs : zB s) {o : Int} (ho : zB o) (hD : cHas (gA σ) d) (hS : 0 ≤ s ∧ s ≤ 5) (hO : 0 ≤ o ∧ o ≤ 5) (hc : cCanAsk (gA σ) d s o) : zKI l D G ad yX3_ask cX3_ask 4 (some .int) 8 [.ref (ad 0), vI d, vI s, vI o] σ (fun z σ9 => z = cAskR (gA σ) d s o ∧ σ9 = zBk (fSv σ) 8 8 (cAskN (gA σ) d s o)) := by
  intro sz
  refine z_open hJ (by decide +kernel) (Nat.le_of_ble_eq_true rfl) ?_
  intro p e s0 m args below meth c hsz X hr hlocks
  refine z_sub [(0, .ref (ad 0)), (1, vI d), (2, vI s), (3, vI o)] (zSub_cons rfl (zSub_cons rfl (zSub_cons rfl (zSub_cons rfl zSub_nil)))) ?_
  refine z_aload_n X dX3_ask_0 rfl ?_
  refine z_iload_n X dX3_ask_1 rfl ?_
  refine z_iload_n X dX3_ask_2 rfl ?_
  refine z_callVV2 X (c_X3_checkDealAndSite hJ σ fi hd hs hD hS) kX3_69 rfl (by decide) rfl ⟨(Nat.le_of_ble_eq_true rfl), (Nat.le_of_ble_eq_true rfl)⟩ (Nat.le_of_ble_eq_true rfl) ⟨(Nat.le_of_ble_eq_true rfl), (Nat.le_of_ble_eq_true rfl)⟩ dX3_ask_3 (fun σ1 hz9 => ?_)
  rw [show σ1 = σ from hz9]
  refine z_iload_n X dX3_ask_6 rfl ?_
  refine z_callSV1 X (c_X3_checkSite hJ σ ho hO) kX3_33 ⟨(Nat.le_of_ble_eq_true rfl), (Nat.le_of_ble_eq_true rfl)⟩ (Nat.le_of_ble_eq_true rfl) ⟨(Nat.le_of_ble_eq_true rfl), (Nat.le_of_ble_eq_true rfl)⟩ dX3_ask_7 (fun σ1 hz9 => ?_)
  rw [show σ1 = σ from hz9]
  refine z_iload_n X dX3_ask_10 rfl ?_
  refine z_iload_n X dX3_ask_11 rfl ?_
  refine z_icmp_ne X 25 dX3_ask_12 (by decide) hs ho (fun c_1 => ?_) (fun c_1 => ?_)
  · refine z_aload_n X dX3_ask_25 rfl ?_
    refine y_gDea0 X fX3_12 dX3_ask_26 ?_
    refine z_iload_n X dX3_ask_29 rfl ?_
    refine z_iload_n X dX3_ask_30 rfl ?_
    refine z_iload_n X dX3_ask_31 rfl ?_
    refine z_callVI3 X (zKI_at (gA_bk σ) (c_X2_canAsk hJ zn8 σ (N := gA σ) fi.1 hd hs ho)) kX3_105 rfl (by decide) (zNet_obj zn8 ad G _ _) ⟨(Nat.le_of_ble_eq_true rfl), (Nat.le_of_ble_eq_true rfl)⟩ (Nat.le_of_ble_eq_true rfl) ⟨(Nat.le_of_ble_eq_true rfl), (Nat.le_of_ble_eq_true rfl)⟩ dX3_ask_32 (fun z9 σ1 hz9 => ?_)
    obtain ⟨rfl, rfl⟩ := hz9
    rw [gA_bk]
    refine z_ifb_ne X 48 dX3_ask_35 (by decide) (fun c_2 => ?_) (fun c_2 => ?_)
    · refine z_aload_n X dX3_ask_48 rfl ?_
      refine y_gDea2 X fX3_22 dX3_ask_49 ?_
      refine z_aload_n X dX3_ask_52 rfl ?_
      refine y_gDea0 X fX3_12 dX3_ask_53 ?_
      refine z_callVV1 X (zKV_at (gH_bk σ) (c_X1_save hJ σ (N := gH σ) fi.2.1)) kX3_61 rfl (by decide) rfl ⟨(Nat.le_of_ble_eq_true rfl), (Nat.le_of_ble_eq_true rfl)⟩ (Nat.le_of_ble_eq_true rfl) ⟨(Nat.le_of_ble_eq_true rfl), (Nat.le_of_ble_eq_true rfl)⟩ dX3_ask_56 (fun σ1 hz9 => ?_)
      obtain rfl : σ1 = fSv σ := hz9
      refine z_aload_n X dX3_ask_59 rfl ?_
      refine y_gDea0 X fX3_12 dX3_ask_60 ?_
      refine z_iload_n X dX3_ask_63 rfl ?_
      refine z_iload_n X dX3_ask_64 rfl ?_
      refine z_iload_n X dX3_ask_65 rfl ?_
      refine z_callVI3 X (zKI_at (fSv_bk8 fi.2.1) (c_X2_putQuestion hJ zn8 (fSv σ) (N := gA σ) fi.1 hd hs ho)) kX3_111 rfl (by decide) (zNet_obj zn8 ad G _ _) ⟨(Nat.le_of_ble_eq_true rfl), (Nat.le_of_ble_eq_true rfl)⟩ (Nat.le_of_ble_eq_true rfl) ⟨(Nat.le_of_ble_eq_true rfl), (Nat.le_of_ble_eq_true rfl)⟩ dX3_ask_66 (fun z9 σ1 hz9 => ?_)
      obtain ⟨rfl, rfl⟩ := hz9
      exact z_iret X hsz hr hlocks dX3_ask_69 ⟨rfl, rfl⟩
    · exact (by first | exact absurd hc c_2 | exact absurd c_2 hc.1)
  · exact (by first | exact absurd hc c_1 | exact absurd c_1 hc.1)

set_option maxHeartbeats 4000000 in
set_option maxRecDepth 100000 in
theorem c_X3_fallSilent {l : Launch} {D : va_G} {G : zG} {ad : Nat → Nat} (hJ : zInj ad) (σ : zM) (fi : fI σ) {s : Int} (hs : zB s) (hS : 0 ≤ s ∧ s ≤ 5) (hc : cUp (gA σ) s) : zKI l D G ad yX3_fallSilent cX3_fallSilent 2 (some .int) 8 [.ref (ad 0), vI s] σ (fun z σ9 => z = cSilR (gA σ) s ∧ σ9 = zBk (fSv σ) 8 8 (cSilN (gA σ) s)) := by
  intro sz
  refine z_open hJ (by decide +kernel) (Nat.le_of_ble_eq_true rfl) ?_
  intro p e s0 m args below meth c hsz X hr hlocks
  refine z_sub [(0, .ref (ad 0)), (1, vI s)] (zSub_cons rfl (zSub_cons rfl zSub_nil)) ?_
  refine z_iload_n X dX3_fallSilent_0 rfl ?_
  refine z_callSV1 X (c_X3_checkSite hJ σ hs hS) kX3_33 ⟨(Nat.le_of_ble_eq_true rfl), (Nat.le_of_ble_eq_true rfl)⟩ (Nat.le_of_ble_eq_true rfl) ⟨(Nat.le_of_ble_eq_true rfl), (Nat.le_of_ble_eq_true rfl)⟩ dX3_fallSilent_1 (fun σ1 hz9 => ?_)
  rw [show σ1 = σ from hz9]
  refine z_aload_n X dX3_fallSilent_4 rfl ?_
  refine y_gDea0 X fX3_12 dX3_fallSilent_5 ?_
  refine z_iload_n X dX3_fallSilent_8 rfl ?_
  refine z_callVI1 X (zKI_at (gA_bk σ) (c_X2_isAwake hJ zn8 σ (N := gA σ) fi.1 hs)) kX3_114 rfl (by decide) (zNet_obj zn8 ad G _ _) ⟨(Nat.le_of_ble_eq_true rfl), (Nat.le_of_ble_eq_true rfl)⟩ (Nat.le_of_ble_eq_true rfl) ⟨(Nat.le_of_ble_eq_true rfl), (Nat.le_of_ble_eq_true rfl)⟩ dX3_fallSilent_9 (fun z9 σ1 hz9 => ?_)
  obtain ⟨rfl, rfl⟩ := hz9
  rw [gA_bk]
  refine z_ifb_ne X 25 dX3_fallSilent_12 (by decide) (fun c_1 => ?_) (fun c_1 => ?_)
  · refine z_aload_n X dX3_fallSilent_25 rfl ?_
    refine y_gDea2 X fX3_22 dX3_fallSilent_26 ?_
    refine z_aload_n X dX3_fallSilent_29 rfl ?_
    refine y_gDea0 X fX3_12 dX3_fallSilent_30 ?_
    refine z_callVV1 X (zKV_at (gH_bk σ) (c_X1_save hJ σ (N := gH σ) fi.2.1)) kX3_61 rfl (by decide) rfl ⟨(Nat.le_of_ble_eq_true rfl), (Nat.le_of_ble_eq_true rfl)⟩ (Nat.le_of_ble_eq_true rfl) ⟨(Nat.le_of_ble_eq_true rfl), (Nat.le_of_ble_eq_true rfl)⟩ dX3_fallSilent_33 (fun σ1 hz9 => ?_)
    obtain rfl : σ1 = fSv σ := hz9
    refine z_aload_n X dX3_fallSilent_36 rfl ?_
    refine y_gDea0 X fX3_12 dX3_fallSilent_37 ?_
    refine z_iload_n X dX3_fallSilent_40 rfl ?_
    refine z_callVI1 X (zKI_at (fSv_bk8 fi.2.1) (c_X2_silence hJ zn8 (fSv σ) (N := gA σ) fi.1 hs)) kX3_119 rfl (by decide) (zNet_obj zn8 ad G _ _) ⟨(Nat.le_of_ble_eq_true rfl), (Nat.le_of_ble_eq_true rfl)⟩ (Nat.le_of_ble_eq_true rfl) ⟨(Nat.le_of_ble_eq_true rfl), (Nat.le_of_ble_eq_true rfl)⟩ dX3_fallSilent_41 (fun z9 σ1 hz9 => ?_)
    obtain ⟨rfl, rfl⟩ := hz9
    exact z_iret X hsz hr hlocks dX3_fallSilent_44 ⟨rfl, rfl⟩
  · exact absurd hc c_1

set_option maxHeartbeats 4000000 in
set_option maxRecDepth 100000 in
theorem c_X3_comeBack {l : Launch} {D : va_G} {G : zG} {ad : Nat → Nat} (hJ : zInj ad) (σ : zM) (fi : fI σ) {s : Int} (hs : zB s) (hS : 0 ≤ s ∧ s ≤ 5) (hc : ¬ cUp (gA σ) s) : zKI l D G ad yX3_comeBack cX3_comeBack 2 (some .int) 8 [.ref (ad 0), vI s] σ (fun z σ9 => z = cWkR (gA σ) s ∧ σ9 = zBk (fSv σ) 8 8 (cWkN (gA σ) s)) := by
  intro sz
  refine z_open hJ (by decide +kernel) (Nat.le_of_ble_eq_true rfl) ?_
  intro p e s0 m args below meth c hsz X hr hlocks
  refine z_sub [(0, .ref (ad 0)), (1, vI s)] (zSub_cons rfl (zSub_cons rfl zSub_nil)) ?_
  refine z_iload_n X dX3_comeBack_0 rfl ?_
  refine z_callSV1 X (c_X3_checkSite hJ σ hs hS) kX3_33 ⟨(Nat.le_of_ble_eq_true rfl), (Nat.le_of_ble_eq_true rfl)⟩ (Nat.le_of_ble_eq_true rfl) ⟨(Nat.le_of_ble_eq_true rfl), (Nat.le_of_ble_eq_true rfl)⟩ dX3_comeBack_1 (fun σ1 hz9 => ?_)
  rw [show σ1 = σ from hz9]
  refine z_aload_n X dX3_comeBack_4 rfl ?_
  refine y_gDea0 X fX3_12 dX3_comeBack_5 ?_
  refine z_iload_n X dX3_comeBack_8 rfl ?_
  refine z_callVI1 X (zKI_at (gA_bk σ) (c_X2_isAwake hJ zn8 σ (N := gA σ) fi.1 hs)) kX3_114 rfl (by decide) (zNet_obj zn8 ad G _ _) ⟨(Nat.le_of_ble_eq_true rfl), (Nat.le_of_ble_eq_true rfl)⟩ (Nat.le_of_ble_eq_true rfl) ⟨(Nat.le_of_ble_eq_true rfl), (Nat.le_of_ble_eq_true rfl)⟩ dX3_comeBack_9 (fun z9 σ1 hz9 => ?_)
  obtain ⟨rfl, rfl⟩ := hz9
  rw [gA_bk]
  refine z_ifb_eq X 25 dX3_comeBack_12 (by decide) (fun c_1 => ?_) (fun c_1 => ?_)
  · refine z_aload_n X dX3_comeBack_25 rfl ?_
    refine y_gDea2 X fX3_22 dX3_comeBack_26 ?_
    refine z_aload_n X dX3_comeBack_29 rfl ?_
    refine y_gDea0 X fX3_12 dX3_comeBack_30 ?_
    refine z_callVV1 X (zKV_at (gH_bk σ) (c_X1_save hJ σ (N := gH σ) fi.2.1)) kX3_61 rfl (by decide) rfl ⟨(Nat.le_of_ble_eq_true rfl), (Nat.le_of_ble_eq_true rfl)⟩ (Nat.le_of_ble_eq_true rfl) ⟨(Nat.le_of_ble_eq_true rfl), (Nat.le_of_ble_eq_true rfl)⟩ dX3_comeBack_33 (fun σ1 hz9 => ?_)
    obtain rfl : σ1 = fSv σ := hz9
    refine z_aload_n X dX3_comeBack_36 rfl ?_
    refine y_gDea0 X fX3_12 dX3_comeBack_37 ?_
    refine z_iload_n X dX3_comeBack_40 rfl ?_
    refine z_callVI1 X (zKI_at (fSv_bk8 fi.2.1) (c_X2_wake hJ zn8 (fSv σ) (N := gA σ) fi.1 hs)) kX3_124 rfl (by decide) (zNet_obj zn8 ad G _ _) ⟨(Nat.le_of_ble_eq_true rfl), (Nat.le_of_ble_eq_true rfl)⟩ (Nat.le_of_ble_eq_true rfl) ⟨(Nat.le_of_ble_eq_true rfl), (Nat.le_of_ble_eq_true rfl)⟩ dX3_comeBack_41 (fun z9 σ1 hz9 => ?_)
    obtain ⟨rfl, rfl⟩ := hz9
    exact z_iret X hsz hr hlocks dX3_comeBack_44 ⟨rfl, rfl⟩
  · exact absurd c_1 hc

set_option maxHeartbeats 4000000 in
set_option maxRecDepth 100000 in
theorem c_X3_pass {l : Launch} {D : va_G} {G : zG} {ad : Nat → Nat} (hJ : zInj ad) (σ : zM) (fi : fI σ) {t : Int} (ht : zB t) (hc : 1 ≤ t ∧ t ≤ 20) : zKI l D G ad yX3_pass cX3_pass 2 (some .int) 8 [.ref (ad 0), vI t] σ (fun z σ9 => z = cPassR (gA σ) t ∧ σ9 = zBk (fSv σ) 8 8 (cPassN (gA σ) t)) := by
  intro sz
  refine z_open hJ (by decide +kernel) (Nat.le_of_ble_eq_true rfl) ?_
  intro p e s0 m args below meth c hsz X hr hlocks
  refine z_sub [(0, .ref (ad 0)), (1, vI t)] (zSub_cons rfl (zSub_cons rfl zSub_nil)) ?_
  refine z_iload_n X dX3_pass_0 rfl ?_
  refine z_iconst X dX3_pass_1 ?_
  refine z_icmp_lt X 11 dX3_pass_2 (by decide) ht ⟨by decide, by decide⟩ (fun c_1 => ?_) (fun c_1 => ?_)
  · exact (by exfalso; omega)
  · refine z_iload_n X dX3_pass_5 rfl ?_
    refine z_bipush X dX3_pass_6 rfl ?_
    refine z_icmp_le X 21 dX3_pass_8 (by decide) ht ⟨by decide, by decide⟩ (fun c_2 => ?_) (fun c_2 => ?_)
    · refine z_aload_n X dX3_pass_21 rfl ?_
      refine y_gDea2 X fX3_22 dX3_pass_22 ?_
      refine z_aload_n X dX3_pass_25 rfl ?_
      refine y_gDea0 X fX3_12 dX3_pass_26 ?_
      refine z_callVV1 X (zKV_at (gH_bk σ) (c_X1_save hJ σ (N := gH σ) fi.2.1)) kX3_61 rfl (by decide) rfl ⟨(Nat.le_of_ble_eq_true rfl), (Nat.le_of_ble_eq_true rfl)⟩ (Nat.le_of_ble_eq_true rfl) ⟨(Nat.le_of_ble_eq_true rfl), (Nat.le_of_ble_eq_true rfl)⟩ dX3_pass_29 (fun σ1 hz9 => ?_)
      obtain rfl : σ1 = fSv σ := hz9
      refine z_aload_n X dX3_pass_32 rfl ?_
      refine y_gDea0 X fX3_12 dX3_pass_33 ?_
      refine z_iload_n X dX3_pass_36 rfl ?_
      refine z_callVI1 X (zKI_at (fSv_bk8 fi.2.1) (c_X2_letPass hJ zn8 (fSv σ) (N := gA σ) fi.1 ht (by omega))) kX3_129 rfl (by decide) (zNet_obj zn8 ad G _ _) ⟨(Nat.le_of_ble_eq_true rfl), (Nat.le_of_ble_eq_true rfl)⟩ (Nat.le_of_ble_eq_true rfl) ⟨(Nat.le_of_ble_eq_true rfl), (Nat.le_of_ble_eq_true rfl)⟩ dX3_pass_37 (fun z9 σ1 hz9 => ?_)
      obtain ⟨rfl, rfl⟩ := hz9
      exact z_iret X hsz hr hlocks dX3_pass_40 ⟨rfl, rfl⟩
    · exact (by exfalso; omega)

set_option maxHeartbeats 4000000 in
set_option maxRecDepth 100000 in
theorem c_X3_setPatience {l : Launch} {D : va_G} {G : zG} {ad : Nat → Nat} (hJ : zInj ad) (σ : zM) (fi : fI σ) {pt : Int} (hpt : zB pt) (hc : 1 ≤ pt ∧ pt ≤ 20) : zKI l D G ad yX3_setPatience cX3_setPatience 2 (some .int) 8 [.ref (ad 0), vI pt] σ (fun z σ9 => z = (gA σ) 0 3 ∧ σ9 = zBk (fSv σ) 8 8 (up2 (gA σ) 0 3 pt)) := by
  intro sz
  refine z_open hJ (by decide +kernel) (Nat.le_of_ble_eq_true rfl) ?_
  intro p e s0 m args below meth c hsz X hr hlocks
  refine z_sub [(0, .ref (ad 0)), (1, vI pt)] (zSub_cons rfl (zSub_cons rfl zSub_nil)) ?_
  refine z_iload_n X dX3_setPatience_0 rfl ?_
  refine z_iconst X dX3_setPatience_1 ?_
  refine z_icmp_lt X 11 dX3_setPatience_2 (by decide) hpt ⟨by decide, by decide⟩ (fun c_1 => ?_) (fun c_1 => ?_)
  · exact (by exfalso; omega)
  · refine z_iload_n X dX3_setPatience_5 rfl ?_
    refine z_bipush X dX3_setPatience_6 rfl ?_
    refine z_icmp_le X 21 dX3_setPatience_8 (by decide) hpt ⟨by decide, by decide⟩ (fun c_2 => ?_) (fun c_2 => ?_)
    · refine z_aload_n X dX3_setPatience_21 rfl ?_
      refine y_gDea2 X fX3_22 dX3_setPatience_22 ?_
      refine z_aload_n X dX3_setPatience_25 rfl ?_
      refine y_gDea0 X fX3_12 dX3_setPatience_26 ?_
      refine z_callVV1 X (zKV_at (gH_bk σ) (c_X1_save hJ σ (N := gH σ) fi.2.1)) kX3_61 rfl (by decide) rfl ⟨(Nat.le_of_ble_eq_true rfl), (Nat.le_of_ble_eq_true rfl)⟩ (Nat.le_of_ble_eq_true rfl) ⟨(Nat.le_of_ble_eq_true rfl), (Nat.le_of_ble_eq_true rfl)⟩ dX3_setPatience_29 (fun σ1 hz9 => ?_)
      obtain rfl : σ1 = fSv σ := hz9
      refine z_aload_n X dX3_setPatience_32 rfl ?_
      refine y_gDea0 X fX3_12 dX3_setPatience_33 ?_
      refine z_iload_n X dX3_setPatience_36 rfl ?_
      refine z_callVI1 X (zKI_at (fSv_bk8 fi.2.1) (c_X2_changePatience hJ zn8 (fSv σ) (N := gA σ) fi.1 hpt)) kX3_134 rfl (by decide) (zNet_obj zn8 ad G _ _) ⟨(Nat.le_of_ble_eq_true rfl), (Nat.le_of_ble_eq_true rfl)⟩ (Nat.le_of_ble_eq_true rfl) ⟨(Nat.le_of_ble_eq_true rfl), (Nat.le_of_ble_eq_true rfl)⟩ dX3_setPatience_37 (fun z9 σ1 hz9 => ?_)
      obtain ⟨rfl, rfl⟩ := hz9
      exact z_iret X hsz hr hlocks dX3_setPatience_40 ⟨rfl, rfl⟩
    · exact (by exfalso; omega)

set_option maxHeartbeats 4000000 in
set_option maxRecDepth 100000 in
theorem c_X3_isUp {l : Launch} {D : va_G} {G : zG} {ad : Nat → Nat} (hJ : zInj ad) (σ : zM) (fi : fI σ) {s : Int} (hs : zB s) (hS : 0 ≤ s ∧ s ≤ 5) : zKI l D G ad yX3_isUp cX3_isUp 2 (some .boolean) 8 [.ref (ad 0), vI s] σ (fun z σ9 => z = (if cUp (gA σ) s then 1 else 0) ∧ σ9 = σ) := by
  intro sz
  refine z_open hJ (by decide +kernel) (Nat.le_of_ble_eq_true rfl) ?_
  intro p e s0 m args below meth c hsz X hr hlocks
  refine z_sub [(0, .ref (ad 0)), (1, vI s)] (zSub_cons rfl (zSub_cons rfl zSub_nil)) ?_
  refine z_iload_n X dX3_isUp_0 rfl ?_
  refine z_callSV1 X (c_X3_checkSite hJ σ hs hS) kX3_33 ⟨(Nat.le_of_ble_eq_true rfl), (Nat.le_of_ble_eq_true rfl)⟩ (Nat.le_of_ble_eq_true rfl) ⟨(Nat.le_of_ble_eq_true rfl), (Nat.le_of_ble_eq_true rfl)⟩ dX3_isUp_1 (fun σ1 hz9 => ?_)
  rw [show σ1 = σ from hz9]
  refine z_aload_n X dX3_isUp_4 rfl ?_
  refine y_gDea0 X fX3_12 dX3_isUp_5 ?_
  refine z_iload_n X dX3_isUp_8 rfl ?_
  refine z_callVI1 X (zKI_at (gA_bk σ) (c_X2_isAwake hJ zn8 σ (N := gA σ) fi.1 hs)) kX3_114 rfl (by decide) (zNet_obj zn8 ad G _ _) ⟨(Nat.le_of_ble_eq_true rfl), (Nat.le_of_ble_eq_true rfl)⟩ (Nat.le_of_ble_eq_true rfl) ⟨(Nat.le_of_ble_eq_true rfl), (Nat.le_of_ble_eq_true rfl)⟩ dX3_isUp_9 (fun z9 σ1 hz9 => ?_)
  obtain ⟨rfl, rfl⟩ := hz9
  rw [gA_bk]
  exact z_zret X hsz hr hlocks dX3_isUp_12 zB01 ⟨rfl, rfl⟩

set_option maxHeartbeats 4000000 in
set_option maxRecDepth 100000 in
theorem c_X3_state {l : Launch} {D : va_G} {G : zG} {ad : Nat → Nat} (hJ : zInj ad) (σ : zM) (fi : fI σ) {d : Int} (hd : zB d) {s : Int} (hs : zB s) (hD : cHas (gA σ) d) (hS : 0 ≤ s ∧ s ≤ 5) : zKI l D G ad yX3_state cX3_state 3 (some .int) 8 [.ref (ad 0), vI d, vI s] σ (fun z σ9 => z = cSt (gA σ) d s ∧ σ9 = σ) := by
  intro sz
  refine z_open hJ (by decide +kernel) (Nat.le_of_ble_eq_true rfl) ?_
  intro p e s0 m args below meth c hsz X hr hlocks
  refine z_sub [(0, .ref (ad 0)), (1, vI d), (2, vI s)] (zSub_cons rfl (zSub_cons rfl (zSub_cons rfl zSub_nil))) ?_
  refine z_aload_n X dX3_state_0 rfl ?_
  refine z_iload_n X dX3_state_1 rfl ?_
  refine z_iload_n X dX3_state_2 rfl ?_
  refine z_callVV2 X (c_X3_checkDealAndSite hJ σ fi hd hs hD hS) kX3_69 rfl (by decide) rfl ⟨(Nat.le_of_ble_eq_true rfl), (Nat.le_of_ble_eq_true rfl)⟩ (Nat.le_of_ble_eq_true rfl) ⟨(Nat.le_of_ble_eq_true rfl), (Nat.le_of_ble_eq_true rfl)⟩ dX3_state_3 (fun σ1 hz9 => ?_)
  rw [show σ1 = σ from hz9]
  refine z_aload_n X dX3_state_6 rfl ?_
  refine y_gDea0 X fX3_12 dX3_state_7 ?_
  refine z_iload_n X dX3_state_10 rfl ?_
  refine z_iload_n X dX3_state_11 rfl ?_
  refine z_callVI2 X (zKI_at (gA_bk σ) (c_X2_stateOf hJ zn8 σ (N := gA σ) fi.1 hd hs)) kX3_141 rfl (by decide) (zNet_obj zn8 ad G _ _) ⟨(Nat.le_of_ble_eq_true rfl), (Nat.le_of_ble_eq_true rfl)⟩ (Nat.le_of_ble_eq_true rfl) ⟨(Nat.le_of_ble_eq_true rfl), (Nat.le_of_ble_eq_true rfl)⟩ dX3_state_12 (fun z9 σ1 hz9 => ?_)
  obtain ⟨rfl, rfl⟩ := hz9
  rw [gA_bk]
  exact z_iret X hsz hr hlocks dX3_state_15 ⟨rfl, rfl⟩

set_option maxHeartbeats 4000000 in
set_option maxRecDepth 100000 in
theorem c_X3_decision {l : Launch} {D : va_G} {G : zG} {ad : Nat → Nat} (hJ : zInj ad) (σ : zM) (fi : fI σ) {d : Int} (hd : zB d) (hD : cHas (gA σ) d) : zKI l D G ad yX3_decision cX3_decision 2 (some .int) 8 [.ref (ad 0), vI d] σ (fun z σ9 => z = cDec (gA σ) d ∧ σ9 = σ) := by
  intro sz
  refine z_open hJ (by decide +kernel) (Nat.le_of_ble_eq_true rfl) ?_
  intro p e s0 m args below meth c hsz X hr hlocks
  refine z_sub [(0, .ref (ad 0)), (1, vI d)] (zSub_cons rfl (zSub_cons rfl zSub_nil)) ?_
  refine z_aload_n X dX3_decision_0 rfl ?_
  refine z_iload_n X dX3_decision_1 rfl ?_
  refine z_callVV1 X (c_X3_checkDeal hJ σ fi hd hD) kX3_82 rfl (by decide) rfl ⟨(Nat.le_of_ble_eq_true rfl), (Nat.le_of_ble_eq_true rfl)⟩ (Nat.le_of_ble_eq_true rfl) ⟨(Nat.le_of_ble_eq_true rfl), (Nat.le_of_ble_eq_true rfl)⟩ dX3_decision_2 (fun σ1 hz9 => ?_)
  rw [show σ1 = σ from hz9]
  refine z_aload_n X dX3_decision_5 rfl ?_
  refine y_gDea0 X fX3_12 dX3_decision_6 ?_
  refine z_iload_n X dX3_decision_9 rfl ?_
  refine z_callVI1 X (zKI_at (gA_bk σ) (c_X2_decisionOf hJ zn8 σ (N := gA σ) fi.1 hd)) kX3_144 rfl (by decide) (zNet_obj zn8 ad G _ _) ⟨(Nat.le_of_ble_eq_true rfl), (Nat.le_of_ble_eq_true rfl)⟩ (Nat.le_of_ble_eq_true rfl) ⟨(Nat.le_of_ble_eq_true rfl), (Nat.le_of_ble_eq_true rfl)⟩ dX3_decision_10 (fun z9 σ1 hz9 => ?_)
  obtain ⟨rfl, rfl⟩ := hz9
  rw [gA_bk]
  exact z_iret X hsz hr hlocks dX3_decision_13 ⟨rfl, rfl⟩

set_option maxHeartbeats 4000000 in
set_option maxRecDepth 100000 in
theorem c_X3_leader {l : Launch} {D : va_G} {G : zG} {ad : Nat → Nat} (hJ : zInj ad) (σ : zM) (fi : fI σ) {d : Int} (hd : zB d) (hD : cHas (gA σ) d) : zKI l D G ad yX3_leader cX3_leader 2 (some .int) 8 [.ref (ad 0), vI d] σ (fun z σ9 => z = cLead (gA σ) d ∧ σ9 = σ) := by
  intro sz
  refine z_open hJ (by decide +kernel) (Nat.le_of_ble_eq_true rfl) ?_
  intro p e s0 m args below meth c hsz X hr hlocks
  refine z_sub [(0, .ref (ad 0)), (1, vI d)] (zSub_cons rfl (zSub_cons rfl zSub_nil)) ?_
  refine z_aload_n X dX3_leader_0 rfl ?_
  refine z_iload_n X dX3_leader_1 rfl ?_
  refine z_callVV1 X (c_X3_checkDeal hJ σ fi hd hD) kX3_82 rfl (by decide) rfl ⟨(Nat.le_of_ble_eq_true rfl), (Nat.le_of_ble_eq_true rfl)⟩ (Nat.le_of_ble_eq_true rfl) ⟨(Nat.le_of_ble_eq_true rfl), (Nat.le_of_ble_eq_true rfl)⟩ dX3_leader_2 (fun σ1 hz9 => ?_)
  rw [show σ1 = σ from hz9]
  refine z_aload_n X dX3_leader_5 rfl ?_
  refine y_gDea0 X fX3_12 dX3_leader_6 ?_
  refine z_iload_n X dX3_leader_9 rfl ?_
  refine z_callVI1 X (zKI_at (gA_bk σ) (c_X2_leaderOf hJ zn8 σ (N := gA σ) fi.1 hd)) kX3_147 rfl (by decide) (zNet_obj zn8 ad G _ _) ⟨(Nat.le_of_ble_eq_true rfl), (Nat.le_of_ble_eq_true rfl)⟩ (Nat.le_of_ble_eq_true rfl) ⟨(Nat.le_of_ble_eq_true rfl), (Nat.le_of_ble_eq_true rfl)⟩ dX3_leader_10 (fun z9 σ1 hz9 => ?_)
  obtain ⟨rfl, rfl⟩ := hz9
  rw [gA_bk]
  exact z_iret X hsz hr hlocks dX3_leader_13 ⟨rfl, rfl⟩

set_option maxHeartbeats 4000000 in
set_option maxRecDepth 100000 in
theorem c_X3_patience {l : Launch} {D : va_G} {G : zG} {ad : Nat → Nat} (hJ : zInj ad) (σ : zM) (fi : fI σ) {d : Int} (hd : zB d) {s : Int} (hs : zB s) (hD : cHas (gA σ) d) (hS : 0 ≤ s ∧ s ≤ 5) : zKI l D G ad yX3_patience cX3_patience 3 (some .int) 8 [.ref (ad 0), vI d, vI s] σ (fun z σ9 => z = cPat (gA σ) d s ∧ σ9 = σ) := by
  intro sz
  refine z_open hJ (by decide +kernel) (Nat.le_of_ble_eq_true rfl) ?_
  intro p e s0 m args below meth c hsz X hr hlocks
  refine z_sub [(0, .ref (ad 0)), (1, vI d), (2, vI s)] (zSub_cons rfl (zSub_cons rfl (zSub_cons rfl zSub_nil))) ?_
  refine z_aload_n X dX3_patience_0 rfl ?_
  refine z_iload_n X dX3_patience_1 rfl ?_
  refine z_iload_n X dX3_patience_2 rfl ?_
  refine z_callVV2 X (c_X3_checkDealAndSite hJ σ fi hd hs hD hS) kX3_69 rfl (by decide) rfl ⟨(Nat.le_of_ble_eq_true rfl), (Nat.le_of_ble_eq_true rfl)⟩ (Nat.le_of_ble_eq_true rfl) ⟨(Nat.le_of_ble_eq_true rfl), (Nat.le_of_ble_eq_true rfl)⟩ dX3_patience_3 (fun σ1 hz9 => ?_)
  rw [show σ1 = σ from hz9]
  refine z_aload_n X dX3_patience_6 rfl ?_
  refine y_gDea0 X fX3_12 dX3_patience_7 ?_
  refine z_iload_n X dX3_patience_10 rfl ?_
  refine z_iload_n X dX3_patience_11 rfl ?_
  refine z_callVI2 X (zKI_at (gA_bk σ) (c_X2_patienceOf hJ zn8 σ (N := gA σ) fi.1 hd hs)) kX3_150 rfl (by decide) (zNet_obj zn8 ad G _ _) ⟨(Nat.le_of_ble_eq_true rfl), (Nat.le_of_ble_eq_true rfl)⟩ (Nat.le_of_ble_eq_true rfl) ⟨(Nat.le_of_ble_eq_true rfl), (Nat.le_of_ble_eq_true rfl)⟩ dX3_patience_12 (fun z9 σ1 hz9 => ?_)
  obtain ⟨rfl, rfl⟩ := hz9
  rw [gA_bk]
  exact z_iret X hsz hr hlocks dX3_patience_15 ⟨rfl, rfl⟩

set_option maxHeartbeats 4000000 in
set_option maxRecDepth 100000 in
theorem c_X3_logLength {l : Launch} {D : va_G} {G : zG} {ad : Nat → Nat} (hJ : zInj ad) (σ : zM) (fi : fI σ) {s : Int} (hs : zB s) (hS : 0 ≤ s ∧ s ≤ 5) : zKI l D G ad yX3_logLength cX3_logLength 2 (some .int) 8 [.ref (ad 0), vI s] σ (fun z σ9 => z = cEnt (gA σ) s ∧ σ9 = σ) := by
  intro sz
  refine z_open hJ (by decide +kernel) (Nat.le_of_ble_eq_true rfl) ?_
  intro p e s0 m args below meth c hsz X hr hlocks
  refine z_sub [(0, .ref (ad 0)), (1, vI s)] (zSub_cons rfl (zSub_cons rfl zSub_nil)) ?_
  refine z_iload_n X dX3_logLength_0 rfl ?_
  refine z_callSV1 X (c_X3_checkSite hJ σ hs hS) kX3_33 ⟨(Nat.le_of_ble_eq_true rfl), (Nat.le_of_ble_eq_true rfl)⟩ (Nat.le_of_ble_eq_true rfl) ⟨(Nat.le_of_ble_eq_true rfl), (Nat.le_of_ble_eq_true rfl)⟩ dX3_logLength_1 (fun σ1 hz9 => ?_)
  rw [show σ1 = σ from hz9]
  refine z_aload_n X dX3_logLength_4 rfl ?_
  refine y_gDea0 X fX3_12 dX3_logLength_5 ?_
  refine z_iload_n X dX3_logLength_8 rfl ?_
  refine z_callVI1 X (zKI_at (gA_bk σ) (c_X2_entriesOf hJ zn8 σ (N := gA σ) fi.1 hs)) kX3_159 rfl (by decide) (zNet_obj zn8 ad G _ _) ⟨(Nat.le_of_ble_eq_true rfl), (Nat.le_of_ble_eq_true rfl)⟩ (Nat.le_of_ble_eq_true rfl) ⟨(Nat.le_of_ble_eq_true rfl), (Nat.le_of_ble_eq_true rfl)⟩ dX3_logLength_9 (fun z9 σ1 hz9 => ?_)
  obtain ⟨rfl, rfl⟩ := hz9
  rw [gA_bk]
  exact z_iret X hsz hr hlocks dX3_logLength_12 ⟨rfl, rfl⟩

set_option maxHeartbeats 4000000 in
set_option maxRecDepth 100000 in
theorem c_X3_log {l : Launch} {D : va_G} {G : zG} {ad : Nat → Nat} (hJ : zInj ad) (σ : zM) (fi : fI σ) {s : Int} (hs : zB s) {i : Int} (hi : zB i) (hS : 0 ≤ s ∧ s ≤ 5) (h0 : 0 ≤ i) : zKI l D G ad yX3_log cX3_log 3 (some .int) 8 [.ref (ad 0), vI s, vI i] σ (fun z σ9 => z = cEntry (gA σ) s i ∧ σ9 = σ) := by
  intro sz
  refine z_open hJ (by decide +kernel) (Nat.le_of_ble_eq_true rfl) ?_
  intro p e s0 m args below meth c hsz X hr hlocks
  refine z_sub [(0, .ref (ad 0)), (1, vI s), (2, vI i)] (zSub_cons rfl (zSub_cons rfl (zSub_cons rfl zSub_nil))) ?_
  refine z_iload_n X dX3_log_0 rfl ?_
  refine z_callSV1 X (c_X3_checkSite hJ σ hs hS) kX3_33 ⟨(Nat.le_of_ble_eq_true rfl), (Nat.le_of_ble_eq_true rfl)⟩ (Nat.le_of_ble_eq_true rfl) ⟨(Nat.le_of_ble_eq_true rfl), (Nat.le_of_ble_eq_true rfl)⟩ dX3_log_1 (fun σ1 hz9 => ?_)
  rw [show σ1 = σ from hz9]
  refine z_iload_n X dX3_log_4 rfl ?_
  refine z_if_ge X 18 dX3_log_5 (by decide) hi (fun c_1 => ?_) (fun c_1 => ?_)
  · refine z_aload_n X dX3_log_18 rfl ?_
    refine y_gDea0 X fX3_12 dX3_log_19 ?_
    refine z_iload_n X dX3_log_22 rfl ?_
    refine z_iload_n X dX3_log_23 rfl ?_
    refine z_callVI2 X (zKI_at (gA_bk σ) (c_X2_entryAt hJ zn8 σ (N := gA σ) fi.1 hs hi)) kX3_167 rfl (by decide) (zNet_obj zn8 ad G _ _) ⟨(Nat.le_of_ble_eq_true rfl), (Nat.le_of_ble_eq_true rfl)⟩ (Nat.le_of_ble_eq_true rfl) ⟨(Nat.le_of_ble_eq_true rfl), (Nat.le_of_ble_eq_true rfl)⟩ dX3_log_24 (fun z9 σ1 hz9 => ?_)
    obtain ⟨rfl, rfl⟩ := hz9
    rw [gA_bk]
    exact z_iret X hsz hr hlocks dX3_log_27 ⟨rfl, rfl⟩
  · exact (by exfalso; omega)

set_option maxHeartbeats 4000000 in
set_option maxRecDepth 100000 in
theorem c_X3_held {l : Launch} {D : va_G} {G : zG} {ad : Nat → Nat} (hJ : zInj ad) (σ : zM) (fi : fI σ) {s : Int} (hs : zB s) (hS : 0 ≤ s ∧ s ≤ 5) : zKI l D G ad yX3_held cX3_held 2 (some .int) 8 [.ref (ad 0), vI s] σ (fun z σ9 => z = cHeld (gA σ) s ((gA σ) 0 0).toNat ∧ σ9 = σ) := by
  intro sz
  refine z_open hJ (by decide +kernel) (Nat.le_of_ble_eq_true rfl) ?_
  intro p e s0 m args below meth c hsz X hr hlocks
  refine z_sub [(0, .ref (ad 0)), (1, vI s)] (zSub_cons rfl (zSub_cons rfl zSub_nil)) ?_
  refine z_iload_n X dX3_held_0 rfl ?_
  refine z_callSV1 X (c_X3_checkSite hJ σ hs hS) kX3_33 ⟨(Nat.le_of_ble_eq_true rfl), (Nat.le_of_ble_eq_true rfl)⟩ (Nat.le_of_ble_eq_true rfl) ⟨(Nat.le_of_ble_eq_true rfl), (Nat.le_of_ble_eq_true rfl)⟩ dX3_held_1 (fun σ1 hz9 => ?_)
  rw [show σ1 = σ from hz9]
  refine z_aload_n X dX3_held_4 rfl ?_
  refine y_gDea0 X fX3_12 dX3_held_5 ?_
  refine z_iload_n X dX3_held_8 rfl ?_
  refine z_callVI1 X (zKI_at (gA_bk σ) (c_X2_itemsHeldBy hJ zn8 σ (N := gA σ) fi.1 hs)) kX3_170 rfl (by decide) (zNet_obj zn8 ad G _ _) ⟨(Nat.le_of_ble_eq_true rfl), (Nat.le_of_ble_eq_true rfl)⟩ (Nat.le_of_ble_eq_true rfl) ⟨(Nat.le_of_ble_eq_true rfl), (Nat.le_of_ble_eq_true rfl)⟩ dX3_held_9 (fun z9 σ1 hz9 => ?_)
  obtain ⟨rfl, rfl⟩ := hz9
  rw [gA_bk]
  exact z_iret X hsz hr hlocks dX3_held_12 ⟨rfl, rfl⟩

set_option maxHeartbeats 4000000 in
set_option maxRecDepth 100000 in
theorem c_X3_reason {l : Launch} {D : va_G} {G : zG} {ad : Nat → Nat} (hJ : zInj ad) (σ : zM) (fi : fI σ) {d : Int} (hd : zB d) {s : Int} (hs : zB s) (hD : cHas (gA σ) d) (hS : 0 ≤ s ∧ s ≤ 5) : zKI l D G ad yX3_reason cX3_reason 3 (some .int) 8 [.ref (ad 0), vI d, vI s] σ (fun z σ9 => z = cReas (gA σ) d s ∧ σ9 = σ) := by
  intro sz
  refine z_open hJ (by decide +kernel) (Nat.le_of_ble_eq_true rfl) ?_
  intro p e s0 m args below meth c hsz X hr hlocks
  refine z_sub [(0, .ref (ad 0)), (1, vI d), (2, vI s)] (zSub_cons rfl (zSub_cons rfl (zSub_cons rfl zSub_nil))) ?_
  refine z_aload_n X dX3_reason_0 rfl ?_
  refine z_iload_n X dX3_reason_1 rfl ?_
  refine z_iload_n X dX3_reason_2 rfl ?_
  refine z_callVV2 X (c_X3_checkDealAndSite hJ σ fi hd hs hD hS) kX3_69 rfl (by decide) rfl ⟨(Nat.le_of_ble_eq_true rfl), (Nat.le_of_ble_eq_true rfl)⟩ (Nat.le_of_ble_eq_true rfl) ⟨(Nat.le_of_ble_eq_true rfl), (Nat.le_of_ble_eq_true rfl)⟩ dX3_reason_3 (fun σ1 hz9 => ?_)
  rw [show σ1 = σ from hz9]
  refine z_aload_n X dX3_reason_6 rfl ?_
  refine y_gDea0 X fX3_12 dX3_reason_7 ?_
  refine z_iload_n X dX3_reason_10 rfl ?_
  refine z_iload_n X dX3_reason_11 rfl ?_
  refine z_callVI2 X (zKI_at (gA_bk σ) (c_X2_reasonAgainstYes hJ zn8 σ (N := gA σ) fi.1 hd hs)) kX3_182 rfl (by decide) (zNet_obj zn8 ad G _ _) ⟨(Nat.le_of_ble_eq_true rfl), (Nat.le_of_ble_eq_true rfl)⟩ (Nat.le_of_ble_eq_true rfl) ⟨(Nat.le_of_ble_eq_true rfl), (Nat.le_of_ble_eq_true rfl)⟩ dX3_reason_12 (fun z9 σ1 hz9 => ?_)
  obtain ⟨rfl, rfl⟩ := hz9
  rw [gA_bk]
  exact z_iret X hsz hr hlocks dX3_reason_15 ⟨rfl, rfl⟩

set_option maxHeartbeats 4000000 in
set_option maxRecDepth 100000 in
theorem c_X3_helper {l : Launch} {D : va_G} {G : zG} {ad : Nat → Nat} (hJ : zInj ad) (σ : zM) (fi : fI σ) {d : Int} (hd : zB d) {s : Int} (hs : zB s) (hD : cHas (gA σ) d) (hS : 0 ≤ s ∧ s ≤ 5) : zKI l D G ad yX3_helper cX3_helper 3 (some .int) 8 [.ref (ad 0), vI d, vI s] σ (fun z σ9 => z = cHelp (gA σ) d s ∧ σ9 = σ) := by
  intro sz
  refine z_open hJ (by decide +kernel) (Nat.le_of_ble_eq_true rfl) ?_
  intro p e s0 m args below meth c hsz X hr hlocks
  refine z_sub [(0, .ref (ad 0)), (1, vI d), (2, vI s)] (zSub_cons rfl (zSub_cons rfl (zSub_cons rfl zSub_nil))) ?_
  refine z_aload_n X dX3_helper_0 rfl ?_
  refine z_iload_n X dX3_helper_1 rfl ?_
  refine z_iload_n X dX3_helper_2 rfl ?_
  refine z_callVV2 X (c_X3_checkDealAndSite hJ σ fi hd hs hD hS) kX3_69 rfl (by decide) rfl ⟨(Nat.le_of_ble_eq_true rfl), (Nat.le_of_ble_eq_true rfl)⟩ (Nat.le_of_ble_eq_true rfl) ⟨(Nat.le_of_ble_eq_true rfl), (Nat.le_of_ble_eq_true rfl)⟩ dX3_helper_3 (fun σ1 hz9 => ?_)
  rw [show σ1 = σ from hz9]
  refine z_aload_n X dX3_helper_6 rfl ?_
  refine y_gDea0 X fX3_12 dX3_helper_7 ?_
  refine z_iload_n X dX3_helper_10 rfl ?_
  refine z_iload_n X dX3_helper_11 rfl ?_
  refine z_callVI2 X (zKI_at (gA_bk σ) (c_X2_helperFor hJ zn8 σ (N := gA σ) fi.1 hd hs)) kX3_185 rfl (by decide) (zNet_obj zn8 ad G _ _) ⟨(Nat.le_of_ble_eq_true rfl), (Nat.le_of_ble_eq_true rfl)⟩ (Nat.le_of_ble_eq_true rfl) ⟨(Nat.le_of_ble_eq_true rfl), (Nat.le_of_ble_eq_true rfl)⟩ dX3_helper_12 (fun z9 σ1 hz9 => ?_)
  obtain ⟨rfl, rfl⟩ := hz9
  rw [gA_bk]
  exact z_iret X hsz hr hlocks dX3_helper_15 ⟨rfl, rfl⟩

set_option maxHeartbeats 4000000 in
set_option maxRecDepth 100000 in
theorem c_X3_undo {l : Launch} {D : va_G} {G : zG} {ad : Nat → Nat} (hJ : zInj ad) (σ : zM) (fi : fI σ)  (hc : 0 < (gH σ) 0 1) : zKI l D G ad yX3_undo cX3_undo 1 (some .int) 8 [.ref (ad 0)] σ (fun z σ9 => z = (gH σ) 0 1 - 1 ∧ σ9 = fUn σ) := by
  intro sz
  refine z_open hJ (by decide +kernel) (Nat.le_of_ble_eq_true rfl) ?_
  intro p e s0 m args below meth c hsz X hr hlocks
  refine z_sub [(0, .ref (ad 0))] (zSub_cons rfl zSub_nil) ?_
  refine z_aload_n X dX3_undo_0 rfl ?_
  refine y_gDea2 X fX3_22 dX3_undo_1 ?_
  refine z_callVI0 X (zKI_at (gH_bk σ) (c_X1_size hJ σ (N := gH σ) fi.2.1)) kX3_228 rfl (by decide) rfl ⟨(Nat.le_of_ble_eq_true rfl), (Nat.le_of_ble_eq_true rfl)⟩ (Nat.le_of_ble_eq_true rfl) ⟨(Nat.le_of_ble_eq_true rfl), (Nat.le_of_ble_eq_true rfl)⟩ dX3_undo_4 (fun z9 σ1 hz9 => ?_)
  obtain ⟨rfl, rfl⟩ := hz9
  rw [gH_bk]
  refine z_if_ne X 20 dX3_undo_7 (by decide) (zB_sm fi.2.1.1) (fun c_1 => ?_) (fun c_1 => ?_)
  · refine z_aload_n X dX3_undo_20 rfl ?_
    refine y_gDea2 X fX3_22 dX3_undo_21 ?_
    refine z_aload_n X dX3_undo_24 rfl ?_
    refine y_gDea0 X fX3_12 dX3_undo_25 ?_
    refine z_callVV1 X (zKV_at (gH_bk σ) (c_X1_restore hJ σ (N := gH σ) fi.2.1)) kX3_231 rfl (by decide) rfl ⟨(Nat.le_of_ble_eq_true rfl), (Nat.le_of_ble_eq_true rfl)⟩ (Nat.le_of_ble_eq_true rfl) ⟨(Nat.le_of_ble_eq_true rfl), (Nat.le_of_ble_eq_true rfl)⟩ dX3_undo_28 (fun σ1 hz9 => ?_)
    have hc0 := hk_c fi.2.1
    obtain rfl : σ1 = zBk (zBk σ 8 8 (zRd σ ((gH σ) 1 ((gH σ) 0 1 - 1).toNat).toNat)) 1 2 (up2 (gH σ) 0 1 ((gH σ) 0 1 - 1)) := hz9.trans (if_pos (by omega))
    refine z_aload_n X dX3_undo_31 rfl ?_
    refine y_gDea2 X fX3_22 dX3_undo_32 ?_
    refine z_callVI0 X (c_X1_size hJ _ (N := up2 (gH σ) 0 1 ((gH σ) 0 1 - 1)) (hk_up fi.2.1 (by omega))) kX3_228 rfl (by decide) rfl ⟨(Nat.le_of_ble_eq_true rfl), (Nat.le_of_ble_eq_true rfl)⟩ (Nat.le_of_ble_eq_true rfl) ⟨(Nat.le_of_ble_eq_true rfl), (Nat.le_of_ble_eq_true rfl)⟩ dX3_undo_35 (fun z9 σ1 hz9 => ?_)
    obtain ⟨rfl, rfl⟩ := hz9
    exact z_iret X hsz hr hlocks dX3_undo_38 ⟨up2_at _ _ _ _, rfl⟩
  · exact (by exfalso; omega)

set_option maxHeartbeats 4000000 in
set_option maxRecDepth 100000 in
theorem c_X3_deals {l : Launch} {D : va_G} {G : zG} {ad : Nat → Nat} (hJ : zInj ad) (σ : zM) (fi : fI σ)   : zKI l D G ad yX3_deals cX3_deals 1 (some .int) 8 [.ref (ad 0)] σ (fun z σ9 => z = (gA σ) 0 0 ∧ σ9 = σ) := by
  intro sz
  refine z_open hJ (by decide +kernel) (Nat.le_of_ble_eq_true rfl) ?_
  intro p e s0 m args below meth c hsz X hr hlocks
  refine z_sub [(0, .ref (ad 0))] (zSub_cons rfl zSub_nil) ?_
  refine z_aload_n X dX3_deals_0 rfl ?_
  refine y_gDea0 X fX3_12 dX3_deals_1 ?_
  refine z_callVI0 X (zKI_at (gA_bk σ) (c_X2_dealCount hJ zn8 σ (N := gA σ) )) kX3_137 rfl (by decide) (zNet_obj zn8 ad G _ _) ⟨(Nat.le_of_ble_eq_true rfl), (Nat.le_of_ble_eq_true rfl)⟩ (Nat.le_of_ble_eq_true rfl) ⟨(Nat.le_of_ble_eq_true rfl), (Nat.le_of_ble_eq_true rfl)⟩ dX3_deals_4 (fun z9 σ1 hz9 => ?_)
  obtain ⟨rfl, rfl⟩ := hz9
  rw [gA_bk]
  exact z_iret X hsz hr hlocks dX3_deals_7 ⟨rfl, rfl⟩

set_option maxHeartbeats 4000000 in
set_option maxRecDepth 100000 in
theorem c_X3_open {l : Launch} {D : va_G} {G : zG} {ad : Nat → Nat} (hJ : zInj ad) (σ : zM) (fi : fI σ)   : zKI l D G ad yX3_open cX3_open 1 (some .int) 8 [.ref (ad 0)] σ (fun z σ9 => z = cOpens (gA σ) ∧ σ9 = σ) := by
  intro sz
  refine z_open hJ (by decide +kernel) (Nat.le_of_ble_eq_true rfl) ?_
  intro p e s0 m args below meth c hsz X hr hlocks
  refine z_sub [(0, .ref (ad 0))] (zSub_cons rfl zSub_nil) ?_
  refine z_aload_n X dX3_open_0 rfl ?_
  refine y_gDea0 X fX3_12 dX3_open_1 ?_
  refine z_callVI0 X (zKI_at (gA_bk σ) (c_X2_countOpen hJ zn8 σ (N := gA σ) fi.1)) kX3_153 rfl (by decide) (zNet_obj zn8 ad G _ _) ⟨(Nat.le_of_ble_eq_true rfl), (Nat.le_of_ble_eq_true rfl)⟩ (Nat.le_of_ble_eq_true rfl) ⟨(Nat.le_of_ble_eq_true rfl), (Nat.le_of_ble_eq_true rfl)⟩ dX3_open_4 (fun z9 σ1 hz9 => ?_)
  obtain ⟨rfl, rfl⟩ := hz9
  rw [gA_bk]
  exact z_iret X hsz hr hlocks dX3_open_7 ⟨rfl, rfl⟩

set_option maxHeartbeats 4000000 in
set_option maxRecDepth 100000 in
theorem c_X3_stuck {l : Launch} {D : va_G} {G : zG} {ad : Nat → Nat} (hJ : zInj ad) (σ : zM) (fi : fI σ)   : zKI l D G ad yX3_stuck cX3_stuck 1 (some .int) 8 [.ref (ad 0)] σ (fun z σ9 => z = cStucks (gA σ) ∧ σ9 = σ) := by
  intro sz
  refine z_open hJ (by decide +kernel) (Nat.le_of_ble_eq_true rfl) ?_
  intro p e s0 m args below meth c hsz X hr hlocks
  refine z_sub [(0, .ref (ad 0))] (zSub_cons rfl zSub_nil) ?_
  refine z_aload_n X dX3_stuck_0 rfl ?_
  refine y_gDea0 X fX3_12 dX3_stuck_1 ?_
  refine z_callVI0 X (zKI_at (gA_bk σ) (c_X2_countStuck hJ zn8 σ (N := gA σ) fi.1)) kX3_156 rfl (by decide) (zNet_obj zn8 ad G _ _) ⟨(Nat.le_of_ble_eq_true rfl), (Nat.le_of_ble_eq_true rfl)⟩ (Nat.le_of_ble_eq_true rfl) ⟨(Nat.le_of_ble_eq_true rfl), (Nat.le_of_ble_eq_true rfl)⟩ dX3_stuck_4 (fun z9 σ1 hz9 => ?_)
  obtain ⟨rfl, rfl⟩ := hz9
  rw [gA_bk]
  exact z_iret X hsz hr hlocks dX3_stuck_7 ⟨rfl, rfl⟩

set_option maxHeartbeats 4000000 in
set_option maxRecDepth 100000 in
theorem c_X3_savedStates {l : Launch} {D : va_G} {G : zG} {ad : Nat → Nat} (hJ : zInj ad) (σ : zM) (fi : fI σ)   : zKI l D G ad yX3_savedStates cX3_savedStates 1 (some .int) 8 [.ref (ad 0)] σ (fun z σ9 => z = (gH σ) 0 1 ∧ σ9 = σ) := by
  intro sz
  refine z_open hJ (by decide +kernel) (Nat.le_of_ble_eq_true rfl) ?_
  intro p e s0 m args below meth c hsz X hr hlocks
  refine z_sub [(0, .ref (ad 0))] (zSub_cons rfl zSub_nil) ?_
  refine z_aload_n X dX3_savedStates_0 rfl ?_
  refine y_gDea2 X fX3_22 dX3_savedStates_1 ?_
  refine z_callVI0 X (zKI_at (gH_bk σ) (c_X1_size hJ σ (N := gH σ) fi.2.1)) kX3_228 rfl (by decide) rfl ⟨(Nat.le_of_ble_eq_true rfl), (Nat.le_of_ble_eq_true rfl)⟩ (Nat.le_of_ble_eq_true rfl) ⟨(Nat.le_of_ble_eq_true rfl), (Nat.le_of_ble_eq_true rfl)⟩ dX3_savedStates_4 (fun z9 σ1 hz9 => ?_)
  obtain ⟨rfl, rfl⟩ := hz9
  rw [gH_bk]
  exact z_iret X hsz hr hlocks dX3_savedStates_7 ⟨rfl, rfl⟩

set_option maxHeartbeats 4000000 in
set_option maxRecDepth 100000 in
theorem c_X3_digest {l : Launch} {D : va_G} {G : zG} {ad : Nat → Nat} (hJ : zInj ad) (σ : zM) (fi : fI σ)   : zKL l D G ad yX3_digest cX3_digest 1 (some .long) 8 [.ref (ad 0)] σ (fun z σ9 => z = cHash (gA σ) ∧ σ9 = σ) := by
  intro sz
  refine z_open hJ (by decide +kernel) (Nat.le_of_ble_eq_true rfl) ?_
  intro p e s0 m args below meth c hsz X hr hlocks
  refine z_sub [(0, .ref (ad 0))] (zSub_cons rfl zSub_nil) ?_
  refine z_aload_n X dX3_digest_0 rfl ?_
  refine y_gDea0 X fX3_12 dX3_digest_1 ?_
  refine z_callVL0 X (zKL_at (gA_bk σ) (c_X2_hash hJ zn8 σ (N := gA σ) fi.1)) kX3_234 rfl (by decide) (zNet_obj zn8 ad G _ _) ⟨(Nat.le_of_ble_eq_true rfl), (Nat.le_of_ble_eq_true rfl)⟩ (Nat.le_of_ble_eq_true rfl) ⟨(Nat.le_of_ble_eq_true rfl), (Nat.le_of_ble_eq_true rfl)⟩ dX3_digest_4 (fun z9 σ1 hz9 => ?_)
  obtain ⟨rfl, rfl⟩ := hz9
  rw [gA_bk]
  exact z_lret X hsz hr hlocks dX3_digest_7 ⟨rfl, rfl⟩

set_option maxHeartbeats 4000000 in
set_option maxRecDepth 100000 in
theorem c_X3_doubtShare {l : Launch} {D : va_G} {G : zG} {ad : Nat → Nat} (hJ : zInj ad) (σ : zM) (fi : fI σ)   : zKD l D G ad yX3_doubtShare cX3_doubtShare 2 (some .double) 8 [.ref (ad 0)] σ (fun z σ9 => z = fShare (gA σ) ∧ σ9 = σ) := by
  intro sz
  refine z_open hJ (by decide +kernel) (Nat.le_of_ble_eq_true rfl) ?_
  intro p e s0 m args below meth c hsz X hr hlocks
  refine z_sub [(0, .ref (ad 0))] (zSub_cons rfl zSub_nil) ?_
  refine z_aload_n X dX3_doubtShare_0 rfl ?_
  refine y_gDea0 X fX3_12 dX3_doubtShare_1 ?_
  refine z_callVI0 X (zKI_at (gA_bk σ) (c_X2_countMembers hJ zn8 σ (N := gA σ) fi.1)) kX3_176 rfl (by decide) (zNet_obj zn8 ad G _ _) ⟨(Nat.le_of_ble_eq_true rfl), (Nat.le_of_ble_eq_true rfl)⟩ (Nat.le_of_ble_eq_true rfl) ⟨(Nat.le_of_ble_eq_true rfl), (Nat.le_of_ble_eq_true rfl)⟩ dX3_doubtShare_4 (fun z9 σ1 hz9 => ?_)
  obtain ⟨rfl, rfl⟩ := hz9
  rw [gA_bk]
  refine z_istore_n X dX3_doubtShare_7 (by decide) ?_
  refine z_sub [(0, .ref (ad 0)), (1, vI (cMems (gA σ)))] (zSub_cons rfl (zSub_cons rfl zSub_nil)) ?_
  refine z_iload_n X dX3_doubtShare_8 rfl ?_
  refine z_if_le X 27 dX3_doubtShare_9 (by decide) (rg_mems fi.1) (fun c_1 => ?_) (fun c_1 => ?_)
  · refine z_dconst0 X dX3_doubtShare_27 ?_
    exact z_dret X hsz hr hlocks dX3_doubtShare_28 ⟨(if_neg (by omega)).symm, rfl⟩
  · have hnz : cMems (gA σ) ≠ 0 ∧ zB (cMems (gA σ)) := ⟨by have := c_1; omega, rg_mems fi.1⟩
    refine z_aload_n X dX3_doubtShare_12 rfl ?_
    refine y_gDea0 X fX3_12 dX3_doubtShare_13 ?_
    refine z_iconst X dX3_doubtShare_16 ?_
    refine z_callVI1 X (zKI_at (gA_bk σ) (c_X2_countInState hJ zn8 σ (N := gA σ) fi.1 ⟨by decide, by decide⟩)) kX3_179 rfl (by decide) (zNet_obj zn8 ad G _ _) ⟨(Nat.le_of_ble_eq_true rfl), (Nat.le_of_ble_eq_true rfl)⟩ (Nat.le_of_ble_eq_true rfl) ⟨(Nat.le_of_ble_eq_true rfl), (Nat.le_of_ble_eq_true rfl)⟩ dX3_doubtShare_17 (fun z9 σ1 hz9 => ?_)
    obtain ⟨rfl, rfl⟩ := hz9
    rw [gA_bk]
    refine z_i2d X dX3_doubtShare_20 ?_
    refine z_iload_n X dX3_doubtShare_21 rfl ?_
    refine z_i2d X dX3_doubtShare_22 ?_
    refine z_ddiv X (zDdiv hnz) dX3_doubtShare_23 ?_
    refine z_goto X 28 dX3_doubtShare_24 (by decide) ?_
    exact z_dret X hsz hr hlocks dX3_doubtShare_28 ⟨(if_pos c_1).symm, rfl⟩

set_option maxHeartbeats 4000000 in
set_option maxRecDepth 100000 in
theorem c_X3_ticksToEnd {l : Launch} {D : va_G} {G : zG} {ad : Nat → Nat} (hJ : zInj ad) (σ : zM) (fi : fI σ) {d : Int} (hd : zB d) {s : Int} (hs : zB s) (hD : cHas (gA σ) d) (hS : 0 ≤ s ∧ s ≤ 5) : zKI l D G ad yX3_ticksToEnd cX3_ticksToEnd 4 (some .int) 8 [.ref (ad 0), vI d, vI s] σ (fun z σ9 => z = cTte (gA σ) d s ∧ (∃ W, σ9 = zBk σ 16 8 W)) := by
  intro sz
  refine z_open hJ (by decide +kernel) (Nat.le_of_ble_eq_true rfl) ?_
  intro p e s0 m args below meth c hsz X hr hlocks
  refine z_sub [(0, .ref (ad 0)), (1, vI d), (2, vI s)] (zSub_cons rfl (zSub_cons rfl (zSub_cons rfl zSub_nil))) ?_
  refine z_aload_n X dX3_ticksToEnd_0 rfl ?_
  refine z_iload_n X dX3_ticksToEnd_1 rfl ?_
  refine z_iload_n X dX3_ticksToEnd_2 rfl ?_
  refine z_callVV2 X (c_X3_checkDealAndSite hJ σ fi hd hs hD hS) kX3_69 rfl (by decide) rfl ⟨(Nat.le_of_ble_eq_true rfl), (Nat.le_of_ble_eq_true rfl)⟩ (Nat.le_of_ble_eq_true rfl) ⟨(Nat.le_of_ble_eq_true rfl), (Nat.le_of_ble_eq_true rfl)⟩ dX3_ticksToEnd_3 (fun σ1 hz9 => ?_)
  rw [show σ1 = σ from hz9]
  refine z_aload_n X dX3_ticksToEnd_6 rfl ?_
  refine y_gDea1 X fX3_16 dX3_ticksToEnd_7 ?_
  refine z_aload_n X dX3_ticksToEnd_10 rfl ?_
  refine y_gDea0 X fX3_12 dX3_ticksToEnd_11 ?_
  refine z_callVV1 X (c_X2_copyFrom hJ zn16 zn8 (by decide) σ) kX3_188 rfl (by decide) (zNet_obj zn16 ad G _ _) ⟨(Nat.le_of_ble_eq_true rfl), (Nat.le_of_ble_eq_true rfl)⟩ (Nat.le_of_ble_eq_true rfl) ⟨(Nat.le_of_ble_eq_true rfl), (Nat.le_of_ble_eq_true rfl)⟩ dX3_ticksToEnd_14 (fun σ1 hz9 => ?_)
  obtain rfl : σ1 = zBk σ 16 8 (gA σ) := hz9.trans (zBk_cg (fun r hr => by funext j; exact (if_pos hr).symm))
  refine z_iconst X dX3_ticksToEnd_17 ?_
  refine z_istore_n X dX3_ticksToEnd_18 (by decide) ?_
  refine z_sub [(0, .ref (ad 0)), (1, vI d), (2, vI s), (3, vI 0)] (zSub_cons rfl (zSub_cons rfl (zSub_cons rfl (zSub_cons rfl zSub_nil)))) ?_
  refine z_sub [(0, .ref (ad 0)), (1, vI d), (2, vI s), (3, vI 0)] (zSub_cons rfl (zSub_cons rfl (zSub_cons rfl (zSub_cons rfl zSub_nil)))) ?_
  refine zFor (S := Unit) 41 (fun i _ => zFind (fun i => decide (cEnd (cSt (cTkN (gA σ) d i.toNat) d s))) i.toNat = -1) (fun i _ => zV p l e (zRm 8) s0 m args below meth c 4 D G ad 0 0 (zE below (zQI D G ad sz (fun z σ9 => z = cTte (gA σ) d s ∧ (∃ W, σ9 = zBk σ 16 8 W))) args s0 ad) 19 [(0, .ref (ad 0)), (1, vI d), (2, vI s), (3, vI i)] [] (zBk σ 16 8 (cTkN (gA σ) d i.toNat))) (fun i _ i0 i1 hv ih => ?_) () (by decide) rfl
  refine z_iload_n X dX3_ticksToEnd_19 rfl ?_
  refine z_bipush X dX3_ticksToEnd_20 rfl ?_
  refine z_icmp_gt X 53 dX3_ticksToEnd_22 (by decide) (by first | assumption | exact ⟨by decide, by decide⟩ | (unfold zB at *; omega)) ⟨by decide, by decide⟩ (fun c_1 => ?_) (fun c_1 => ?_)
  · refine z_iconst X dX3_ticksToEnd_53 ?_
    exact z_iret X hsz hr hlocks dX3_ticksToEnd_54 ⟨(by unfold cTte; rw [← hv, show i = 41 by omega]; rfl), ⟨_, rfl⟩⟩
  · refine z_aload_n X dX3_ticksToEnd_25 rfl ?_
    refine y_gDea1 X fX3_16 dX3_ticksToEnd_26 ?_
    refine z_iload_n X dX3_ticksToEnd_29 rfl ?_
    refine z_iload_n X dX3_ticksToEnd_30 rfl ?_
    refine z_callVI2 X (c_X2_hasEnded hJ zn16 σ (N := cTkN (gA σ) d i.toNat) (ok_tkN fi.1 d _) hd hs) kX3_191 rfl (by decide) (zNet_obj zn16 ad G _ _) ⟨(Nat.le_of_ble_eq_true rfl), (Nat.le_of_ble_eq_true rfl)⟩ (Nat.le_of_ble_eq_true rfl) ⟨(Nat.le_of_ble_eq_true rfl), (Nat.le_of_ble_eq_true rfl)⟩ dX3_ticksToEnd_31 (fun z9 σ1 hz9 => ?_)
    obtain ⟨rfl, rfl⟩ := hz9
    refine z_ifb_eq X 39 dX3_ticksToEnd_34 (by decide) (fun c_2 => ?_) (fun c_2 => ?_)
    · refine z_aload_n X dX3_ticksToEnd_39 rfl ?_
      refine y_gDea1 X fX3_16 dX3_ticksToEnd_40 ?_
      refine z_iload_n X dX3_ticksToEnd_43 rfl ?_
      refine z_callVV1 X (c_X2_tickDeal hJ zn16 σ (N := cTkN (gA σ) d i.toNat) (ok_tkN fi.1 d _) hd) kX3_194 rfl (by decide) (zNet_obj zn16 ad G _ _) ⟨(Nat.le_of_ble_eq_true rfl), (Nat.le_of_ble_eq_true rfl)⟩ (Nat.le_of_ble_eq_true rfl) ⟨(Nat.le_of_ble_eq_true rfl), (Nat.le_of_ble_eq_true rfl)⟩ dX3_ticksToEnd_44 (fun σ1 hz9 => ?_)
      obtain rfl := hz9
      rw [← cTkN_step i0]
      refine z_iinc X dX3_ticksToEnd_47 rfl (by decide) ?_
      refine z_sub [(0, .ref (ad 0)), (1, vI d), (2, vI s), (3, vI (i + 1))] (zSub_cons rfl (zSub_cons rfl (zSub_cons rfl (zSub_cons rfl zSub_nil)))) ?_
      refine z_goto X 19 dX3_ticksToEnd_50 (by decide) ?_
      exact ih (by omega) () (zFind_step i0 hv (decide_eq_false c_2))
    · refine z_iload_n X dX3_ticksToEnd_37 rfl ?_
      exact z_iret X hsz hr hlocks dX3_ticksToEnd_38 ⟨(zFind_hit (n := 41) i0 (by omega) hv (decide_eq_true c_2)).symm, ⟨_, rfl⟩⟩
