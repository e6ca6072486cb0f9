/-! THE FACE, first part: raw worlds, the JDK's bitCount, the checks -/
theorem zn8 : zNet 8 := ⟨by decide, by decide, by decide⟩
theorem zn16 : zNet 16 := ⟨by decide, by decide, by decide⟩
theorem gA_bk (σ : zM) : zBk σ 8 8 (gA σ) = σ := zBk_rd σ 8 8
theorem gH_bk (σ : zM) : zBk σ 1 2 (gH σ) = σ := zBk_rd σ 1 2
theorem gT_bk (σ : zM) : zBk σ 3 2 (gT σ) = σ := zBk_rd σ 3 2
theorem gM_bk (σ : zM) : zBk σ 5 3 (gM σ) = σ := zBk_rd σ 5 3
theorem zKI_at {l : Launch} {D : va_G} {G : zG} {ad : Nat → Nat} {y : MethodName} {b : ByteArray} {mL : Nat} {r : Option FieldType} {d : Nat} {av : List Value} {S S' : zM} {Post : Int → zM → Prop} (e : S' = S) (h : zKI l D G ad y b mL r d av S' Post) : zKI l D G ad y b mL r d av S Post := by subst e; exact h
theorem zKV_at {l : Launch} {D : va_G} {G : zG} {ad : Nat → Nat} {y : MethodName} {b : ByteArray} {mL : Nat} {r : Option FieldType} {d : Nat} {av : List Value} {S S' : zM} {Post : zM → Prop} (e : S' = S) (h : zKV l D G ad y b mL r d av S' Post) : zKV l D G ad y b mL r d av S Post := by subst e; exact h
theorem zKL_at {l : Launch} {D : va_G} {G : zG} {ad : Nat → Nat} {y : MethodName} {b : ByteArray} {mL : Nat} {r : Option FieldType} {d : Nat} {av : List Value} {S S' : zM} {Post : Int64 → zM → Prop} (e : S' = S) (h : zKL l D G ad y b mL r d av S' Post) : zKL l D G ad y b mL r d av S Post := by subst e; exact h
def fI (σ : zM) : Prop := cOk (gA σ) ∧ hOk (gH σ) ∧ tOk (gT σ)
theorem zBk_cg {σ : zM} {k n : Nat} {N N' : zNt} (h : ∀ r, r < n → N r = N' r) : zBk σ k n N = zBk σ k n N' := by
  unfold zBk
  refine congrArg (fun z => (z, σ.2)) (funext fun a => funext fun b => ?_)
  by_cases q : k ≤ a ∧ a < k + n
  · rw [if_pos q, if_pos q, h (a - k) (by omega)]
  · rw [if_neg q, if_neg q]
theorem fSv_bk8 {σ : zM} (h : hOk (gH σ)) : zBk (fSv σ) 8 8 (gA σ) = fSv σ := (zBk_cg (fun r hr => (fSv_lo h (q := 8) (by decide) (by decide) r hr).symm)).trans (zBk_rd (fSv σ) 8 8)
/-- what a call of the face answers: x the place of its exception, 0 for none; es the exceptions -/
def fPo (σ1 : zM) (x ans : Int) : Int → zM → Prop := fun z σ' => z = ans ∧ σ' = σ1 ∧ x = 0
def fEx (σ : zM) (x : Int) (es : Int → String) : String → zM → Prop := fun E σ' => σ' = σ ∧ x ≠ 0 ∧ E = es x
theorem fEx_i {σ : zM} {x n : Int} {es : Int → String} {E : String} (h : x = n) (hn : n ≠ 0) (he : E = es n) : fEx σ x es E σ := ⟨rfl, by rw [h]; exact hn, by rw [h]; exact he⟩
def e1 : Int → String := fun _ => zE1
def e2 : Int → String := fun _ => zE2
def e3 : Int → String := fun _ => zE3
def e13 : Int → String := fun x => if x = 1 then zE1 else zE3
def e23 : Int → String := fun x => if x = 1 then zE2 else zE3
def e123 : Int → String := fun x => if x = 1 then zE1 else if x = 2 then zE2 else zE3
def zUsh (a b : Int) : Int := ((iI a).toUInt32 >>> ((iI b).toUInt32 &&& Int32.toUInt32 31)).toInt32.toInt
/-- a static method of another class -/
def zLkO (own : String) (idx : Nat) (y : MethodName) (bytes : ByteArray) (maxL : Nat) (ret : Option FieldType) (n : Nat) : Prop :=
  (∀ w ∈ va_wsS own idx y [Cond.code y bytes maxL ret], w ∈ zU) ∧ (y.cls ≠ "java/lang/invoke/MethodHandle" ∧ y.cls ≠ "java/lang/invoke/VarHandle" ∧ (parseMethodDescriptor y.desc).map (fun d => d.parameters.length) = some n)
section FB
variable {p : Program} {l : Launch} {e : Env} {R : Room} {s : State} {m : MethodId} {args : Array Value} {below : List Frame} {meth : Method} {c : Code} {cc : ByteArray} {nL : Nat} {own : String} {D : va_G} {G : zG} {ad : Nat → Nat} {cells slots : Nat} {Q : State → Prop}
variable {pc : Nat} {lv : List (Nat × Value)} {st : List Value} {σ : zM}
theorem z_iushr (X : zX p s m args c cc nL own D G ad) {a b : Int} (d : decode cc pc = .ok (.iushr, 1))
    (k : zV p l e R s m args below meth c nL D G ad cells slots Q (pc + 1) lv (vI (zUsh a b) :: st) σ) : zV p l e R s m args below meth c nL D G ad cells slots Q pc lv (vI b :: vI a :: st) σ :=
  fun ls H locs h hP hS => lv_iushr X.1 X.2.1 d (iI_self _).symm (k ls H locs h hP hS)
theorem z_ldcw (X : zX p s m args c cc nL own D G ad) {ix : Nat} {n : Int} {v : Int32} (hw : Cond.constant own ix v ∈ zU) (hv : v = iI n := by decide) (d : decode cc pc = .ok (.ldc_w ix, 3))
    (k : zV p l e R s m args below meth c nL D G ad cells slots Q (pc + 3) lv (vI n :: st) σ) : zV p l e R s m args below meth c nL D G ad cells slots Q pc lv st σ :=
  fun ls H locs h hP hS => lv_ldcw X.1 X.2.1 X.2.2.2.1 (X.2.2.2.2.1 _ hw) d (by subst hv; exact k ls H locs h hP hS)
theorem z_callOI1 (X : zX p s m args c cc nL own D G ad) {idx maxL d : Nat} {y : MethodName} {bytes : ByteArray} {ret : Option FieldType} {a0 : Value} {Post : Int → zM → Prop} (hM : zKI l D G ad y bytes maxL ret d [a0] σ Post) (K : zLkO own idx y bytes maxL ret 1) (hR : d + 1 ≤ R.frames ∧ 8 + (maxL + 11) + 30 * d ≤ R.locals) (hW : (st.map fun v => v.category).sum ≤ 8) (hcs : cells ≤ R.cells ∧ slots ≤ R.slots) (dd : decode cc pc = .ok (.invokestatic idx, 3))
    (kk : ∀ (z : Int) (σ1 : zM), Post z σ1 → zV p l e R s m args below meth c nL D G ad cells slots Q (pc + 3) lv (vI z :: st) σ1) : zV p l e R s m args below meth c nL D G ad cells slots Q pc lv (a0 :: st) σ :=
  fun ls H locs h hP hS => va_calli (va_runS (As := [a0]) (rest := st) ⟨X.1, X.2.1, X.2.2.1, X.2.2.2.1, X.2.2.2.2.1⟩ (hM _) (va_cwS 1 X.2.2.2.2.1 (zU_goodIn (zLk_all K.1)) rfl rfl rfl K.2 hR) ⟨z_blind, fun U hU hW => ⟨rfl, by rw [hU], by rw [hU]; exact hP, va_K.moved hW.alike X.2.2.2.2.2.1, va_Nw.warmM hW X.2.2.2.2.2.2.2⟩⟩ rfl rfl h.1 rfl (lv_room hW) dd hcs) hS (zA_old hS) (zA_free hS) (fun r σ1 t H1 locs1 ht _ hp hB _ _ hS1 => by
    obtain ⟨z, rfl, hp⟩ := hp
    exact kk z σ1 hp ls H1 locs1 h (by rw [← ht]; exact hB) hS1)
end FB
theorem kX3_37 : zLkO RX3 37 yJ6_bitCount_0f7a4 cJ6_bitCount_0f7a4 1 (some .int) 1 := ⟨zAllc (zU_mem 413 (by decide +kernel) (by decide +kernel)) (zAllc u_sJ6_bitCount_0f7a4 (zAllc (zU_mem 66 (by decide +kernel) (by decide +kernel)) (zAll1 u_cJ6_bitCount_0f7a4))), by decide +kernel, by decide +kernel, by decide +kernel⟩
def jB1 (x : Int) : Int := x - zAnd (zUsh x 1) 1431655765
def jB2 (x : Int) : Int := zAnd (jB1 x) 858993459 + zAnd (zUsh (jB1 x) 2) 858993459
def jB3 (x : Int) : Int := zAnd (jB2 x + zUsh (jB2 x) 4) 252645135
def jB4 (x : Int) : Int := jB3 x + zUsh (jB3 x) 8
def jB5 (x : Int) : Int := jB4 x + zUsh (jB4 x) 16
def jBc (x : Int) : Int := zAnd (jB5 x) 63
theorem jBc_63 : ∀ x : Nat, x < 64 → jBc x = mBits x 6 := by decide +kernel
theorem jBc_eq {x : Int} (h : 1 ≤ x ∧ x ≤ 63) : jBc x = mBits x 6 := by
  have q := jBc_63 x.toNat (by omega)
  rw [Int.toNat_of_nonneg (by omega)] at q
  exact q
set_option maxHeartbeats 4000000 in
set_option maxRecDepth 100000 in
theorem c_J6_bitCount {l : Launch} {D : va_G} {G : zG} {ad : Nat → Nat} (hJ : zInj ad) (σ : zM) {x : Int} (hx : zB x) : zKI l D G ad yJ6_bitCount_0f7a4 cJ6_bitCount_0f7a4 1 (some .int) 0 [vI x] σ (fun z σ9 => z = jBc x ∧ σ9 = σ) := by
  intro sz
  refine z_open hJ (by decide +kernel) (Nat.le_of_ble_eq_true rfl) ?_
  intro p e s0 m args below meth c hsz X hr hlocks
  refine z_sub [(0, vI x)] (zSub_cons rfl zSub_nil) ?_
  refine z_iload_n X dJ6_bitCount_0f7a4_0 rfl ?_
  refine z_iload_n X dJ6_bitCount_0f7a4_1 rfl ?_
  refine z_iconst X dJ6_bitCount_0f7a4_2 ?_
  refine z_iushr X dJ6_bitCount_0f7a4_3 ?_
  refine z_ldcw X (n := 1431655765) (v := 1431655765) (zU_mem 416 (by decide +kernel) (by decide +kernel)) (by decide) dJ6_bitCount_0f7a4_4 ?_
  refine z_and X dJ6_bitCount_0f7a4_7 (zAnd_eq _ _) ?_
  refine z_isub X dJ6_bitCount_0f7a4_8 ?_
  refine z_istore_n X dJ6_bitCount_0f7a4_9 (by decide) ?_
  refine z_sub [(0, vI (jB1 x))] (zSub_cons rfl zSub_nil) ?_
  refine z_iload_n X dJ6_bitCount_0f7a4_10 rfl ?_
  refine z_ldcw X (n := 858993459) (v := 858993459) (zU_mem 417 (by decide +kernel) (by decide +kernel)) (by decide) dJ6_bitCount_0f7a4_11 ?_
  refine z_and X dJ6_bitCount_0f7a4_14 (zAnd_eq _ _) ?_
  refine z_iload_n X dJ6_bitCount_0f7a4_15 rfl ?_
  refine z_iconst X dJ6_bitCount_0f7a4_16 ?_
  refine z_iushr X dJ6_bitCount_0f7a4_17 ?_
  refine z_ldcw X (n := 858993459) (v := 858993459) (zU_mem 417 (by decide +kernel) (by decide +kernel)) (by decide) dJ6_bitCount_0f7a4_18 ?_
  refine z_and X dJ6_bitCount_0f7a4_21 (zAnd_eq _ _) ?_
  refine z_iadd X dJ6_bitCount_0f7a4_22 ?_
  refine z_istore_n X dJ6_bitCount_0f7a4_23 (by decide) ?_
  refine z_sub [(0, vI (jB2 x))] (zSub_cons rfl zSub_nil) ?_
  refine z_iload_n X dJ6_bitCount_0f7a4_24 rfl ?_
  refine z_iload_n X dJ6_bitCount_0f7a4_25 rfl ?_
  refine z_iconst X dJ6_bitCount_0f7a4_26 ?_
  refine z_iushr X dJ6_bitCount_0f7a4_27 ?_
  refine z_iadd X dJ6_bitCount_0f7a4_28 ?_
  refine z_ldcw X (n := 252645135) (v := 252645135) (zU_mem 418 (by decide +kernel) (by decide +kernel)) (by decide) dJ6_bitCount_0f7a4_29 ?_
  refine z_and X dJ6_bitCount_0f7a4_32 (zAnd_eq _ _) ?_
  refine z_istore_n X dJ6_bitCount_0f7a4_33 (by decide) ?_
  refine z_sub [(0, vI (jB3 x))] (zSub_cons rfl zSub_nil) ?_
  refine z_iload_n X dJ6_bitCount_0f7a4_34 rfl ?_
  refine z_iload_n X dJ6_bitCount_0f7a4_35 rfl ?_
  refine z_bipush X dJ6_bitCount_0f7a4_36 rfl ?_
  refine z_iushr X dJ6_bitCount_0f7a4_38 ?_
  refine z_iadd X dJ6_bitCount_0f7a4_39 ?_
  refine z_istore_n X dJ6_bitCount_0f7a4_40 (by decide) ?_
  refine z_sub [(0, vI (jB4 x))] (zSub_cons rfl zSub_nil) ?_
  refine z_iload_n X dJ6_bitCount_0f7a4_41 rfl ?_
  refine z_iload_n X dJ6_bitCount_0f7a4_42 rfl ?_
  refine z_bipush X dJ6_bitCount_0f7a4_43 rfl ?_
  refine z_iushr X dJ6_bitCount_0f7a4_45 ?_
  refine z_iadd X dJ6_bitCount_0f7a4_46 ?_
  refine z_istore_n X dJ6_bitCount_0f7a4_47 (by decide) ?_
  refine z_sub [(0, vI (jB5 x))] (zSub_cons rfl zSub_nil) ?_
  refine z_iload_n X dJ6_bitCount_0f7a4_48 rfl ?_
  refine z_bipush X dJ6_bitCount_0f7a4_49 rfl ?_
  refine z_and X dJ6_bitCount_0f7a4_51 (zAnd_eq _ _) ?_
  exact z_iret X hsz hr hlocks dJ6_bitCount_0f7a4_52 ⟨rfl, rfl⟩
set_option maxHeartbeats 4000000 in
set_option maxRecDepth 100000 in
theorem c_X3_checkSite {l : Launch} {D : va_G} {G : zG} {ad : Nat → Nat} (hJ : zInj ad) (hl : l.stackTraces = false) (σ : zM) {s : Int} (hs : zB s)  : zKXV l D G ad yX3_checkSite cX3_checkSite 1 none 6 1 [vI s] σ (fun σ' => σ' = σ ∧ (0 ≤ s ∧ s ≤ 5)) (fun E σ' => σ' = σ ∧ ¬ (0 ≤ s ∧ s ≤ 5) ∧ E = zE1) := by
  intro sz
  refine zx_open hJ (by decide +kernel) (Nat.le_of_ble_eq_true rfl) ?_
  intro p e s0 m args below meth c hsz X F hxt hr hlocks
  subst hsz
  refine z_sub [(0, vI s)] (zSub_cons rfl zSub_nil) ?_
  refine z_iload_n X dX3_checkSite_0 rfl ?_
  refine z_callSI1 X (c_X3_isSite hJ σ hs) kX3_252 ⟨(Nat.le_of_ble_eq_true rfl), (Nat.le_of_ble_eq_true rfl)⟩ (Nat.le_of_ble_eq_true rfl) ⟨(Nat.le_of_ble_eq_true rfl), (Nat.le_of_ble_eq_true rfl)⟩ dX3_checkSite_1 (fun z9 σ1 hz9 => ?_)
  obtain ⟨rfl, e9⟩ := hz9
  rw [e9]
  refine z_ifb_ne X 17 dX3_checkSite_4 (by decide) (fun c_1 => ?_) (fun c_1 => ?_)
  · exact zx_vret X hr hlocks dX3_checkSite_17 ⟨rfl, c_1.1, by omega⟩ (Nat.le_of_ble_eq_true rfl) (Nat.le_of_ble_eq_true rfl)
  · exact zx_throw X F hxt hl hlocks zth_1 (List.mem_of_getElem? (i := 0) rfl) dX3_checkSite_7 dX3_checkSite_10 dX3_checkSite_11 dX3_checkSite_13 dX3_checkSite_16 (Nat.le_of_ble_eq_true rfl) (by decide) (Nat.le_of_ble_eq_true rfl) (Nat.le_of_ble_eq_true rfl) ⟨rfl, (fun z => c_1 ⟨z.1, by omega⟩), rfl⟩

set_option maxHeartbeats 4000000 in
set_option maxRecDepth 100000 in
theorem c_X3_checkDeal {l : Launch} {D : va_G} {G : zG} {ad : Nat → Nat} (hJ : zInj ad) (hl : l.stackTraces = false) (σ : zM) (fi : fI σ) {d : Int} (hd : zB d)  : zKXV l D G ad yX3_checkDeal cX3_checkDeal 2 none 6 1 [.ref (ad 0), vI d] σ (fun σ' => σ' = σ ∧ cHas (gA σ) d) (fun E σ' => σ' = σ ∧ ¬ cHas (gA σ) d ∧ E = zE1) := by
  intro sz
  refine zx_open hJ (by decide +kernel) (Nat.le_of_ble_eq_true rfl) ?_
  intro p e s0 m args below meth c hsz X F hxt hr hlocks
  subst hsz
  refine z_sub [(0, .ref (ad 0)), (1, vI d)] (zSub_cons rfl (zSub_cons rfl zSub_nil)) ?_
  refine z_aload_n X dX3_checkDeal_0 rfl ?_
  refine y_gDea0 X fX3_12 dX3_checkDeal_1 ?_
  refine z_iload_n X dX3_checkDeal_4 rfl ?_
  refine z_callVI1 X (zKI_at (gA_bk σ) (c_X2_hasDeal hJ zn8 σ (N := gA σ) fi.1 hd)) kX3_247 rfl (by decide) (zNet_obj zn8 ad G _ _) ⟨(Nat.le_of_ble_eq_true rfl), (Nat.le_of_ble_eq_true rfl)⟩ (Nat.le_of_ble_eq_true rfl) ⟨(Nat.le_of_ble_eq_true rfl), (Nat.le_of_ble_eq_true rfl)⟩ dX3_checkDeal_5 (fun z9 σ1 hz9 => ?_)
  obtain ⟨rfl, rfl⟩ := hz9
  rw [gA_bk]
  refine z_ifb_ne X 21 dX3_checkDeal_8 (by decide) (fun c_1 => ?_) (fun c_1 => ?_)
  · exact zx_vret X hr hlocks dX3_checkDeal_21 ⟨rfl, c_1⟩ (Nat.le_of_ble_eq_true rfl) (Nat.le_of_ble_eq_true rfl)
  · exact zx_throw X F hxt hl hlocks zth_1 (List.mem_of_getElem? (i := 4) rfl) dX3_checkDeal_11 dX3_checkDeal_14 dX3_checkDeal_15 dX3_checkDeal_17 dX3_checkDeal_20 (Nat.le_of_ble_eq_true rfl) (by decide) (Nat.le_of_ble_eq_true rfl) (Nat.le_of_ble_eq_true rfl) ⟨rfl, c_1, rfl⟩

set_option maxHeartbeats 4000000 in
set_option maxRecDepth 100000 in
theorem c_X3_checkDealAndSite {l : Launch} {D : va_G} {G : zG} {ad : Nat → Nat} (hJ : zInj ad) (hl : l.stackTraces = false) (σ : zM) (fi : fI σ) {d : Int} (hd : zB d) {s : Int} (hs : zB s)  : zKXV l D G ad yX3_checkDealAndSite cX3_checkDealAndSite 3 none 7 2 [.ref (ad 0), vI d, vI s] σ (fun σ' => σ' = σ ∧ (cHas (gA σ) d ∧ (0 ≤ s ∧ s ≤ 5))) (fun E σ' => σ' = σ ∧ ¬ (cHas (gA σ) d ∧ (0 ≤ s ∧ s ≤ 5)) ∧ E = zE1) := by
  intro sz
  refine zx_open hJ (by decide +kernel) (Nat.le_of_ble_eq_true rfl) ?_
  intro p e s0 m args below meth c hsz X F hxt hr hlocks
  subst hsz
  refine z_sub [(0, .ref (ad 0)), (1, vI d), (2, vI s)] (zSub_cons rfl (zSub_cons rfl (zSub_cons rfl zSub_nil))) ?_
  refine z_aload_n X dX3_checkDealAndSite_0 rfl ?_
  refine z_iload_n X dX3_checkDealAndSite_1 rfl ?_
  refine zx_callVV1 X F (c_X3_checkDeal hJ hl σ fi hd) kX3_82 rfl (by decide) rfl ⟨(Nat.le_of_ble_eq_true rfl), (Nat.le_of_ble_eq_true rfl)⟩ (Nat.le_of_ble_eq_true rfl) ⟨(Nat.le_of_ble_eq_true rfl), (Nat.le_of_ble_eq_true rfl)⟩ dX3_checkDealAndSite_2 (fun E σ1 hx => ?_) (fun σ1 hz => ?_)
  · obtain ⟨e9, hx, rfl⟩ := hx
    rw [e9]
    exact zx_out hxt hlocks ⟨rfl, (fun z => hx z.1), rfl⟩ (Nat.le_of_ble_eq_true rfl) (Nat.le_of_ble_eq_true rfl)
  obtain ⟨e9, h_1⟩ := hz
  rw [e9]
  refine z_iload_n X dX3_checkDealAndSite_5 rfl ?_
  refine zx_callSV1 X F (c_X3_checkSite hJ hl σ hs) kX3_33 ⟨(Nat.le_of_ble_eq_true rfl), (Nat.le_of_ble_eq_true rfl)⟩ (Nat.le_of_ble_eq_true rfl) ⟨(Nat.le_of_ble_eq_true rfl), (Nat.le_of_ble_eq_true rfl)⟩ dX3_checkDealAndSite_6 (fun E σ1 hx => ?_) (fun σ1 hz => ?_)
  · obtain ⟨e9, hx, rfl⟩ := hx
    rw [e9]
    exact zx_out hxt hlocks ⟨rfl, (fun z => hx z.2), rfl⟩ (Nat.le_of_ble_eq_true rfl) (Nat.le_of_ble_eq_true rfl)
  obtain ⟨e9, h_2⟩ := hz
  rw [e9]
  exact zx_vret X hr hlocks dX3_checkDealAndSite_9 ⟨rfl, h_1, h_2⟩ (Nat.le_of_ble_eq_true rfl) (Nat.le_of_ble_eq_true rfl)
