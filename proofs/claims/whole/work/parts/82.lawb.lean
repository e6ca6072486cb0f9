/-! THE LAW'S BODY: the rows that it needs besides -/
def zLkW (own : String) (idx : Nat) (y : MethodName) (bytes : ByteArray) (maxL : Nat) (ret : Option FieldType) (hh : List (Nat × Nat × Nat × Nat)) (n : Nat) : Prop :=
  (∀ w ∈ va_wsS own idx y [Cond.codeWith y bytes maxL ret hh], w ∈ zU) ∧ (y.cls ≠ "java/lang/invoke/MethodHandle" ∧ y.cls ≠ "java/lang/invoke/VarHandle" ∧ (parseMethodDescriptor y.desc).map (fun d => d.parameters.length) = some n)
theorem zLkW_all {y : MethodName} {bytes : ByteArray} {maxL : Nat} {ret : Option FieldType} {hh : List (Nat × Nat × Nat × Nat)} {pre : List Cond} (h : ∀ w ∈ pre ++ [Cond.codeWith y bytes maxL ret hh], w ∈ zU) : ∀ w ∈ pre ++ (Cond.codeWith y bytes maxL ret hh :: zU), w ∈ zU := fun w hw => by
  rcases List.mem_append.mp hw with q | q
  · exact h w (List.mem_append_left _ q)
  · rcases List.mem_cons.mp q with rfl | q
    · exact h _ (List.mem_append_right _ List.mem_cons_self)
    · exact q
/-- the script's int i + k -/
abbrev lwA (xs : Nat → Int32) (i k : Int) : Int := (xs (i + k).toNat).toInt
theorem lwA_B (xs : Nat → Int32) (i k : Int) : zB (lwA xs i k) := iI_rng _
abbrev lwL (b : Nat) (ad : Nat → Nat) (i : Int) : List (Nat × Value) := [(0, .ref b), (1, .ref (ad 0)), (2, .ref (ad 5)), (3, .ref (ad 72)), (4, vI i)]
section LB
variable {p : Program} {l : Launch} {en : Env} {R : Room} {s : State} {m : MethodId} {args : Array Value} {below : List Frame} {meth : Method} {c : Code} {cc : ByteArray} {nL : Nat} {own : String} {D : va_G} {G : zG} {ad : Nat → Nat} {cells slots : Nat} {Q : State → Prop}
variable {pc : Nat} {lv : List (Nat × Value)} {st : List Value} {σ : zM} {b L : Nat} {xs : Nat → Int32}
theorem z_wid {cells1 slots1 : Nat} (hc : cells ≤ cells1) (hs : slots ≤ slots1) (k : zV p l en R s m args below meth c nL D G ad cells1 slots1 Q pc lv st σ) : zV p l en R s m args below meth c nL D G ad cells slots Q pc lv st σ :=
  fun ls H locs h hP hS => W.widen hc hs (k ls H locs h hP hS)
theorem z_callW (X : zX p s m args c cc nL own D G ad) (F : zXf ad s.heap.size s s.heap) {idx n maxL d kc : Nat} {y : MethodName} {bytes : ByteArray} {ret : Option FieldType} {hh : List (Nat × Nat × Nat × Nat)} {As stk : List Value} {Post : Int → zM → Prop} (hM : zKW l D G ad y bytes maxL ret hh d kc As σ Post) (K : zLkW own idx y bytes maxL ret hh n) (hn : As.length = n) (hst : stk = As.reverse ++ st) (hR : d + 1 ≤ R.frames ∧ 8 + (maxL + 11) + 30 * d ≤ R.locals) (hW : (st.map fun v => v.category).sum ≤ 8) (hcs : cells + kc ≤ R.cells ∧ slots + 6 * kc ≤ R.slots) (dd : decode cc pc = .ok (.invokestatic idx, 3))
    (kk : ∀ (z : Int) (σ1 : zM), Post z σ1 → zV p l en R s m args below meth c nL D G ad (cells + kc) (slots + 6 * kc) Q (pc + 3) lv (vI z :: st) σ1) : zV p l en R s m args below meth c nL D G ad cells slots Q pc lv stk σ := by
  subst hst
  exact fun ls H locs h hP hS => va_calli (vx_runSW (As := As) (rest := st) ⟨X.1, X.2.1, X.2.2.1, X.2.2.2.1, X.2.2.2.2.1⟩ (hM _) (vx_cwSW n X.2.2.2.2.1 (zU_goodIn (zLkW_all K.1)) rfl rfl rfl K.2 hR) ⟨zx_blind, fun U hU hW => ⟨rfl, by rw [hU], by rw [hU]; exact hP, va_K.moved hW.alike X.2.2.2.2.2.1, va_Nw.warmM hW X.2.2.2.2.2.2.2, by rw [hU]; exact zXf_to hW hS F⟩⟩ rfl hn h.1 rfl (lv_room hW) dd hcs) hS (zA_old hS) (zA_free hS) (fun r σ1 t H1 locs1 ht _ hp hB _ _ hS1 => by
    obtain ⟨z, rfl, hp⟩ := hp
    exact kk z σ1 hp ls H1 locs1 h (by rw [← ht]; exact hB) hS1)
theorem z_callVD0 (X : zX p s m args c cc nL own D G ad) {idx ci k maxL d : Nat} {C : String} {T : u_T} {N : Nat} {y : MethodName} {bytes : ByteArray} {ret : Option FieldType} {fs : List Value} {Post : UInt64 → zM → Prop} (hM : zKD l D G ad y bytes maxL ret d (.ref (ad k) :: []) σ Post) (K : zLkV own idx C y bytes maxL ret 0) (hcl : vwCl[ci]? = some (C, T, N)) (hk : k < 73) (hc : zC ad G k (σ.1 k) (σ.2 k) = .inr (ci, fs)) (hR : d + 1 ≤ R.frames ∧ 8 + (maxL + 11) + 30 * d ≤ R.locals) (hW : (st.map fun v => v.category).sum ≤ 8) (hcs : cells ≤ R.cells ∧ slots ≤ R.slots) (dd : decode cc pc = .ok (.invokevirtual idx, 3))
    (kk : ∀ (z : UInt64) (σ1 : zM), Post z σ1 → zV p l en R s m args below meth c nL D G ad cells slots Q (pc + 3) lv (.double z :: st) σ1) : zV p l en R s m args below meth c nL D G ad cells slots Q pc lv (.ref (ad k) :: st) σ :=
  fun ls H locs h hP hS => va_calld (z_runV X (As := []) (hM _) K hcl hk hc rfl hR hW dd rfl h hP hS hcs) hS (zA_old hS) (zA_free hS) (fun z σ1 t H1 locs1 ht _ hp hB _ _ hS1 => kk z σ1 hp ls H1 locs1 h (by rw [← ht]; exact hB) hS1)
theorem z_sld (X : zX p s m args c cc nL own D G ad) (hX : va_X b L xs s s.heap) (hbl : b < s.heap.size) (hbA : ¬ zA ad s.heap.size b) (hL : L ≤ 2048) {i : Int} (hi : 0 ≤ i ∧ i < L) (dd : decode cc pc = .ok (.iaload, 1))
    (kk : zV p l en R s m args below meth c nL D G ad cells slots Q (pc + 1) lv (vI (xs i.toNat).toInt :: st) σ) : zV p l en R s m args below meth c nL D G ad cells slots Q pc lv (vI i :: .ref b :: st) σ :=
  fun ls H locs h hP hS => va_sld X.1 X.2.1 hX hbl hbA hS (iI_in hi.1 hi.2 (by omega)) dd (by
    rw [iI_clamp hi.1 (by omega)]
    have k := kk ls H locs h hP hS
    rw [show vI (xs i.toNat).toInt = Value.int (xs i.toNat) from congrArg Value.int (iI_self _)] at k
    exact k)
theorem z_slen (X : zX p s m args c cc nL own D G ad) (hX : va_X b L xs s s.heap) (hbl : b < s.heap.size) (hbA : ¬ zA ad s.heap.size b) (dd : decode cc pc = .ok (.arraylength, 1))
    (kk : zV p l en R s m args below meth c nL D G ad cells slots Q (pc + 1) lv (vI (L : Int) :: st) σ) : zV p l en R s m args below meth c nL D G ad cells slots Q pc lv (.ref b :: st) σ :=
  fun ls H locs h hP hS => va_slen X.1 X.2.1 hX hbl hbA hS dd (kk ls H locs h hP hS)
theorem z_icmp_same (X : zX p s m args c cc nL own D G ad) {a b' off : Int} (tgt : Nat) (d : decode cc pc = .ok (.if_icmp .eq off, 3)) (ht : (pc : Int) + off = (tgt : Int)) (hab : a = b')
    (kt : zV p l en R s m args below meth c nL D G ad cells slots Q tgt lv st σ) : zV p l en R s m args below meth c nL D G ad cells slots Q pc lv (vI b' :: vI a :: st) σ := by
  subst hab
  exact fun ls H locs h hP hS => lv_icmp_eq X.1 X.2.1 d ht (fun _ => kt ls H locs h hP hS) (fun h1 => absurd rfl h1)
theorem z_lcmp_same (X : zX p s m args c cc nL own D G ad) {x y : Int64} (d : decode cc pc = .ok (.lcmp, 1)) (hxy : x = y)
    (kt : zV p l en R s m args below meth c nL D G ad cells slots Q (pc + 1) lv (vI 0 :: st) σ) : zV p l en R s m args below meth c nL D G ad cells slots Q pc lv (.long y :: .long x :: st) σ := by
  subst hxy
  exact fun ls H locs h hP hS => W.lcmp X.1 X.2.1 d (by
    rw [show lg_cmp x x = 0 by simp [lg_cmp]]
    exact kt ls H locs h hP hS)
theorem z_dstore (X : zX p s m args c cc nL own D G ad) {i : Nat} {x : UInt64} (d : decode cc pc = .ok (.dstore i, 2)) (hn : i + 1 < nL)
    (k : zV p l en R s m args below meth c nL D G ad cells slots Q (pc + 2) (zF2 i (.double x) lv) st σ) : zV p l en R s m args below meth c nL D G ad cells slots Q pc lv (.double x :: st) σ :=
  fun ls H locs h hP hS => lv_dstore X.1 X.2.1 d h hn rfl (fun ls' h' => k ls' H locs h' hP hS)
theorem z_dload (X : zX p s m args c cc nL own D G ad) {i : Nat} {x : UInt64} (d : decode cc pc = .ok (.dload i, 2)) (hl : zL lv i = some (.double x))
    (k : zV p l en R s m args below meth c nL D G ad cells slots Q (pc + 2) lv (.double x :: st) σ) : zV p l en R s m args below meth c nL D G ad cells slots Q pc lv st σ :=
  fun ls H locs h hP hS => lv_dload X.1 X.2.1 d (zL_at h hl) (k ls H locs h hP hS)
theorem z_dcmp (X : zX p s m args c cc nL own D G ad) {x y : UInt64} {op : CmpOp} {v : Int} (d : decode cc pc = .ok (.dcmp op, 1)) (hv : v = (Op.cmpValue (FP.dcmp x y) op).toInt)
    (k : zV p l en R s m args below meth c nL D G ad cells slots Q (pc + 1) lv (vI v :: st) σ) : zV p l en R s m args below meth c nL D G ad cells slots Q pc lv (.double y :: .double x :: st) σ := by
  subst hv
  refine fun ls H locs h hP hS => lv_dcmp X.1 X.2.1 d ?_
  have q := k ls H locs h hP hS
  rw [show vI (Op.cmpValue (FP.dcmp x y) op).toInt = Value.int (Op.cmpValue (FP.dcmp x y) op) from congrArg Value.int (iI_self _)] at q
  exact q
theorem lw_arg (X : zX p s m args c cc nL own D G ad) (hX : va_X b L xs s s.heap ∧ b < s.heap.size ∧ ¬ zA ad s.heap.size b ∧ L ≤ 2048) {i k : Int} (hi : 0 ≤ i + k ∧ i + k < L) (h0 : zL lv 0 = some (.ref b)) (h4 : zL lv 4 = some (vI i)) (d0 : decode cc pc = .ok (.aload_n 0, 1)) (d1 : decode cc (pc + 1) = .ok (.iload 4, 2)) (d3 : decode cc (pc + 3) = .ok (.iconst k, 1)) (d4 : decode cc (pc + 4) = .ok (.iadd, 1)) (d5 : decode cc (pc + 5) = .ok (.iaload, 1))
    (kk : zV p l en R s m args below meth c nL D G ad cells slots Q (pc + 6) lv (vI (lwA xs i k) :: st) σ) : zV p l en R s m args below meth c nL D G ad cells slots Q pc lv st σ :=
  z_aload_n X d0 h0 (z_iload X d1 h4 (z_iconst X d3 (z_iadd X d4 (z_sld X hX.1 hX.2.1 hX.2.2.1 hX.2.2.2 hi d5 kk))))
theorem lw_bool (X : zX p s m args c cc nL own D G ad) {a o1 o2 : Int} (ha : zB a) (d0 : decode cc pc = .ok (.ifCond .eq o1, 3)) (d3 : decode cc (pc + 3) = .ok (.iconst 1, 1)) (d4 : decode cc (pc + 4) = .ok (.goto o2, 3)) (d7 : decode cc (pc + 7) = .ok (.iconst 0, 1)) (h1 : o1 = 7) (h2 : o2 = 4)
    (kk : zV p l en R s m args below meth c nL D G ad cells slots Q (pc + 8) lv (vI (if a = 0 then 0 else 1) :: st) σ) : zV p l en R s m args below meth c nL D G ad cells slots Q pc lv (vI a :: st) σ := by
  subst h1 h2
  refine z_if_eq X (pc + 7) d0 (by omega) ha (fun q => ?_) (fun q => ?_)
  · rw [if_pos q] at kk
    exact z_iconst X d7 kk
  · rw [if_neg q] at kk
    exact z_iconst X d3 (z_goto X (pc + 8) d4 (by omega) kk)
theorem lw_tail (X : zX p s m args c cc nL RL D G ad) (hJ : zInj ad) {z z' o6 o13 o23 o28 : Int} (w : wEnd z z' σ) (hz : zB z) (hcs : cells ≤ R.cells ∧ slots ≤ R.slots) (hR : 1 ≤ R.frames ∧ 20 ≤ R.locals) (h2 : zL lv 2 = some (.ref (ad 5))) (h3 : zL lv 3 = some (.ref (ad 72))) (h5 : zL lv 5 = some (vI z)) (h6 : zL lv 6 = some (vI z'))
    (d0 : decode cc pc = .ok (.aload_n 2, 1)) (d1 : decode cc (pc + 1) = .ok (.invokevirtual 100, 3)) (d4 : decode cc (pc + 4) = .ok (.iload 5, 2)) (d6 : decode cc (pc + 6) = .ok (.if_icmp .eq o6, 3)) (d11 : decode cc (pc + 11) = .ok (.iload 5, 2)) (d13 : decode cc (pc + 13) = .ok (.ifCond .ne o13, 3)) (d16 : decode cc (pc + 16) = .ok (.aload_n 3, 1)) (d17 : decode cc (pc + 17) = .ok (.iconst 0, 1)) (d18 : decode cc (pc + 18) = .ok (.laload, 1)) (d19 : decode cc (pc + 19) = .ok (.iload 6, 2)) (d21 : decode cc (pc + 21) = .ok (.i2l, 1)) (d22 : decode cc (pc + 22) = .ok (.lcmp, 1)) (d23 : decode cc (pc + 23) = .ok (.ifCond .eq o23, 3)) (d28 : decode cc (pc + 28) = .ok (.goto o28, 3))
    (e : o6 = 5 ∧ o13 = 15 ∧ o23 = 5 ∧ (pc : Int) + 28 + o28 = 1769)
    (kk : zV p l en R s m args below meth c nL D G ad cells slots Q 1769 lv st σ) (hst : st = []) : zV p l en R s m args below meth c nL D G ad cells slots Q pc lv st σ := by
  obtain ⟨e6, e13, e23, e28⟩ := e
  subst e6 e13 e23 hst
  have kT : zKI l D G ad yX4_thrown cX4_thrown 1 (some .int) 0 [.ref (ad 5)] σ (fun z9 σ9 => z9 = gM σ 0 0 ∧ σ9 = zBk σ 5 3 (gM σ)) := zKI_at (gM_bk σ) (c_X4_thrown hJ σ (N := gM σ))
  refine z_aload_n X d0 h2 ?_
  refine z_callVI0 X kT kL_100 (ci := 4) rfl (by decide) rfl hR (by decide) hcs d1 (fun z9 σ9 hz9 => ?_)
  obtain ⟨e9, eσ⟩ := hz9
  rw [gM_bk] at eσ
  rw [eσ, e9, w.1]
  refine z_iload X d4 h5 ?_
  refine z_icmp_same X (pc + 11) d6 (by omega) rfl ?_
  refine z_iload X d11 h5 ?_
  refine z_if_ne X (pc + 28) d13 (by omega) hz (fun _ => ?_) (fun q => ?_)
  · exact z_goto X 1769 d28 (by omega) kk
  · refine z_aload_n X d16 h3 ?_
    refine z_iconst X d17 ?_
    refine z_laload X d18 ?_
    rw [w.2.1 q]
    refine z_iload X d19 h6 ?_
    refine z_i2l X d21 ?_
    refine z_lcmp_same X d22 rfl ?_
    refine z_if_eq X (pc + 28) d23 (by omega) ⟨by decide, by decide⟩ (fun _ => ?_) (fun q => absurd rfl q)
    exact z_goto X 1769 d28 (by omega) kk
end LB
