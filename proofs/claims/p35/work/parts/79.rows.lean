/-! ROWS for the law's own methods -/
theorem iI_nI {a : Int} (h : 0 ≤ a) : iI a = nI a.toNat := by
  unfold iI nI
  rw [← Int32.ofInt_eq_ofNat, Int.toNat_of_nonneg h]
theorem nI_div {a b : Int} (ha : 0 ≤ a) (hb : 0 ≤ b) : a.toNat / b.toNat = (a / b).toNat := by
  obtain ⟨x, rfl⟩ := Int.eq_ofNat_of_zero_le ha
  obtain ⟨y, rfl⟩ := Int.eq_ofNat_of_zero_le hb
  rfl
theorem nI_rem {a b : Int} (ha : 0 ≤ a) (hb : 0 ≤ b) : a.toNat % b.toNat = (a % b).toNat := by
  obtain ⟨x, rfl⟩ := Int.eq_ofNat_of_zero_le ha
  obtain ⟨y, rfl⟩ := Int.eq_ofNat_of_zero_le hb
  rfl
def iRm (d k n : Nat) : Room := { frames := d, cells := k, slots := n, locals := 30 * d }
def zKC (l : Launch) (D : va_G) (G : zG) (ad : Nat → Nat) (y : MethodName) (bytes : ByteArray) (maxL : Nat) (ret : Option FieldType) (d mc ms : Nat) (av : List Value) (σ : zM) (Post : Int → zM → Prop) : Prop :=
  ∀ sz, Met l y (.code y bytes maxL ret :: zU) (iRm d mc ms) (zPc D G ad av σ sz) (zQI D G ad sz Post) mc ms (zA ad sz)
def zEC (below : List Frame) (Qc : Array Value → State → Outcome → State → Prop) (args : Array Value) (s : State) (ad : Nat → Nat) (k n : Nat) : State → Prop := MQ below Qc args s k n (zA ad s.heap.size)
section LB
variable {p : Program} {l : Launch} {e : Env} {R : Room} {s : State} {m : MethodId} {args : Array Value} {below : List Frame} {meth : Method} {c : Code} {cc : ByteArray} {nL : Nat} {own : String} {D : va_G} {G : zG} {ad : Nat → Nat} {cells slots : Nat} {Q : State → Prop}
variable {pc : Nat} {lv : List (Nat × Value)} {st : List Value} {σ : zM}
theorem z_wid {cells1 slots1 : Nat} (hc : cells ≤ cells1) (hs : slots ≤ slots1) (k : zV p l e R s m args below meth c nL D G ad cells1 slots1 Q pc lv st σ) : zV p l e R s m args below meth c nL D G ad cells slots Q pc lv st σ :=
  fun ls H locs h hP hS => W.widen hc hs (k ls H locs h hP hS)
theorem z_callVD0 (X : zX p s m args c cc nL own D G ad) {idx ci k maxL d : Nat} {C : String} {T : u_T} {N : Nat} {y : MethodName} {bytes : ByteArray} {ret : Option FieldType} {fs : List Value} {Post : UInt64 → zM → Prop} (hM : zKD l D G ad y bytes maxL ret d (.ref (ad k) :: []) σ Post) (K : zLkV own idx C y bytes maxL ret 0) (hcl : vwCl[ci]? = some (C, T, N)) (hk : zIn k) (hc : zC ad G k (σ.1 k) (σ.2 k) = .inr (ci, fs)) (hR : d + 1 ≤ R.frames ∧ 8 + (maxL + 11) + 30 * d ≤ R.locals) (hW : (st.map fun v => v.category).sum ≤ 8) (hcs : cells ≤ R.cells ∧ slots ≤ R.slots) (dd : decode cc pc = .ok (.invokevirtual idx, 3))
    (kk : ∀ (z : UInt64) (σ1 : zM), Post z σ1 → zV p l e R s m args below meth c nL D G ad cells slots Q (pc + 3) lv (.double z :: st) σ1) : zV p l e R s m args below meth c nL D G ad cells slots Q pc lv (.ref (ad k) :: st) σ :=
  fun ls H locs h hP hS => va_calld (z_runV X (As := []) (hM _) K hcl hk hc rfl hR hW dd rfl h hP hS hcs) hS (zA_old hS) (zA_free hS) (fun z σ1 t H1 locs1 ht _ hp hB _ _ hS1 => kk z σ1 hp ls H1 locs1 h (by rw [← ht]; exact hB) hS1)
theorem z_lcmp_same (X : zX p s m args c cc nL own D G ad) {x y : Int64} (d : decode cc pc = .ok (.lcmp, 1)) (hxy : x = y)
    (kt : zV p l e R s m args below meth c nL D G ad cells slots Q (pc + 1) lv (vI 0 :: st) σ) : zV p l e R s m args below meth c nL D G ad cells slots Q pc lv (.long y :: .long x :: st) σ := by
  subst hxy
  exact fun ls H locs h hP hS => W.lcmp X.1 X.2.1 d (by
    rw [show lg_cmp x x = 0 by simp [lg_cmp]]
    exact kt ls H locs h hP hS)
theorem z_dcmp (X : zX p s m args c cc nL own D G ad) {x y : UInt64} {op : CmpOp} {v : Int} (d : decode cc pc = .ok (.dcmp op, 1)) (hv : v = (Op.cmpValue (FP.dcmp x y) op).toInt)
    (k : zV p l e R s m args below meth c nL D G ad cells slots Q (pc + 1) lv (vI v :: st) σ) : zV p l e R s m args below meth c nL D G ad cells slots Q pc lv (.double y :: .double x :: st) σ := by
  subst hv
  refine fun ls H locs h hP hS => lv_dcmp X.1 X.2.1 d ?_
  have q := k ls H locs h hP hS
  rw [show vI (Op.cmpValue (FP.dcmp x y) op).toInt = Value.int (Op.cmpValue (FP.dcmp x y) op) from congrArg Value.int (iI_self _)] at q
  exact q
theorem z_idivP (X : zX p s m args c cc nL own D G ad) {a b : Int} (h0 : 0 ≤ a) (h1 : a < 2147483648) (b0 : 0 < b) (b1 : b < 2147483648) (d : decode cc pc = .ok (.idiv, 1))
    (k : zV p l e R s m args below meth c nL D G ad cells slots Q (pc + 1) lv (vI (a / b) :: st) σ) : zV p l e R s m args below meth c nL D G ad cells slots Q pc lv (vI b :: vI a :: st) σ :=
  fun ls H locs h hP hS => lv_idiv X.1 X.2.1 d (fun q => absurd ((iI_eq0 (by unfold zB; omega)).mp q) (by omega)) (by
    have hq : 0 ≤ a / b := Int.ediv_nonneg h0 (by omega)
    rw [iI_nI h0, iI_nI (show 0 ≤ b by omega), pk_div (by omega) (by omega) (by omega), nI_div h0 (by omega), ← iI_nI hq]
    exact k ls H locs h hP hS)
theorem z_iremP (X : zX p s m args c cc nL own D G ad) {a b : Int} (h0 : 0 ≤ a) (h1 : a < 2147483648) (b0 : 0 < b) (b1 : b < 2147483648) (d : decode cc pc = .ok (.irem, 1))
    (k : zV p l e R s m args below meth c nL D G ad cells slots Q (pc + 1) lv (vI (a % b) :: st) σ) : zV p l e R s m args below meth c nL D G ad cells slots Q pc lv (vI b :: vI a :: st) σ :=
  fun ls H locs h hP hS => lv_irem X.1 X.2.1 d (fun q => absurd ((iI_eq0 (by unfold zB; omega)).mp q) (by omega)) (by
    have hq : 0 ≤ a % b := Int.emod_nonneg a (by omega)
    rw [iI_nI h0, iI_nI (show 0 ≤ b by omega), pk_rem (by omega) (by omega) (by omega), nI_rem h0 (by omega), ← iI_nI hq]
    exact k ls H locs h hP hS)
theorem z_ldc (X : zX p s m args c cc nL own D G ad) {ix : Nat} {n : Int} {v : Int32} (hw : Cond.constant own ix v ∈ zU) (hv : v = iI n) (d : decode cc pc = .ok (.ldc ix, 2))
    (k : zV p l e R s m args below meth c nL D G ad cells slots Q (pc + 2) lv (vI n :: st) σ) : zV p l e R s m args below meth c nL D G ad cells slots Q pc lv st σ :=
  fun ls H locs h hP hS => lv_ldc X.1 X.2.1 X.2.2.2.1 (X.2.2.2.2.1 _ hw) d (by subst hv; exact k ls H locs h hP hS)
theorem zV_at {S S' : zM} (h : S' = S) (k : zV p l e R s m args below meth c nL D G ad cells slots Q pc lv st S') : zV p l e R s m args below meth c nL D G ad cells slots Q pc lv st S := by subst h; exact k
theorem z_callSC (X : zX p s m args c cc nL own D G ad) {idx n maxL d mc ms : Nat} {y : MethodName} {bytes : ByteArray} {ret : Option FieldType} {As stk : List Value} {Post : Int → zM → Prop} (hM : zKC l D G ad y bytes maxL ret d mc ms As σ Post) (K : zLkS own idx y bytes maxL ret n) (hn : As.length = n) (hst : stk = As.reverse ++ st) (hR : d + 1 ≤ R.frames ∧ 8 + (maxL + 11) + 30 * d ≤ R.locals) (hW : (st.map fun v => v.category).sum ≤ 8) (hcs : cells + mc ≤ R.cells ∧ slots + ms ≤ R.slots) (dd : decode cc pc = .ok (.invokestatic idx, 3))
    (kk : ∀ (z : Int) (σ1 : zM), Post z σ1 → zV p l e R s m args below meth c nL D G ad (cells + mc) (slots + ms) Q (pc + 3) lv (vI z :: st) σ1) : zV p l e R s m args below meth c nL D G ad cells slots Q pc lv stk σ := by
  subst hst
  exact fun ls H locs h hP hS => va_calli (va_runS (As := As) (rest := st) ⟨X.1, X.2.1, X.2.2.1, X.2.2.2.1, X.2.2.2.2.1⟩ (hM _) (cwS n X.2.2.2.2.1 (zU_goodIn (zLk_all K.1)) rfl rfl rfl K.2 hR) ⟨z_blind, fun U hU hW => ⟨rfl, by rw [hU], by rw [hU]; exact hP, va_K.moved hW.alike X.2.2.2.2.2.1, va_Nw.warmM hW X.2.2.2.2.2.2.2⟩⟩ rfl hn h.1 rfl (lv_room hW) dd hcs) hS (zA_old hS) (zA_free hS) (fun r σ1 t H1 locs1 ht _ hp hB _ _ hS1 => by
    obtain ⟨z, rfl, hp⟩ := hp
    exact kk z σ1 hp ls H1 locs1 h (by rw [← ht]; exact hB) hS1)
theorem z_openC {y : MethodName} {bytes : ByteArray} {maxL : Nat} {ret : Option FieldType} {d mc ms : Nat} {av : List Value} {sz : Nat} {Qc : Array Value → State → Outcome → State → Prop} (hi : zInj ad) (hy : plainName y.cls = true) (hav : (lg_sl av).length ≤ maxL)
    (body : ∀ (p : Program) (e : Env) (s : State) (m : MethodId) (args : Array Value) (below : List Frame) (meth : Method) (c : Code), s.heap.size = sz → zX p s m args c bytes maxL y.cls D G ad → meth.sig.returnType = ret → meth.locks = false → zV p l e (iRm d mc ms) s m args below meth c maxL D G ad 0 0 (zEC below Qc args s ad mc ms) 0 (lv_args 0 av) [] σ) :
    Met l y (.code y bytes maxL ret :: zU) (iRm d mc ms) (zPc D G ad av σ sz) Qc mc ms (zA ad sz) := by
  refine Met.ofW (cc := bytes) (maxL := maxL) (ret := ret) hy rfl ?_
  intro p e s m args below meth c s₁ B hml hv
  obtain ⟨rfl, hsz, hP, hK, hN⟩ := hv
  have hts := atoms_spec (ws := Cond.code y bytes maxL ret :: zU) B.pre
  have hl := lv_entry av (n := maxL) hav
  rw [lg_entry_eq]
  have h := body p e s m _ below meth c hsz ⟨B.exec, B.bytes, hml, findClass_of_methodNamed B.named, fun w hw => hts w (List.mem_cons_of_mem _ hw), hK, hi, hN⟩ B.returns B.notSynchronized
  subst hsz
  exact h _ s.heap [] hl hP va_S.rf
theorem z_zretC (X : zX p s m args c cc nL own D G ad) {sz k n : Nat} {z : Int} {Post : Int → zM → Prop} (hsz : s.heap.size = sz) (hr : meth.sig.returnType = some .boolean) (hlocks : meth.locks = false) (d : decode cc pc = .ok (.ireturn, 1)) (h01 : z = 0 ∨ z = 1) (hq : Post z σ) : zV p l e R s m args below meth c nL D G ad k n (zEC below (zQI D G ad sz Post) args s ad k n) pc lv [vI z] σ := by
  subst hsz
  exact fun ls H locs h hP hS => W.zret X.1 X.2.1 hr (by rcases h01 with rfl | rfl <;> rfl) (fun t ht hW => ⟨⟨iI z, σ, rfl, ⟨z, rfl, hq⟩, (ht.symm ▸ hP : va_P D vwCl (zW ad G σ) t.heap)⟩, hS.F ht⟩) hS.2.2 d hlocks
end LB
theorem va_P1 {D : va_G} {x : Nat × va_E} {H : Heap} (h : va_at D vwCl x H) : va_P D vwCl [x] H := fun k q hk => by
  cases k with
  | zero => cases hk; exact h
  | succ k => cases hk
theorem va_D1 {A : Nat → Prop} {x : Nat × va_E} (h : A x.1) : va_D A [x] := by
  have key : ∀ (k : Nat) (q : Nat × va_E), [x][k]? = some q → k = 0 ∧ q = x := fun k q hk => by
    cases k with
    | zero => cases hk; exact ⟨rfl, rfl⟩
    | succ k => cases hk
  exact ⟨fun i j p q hi hj _ => by rw [(key i p hi).1, (key j q hj).1], fun k q hk => by rw [(key k q hk).2]; exact h⟩
/-- the walk's goal beside one more thing that holds of the heap -/
def xV (E : Heap → Prop) (p : Program) (l : Launch) (e : Env) (R : Room) (s : State) (m : MethodId) (args : Array Value) (below : List Frame) (meth : Method) (c : Code) (nL : Nat) (D : va_G) (G : zG) (ad : Nat → Nat) (cells slots : Nat) (Q : State → Prop) (pc : Nat) (lv : List (Nat × Value)) (st : List Value) (σ : zM) : Prop :=
  ∀ (ls : Array Slot) (H : Heap) (locs : List Loc), lv_has ls nL lv → va_P D vwCl (zW ad G σ) H → va_S (zA ad s.heap.size) s.heap H locs → E H → W p l e R s m args below meth c H locs cells slots Q (F0 m pc ls st)
section XR
variable {p : Program} {l : Launch} {e : Env} {R : Room} {s : State} {m : MethodId} {args : Array Value} {below : List Frame} {meth : Method} {c : Code} {cc : ByteArray} {nL : Nat} {own : String} {D : va_G} {G : zG} {ad : Nat → Nat} {cells slots : Nat} {Q : State → Prop}
variable {pc : Nat} {lv : List (Nat × Value)} {st : List Value} {σ : zM}
variable {E : Heap → Prop}
theorem x_sub (lv' : List (Nat × Value)) (h : zSub lv lv') (k : xV E p l e R s m args below meth c nL D G ad cells slots Q pc lv' st σ) : xV E p l e R s m args below meth c nL D G ad cells slots Q pc lv st σ :=
  fun ls H locs hl hP hS hE => k ls H locs ⟨hl.1, hl.2.1, fun q hq => zL_at hl (h q hq)⟩ hP hS hE
theorem x_iconst (X : zX p s m args c cc nL own D G ad) {n : Int} (d : decode cc pc = .ok (.iconst n, 1))
    (k : xV E p l e R s m args below meth c nL D G ad cells slots Q (pc + 1) lv (vI n :: st) σ) : xV E p l e R s m args below meth c nL D G ad cells slots Q pc lv st σ :=
  fun ls H locs hl hP hS hE => lv_iconst X.1 X.2.1 d rfl (k ls H locs hl hP hS hE)
theorem x_bipush (X : zX p s m args c cc nL own D G ad) {n : Int} (d : decode cc pc = .ok (.bipush n, 2)) (hn : (Int8.ofInt n).toInt32 = iI n)
    (k : xV E p l e R s m args below meth c nL D G ad cells slots Q (pc + 2) lv (vI n :: st) σ) : xV E p l e R s m args below meth c nL D G ad cells slots Q pc lv st σ :=
  fun ls H locs hl hP hS hE => lv_bipush X.1 X.2.1 d hn (k ls H locs hl hP hS hE)
theorem x_sipush (X : zX p s m args c cc nL own D G ad) {n : Int} (d : decode cc pc = .ok (.sipush n, 3)) (hn : (Int16.ofInt n).toInt32 = iI n)
    (k : xV E p l e R s m args below meth c nL D G ad cells slots Q (pc + 3) lv (vI n :: st) σ) : xV E p l e R s m args below meth c nL D G ad cells slots Q pc lv st σ :=
  fun ls H locs hl hP hS hE => lv_sipush X.1 X.2.1 d hn (k ls H locs hl hP hS hE)
theorem x_iload_n (X : zX p s m args c cc nL own D G ad) {i : Fin 4} {x : Int} (d : decode cc pc = .ok (.iload_n i, 1)) (hl : zL lv i.val = some (vI x))
    (k : xV E p l e R s m args below meth c nL D G ad cells slots Q (pc + 1) lv (vI x :: st) σ) : xV E p l e R s m args below meth c nL D G ad cells slots Q pc lv st σ :=
  fun ls H locs h hP hS hE => lv_iload_n X.1 X.2.1 d rfl (zL_at h hl) (k ls H locs h hP hS hE)
theorem x_iload (X : zX p s m args c cc nL own D G ad) {i : Nat} {x : Int} (d : decode cc pc = .ok (.iload i, 2)) (hl : zL lv i = some (vI x))
    (k : xV E p l e R s m args below meth c nL D G ad cells slots Q (pc + 2) lv (vI x :: st) σ) : xV E p l e R s m args below meth c nL D G ad cells slots Q pc lv st σ :=
  fun ls H locs h hP hS hE => lv_iload X.1 X.2.1 d (zL_at h hl) (k ls H locs h hP hS hE)
theorem x_aload_n (X : zX p s m args c cc nL own D G ad) {i : Fin 4} {x : Nat} (d : decode cc pc = .ok (.aload_n i, 1)) (hl : zL lv i.val = some (.ref x))
    (k : xV E p l e R s m args below meth c nL D G ad cells slots Q (pc + 1) lv (.ref x :: st) σ) : xV E p l e R s m args below meth c nL D G ad cells slots Q pc lv st σ :=
  fun ls H locs h hP hS hE => lv_aload_n X.1 X.2.1 d rfl (zL_at h hl) (k ls H locs h hP hS hE)
theorem x_aload (X : zX p s m args c cc nL own D G ad) {i : Nat} {x : Nat} (d : decode cc pc = .ok (.aload i, 2)) (hl : zL lv i = some (.ref x))
    (k : xV E p l e R s m args below meth c nL D G ad cells slots Q (pc + 2) lv (.ref x :: st) σ) : xV E p l e R s m args below meth c nL D G ad cells slots Q pc lv st σ :=
  fun ls H locs h hP hS hE => lv_aload X.1 X.2.1 d (zL_at h hl) (k ls H locs h hP hS hE)
theorem x_istore_n (X : zX p s m args c cc nL own D G ad) {i : Fin 4} {x : Int} (d : decode cc pc = .ok (.istore_n i, 1)) (hn : i.val < nL)
    (k : xV E p l e R s m args below meth c nL D G ad cells slots Q (pc + 1) (zF1 i.val (vI x) lv) st σ) : xV E p l e R s m args below meth c nL D G ad cells slots Q pc lv (vI x :: st) σ :=
  fun ls H locs h hP hS hE => lv_istore_n X.1 X.2.1 d rfl h hn rfl (fun ls' h' => k ls' H locs h' hP hS hE)
theorem x_istore (X : zX p s m args c cc nL own D G ad) {i : Nat} {x : Int} (d : decode cc pc = .ok (.istore i, 2)) (hn : i < nL)
    (k : xV E p l e R s m args below meth c nL D G ad cells slots Q (pc + 2) (zF1 i (vI x) lv) st σ) : xV E p l e R s m args below meth c nL D G ad cells slots Q pc lv (vI x :: st) σ :=
  fun ls H locs h hP hS hE => lv_istore X.1 X.2.1 d h hn rfl (fun ls' h' => k ls' H locs h' hP hS hE)
theorem x_astore_n (X : zX p s m args c cc nL own D G ad) {i : Fin 4} {x : Nat} (d : decode cc pc = .ok (.astore_n i, 1)) (hn : i.val < nL)
    (k : xV E p l e R s m args below meth c nL D G ad cells slots Q (pc + 1) (zF1 i.val (.ref x) lv) st σ) : xV E p l e R s m args below meth c nL D G ad cells slots Q pc lv (.ref x :: st) σ :=
  fun ls H locs h hP hS hE => lv_astore_n X.1 X.2.1 d rfl h hn rfl (fun ls' h' => k ls' H locs h' hP hS hE)
theorem x_iinc (X : zX p s m args c cc nL own D G ad) {i : Nat} {n x : Int} (d : decode cc pc = .ok (.iinc i n, 3)) (hl : zL lv i = some (vI x)) (hn : i < nL)
    (k : xV E p l e R s m args below meth c nL D G ad cells slots Q (pc + 3) (zF1 i (vI (x + n)) lv) st σ) : xV E p l e R s m args below meth c nL D G ad cells slots Q pc lv st σ := by
  intro ls H locs h hP hS hE
  obtain ⟨j, hj⟩ : ∃ j : Nat, lv[j]? = some (i, vI x) := by
    unfold zL at hl
    obtain ⟨q, hq, hv⟩ := Option.map_eq_some_iff.mp hl
    have h1 := List.mem_of_find?_eq_some hq
    have h2 := List.find?_some hq
    have h4 : q.1 = i := by simpa using h2
    obtain ⟨j, hj⟩ := List.mem_iff_getElem?.mp h1
    exact ⟨j, by rw [hj, ← h4, ← hv]⟩
  exact lv_iinc X.1 X.2.1 d h hj (iI_add x n) hn rfl (fun ls' h' => k ls' H locs h' hP hS hE)
theorem x_iadd (X : zX p s m args c cc nL own D G ad) {a b : Int} (d : decode cc pc = .ok (.iadd, 1))
    (k : xV E p l e R s m args below meth c nL D G ad cells slots Q (pc + 1) lv (vI (a + b) :: st) σ) : xV E p l e R s m args below meth c nL D G ad cells slots Q pc lv (vI b :: vI a :: st) σ :=
  fun ls H locs h hP hS hE => lv_iadd X.1 X.2.1 d (by rw [iI_add]; exact k ls H locs h hP hS hE)
theorem x_isub (X : zX p s m args c cc nL own D G ad) {a b : Int} (d : decode cc pc = .ok (.isub, 1))
    (k : xV E p l e R s m args below meth c nL D G ad cells slots Q (pc + 1) lv (vI (a - b) :: st) σ) : xV E p l e R s m args below meth c nL D G ad cells slots Q pc lv (vI b :: vI a :: st) σ :=
  fun ls H locs h hP hS hE => lv_isub X.1 X.2.1 d (by rw [iI_sub]; exact k ls H locs h hP hS hE)
theorem x_imul (X : zX p s m args c cc nL own D G ad) {a b : Int} (d : decode cc pc = .ok (.imul, 1))
    (k : xV E p l e R s m args below meth c nL D G ad cells slots Q (pc + 1) lv (vI (a * b) :: st) σ) : xV E p l e R s m args below meth c nL D G ad cells slots Q pc lv (vI b :: vI a :: st) σ :=
  fun ls H locs h hP hS hE => lv_imul X.1 X.2.1 d (by rw [iI_mul]; exact k ls H locs h hP hS hE)
theorem x_and (X : zX p s m args c cc nL own D G ad) {a b z : Int} (d : decode cc pc = .ok (.iand, 1)) (hz : iI a &&& iI b = iI z)
    (k : xV E p l e R s m args below meth c nL D G ad cells slots Q (pc + 1) lv (vI z :: st) σ) : xV E p l e R s m args below meth c nL D G ad cells slots Q pc lv (vI b :: vI a :: st) σ :=
  fun ls H locs h hP hS hE => lv_iand X.1 X.2.1 d (by rw [hz]; exact k ls H locs h hP hS hE)
theorem x_or (X : zX p s m args c cc nL own D G ad) {a b z : Int} (d : decode cc pc = .ok (.ior, 1)) (hz : iI a ||| iI b = iI z)
    (k : xV E p l e R s m args below meth c nL D G ad cells slots Q (pc + 1) lv (vI z :: st) σ) : xV E p l e R s m args below meth c nL D G ad cells slots Q pc lv (vI b :: vI a :: st) σ :=
  fun ls H locs h hP hS hE => lv_ior X.1 X.2.1 d (by rw [hz]; exact k ls H locs h hP hS hE)
theorem x_xor (X : zX p s m args c cc nL own D G ad) {a b z : Int} (d : decode cc pc = .ok (.ixor, 1)) (hz : iI a ^^^ iI b = iI z)
    (k : xV E p l e R s m args below meth c nL D G ad cells slots Q (pc + 1) lv (vI z :: st) σ) : xV E p l e R s m args below meth c nL D G ad cells slots Q pc lv (vI b :: vI a :: st) σ :=
  fun ls H locs h hP hS hE => lv_ixor X.1 X.2.1 d (by rw [hz]; exact k ls H locs h hP hS hE)
theorem x_shl (X : zX p s m args c cc nL own D G ad) {a b z : Int} (d : decode cc pc = .ok (.ishl, 1)) (hz : iI a <<< (iI b &&& 31) = iI z)
    (k : xV E p l e R s m args below meth c nL D G ad cells slots Q (pc + 1) lv (vI z :: st) σ) : xV E p l e R s m args below meth c nL D G ad cells slots Q pc lv (vI b :: vI a :: st) σ :=
  fun ls H locs h hP hS hE => lv_ishl X.1 X.2.1 d (by rw [hz]; exact k ls H locs h hP hS hE)
theorem x_shr (X : zX p s m args c cc nL own D G ad) {a b z : Int} (d : decode cc pc = .ok (.ishr, 1)) (hz : iI a >>> (iI b &&& 31) = iI z)
    (k : xV E p l e R s m args below meth c nL D G ad cells slots Q (pc + 1) lv (vI z :: st) σ) : xV E p l e R s m args below meth c nL D G ad cells slots Q pc lv (vI b :: vI a :: st) σ :=
  fun ls H locs h hP hS hE => lv_ishr X.1 X.2.1 d (by rw [hz]; exact k ls H locs h hP hS hE)
theorem x_dup (X : zX p s m args c cc nL own D G ad) {v : Value} (d : decode cc pc = .ok (.dup, 1)) (hv : v.category = 1)
    (k : xV E p l e R s m args below meth c nL D G ad cells slots Q (pc + 1) lv (v :: v :: st) σ) : xV E p l e R s m args below meth c nL D G ad cells slots Q pc lv (v :: st) σ :=
  fun ls H locs h hP hS hE => lv_dup X.1 X.2.1 d hv (k ls H locs h hP hS hE)
theorem x_dup2 (X : zX p s m args c cc nL own D G ad) {v w : Value} (d : decode cc pc = .ok (.dup2, 1)) (hv : v.category = 1) (hw : w.category = 1)
    (k : xV E p l e R s m args below meth c nL D G ad cells slots Q (pc + 1) lv (v :: w :: v :: w :: st) σ) : xV E p l e R s m args below meth c nL D G ad cells slots Q pc lv (v :: w :: st) σ :=
  fun ls H locs h hP hS hE => lv_dup2_11 X.1 X.2.1 d hv hw (k ls H locs h hP hS hE)
theorem x_pop (X : zX p s m args c cc nL own D G ad) {v : Value} (d : decode cc pc = .ok (.pop, 1)) (hv : v.category = 1)
    (k : xV E p l e R s m args below meth c nL D G ad cells slots Q (pc + 1) lv st σ) : xV E p l e R s m args below meth c nL D G ad cells slots Q pc lv (v :: st) σ :=
  fun ls H locs h hP hS hE => lv_pop X.1 X.2.1 d hv (k ls H locs h hP hS hE)
theorem x_goto (X : zX p s m args c cc nL own D G ad) {off : Int} (tgt : Nat) (d : decode cc pc = .ok (.goto off, 3)) (ht : (pc : Int) + off = (tgt : Int))
    (k : xV E p l e R s m args below meth c nL D G ad cells slots Q tgt lv st σ) : xV E p l e R s m args below meth c nL D G ad cells slots Q pc lv st σ :=
  fun ls H locs h hP hS hE => lv_goto X.1 X.2.1 d ht (k ls H locs h hP hS hE)
theorem x_if_eq (X : zX p s m args c cc nL own D G ad) {a off : Int} (tgt : Nat) (d : decode cc pc = .ok (.ifCond .eq off, 3)) (ht : (pc : Int) + off = (tgt : Int)) (ha : zB a)
    (kt : a = 0 → xV E p l e R s m args below meth c nL D G ad cells slots Q tgt lv st σ) (kf : a ≠ 0 → xV E p l e R s m args below meth c nL D G ad cells slots Q (pc + 3) lv st σ) : xV E p l e R s m args below meth c nL D G ad cells slots Q pc lv (vI a :: st) σ :=
  fun ls H locs h hP hS hE => lv_if_eq X.1 X.2.1 d ht (fun h1 => kt ((iI_eq0 ha).mp h1) ls H locs h hP hS hE) (fun h1 => kf (fun h2 => h1 ((iI_eq0 ha).mpr h2)) ls H locs h hP hS hE)
theorem x_icmp_eq (X : zX p s m args c cc nL own D G ad) {a b off : Int} (tgt : Nat) (d : decode cc pc = .ok (.if_icmp .eq off, 3)) (ht : (pc : Int) + off = (tgt : Int)) (ha : zB a) (hb : zB b)
    (kt : a = b → xV E p l e R s m args below meth c nL D G ad cells slots Q tgt lv st σ) (kf : a ≠ b → xV E p l e R s m args below meth c nL D G ad cells slots Q (pc + 3) lv st σ) : xV E p l e R s m args below meth c nL D G ad cells slots Q pc lv (vI b :: vI a :: st) σ :=
  fun ls H locs h hP hS hE => lv_icmp_eq X.1 X.2.1 d ht (fun h1 => kt ((iI_eq ha hb).mp h1) ls H locs h hP hS hE) (fun h1 => kf (fun h2 => h1 ((iI_eq ha hb).mpr h2)) ls H locs h hP hS hE)
theorem x_if_ne (X : zX p s m args c cc nL own D G ad) {a off : Int} (tgt : Nat) (d : decode cc pc = .ok (.ifCond .ne off, 3)) (ht : (pc : Int) + off = (tgt : Int)) (ha : zB a)
    (kt : a ≠ 0 → xV E p l e R s m args below meth c nL D G ad cells slots Q tgt lv st σ) (kf : a = 0 → xV E p l e R s m args below meth c nL D G ad cells slots Q (pc + 3) lv st σ) : xV E p l e R s m args below meth c nL D G ad cells slots Q pc lv (vI a :: st) σ :=
  fun ls H locs h hP hS hE => lv_if_ne X.1 X.2.1 d ht (fun h1 => kt (fun h2 => h1 ((iI_eq0 ha).mpr h2)) ls H locs h hP hS hE) (fun h1 => kf (by first | exact (iI_eq0 ha).mp h1 | exact (iI_eq0 ha).mp (Decidable.not_not.mp h1)) ls H locs h hP hS hE)
theorem x_icmp_ne (X : zX p s m args c cc nL own D G ad) {a b off : Int} (tgt : Nat) (d : decode cc pc = .ok (.if_icmp .ne off, 3)) (ht : (pc : Int) + off = (tgt : Int)) (ha : zB a) (hb : zB b)
    (kt : a ≠ b → xV E p l e R s m args below meth c nL D G ad cells slots Q tgt lv st σ) (kf : a = b → xV E p l e R s m args below meth c nL D G ad cells slots Q (pc + 3) lv st σ) : xV E p l e R s m args below meth c nL D G ad cells slots Q pc lv (vI b :: vI a :: st) σ :=
  fun ls H locs h hP hS hE => lv_icmp_ne X.1 X.2.1 d ht (fun h1 => kt (fun h2 => h1 ((iI_eq ha hb).mpr h2)) ls H locs h hP hS hE) (fun h1 => kf (by first | exact (iI_eq ha hb).mp h1 | exact (iI_eq ha hb).mp (Decidable.not_not.mp h1)) ls H locs h hP hS hE)
theorem x_if_lt (X : zX p s m args c cc nL own D G ad) {a off : Int} (tgt : Nat) (d : decode cc pc = .ok (.ifCond .lt off, 3)) (ht : (pc : Int) + off = (tgt : Int)) (ha : zB a)
    (kt : a < 0 → xV E p l e R s m args below meth c nL D G ad cells slots Q tgt lv st σ) (kf : 0 ≤ a → xV E p l e R s m args below meth c nL D G ad cells slots Q (pc + 3) lv st σ) : xV E p l e R s m args below meth c nL D G ad cells slots Q pc lv (vI a :: st) σ :=
  fun ls H locs h hP hS hE => lv_if_lt X.1 X.2.1 d ht (fun h1 => kt ((iI_lt0 ha).mp h1) ls H locs h hP hS hE) (fun h1 => kf (Int.not_lt.mp (fun h2 => h1 ((iI_lt0 ha).mpr h2))) ls H locs h hP hS hE)
theorem x_icmp_lt (X : zX p s m args c cc nL own D G ad) {a b off : Int} (tgt : Nat) (d : decode cc pc = .ok (.if_icmp .lt off, 3)) (ht : (pc : Int) + off = (tgt : Int)) (ha : zB a) (hb : zB b)
    (kt : a < b → xV E p l e R s m args below meth c nL D G ad cells slots Q tgt lv st σ) (kf : b ≤ a → xV E p l e R s m args below meth c nL D G ad cells slots Q (pc + 3) lv st σ) : xV E p l e R s m args below meth c nL D G ad cells slots Q pc lv (vI b :: vI a :: st) σ :=
  fun ls H locs h hP hS hE => lv_icmp_lt X.1 X.2.1 d ht (fun h1 => kt ((iI_lt ha hb).mp h1) ls H locs h hP hS hE) (fun h1 => kf (Int.not_lt.mp (fun h2 => h1 ((iI_lt ha hb).mpr h2))) ls H locs h hP hS hE)
theorem x_if_ge (X : zX p s m args c cc nL own D G ad) {a off : Int} (tgt : Nat) (d : decode cc pc = .ok (.ifCond .ge off, 3)) (ht : (pc : Int) + off = (tgt : Int)) (ha : zB a)
    (kt : 0 ≤ a → xV E p l e R s m args below meth c nL D G ad cells slots Q tgt lv st σ) (kf : a < 0 → xV E p l e R s m args below meth c nL D G ad cells slots Q (pc + 3) lv st σ) : xV E p l e R s m args below meth c nL D G ad cells slots Q pc lv (vI a :: st) σ :=
  fun ls H locs h hP hS hE => lv_if_ge X.1 X.2.1 d ht (fun h1 => kt ((iI_0le ha).mp h1) ls H locs h hP hS hE) (fun h1 => kf (Int.not_le.mp (fun h2 => h1 ((iI_0le ha).mpr h2))) ls H locs h hP hS hE)
theorem x_icmp_ge (X : zX p s m args c cc nL own D G ad) {a b off : Int} (tgt : Nat) (d : decode cc pc = .ok (.if_icmp .ge off, 3)) (ht : (pc : Int) + off = (tgt : Int)) (ha : zB a) (hb : zB b)
    (kt : b ≤ a → xV E p l e R s m args below meth c nL D G ad cells slots Q tgt lv st σ) (kf : a < b → xV E p l e R s m args below meth c nL D G ad cells slots Q (pc + 3) lv st σ) : xV E p l e R s m args below meth c nL D G ad cells slots Q pc lv (vI b :: vI a :: st) σ :=
  fun ls H locs h hP hS hE => lv_icmp_ge X.1 X.2.1 d ht (fun h1 => kt ((iI_le hb ha).mp h1) ls H locs h hP hS hE) (fun h1 => kf (Int.not_le.mp (fun h2 => h1 ((iI_le hb ha).mpr h2))) ls H locs h hP hS hE)
theorem x_if_gt (X : zX p s m args c cc nL own D G ad) {a off : Int} (tgt : Nat) (d : decode cc pc = .ok (.ifCond .gt off, 3)) (ht : (pc : Int) + off = (tgt : Int)) (ha : zB a)
    (kt : 0 < a → xV E p l e R s m args below meth c nL D G ad cells slots Q tgt lv st σ) (kf : a ≤ 0 → xV E p l e R s m args below meth c nL D G ad cells slots Q (pc + 3) lv st σ) : xV E p l e R s m args below meth c nL D G ad cells slots Q pc lv (vI a :: st) σ :=
  fun ls H locs h hP hS hE => lv_if_gt X.1 X.2.1 d ht (fun h1 => kt ((iI_0lt ha).mp h1) ls H locs h hP hS hE) (fun h1 => kf (Int.not_lt.mp (fun h2 => h1 ((iI_0lt ha).mpr h2))) ls H locs h hP hS hE)
theorem x_icmp_gt (X : zX p s m args c cc nL own D G ad) {a b off : Int} (tgt : Nat) (d : decode cc pc = .ok (.if_icmp .gt off, 3)) (ht : (pc : Int) + off = (tgt : Int)) (ha : zB a) (hb : zB b)
    (kt : b < a → xV E p l e R s m args below meth c nL D G ad cells slots Q tgt lv st σ) (kf : a ≤ b → xV E p l e R s m args below meth c nL D G ad cells slots Q (pc + 3) lv st σ) : xV E p l e R s m args below meth c nL D G ad cells slots Q pc lv (vI b :: vI a :: st) σ :=
  fun ls H locs h hP hS hE => lv_icmp_gt X.1 X.2.1 d ht (fun h1 => kt ((iI_lt hb ha).mp h1) ls H locs h hP hS hE) (fun h1 => kf (Int.not_lt.mp (fun h2 => h1 ((iI_lt hb ha).mpr h2))) ls H locs h hP hS hE)
theorem x_if_le (X : zX p s m args c cc nL own D G ad) {a off : Int} (tgt : Nat) (d : decode cc pc = .ok (.ifCond .le off, 3)) (ht : (pc : Int) + off = (tgt : Int)) (ha : zB a)
    (kt : a ≤ 0 → xV E p l e R s m args below meth c nL D G ad cells slots Q tgt lv st σ) (kf : 0 < a → xV E p l e R s m args below meth c nL D G ad cells slots Q (pc + 3) lv st σ) : xV E p l e R s m args below meth c nL D G ad cells slots Q pc lv (vI a :: st) σ :=
  fun ls H locs h hP hS hE => lv_if_le X.1 X.2.1 d ht (fun h1 => kt ((iI_le0 ha).mp h1) ls H locs h hP hS hE) (fun h1 => kf (Int.not_le.mp (fun h2 => h1 ((iI_le0 ha).mpr h2))) ls H locs h hP hS hE)
theorem x_icmp_le (X : zX p s m args c cc nL own D G ad) {a b off : Int} (tgt : Nat) (d : decode cc pc = .ok (.if_icmp .le off, 3)) (ht : (pc : Int) + off = (tgt : Int)) (ha : zB a) (hb : zB b)
    (kt : a ≤ b → xV E p l e R s m args below meth c nL D G ad cells slots Q tgt lv st σ) (kf : b < a → xV E p l e R s m args below meth c nL D G ad cells slots Q (pc + 3) lv st σ) : xV E p l e R s m args below meth c nL D G ad cells slots Q pc lv (vI b :: vI a :: st) σ :=
  fun ls H locs h hP hS hE => lv_icmp_le X.1 X.2.1 d ht (fun h1 => kt ((iI_le ha hb).mp h1) ls H locs h hP hS hE) (fun h1 => kf (Int.not_le.mp (fun h2 => h1 ((iI_le ha hb).mpr h2))) ls H locs h hP hS hE)
theorem x_ifb_eq (X : zX p s m args c cc nL own D G ad) {P : Prop} {i : Decidable P} {off : Int} (tgt : Nat) (d : decode cc pc = .ok (.ifCond .eq off, 3)) (ht : (pc : Int) + off = (tgt : Int))
    (kt : ¬ P → xV E p l e R s m args below meth c nL D G ad cells slots Q tgt lv st σ) (kf : P → xV E p l e R s m args below meth c nL D G ad cells slots Q (pc + 3) lv st σ) : xV E p l e R s m args below meth c nL D G ad cells slots Q pc lv (vI (@ite Int P i 1 0) :: st) σ :=
  x_if_eq X tgt d ht zB_ite (fun h => kt (fun h2 => by rw [if_pos h2] at h; exact absurd h (by decide))) (fun h => kf (Decidable.byContradiction (fun h2 => h (if_neg h2))))
theorem x_ifb_ne (X : zX p s m args c cc nL own D G ad) {P : Prop} {i : Decidable P} {off : Int} (tgt : Nat) (d : decode cc pc = .ok (.ifCond .ne off, 3)) (ht : (pc : Int) + off = (tgt : Int))
    (kt : P → xV E p l e R s m args below meth c nL D G ad cells slots Q tgt lv st σ) (kf : ¬ P → xV E p l e R s m args below meth c nL D G ad cells slots Q (pc + 3) lv st σ) : xV E p l e R s m args below meth c nL D G ad cells slots Q pc lv (vI (@ite Int P i 1 0) :: st) σ :=
  x_if_ne X tgt d ht zB_ite (fun h => kt (Decidable.byContradiction (fun h2 => h (if_neg h2)))) (fun h => kf (fun h2 => by rw [if_pos h2] at h; exact absurd h (by decide)))
theorem x_idivP (X : zX p s m args c cc nL own D G ad) {a b : Int} (h0 : 0 ≤ a) (h1 : a < 2147483648) (b0 : 0 < b) (b1 : b < 2147483648) (d : decode cc pc = .ok (.idiv, 1))
    (k : xV E p l e R s m args below meth c nL D G ad cells slots Q (pc + 1) lv (vI (a / b) :: st) σ) : xV E p l e R s m args below meth c nL D G ad cells slots Q pc lv (vI b :: vI a :: st) σ :=
  fun ls H locs h hP hS hE => lv_idiv X.1 X.2.1 d (fun q => absurd ((iI_eq0 (by unfold zB; omega)).mp q) (by omega)) (by
    have hq : 0 ≤ a / b := Int.ediv_nonneg h0 (by omega)
    rw [iI_nI h0, iI_nI (show 0 ≤ b by omega), pk_div (by omega) (by omega) (by omega), nI_div h0 (by omega), ← iI_nI hq]
    exact k ls H locs h hP hS hE)
theorem x_iremP (X : zX p s m args c cc nL own D G ad) {a b : Int} (h0 : 0 ≤ a) (h1 : a < 2147483648) (b0 : 0 < b) (b1 : b < 2147483648) (d : decode cc pc = .ok (.irem, 1))
    (k : xV E p l e R s m args below meth c nL D G ad cells slots Q (pc + 1) lv (vI (a % b) :: st) σ) : xV E p l e R s m args below meth c nL D G ad cells slots Q pc lv (vI b :: vI a :: st) σ :=
  fun ls H locs h hP hS hE => lv_irem X.1 X.2.1 d (fun q => absurd ((iI_eq0 (by unfold zB; omega)).mp q) (by omega)) (by
    have hq : 0 ≤ a % b := Int.emod_nonneg a (by omega)
    rw [iI_nI h0, iI_nI (show 0 ≤ b by omega), pk_rem (by omega) (by omega) (by omega), nI_rem h0 (by omega), ← iI_nI hq]
    exact k ls H locs h hP hS hE)
theorem x_ldc (X : zX p s m args c cc nL own D G ad) {ix : Nat} {n : Int} {v : Int32} (hw : Cond.constant own ix v ∈ zU) (hv : v = iI n) (d : decode cc pc = .ok (.ldc ix, 2))
    (k : xV E p l e R s m args below meth c nL D G ad cells slots Q (pc + 2) lv (vI n :: st) σ) : xV E p l e R s m args below meth c nL D G ad cells slots Q pc lv st σ :=
  fun ls H locs h hP hS hE => lv_ldc X.1 X.2.1 X.2.2.2.1 (X.2.2.2.2.1 _ hw) d (by subst hv; exact k ls H locs h hP hS hE)
theorem x_callVI0 (X : zX p s m args c cc nL own D G ad) {idx ci k maxL d : Nat} {C : String} {T : u_T} {N : Nat} {y : MethodName} {bytes : ByteArray} {ret : Option FieldType} {fs : List Value} {Post : Int → zM → Prop} (hst : ∀ H H1 : Heap, H.size ≤ H1.size → (∀ q : Nat, q < H.size → ¬ zA ad H.size q → H1[q]? = H[q]?) → E H → E H1) (hM : zKI l D G ad y bytes maxL ret d (.ref (ad k) :: []) σ Post) (K : zLkV own idx C y bytes maxL ret 0) (hcl : vwCl[ci]? = some (C, T, N)) (hk : zIn k) (hc : zC ad G k (σ.1 k) (σ.2 k) = .inr (ci, fs)) (hR : d + 1 ≤ R.frames ∧ 8 + (maxL + 11) + 30 * d ≤ R.locals) (hW : (st.map fun v => v.category).sum ≤ 8) (hcs : cells ≤ R.cells ∧ slots ≤ R.slots) (dd : decode cc pc = .ok (.invokevirtual idx, 3))
    (kk : ∀ (z : Int) (σ1 : zM), Post z σ1 → xV E p l e R s m args below meth c nL D G ad cells slots Q (pc + 3) lv (vI z :: st) σ1) : xV E p l e R s m args below meth c nL D G ad cells slots Q pc lv (.ref (ad k) :: st) σ :=
  fun ls H locs h hP hS hE => va_calli (z_runV X (As := []) (hM _) K hcl hk hc rfl hR hW dd rfl h hP hS hcs) hS (zA_old hS) (zA_free hS) (fun r σ1 t H1 locs1 ht _ hp hB hle hkp hS1 => by
    obtain ⟨z, rfl, hp⟩ := hp
    exact kk z σ1 hp ls H1 locs1 h (by rw [← ht]; exact hB) hS1 (hst H H1 hle hkp hE))
theorem x_callVI1 (X : zX p s m args c cc nL own D G ad) {idx ci k maxL d : Nat} {C : String} {T : u_T} {N : Nat} {y : MethodName} {bytes : ByteArray} {ret : Option FieldType} {fs : List Value} {a0 : Value} {Post : Int → zM → Prop} (hst : ∀ H H1 : Heap, H.size ≤ H1.size → (∀ q : Nat, q < H.size → ¬ zA ad H.size q → H1[q]? = H[q]?) → E H → E H1) (hM : zKI l D G ad y bytes maxL ret d (.ref (ad k) :: [a0]) σ Post) (K : zLkV own idx C y bytes maxL ret 1) (hcl : vwCl[ci]? = some (C, T, N)) (hk : zIn k) (hc : zC ad G k (σ.1 k) (σ.2 k) = .inr (ci, fs)) (hR : d + 1 ≤ R.frames ∧ 8 + (maxL + 11) + 30 * d ≤ R.locals) (hW : (st.map fun v => v.category).sum ≤ 8) (hcs : cells ≤ R.cells ∧ slots ≤ R.slots) (dd : decode cc pc = .ok (.invokevirtual idx, 3))
    (kk : ∀ (z : Int) (σ1 : zM), Post z σ1 → xV E p l e R s m args below meth c nL D G ad cells slots Q (pc + 3) lv (vI z :: st) σ1) : xV E p l e R s m args below meth c nL D G ad cells slots Q pc lv (a0 :: .ref (ad k) :: st) σ :=
  fun ls H locs h hP hS hE => va_calli (z_runV X (As := [a0]) (hM _) K hcl hk hc rfl hR hW dd rfl h hP hS hcs) hS (zA_old hS) (zA_free hS) (fun r σ1 t H1 locs1 ht _ hp hB hle hkp hS1 => by
    obtain ⟨z, rfl, hp⟩ := hp
    exact kk z σ1 hp ls H1 locs1 h (by rw [← ht]; exact hB) hS1 (hst H H1 hle hkp hE))
theorem x_callVI2 (X : zX p s m args c cc nL own D G ad) {idx ci k maxL d : Nat} {C : String} {T : u_T} {N : Nat} {y : MethodName} {bytes : ByteArray} {ret : Option FieldType} {fs : List Value} {a0 a1 : Value} {Post : Int → zM → Prop} (hst : ∀ H H1 : Heap, H.size ≤ H1.size → (∀ q : Nat, q < H.size → ¬ zA ad H.size q → H1[q]? = H[q]?) → E H → E H1) (hM : zKI l D G ad y bytes maxL ret d (.ref (ad k) :: [a0, a1]) σ Post) (K : zLkV own idx C y bytes maxL ret 2) (hcl : vwCl[ci]? = some (C, T, N)) (hk : zIn k) (hc : zC ad G k (σ.1 k) (σ.2 k) = .inr (ci, fs)) (hR : d + 1 ≤ R.frames ∧ 8 + (maxL + 11) + 30 * d ≤ R.locals) (hW : (st.map fun v => v.category).sum ≤ 8) (hcs : cells ≤ R.cells ∧ slots ≤ R.slots) (dd : decode cc pc = .ok (.invokevirtual idx, 3))
    (kk : ∀ (z : Int) (σ1 : zM), Post z σ1 → xV E p l e R s m args below meth c nL D G ad cells slots Q (pc + 3) lv (vI z :: st) σ1) : xV E p l e R s m args below meth c nL D G ad cells slots Q pc lv (a1 :: a0 :: .ref (ad k) :: st) σ :=
  fun ls H locs h hP hS hE => va_calli (z_runV X (As := [a0, a1]) (hM _) K hcl hk hc rfl hR hW dd rfl h hP hS hcs) hS (zA_old hS) (zA_free hS) (fun r σ1 t H1 locs1 ht _ hp hB hle hkp hS1 => by
    obtain ⟨z, rfl, hp⟩ := hp
    exact kk z σ1 hp ls H1 locs1 h (by rw [← ht]; exact hB) hS1 (hst H H1 hle hkp hE))
/-- the law's small row -/
abbrev sC (G : zG) (f : Nat → Int) : va_E := .inl (G.1, 8, .inl (fun j => iI (f j)))
def sE (D : va_G) (G : zG) (q0 : Nat) (f : Nat → Int) : Heap → Prop := fun H => va_at D vwCl (q0, sC G f) H
theorem sE_st {q0 : Nat} {f : Nat → Int} (hq : ∀ k, zIn k → ad k ≠ q0) : ∀ H H1 : Heap, H.size ≤ H1.size → (∀ q : Nat, q < H.size → ¬ zA ad H.size q → H1[q]? = H[q]?) → sE D G q0 f H → sE D G q0 f H1 := fun H H1 _ hk hE =>
  va_at.kept hE (hk q0 (va_at.lt hE) (fun z => by
    rcases z with ⟨k, h1, h2⟩ | z
    · exact hq k h1 h2.symm
    · have := va_at.lt hE
      exact absurd this (Nat.not_lt.mpr z)))
theorem x_seld (X : zX p s m args c cc nL own D G ad) {q0 : Nat} {f : Nat → Int} {i : Int} (h0 : 0 ≤ i) (h1 : i < 8) (d : decode cc pc = .ok (.iaload, 1))
    (k : xV (sE D G q0 f) p l e R s m args below meth c nL D G ad cells slots Q (pc + 1) lv (vI (f i.toNat) :: st) σ) : xV (sE D G q0 f) p l e R s m args below meth c nL D G ad cells slots Q pc lv (vI i :: .ref q0 :: st) σ :=
  fun ls H locs h hP hS hE => va_iald (D := D) X.1 X.2.1 X.2.2.2.2.2.1 (va_P1 hE) 0 0 rfl rfl (iI_in h0 h1 (by decide)) d (by rw [iI_clamp h0 (by omega)]; exact k ls H locs h hP hS hE)
theorem zS_last {x : Nat × va_E} : (zW ad G σ ++ [x])[71]? = some x := by
  rw [List.getElem?_append_right (by rw [zW_len]; exact Nat.le_refl _), zW_len]; rfl
theorem zS_fst {x : Nat × va_E} {i : Nat} (h : i < 71) : (zW ad G σ ++ [x])[i]? = (zW ad G σ)[i]? := List.getElem?_append_left (by rw [zW_len]; exact h)
theorem zW_lt {i : Nat} {q : Nat × va_E} (h : (zW ad G σ)[i]? = some q) : i < 71 := by
  have := (List.getElem?_eq_some_iff.mp h).1
  rw [zW_len] at this; exact this
theorem x_sest (X : zX p s m args c cc nL own D G ad) {q0 : Nat} {f : Nat → Int} {i x : Int} (hq : ∀ k, zIn k → ad k ≠ q0) (hs : s.heap.size ≤ q0) (h0 : 0 ≤ i) (h1 : i < 8) (d : decode cc pc = .ok (.iastore, 1))
    (k : xV (sE D G q0 (fun j => if j = i.toNat then x else f j)) p l e R s m args below meth c nL D G ad cells slots Q (pc + 1) lv st σ) : xV (sE D G q0 f) p l e R s m args below meth c nL D G ad cells slots Q pc lv (vI x :: vI i :: .ref q0 :: st) σ :=
  fun ls H locs h hP hS hE => va_iast (D := D) (a := q0) X.1 X.2.1 X.2.2.2.2.2.1 (va_P.app hP (va_P1 hE)) (va_D.app (zD_here X.2.2.2.2.2.2.1) (va_D1 (Or.inr hs)) (fun i j a b h1 h2 he => by
    have hi := zW_lt h1
    rw [zW_at hi] at h1
    cases h1
    cases j with
    | zero => cases h2; exact hq _ (zq_in hi) he
    | succ j => cases h2)) hS 71 0 zS_last rfl (iI_in h0 h1 (by decide)) d (fun H1 locs1 hP1 _ hS1 => k ls H1 locs1 h (fun i q hi => hP1 i q (by rw [List.getElem?_set_ne (by have := zW_lt hi; omega), zS_fst (zW_lt hi)]; exact hi)) hS1 (by
      have h9 := hP1 71 _ (List.getElem?_set_self (by rw [List.length_append, zW_len]; exact Nat.lt_succ_self 71))
      rw [iI_clamp h0 (by omega)] at h9
      have e : (upd (fun j => iI (f j)) i.toNat (iI x)) = fun j => iI (if j = i.toNat then x else f j) := funext fun j => by
        show (if j = i.toNat then iI x else iI (f j)) = iI (if j = i.toNat then x else f j)
        by_cases e : j = i.toNat
        · rw [if_pos e, if_pos e]
        · rw [if_neg e, if_neg e]
      rw [e] at h9
      exact h9))
theorem z_newSe (X : zX p s m args c cc nL own D G ad) (hw : Cond.arrayClass .int ∈ zU) (hc : cells + 1 ≤ R.cells) (hs : slots + 8 ≤ R.slots) (d : decode cc pc = .ok (.newarray .int, 2))
    (k : ∀ q0, s.heap.size ≤ q0 → (∀ k, zIn k → ad k ≠ q0) → xV (sE D G q0 (fun _ => 0)) p l e R s m args below meth c nL D G ad (cells + 1) (slots + 8) Q (pc + 2) lv (.ref q0 :: st) σ) : zV p l e R s m args below meth c nL D G ad cells slots Q pc lv (vI 8 :: st) σ :=
  fun ls H locs h hP hS => va_newa (atype := .int) (ty := .int) (a0 := (8, .inl (fun _ => iI 0))) X.1 X.2.1 (X.2.2.2.2.1 _ hw) rfl X.2.2.2.2.2.1 hP (zD_here X.2.2.2.2.2.2.1) hS (fun q hq => Or.inr hq) (fun cA => rfl) (by decide) (by decide) (by decide) hc hs d (fun q cA H1 hK1 hP1 hD1 hS1 => by
    have e1 : s.vm.findClass _ = some cA := (hK1.2 2 (cA, .int) rfl).2
    have e2 : s.vm.findClass _ = some G.1 := (X.2.2.2.2.2.1.2 0 (G.1, .int) rfl).2
    have e : cA = G.1 := Option.some.inj (e1.symm.trans e2)
    subst e
    have hd : ∀ k, zIn k → ad k ≠ q := fun k hk he => by
      have h1 := hD1.1 (zp k) 71 _ _ ((zS_fst (zp_lt hk)).trans (zW_get hk)) zS_last he
      have := zp_lt hk
      omega
    have hA := hD1.2 71 _ zS_last
    have hge : s.heap.size ≤ q := by
      rcases hA with ⟨k, hk, e⟩ | z
      · exact absurd e.symm (hd k hk)
      · exact z
    exact k q hge hd ls H1 locs h (fun i x hi => hP1 i x ((zS_fst (zW_lt hi)).trans hi)) hS1 (hP1 71 _ zS_last))
theorem x_zretC (X : zX p s m args c cc nL own D G ad) {sz k n : Nat} {z : Int} {Post : Int → zM → Prop} (hsz : s.heap.size = sz) (hr : meth.sig.returnType = some .boolean) (hlocks : meth.locks = false) (d : decode cc pc = .ok (.ireturn, 1)) (h01 : z = 0 ∨ z = 1) (hq : Post z σ) : xV E p l e R s m args below meth c nL D G ad k n (zEC below (zQI D G ad sz Post) args s ad k n) pc lv [vI z] σ := by
  subst hsz
  exact fun ls H locs h hP hS _ => W.zret X.1 X.2.1 hr (by rcases h01 with rfl | rfl <;> rfl) (fun t ht hW => ⟨⟨iI z, σ, rfl, ⟨z, rfl, hq⟩, (ht.symm ▸ hP : va_P D vwCl (zW ad G σ) t.heap)⟩, hS.F ht⟩) hS.2.2 d hlocks
end XR
theorem u_iniL : Cond.initialized RL ∈ zU := zU_mem 14 (by decide +kernel) (by decide +kernel)
theorem u_arI : Cond.arrayClass .int ∈ zU := zU_mem 76 (by decide +kernel) (by decide +kernel)
theorem kL_9 : zLkV RL 9 RX3 yX3_deals cX3_deals 1 (some .int) 0 := zLkV_of (zU_mem 119 (by decide +kernel) (by decide +kernel)) u_iX3_deals u_vX3_deals u_iniX3 u_cX3_deals u_dX3_deals
theorem kL_15 : zLkS RL 15 yL_up cL_up 2 (some .int) 2 := zLkS_of (zU_mem 315 (by decide +kernel) (by decide +kernel)) u_sL_up u_iniL u_cL_up u_dL_up
theorem kL_21 : zLkV RL 21 RX3 yX3_isUp cX3_isUp 2 (some .boolean) 1 := zLkV_of (zU_mem 322 (by decide +kernel) (by decide +kernel)) u_iX3_isUp u_vX3_isUp u_iniX3 u_cX3_isUp u_dX3_isUp
theorem kL_25 : zLkV RL 25 RX3 yX3_begin cX3_begin 4 (some .int) 3 := zLkV_of (zU_mem 347 (by decide +kernel) (by decide +kernel)) u_iX3_begin u_vX3_begin u_iniX3 u_cX3_begin u_dX3_begin
theorem kL_29 : zLkV RL 29 RX3 yX3_setPatience cX3_setPatience 2 (some .int) 1 := zLkV_of (zU_mem 392 (by decide +kernel) (by decide +kernel)) u_iX3_setPatience u_vX3_setPatience u_iniX3 u_cX3_setPatience u_dX3_setPatience
theorem kL_33 : zLkV RL 33 RX3 yX3_state cX3_state 3 (some .int) 2 := zLkV_of (zU_mem 401 (by decide +kernel) (by decide +kernel)) u_iX3_state u_vX3_state u_iniX3 u_cX3_state u_dX3_state
theorem kL_36 : zLkV RL 36 RX3 yX3_vote cX3_vote 4 (some .int) 3 := zLkV_of (zU_mem 416 (by decide +kernel) (by decide +kernel)) u_iX3_vote u_vX3_vote u_iniX3 u_cX3_vote u_dX3_vote
theorem kL_40 : zLkV RL 40 RX3 yX3_pass cX3_pass 2 (some .int) 1 := zLkV_of (zU_mem 442 (by decide +kernel) (by decide +kernel)) u_iX3_pass u_vX3_pass u_iniX3 u_cX3_pass u_dX3_pass
theorem kL_43 : zLkV RL 43 RX3 yX3_leader cX3_leader 2 (some .int) 1 := zLkV_of (zU_mem 471 (by decide +kernel) (by decide +kernel)) u_iX3_leader u_vX3_leader u_iniX3 u_cX3_leader u_dX3_leader
theorem kL_46 : zLkV RL 46 RX3 yX3_decision cX3_decision 2 (some .int) 1 := zLkV_of (zU_mem 476 (by decide +kernel) (by decide +kernel)) u_iX3_decision u_vX3_decision u_iniX3 u_cX3_decision u_dX3_decision
theorem kL_49 : zLkV RL 49 RX3 yX3_decide cX3_decide 2 (some .int) 1 := zLkV_of (zU_mem 481 (by decide +kernel) (by decide +kernel)) u_iX3_decide u_vX3_decide u_iniX3 u_cX3_decide u_dX3_decide
theorem kL_52 : zLkV RL 52 RX3 yX3_tell cX3_tell 3 (some .int) 2 := zLkV_of (zU_mem 499 (by decide +kernel) (by decide +kernel)) u_iX3_tell u_vX3_tell u_iniX3 u_cX3_tell u_dX3_tell
theorem kL_55 : zLkV RL 55 RX3 yX3_ask cX3_ask 4 (some .int) 3 := zLkV_of (zU_mem 513 (by decide +kernel) (by decide +kernel)) u_iX3_ask u_vX3_ask u_iniX3 u_cX3_ask u_dX3_ask
theorem kL_58 : zLkV RL 58 RX3 yX3_fallSilent cX3_fallSilent 2 (some .int) 1 := zLkV_of (zU_mem 521 (by decide +kernel) (by decide +kernel)) u_iX3_fallSilent u_vX3_fallSilent u_iniX3 u_cX3_fallSilent u_dX3_fallSilent
theorem kL_61 : zLkV RL 61 RX3 yX3_comeBack cX3_comeBack 2 (some .int) 1 := zLkV_of (zU_mem 530 (by decide +kernel) (by decide +kernel)) u_iX3_comeBack u_vX3_comeBack u_iniX3 u_cX3_comeBack u_dX3_comeBack
theorem kL_64 : zLkV RL 64 RX3 yX3_helper cX3_helper 3 (some .int) 2 := zLkV_of (zU_mem 545 (by decide +kernel) (by decide +kernel)) u_iX3_helper u_vX3_helper u_iniX3 u_cX3_helper u_dX3_helper
theorem kL_67 : zLkV RL 67 RX3 yX3_patience cX3_patience 3 (some .int) 2 := zLkV_of (zU_mem 550 (by decide +kernel) (by decide +kernel)) u_iX3_patience u_vX3_patience u_iniX3 u_cX3_patience u_dX3_patience
theorem kL_70 : zLkV RL 70 RX3 yX3_held cX3_held 2 (some .int) 1 := zLkV_of (zU_mem 555 (by decide +kernel) (by decide +kernel)) u_iX3_held u_vX3_held u_iniX3 u_cX3_held u_dX3_held
theorem kL_73 : zLkS RL 73 yL_areEntries cL_areEntries 9 (some .boolean) 2 := zLkS_of (zU_mem 560 (by decide +kernel) (by decide +kernel)) u_sL_areEntries u_iniL u_cL_areEntries u_dL_areEntries
theorem kL_77 : zLkV RL 77 RX3 yX3_open cX3_open 1 (some .int) 0 := zLkV_of (zU_mem 574 (by decide +kernel) (by decide +kernel)) u_iX3_open u_vX3_open u_iniX3 u_cX3_open u_dX3_open
theorem kL_80 : zLkV RL 80 RX3 yX3_stuck cX3_stuck 1 (some .int) 0 := zLkV_of (zU_mem 579 (by decide +kernel) (by decide +kernel)) u_iX3_stuck u_vX3_stuck u_iniX3 u_cX3_stuck u_dX3_stuck
theorem kL_83 : zLkV RL 83 RX3 yX3_doubtShare cX3_doubtShare 2 (some .double) 0 := zLkV_of (zU_mem 584 (by decide +kernel) (by decide +kernel)) u_iX3_doubtShare u_vX3_doubtShare u_iniX3 u_cX3_doubtShare u_dX3_doubtShare
theorem kL_87 : zLkV RL 87 RX3 yX3_logLength cX3_logLength 2 (some .int) 1 := zLkV_of (zU_mem 563 (by decide +kernel) (by decide +kernel)) u_iX3_logLength u_vX3_logLength u_iniX3 u_cX3_logLength u_dX3_logLength
theorem kL_90 : zLkV RL 90 RX3 yX3_log cX3_log 3 (some .int) 2 := zLkV_of (zU_mem 568 (by decide +kernel) (by decide +kernel)) u_iX3_log u_vX3_log u_iniX3 u_cX3_log u_dX3_log
theorem kL_93 : zLkV RL 93 RX3 yX3_digest cX3_digest 1 (some .long) 0 := zLkV_of (zU_mem 224 (by decide +kernel) (by decide +kernel)) u_iX3_digest u_vX3_digest u_iniX3 u_cX3_digest u_dX3_digest
theorem kL_97 : zLkV RL 97 RX3 yX3_reason cX3_reason 3 (some .int) 2 := zLkV_of (zU_mem 596 (by decide +kernel) (by decide +kernel)) u_iX3_reason u_vX3_reason u_iniX3 u_cX3_reason u_dX3_reason
theorem kL_100 : zLkV RL 100 RX3 yX3_ticksToEnd cX3_ticksToEnd 4 (some .int) 2 := zLkV_of (zU_mem 604 (by decide +kernel) (by decide +kernel)) u_iX3_ticksToEnd u_vX3_ticksToEnd u_iniX3 u_cX3_ticksToEnd u_dX3_ticksToEnd
theorem kL_103 : zLkV RL 103 RX3 yX3_undo cX3_undo 1 (some .int) 0 := zLkV_of (zU_mem 127 (by decide +kernel) (by decide +kernel)) u_iX3_undo u_vX3_undo u_iniX3 u_cX3_undo u_dX3_undo
theorem kL_107 : zLkS RL 107 yL_holds cL_holds 12 (some .boolean) 1 := zLkS_of (zU_mem 542 (by decide +kernel) (by decide +kernel)) u_sL_holds u_iniL u_cL_holds u_dL_holds
theorem kL_111 : zLkS RL 111 yL_cell cL_cell 2 (some .int) 2 := zLkS_of (zU_mem 311 (by decide +kernel) (by decide +kernel)) u_sL_cell u_iniL u_cL_cell u_dL_cell
theorem kL_115 : zLkV RL 115 RX3 yX3_savedStates cX3_savedStates 1 (some .int) 0 := zLkV_of (zU_mem 220 (by decide +kernel) (by decide +kernel)) u_iX3_savedStates u_vX3_savedStates u_iniX3 u_cX3_savedStates u_dX3_savedStates
theorem kL_118 : zLkS RL 118 yL_act cL_act 12 (some .int) 3 := zLkS_of (zU_mem 319 (by decide +kernel) (by decide +kernel)) u_sL_act u_iniL u_cL_act u_dL_act
theorem kL_122 : zLkS RL 122 yL_areKept cL_areKept 6 (some .boolean) 3 := zLkS_of (zU_mem 539 (by decide +kernel) (by decide +kernel)) u_sL_areKept u_iniL u_cL_areKept u_dL_areKept
theorem kL_126 : zLkS RL 126 yL_isAhead cL_isAhead 10 (some .boolean) 4 := zLkS_of (zU_mem 593 (by decide +kernel) (by decide +kernel)) u_sL_isAhead u_iniL u_cL_isAhead u_dL_isAhead
