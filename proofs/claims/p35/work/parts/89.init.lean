/-! THE START: constructors make the cells. A walk's world is a list of cells; a constructor's first cell is its own. -/
def iN (U : State) : Prop := va_Nw (.methodLinkNest RX3 11 yX2_init RX3) U ∧ va_Nw (.methodLinkNest RX1 21 yX2_init RX3) U ∧ va_Nw (.methodLinkNest RX3 28 yX0_init RX3) U ∧ va_AO RX2 U
def iA (a sz : Nat) : Nat → Prop := fun q => q = a ∨ sz ≤ q
/-- a constructor's contract: the cell a becomes E u, the cells Nw u are new -/
def iK (l : Launch) (D : va_G) (G : zG) (y : MethodName) (bytes : ByteArray) (maxL : Nat) (d mc ms ci : Nat) (fs0 : List Value) (E : (Nat → Nat) → va_E) (Nw : (Nat → Nat) → va_W) : Prop :=
  ∀ sz a, Met l y (.code y bytes maxL none :: zU) (iRm d mc ms) (va_Pc [.ref a] (fun U => U.heap.size = sz ∧ va_P D vwCl [(a, .inr (ci, fs0))] U.heap ∧ va_K D vwCl (zT G) U ∧ iN U)) (va_Qv (fun _ : Nat → Nat => True) (fun u t => va_P D vwCl ((a, E u) :: Nw u) t.heap ∧ va_D (iA a sz) ((a, E u) :: Nw u)) (iA a sz)) mc ms (iA a sz)
def iX (p : Program) (s : State) (m : MethodId) (args : Array Value) (c : Code) (cc : ByteArray) (nL : Nat) (own : String) (D : va_G) (G : zG) (A : Nat → Prop) : Prop :=
  p.tables.exec = Jvm.exec ∧ c.code = cc ∧ c.maxLocals = nL ∧ s.vm.findClass own = some m.cls ∧ (∀ w ∈ zU, w.before args s = true) ∧ va_K D vwCl (zT G) s ∧ (∀ q, s.heap.size ≤ q → A q) ∧ iN s
def iV (p : Program) (l : Launch) (en : Env) (R : Room) (s : State) (m : MethodId) (args : Array Value) (below : List Frame) (meth : Method) (c : Code) (nL : Nat) (D : va_G) (A : Nat → Prop) (cells slots : Nat) (Q : State → Prop) (pc : Nat) (lv : List (Nat × Value)) (st : List Value) (ws : va_W) : Prop :=
  ∀ (ls : Array Slot) (H : Heap) (locs : List Loc), lv_has ls nL lv → va_P D vwCl ws H → va_D A ws → va_S A s.heap H locs → W p l en R s m args below meth c H locs cells slots Q (F0 m pc ls st)
theorem i_merge {D : va_G} {A : Nat → Prop} {ws nw : va_W} {k a : Nat} {e0 e1 : va_E} {H H1 : Heap} (hP : va_P D vwCl ws H) (hD : va_D A ws) (hk : ws[k]? = some (a, e0)) (hB : va_P D vwCl ((a, e1) :: nw) H1) (hBD : va_D (iA a H.size) ((a, e1) :: nw)) (hkeep : ∀ q, q < H.size → ¬ iA a H.size q → H1[q]? = H[q]?) (hA : ∀ q, H.size ≤ q → A q) : va_P D vwCl (ws.set k (a, e1) ++ nw) H1 ∧ va_D A (ws.set k (a, e1) ++ nw) := by
  have hl := (List.getElem?_eq_some_iff.mp hk).1
  have hnw : ∀ (j : Nat) (q : Nat × va_E), nw[j]? = some q → H.size ≤ q.1 := fun j q hj => by
    have h1 : ((a, e1) :: nw)[j + 1]? = some q := by rw [List.getElem?_cons_succ]; exact hj
    rcases hBD.2 (j + 1) q h1 with z | z
    · exact absurd (hBD.1 (j + 1) 0 q (a, e1) h1 rfl z) (by omega)
    · exact z
  have hlt : ∀ (i : Nat) (q : Nat × va_E), (ws.set k (a, e1))[i]? = some q → q.1 < H.size := fun i q hq => by
    by_cases z : i = k
    · subst z
      rw [List.getElem?_set_self hl] at hq
      cases hq
      exact (hP i _ hk).lt
    · rw [List.getElem?_set_ne (Ne.symm z)] at hq
      exact (hP i q hq).lt
  refine ⟨va_P.app (fun i q hq => ?_) (fun j q hj => hB (j + 1) q (by rw [List.getElem?_cons_succ]; exact hj)), va_D.app (hD.set hk) ⟨fun i j x y hi hj hxy => ?_, fun j q hj => hA _ (hnw j q hj)⟩ (fun i j x y hi hj hxy => ?_)⟩
  · by_cases z : i = k
    · subst z
      rw [List.getElem?_set_self hl] at hq
      cases hq
      exact hB 0 _ rfl
    · rw [List.getElem?_set_ne (Ne.symm z)] at hq
      refine (hP i q hq).kept (hkeep _ (hP i q hq).lt (fun w => ?_))
      rcases w with w | w
      · exact z (hD.1 i k q (a, e0) hq hk w)
      · have := (hP i q hq).lt; omega
  · have := hBD.1 (i + 1) (j + 1) x y (by rw [List.getElem?_cons_succ]; exact hi) (by rw [List.getElem?_cons_succ]; exact hj) hxy
    omega
  · have h1 := hlt i x hi
    have h2 := hnw j y hj
    omega
theorem i_set {ws : va_W} {x y : Nat × va_E} {nw : va_W} : (ws ++ [x]).set ws.length y ++ nw = ws ++ (y :: nw) := by simp
section IX
variable {p : Program} {l : Launch} {en : Env} {R : Room} {s : State} {m : MethodId} {args : Array Value} {below : List Frame} {meth : Method} {c : Code} {cc : ByteArray} {nL : Nat} {own : String} {D : va_G} {G : zG} {A : Nat → Prop} {cells slots : Nat} {Q : State → Prop}
variable {pc : Nat} {lv : List (Nat × Value)} {st : List Value} {ws tl : va_W} {a : Nat}
theorem i_sub (lv' : List (Nat × Value)) (h : zSub lv lv') (k : iV p l en R s m args below meth c nL D A cells slots Q pc lv' st ws) : iV p l en R s m args below meth c nL D A cells slots Q pc lv st ws :=
  fun ls H locs hl hP hD hS => k ls H locs ⟨hl.1, hl.2.1, fun q hq => zL_at hl (h q hq)⟩ hP hD hS
theorem i_aload_n (X : iX p s m args c cc nL own D G A) {i : Fin 4} {x : Nat} (d : decode cc pc = .ok (.aload_n i, 1)) (hl : zL lv i.val = some (.ref x))
    (k : iV p l en R s m args below meth c nL D A cells slots Q (pc + 1) lv (.ref x :: st) ws) : iV p l en R s m args below meth c nL D A cells slots Q pc lv st ws :=
  fun ls H locs h hP hD hS => lv_aload_n X.1 X.2.1 d rfl (zL_at h hl) (k ls H locs h hP hD hS)
theorem i_iload_n (X : iX p s m args c cc nL own D G A) {i : Fin 4} {x : Int} (d : decode cc pc = .ok (.iload_n i, 1)) (hl : zL lv i.val = some (vI x))
    (k : iV p l en R s m args below meth c nL D A cells slots Q (pc + 1) lv (vI x :: st) ws) : iV p l en R s m args below meth c nL D A cells slots Q pc lv st ws :=
  fun ls H locs h hP hD hS => lv_iload_n X.1 X.2.1 d rfl (zL_at h hl) (k ls H locs h hP hD hS)
theorem i_iconst (X : iX p s m args c cc nL own D G A) {n : Int} (d : decode cc pc = .ok (.iconst n, 1))
    (k : iV p l en R s m args below meth c nL D A cells slots Q (pc + 1) lv (vI n :: st) ws) : iV p l en R s m args below meth c nL D A cells slots Q pc lv st ws :=
  fun ls H locs h hP hD hS => lv_iconst X.1 X.2.1 d rfl (k ls H locs h hP hD hS)
theorem i_bipush (X : iX p s m args c cc nL own D G A) {n : Int} (d : decode cc pc = .ok (.bipush n, 2)) (hn : (Int8.ofInt n).toInt32 = iI n)
    (k : iV p l en R s m args below meth c nL D A cells slots Q (pc + 2) lv (vI n :: st) ws) : iV p l en R s m args below meth c nL D A cells slots Q pc lv st ws :=
  fun ls H locs h hP hD hS => lv_bipush X.1 X.2.1 d hn (k ls H locs h hP hD hS)
theorem i_sipush (X : iX p s m args c cc nL own D G A) {n : Int} (d : decode cc pc = .ok (.sipush n, 3)) (hn : (Int16.ofInt n).toInt32 = iI n)
    (k : iV p l en R s m args below meth c nL D A cells slots Q (pc + 3) lv (vI n :: st) ws) : iV p l en R s m args below meth c nL D A cells slots Q pc lv st ws :=
  fun ls H locs h hP hD hS => lv_sipush X.1 X.2.1 d hn (k ls H locs h hP hD hS)
theorem i_astore_n (X : iX p s m args c cc nL own D G A) {i : Fin 4} {x : Nat} (d : decode cc pc = .ok (.astore_n i, 1)) (hn : i.val < nL)
    (k : iV p l en R s m args below meth c nL D A cells slots Q (pc + 1) (zF1 i.val (.ref x) lv) st ws) : iV p l en R s m args below meth c nL D A cells slots Q pc lv (.ref x :: st) ws :=
  fun ls H locs h hP hD hS => lv_astore_n X.1 X.2.1 d rfl h hn rfl (fun ls' h' => k ls' H locs h' hP hD hS)
theorem i_istore_n (X : iX p s m args c cc nL own D G A) {i : Fin 4} {x : Int} (d : decode cc pc = .ok (.istore_n i, 1)) (hn : i.val < nL)
    (k : iV p l en R s m args below meth c nL D A cells slots Q (pc + 1) (zF1 i.val (vI x) lv) st ws) : iV p l en R s m args below meth c nL D A cells slots Q pc lv (vI x :: st) ws :=
  fun ls H locs h hP hD hS => lv_istore_n X.1 X.2.1 d rfl h hn rfl (fun ls' h' => k ls' H locs h' hP hD hS)
theorem i_goto (X : iX p s m args c cc nL own D G A) {off : Int} (tgt : Nat) (d : decode cc pc = .ok (.goto off, 3)) (ht : (pc : Int) + off = (tgt : Int))
    (k : iV p l en R s m args below meth c nL D A cells slots Q tgt lv st ws) : iV p l en R s m args below meth c nL D A cells slots Q pc lv st ws :=
  fun ls H locs h hP hD hS => lv_goto X.1 X.2.1 d ht (k ls H locs h hP hD hS)
theorem i_icmp_ge (X : iX p s m args c cc nL own D G A) {x y off : Int} (tgt : Nat) (d : decode cc pc = .ok (.if_icmp .ge off, 3)) (ht : (pc : Int) + off = (tgt : Int)) (hx : zB x) (hy : zB y)
    (kt : y ≤ x → iV p l en R s m args below meth c nL D A cells slots Q tgt lv st ws) (kf : x < y → iV p l en R s m args below meth c nL D A cells slots Q (pc + 3) lv st ws) : iV p l en R s m args below meth c nL D A cells slots Q pc lv (vI y :: vI x :: st) ws :=
  fun ls H locs h hP hD hS => lv_icmp_ge X.1 X.2.1 d ht (fun h1 => kt ((iI_le hy hx).mp h1) ls H locs h hP hD hS) (fun h1 => kf (Int.not_le.mp (fun h2 => h1 ((iI_le hy hx).mpr h2))) ls H locs h hP hD hS)
theorem i_iinc (X : iX p s m args c cc nL own D G A) {i : Nat} {n x : Int} (d : decode cc pc = .ok (.iinc i n, 3)) (hl : zL lv i = some (vI x)) (hn : i < nL)
    (k : iV p l en R s m args below meth c nL D A cells slots Q (pc + 3) (zF1 i (vI (x + n)) lv) st ws) : iV p l en R s m args below meth c nL D A cells slots Q pc lv st ws := by
  intro ls H locs h hP hD hS
  obtain ⟨j, hj⟩ : ∃ j : Nat, lv[j]? = some (i, vI x) := by
    unfold zL at hl
    obtain ⟨q, hq, hv⟩ := Option.map_eq_some_iff.mp hl
    have h1 := List.mem_of_find?_eq_some hq
    have h2 := List.find?_some hq
    have h4 : q.1 = i := by simpa using h2
    obtain ⟨j, hj⟩ := List.mem_iff_getElem?.mp h1
    exact ⟨j, by rw [hj, ← h4, ← hv]⟩
  exact lv_iinc X.1 X.2.1 d h hj (iI_add x n) hn rfl (fun ls' h' => k ls' H locs h' hP hD hS)
theorem i_objInit (X : iX p s m args c cc nL own D G A) {idx : Nat} (hl : Cond.methodLink own idx Lib.objectInit ∈ zU) (h1 : Cond.instanceMethod Lib.objectInit ∈ zU) (h2 : Cond.code Lib.objectInit ⟨#[0xb1]⟩ 1 none ∈ zU) (hst : st = []) (hR : 1 ≤ R.frames ∧ 12 ≤ R.locals) (d : decode cc pc = .ok (.invokespecial idx, 3))
    (k : iV p l en R s m args below meth c nL D A cells slots Q (pc + 3) lv st ws) : iV p l en R s m args below meth c nL D A cells slots Q pc lv (.ref a :: st) ws := by
  subst hst
  exact fun ls H locs h hP hD hS => W.objInit X.1 X.2.1 X.2.2.2.1 (X.2.2.2.2.1 _ hl) (X.2.2.2.2.1 _ h1) (X.2.2.2.2.1 _ h2) rfl (h.1.trans X.2.2.1.symm) rfl d hR.1 hR.2 (k ls H locs h hP hD hS)
theorem i_newa (X : iX p s m args c cc nL own D G A) {n : Int} {N : Nat} (hw : Cond.arrayClass .int ∈ zU) (hn : 0 ≤ n ∧ n < 2147483648) (hN : n.toNat = N) (hby : N * 4 ≤ 536870912) (hc : cells + 1 ≤ R.cells) (hs : slots + N ≤ R.slots) (d : decode cc pc = .ok (.newarray .int, 2))
    (k : ∀ q, iV p l en R s m args below meth c nL D A (cells + 1) (slots + N) Q (pc + 2) lv (.ref q :: st) (ws ++ [(q, .inl (G.1, N, .inl (fun _ => iI 0)))])) : iV p l en R s m args below meth c nL D A cells slots Q pc lv (vI n :: st) ws :=
  fun ls H locs h hP hD hS => va_newa (atype := .int) (ty := .int) (a0 := (N, .inl (fun _ => iI 0))) X.1 X.2.1 (X.2.2.2.2.1 _ hw) rfl X.2.2.2.2.2.1 hP hD hS X.2.2.2.2.2.2.1 (fun cA => rfl) (fun q => absurd ((iI_lt0 (by unfold zB; omega)).mp q) (by omega)) (by rw [iI_clamp hn.1 hn.2]; exact hN) hby hc hs d (fun q cA H1 hK1 hP1 hD1 hS1 => by
    have e1 : s.vm.findClass _ = some cA := (hK1.2 2 (cA, .int) rfl).2
    have e2 : s.vm.findClass _ = some G.1 := (X.2.2.2.2.2.1.2 0 (G.1, .int) rfl).2
    have e : cA = G.1 := Option.some.inj (e1.symm.trans e2)
    subst e
    exact k q ls H1 locs h hP1 hD1 hS1)
theorem i_newq (X : iX p s m args c cc nL own D G A) {ix : Nat} (hl : Cond.classLink own ix RX2 ∈ zU) (hc : cells + 1 ≤ R.cells) (hs : slots + 6 ≤ R.slots) (d : decode cc pc = .ok (.anewarray ix, 3))
    (k : ∀ q, iV p l en R s m args below meth c nL D A (cells + 1) (slots + 6) Q (pc + 3) lv (.ref q :: st) (ws ++ [(q, .inl (G.2.1, 6, .inr (.inr (.inr (.inr (fun _ => none))))))])) : iV p l en R s m args below meth c nL D A cells slots Q pc lv (vI 6 :: st) ws :=
  fun ls H locs h hP hD hS => va_newq (C := RX2) (N' := 6) X.1 X.2.1 X.2.2.2.1 (X.2.2.2.2.1 _ hl) X.2.2.2.2.2.2.2.2.2.2 X.2.2.2.2.2.1 hP hD hS X.2.2.2.2.2.2.1 (by decide) (by decide) (by decide) hc hs d (fun q cA H1 hK1 hP1 hD1 hS1 => by
    have e1 : ∃ (kA : Class) (comp : ClassId), s.vm.classes[cA]? = some kA ∧ kA.kind = .array comp (.object RX2) ∧ s.vm.findClass RX2 = some comp ∧ s.vm.findClass ("[" ++ (FieldType.object RX2).toString) = some cA := (hK1.2 2 (cA, .object RX2) rfl).2
    have e2 : ∃ (kA : Class) (comp : ClassId), s.vm.classes[G.2.1]? = some kA ∧ kA.kind = .array comp (.object RX2) ∧ s.vm.findClass RX2 = some comp ∧ s.vm.findClass ("[" ++ (FieldType.object RX2).toString) = some G.2.1 := (X.2.2.2.2.2.1.2 1 (G.2.1, .object "DealDoubts$Net") rfl).2
    obtain ⟨_, _, -, -, -, e1⟩ := e1
    obtain ⟨_, _, -, -, -, e2⟩ := e2
    have e : cA = G.2.1 := Option.some.inj (e1.symm.trans e2)
    subst e
    exact k q ls H1 locs h hP1 hD1 hS1)
theorem i_put (X : iX p s m args c cc nL own D G A) {index ci f N : Nat} {C : String} {T : u_T} {ty0 : Nat → FieldType} {fs fs' : List Value} {v : Value} {ty : FieldType} (F : zFld own index ci f C T N) (hty : ∀ k, k < N → parseFieldDescriptor (T k).2.2.1 = some (ty0 k)) (hnm : ∀ a, a < N → ∀ b, b < N → a ≠ b → (T a).2.1 ≠ (T b).2.1) (hfin : (T f).2.2.2 = false) (hd : parseFieldDescriptor (T f).2.2.1 = some ty) (hn : narrow ty v = v) (hfit : fits ty v = true) (hl : f < fs.length) (hfs : fs.set f v = fs') (d : decode cc pc = .ok (.putfield index, 3))
    (k : iV p l en R s m args below meth c nL D A cells slots Q (pc + 3) lv st ((a, .inr (ci, fs')) :: tl)) : iV p l en R s m args below meth c nL D A cells slots Q pc lv (v :: .ref a :: st) ((a, .inr (ci, fs)) :: tl) := by
  subst hfs
  exact fun ls H locs h hP hD hS => va_put (D := D) (ref := (T f).1) X.1 X.2.1 X.2.2.2.2.1 F.2.2.1 ty0 hty hnm X.2.2.2.1 X.2.2.2.2.2.1 hP hD hS 0 rfl F.1 f F.2.1 (X.2.2.2.2.1 _ F.2.2.2) (fun _ h9 => h9) hfin hd hn hfit hl d (fun H1 locs1 hP1 hD1 hS1 => k ls H1 locs1 h hP1 hD1 hS1)
theorem i_putF (X : iX p s m args c cc nL own D G A) (hin2 : meth.name = "<init>") {index ci f N : Nat} {C : String} {T : u_T} {ty0 : Nat → FieldType} {fs fs' : List Value} {v : Value} {ty : FieldType} (F : zFld own index ci f C T N) (hty : ∀ k, k < N → parseFieldDescriptor (T k).2.2.1 = some (ty0 k)) (hnm : ∀ a, a < N → ∀ b, b < N → a ≠ b → (T a).2.1 ≠ (T b).2.1) (hfin : (T f).2.2.2 = true) (hdecl : (T f).1 = own) (hd : parseFieldDescriptor (T f).2.2.1 = some ty) (hn : narrow ty v = v) (hfit : fits ty v = true) (hl : f < fs.length) (hfs : fs.set f v = fs') (d : decode cc pc = .ok (.putfield index, 3))
    (k : iV p l en R s m args below meth c nL D A cells slots Q (pc + 3) lv st ((a, .inr (ci, fs')) :: tl)) : iV p l en R s m args below meth c nL D A cells slots Q pc lv (v :: .ref a :: st) ((a, .inr (ci, fs)) :: tl) := by
  subst hfs
  exact fun ls H locs h hP hD hS => va_putF (D := D) (ref := (T f).1) X.1 X.2.1 X.2.2.2.2.1 F.2.2.1 ty0 hty hnm X.2.2.2.1 X.2.2.2.2.2.1 hP hD hS 0 rfl F.1 f F.2.1 (X.2.2.2.2.1 _ F.2.2.2) (fun _ h9 => h9) hfin hin2 hdecl hd hn hfit hl d (fun H1 locs1 hP1 hD1 hS1 => k ls H1 locs1 h hP1 hD1 hS1)
theorem i_get (X : iX p s m args c cc nL own D G A) {index ci f N : Nat} {C : String} {T : u_T} {fs : List Value} {v : Value} (F : zFld own index ci f C T N) (hv : fs[f]? = some v) (d : decode cc pc = .ok (.getfield index, 3))
    (k : iV p l en R s m args below meth c nL D A cells slots Q (pc + 3) lv (v :: st) ((a, .inr (ci, fs)) :: tl)) : iV p l en R s m args below meth c nL D A cells slots Q pc lv (.ref a :: st) ((a, .inr (ci, fs)) :: tl) :=
  fun ls H locs h hP hD hS => va_get (D := D) (ref := (T f).1) X.1 X.2.1 X.2.2.2.2.1 F.2.2.1 X.2.2.2.1 X.2.2.2.2.2.1 hP 0 rfl F.1 f F.2.1 (X.2.2.2.2.1 _ F.2.2.2) (fun _ h9 => h9) hv d (k ls H locs h hP hD hS)
theorem i_iast (X : iX p s m args c cc nL own D G A) {N b : Nat} {f g : Nat → Int32} {x0 : Nat × va_E} {i x : Int} (h0 : 0 ≤ i) (h1 : i < N) (hN : N < 2147483648) (hg : upd f i.toNat (iI x) = g) (d : decode cc pc = .ok (.iastore, 1))
    (k : iV p l en R s m args below meth c nL D A cells slots Q (pc + 1) lv st (x0 :: (b, .inl (G.1, N, .inl g)) :: tl)) : iV p l en R s m args below meth c nL D A cells slots Q pc lv (vI x :: vI i :: .ref b :: st) (x0 :: (b, .inl (G.1, N, .inl f)) :: tl) := by
  subst hg
  exact fun ls H locs h hP hD hS => va_iast (D := D) X.1 X.2.1 X.2.2.2.2.2.1 hP hD hS 1 0 rfl rfl (iI_in h0 h1 hN) d (fun H1 locs1 hP1 hD1 hS1 => k ls H1 locs1 h (by rw [iI_clamp h0 (by omega)] at hP1; exact hP1) (by rw [iI_clamp h0 (by omega)] at hD1; exact hD1) hS1)
/-- 'new C()', by a constructor that its class's own link names -/
theorem i_mk (X : iX p s m args c cc nL own D G A) {index cix ci N maxL d mc ms : Nat} {C : String} {T : u_T} {ty0 : Nat → FieldType} {y : MethodName} {bytes : ByteArray} {fs0 : List Value} {E : (Nat → Nat) → va_E} {Nw : (Nat → Nat) → va_W} (hM : iK l D G y bytes maxL d mc ms ci fs0 E Nw)
    (hin : ∀ w ∈ u_ws C T N, w ∈ zU) (hty : ∀ k, k < N → parseFieldDescriptor (T k).2.2.1 = some (ty0 k)) (hcl : Cond.classLink own cix C ∈ zU) (hinst : Cond.instantiable C N ∈ zU) (hini : Cond.initialized C ∈ zU) (hc : vwCl[ci]? = some (C, T, N)) (hfs : ∀ j, j < N → defaultValue (ty0 j) = vp_V fs0 j)
    (hcall : ((Cond.methodLink own index y ∈ zU) ∨ ∃ host, va_Nw (.methodLinkNest own index y host) s) ∧ y.cls = C ∧ Cond.code y bytes maxL none ∈ zU ∧ Cond.instanceMethod y ∈ zU) (hy1 : y.name = "<init>") (hy : y.cls ≠ "java/lang/invoke/MethodHandle" ∧ y.cls ≠ "java/lang/invoke/VarHandle" ∧ (parseMethodDescriptor y.desc).map (fun d => d.parameters.length) = some 0)
    (hR : d + 1 ≤ R.frames ∧ 8 + (maxL + 11) + 30 * d ≤ R.locals) (hW : (st.map fun v => v.category).sum ≤ 7) (hcs : cells + 1 + mc ≤ R.cells ∧ slots + N + ms ≤ R.slots)
    (d0 : decode cc pc = .ok (.new cix, 3)) (d3 : decode cc (pc + 3) = .ok (.dup, 1)) (d4 : decode cc (pc + 4) = .ok (.invokespecial index, 3))
    (k : ∀ (w : Nat) (u : Nat → Nat), iV p l en R s m args below meth c nL D A (cells + 1 + mc) (slots + N + ms) Q (pc + 7) lv (.ref w :: st) (ws ++ ((w, E u) :: Nw u))) : iV p l en R s m args below meth c nL D A cells slots Q pc lv st ws := by
  intro ls H locs h hP hD hS
  refine va_new (D := D) (ci := ci) X.1 X.2.1 X.2.2.2.2.1 hin ty0 hty X.2.2.2.1 (X.2.2.2.2.1 _ hcl) (X.2.2.2.2.1 _ hinst) (X.2.2.2.2.1 _ hini) X.2.2.2.2.2.1 hP hD hS X.2.2.2.2.2.2.1 hc hfs (by omega) (by omega) d0 (fun w H1 hP1 hD1 hS1 => ?_)
  refine lv_dup X.1 X.2.1 d3 rfl ?_
  have hkw : (ws ++ [(w, Sum.inr (ci, fs0))])[ws.length]? = some (w, (Sum.inr (ci, fs0) : va_E)) := by simp
  have hwlt := (hP1 _ _ hkw).lt
  have hp : PreS s H1 (va_Pc [.ref w] (fun U => U.heap.size = H1.size ∧ va_P D vwCl [(w, .inr (ci, fs0))] U.heap ∧ va_K D vwCl (zT G) U ∧ iN U)) [.ref w] := by
    refine ⟨fun a U g mk q => ?_, fun U hU hW => ⟨rfl, by rw [hU], by rw [hU]; exact va_P1 (hP1 _ _ hkw), va_K.moved hW.alike X.2.2.2.2.2.1, va_Nw.warmM hW X.2.2.2.2.2.2.2.1, va_Nw.warmM hW X.2.2.2.2.2.2.2.2.1, va_Nw.warmM hW X.2.2.2.2.2.2.2.2.2.1, va_AO.moved hW.alike X.2.2.2.2.2.2.2.2.2.2⟩⟩
    obtain ⟨q1, q2, q3, q4, q5, q6, q7, q8⟩ := q
    exact ⟨q1, q2, q3, va_K.moved (u := U) (U := U.calling g mk a) (Vm.Alike.refl U.vm) q4, va_Nw.same rfl rfl q5, va_Nw.same rfl rfl q6, va_Nw.same rfl rfl q7, va_AO.moved (u := U) (U := U.calling g mk a) (Vm.Alike.refl U.vm) q8⟩
  have hA1 : ∀ q, iA w H1.size q → A q := fun q hq => by
    rcases hq with z | z
    · rw [z]; exact hD1.2 _ _ hkw
    · exact X.2.2.2.2.2.2.1 q (Nat.le_trans hS1.1 z)
  have fin : ∀ (u : Nat → Nat) (t : State) (H2 : Heap) (locs2 : List Loc), t.heap = H2 → s.vm.Alike t.vm → True → (va_P D vwCl ((w, E u) :: Nw u) t.heap ∧ va_D (iA w H1.size) ((w, E u) :: Nw u)) → H1.size ≤ H2.size → (∀ q : Nat, q < H1.size → ¬ iA w H1.size q → H2[q]? = H1[q]?) → va_S A s.heap H2 locs2 → W p l en R s m args below meth c H2 locs2 (cells + 1 + mc) (slots + N + ms) Q (F0 m (pc + 3 + 1 + 3) ls (.ref w :: st)) := fun u t H2 locs2 ht _ _ hB hz hk hS2 => by
    rw [ht] at hB
    obtain ⟨hP2, hD2⟩ := i_merge hP1 hD1 hkw hB.1 hB.2 hk (fun q hq => hA1 q (Or.inr hq))
    rw [i_set] at hP2 hD2
    exact k w u ls H2 locs2 h hP2 hD2 hS2
  have hWs : ((Value.ref w :: st).map fun v => v.category).sum ≤ 8 := by
    rw [List.map_cons, List.sum_cons]
    show 1 + _ ≤ 8
    omega
  have hws : Cond.code y bytes maxL none :: zU = Cond.code y bytes maxL none :: zU := rfl
  have hG : GoodIn zU (Cond.code y bytes maxL none :: zU) := zU_goodIn (zAllc hcall.2.2.1 (fun w h => h))
  have hini2 : (Cond.initialized y.cls).before args s = true := by rw [hcall.2.1]; exact X.2.2.2.2.1 _ hini
  rcases hcall.1 with hl | ⟨host, hl⟩
  · exact va_callv (va_runI (As := []) (rest := .ref w :: st) ⟨X.1, X.2.1, X.2.2.1, X.2.2.2.1, X.2.2.2.2.1⟩ (hM H1.size w) (cwI 0 X.2.2.2.2.1 hG rfl rfl rfl hini2 (X.2.2.2.2.1 _ hl) (X.2.2.2.2.1 _ hcall.2.2.2) hy1 hy hR) hp rfl rfl h.1 rfl (lv_room hWs) d4 hcs) hS1 (fun q _ hq => hA1 q hq) hA1 fin
  · exact va_callv (va_runIN (As := []) (rest := .ref w :: st) ⟨X.1, X.2.1, X.2.2.1, X.2.2.2.1, X.2.2.2.2.1⟩ (hM H1.size w) ⟨va_cnB 0 X.2.2.2.2.1 hG rfl rfl rfl hl hini2 hy hR, hy1, X.2.2.2.2.1 _ hcall.2.2.2⟩ hp rfl rfl h.1 rfl (lv_room hWs) d4 hcs) hS1 (fun q _ hq => hA1 q hq) hA1 fin
theorem i_open {y : MethodName} {bytes : ByteArray} {maxL d mc ms ci : Nat} {fs0 : List Value} {E : (Nat → Nat) → va_E} {Nw : (Nat → Nat) → va_W} (hy : plainName y.cls = true) (hy1 : y.name = "<init>") (hav : 1 ≤ maxL)
    (body : ∀ (p : Program) (en : Env) (s : State) (m : MethodId) (args : Array Value) (below : List Frame) (meth : Method) (c : Code) (a : Nat), iX p s m args c bytes maxL y.cls D G (iA a s.heap.size) → meth.sig.returnType = none → meth.locks = false → meth.name = "<init>" → iV p l en (iRm d mc ms) s m args below meth c maxL D (iA a s.heap.size) 0 0 (MQ below (va_Qv (fun _ : Nat → Nat => True) (fun u t => va_P D vwCl ((a, E u) :: Nw u) t.heap ∧ va_D (iA a s.heap.size) ((a, E u) :: Nw u)) (iA a s.heap.size)) args s mc ms (iA a s.heap.size)) 0 [(0, .ref a)] [] [(a, .inr (ci, fs0))]) : iK l D G y bytes maxL d mc ms ci fs0 E Nw := by
  intro sz a
  refine Met.ofW (cc := bytes) (maxL := maxL) (ret := none) hy rfl ?_
  intro p en s m args below meth c s₁ B hml hv
  obtain ⟨rfl, hsz, hP, hK, hN⟩ := hv
  have hts := atoms_spec (ws := Cond.code y bytes maxL none :: zU) B.pre
  have hl := lv_entry [.ref a] (n := maxL) hav
  rw [lg_entry_eq]
  have hnm : meth.name = "<init>" := (name_of_methodNamed B.named B.method).1.trans hy1
  subst hsz
  have h := body p en s m _ below meth c a ⟨B.exec, B.bytes, hml, findClass_of_methodNamed B.named, fun w hw => hts w (List.mem_cons_of_mem _ hw), hK, fun q hq => Or.inr hq, hN⟩ B.returns B.notSynchronized hnm
  exact h _ s.heap [] hl hP (va_D1 (Or.inl rfl)) va_S.rf
theorem i_vret (X : iX p s m args c cc nL own D G (iA a s.heap.size)) {mc ms : Nat} {e : va_E} {nw : va_W} (u : Nat → Nat) {E : (Nat → Nat) → va_E} {Nw : (Nat → Nat) → va_W} (he : e = E u) (hnw : nw = Nw u) (hr : meth.sig.returnType = none) (hlocks : meth.locks = false) (d : decode cc pc = .ok (.return_, 1)) (hc : cells ≤ mc) (hs : slots ≤ ms) : iV p l en R s m args below meth c nL D (iA a s.heap.size) cells slots (MQ below (va_Qv (fun _ : Nat → Nat => True) (fun u t => va_P D vwCl ((a, E u) :: Nw u) t.heap ∧ va_D (iA a s.heap.size) ((a, E u) :: Nw u)) (iA a s.heap.size)) args s mc ms (iA a s.heap.size)) pc lv [] ((a, e) :: nw) := by
  subst he hnw
  exact fun ls H locs h hP hD hS => W.widen hc hs (W.vret X.1 X.2.1 hr (fun t ht hW => ⟨⟨u, rfl, trivial, (ht.symm ▸ hP : va_P D vwCl _ t.heap), hD⟩, hS.F ht⟩) hS.2.2 d hlocks)
end IX
