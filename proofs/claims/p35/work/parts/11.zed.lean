/-! THE SMALL MACHINE, second half: fields, arrays, calls, returns -/
def zArr (q n : Nat) : Prop := zIn q ∧ ∀ (ad : Nat → Nat) (G : zG) (m : Nat → Int) (lg : Nat → Int64), zC ad G q m lg = .inl (G.1, n, .inl (fun j => iI (m j)))
def zNet (k : Nat) : Prop := 8 ≤ k ∧ k < 72 ∧ k % 8 = 0
theorem zNet_obj {k : Nat} (h : zNet k) (ad : Nat → Nat) (G : zG) (m : Nat → Int) (lg : Nat → Int64) : zC ad G k m lg = .inr (2, [vI (m 0), vI (m 1), vI (m 2), vI (m 3), .ref (ad (k + 1)), .ref (ad (k + 2)), .ref (ad (k + 3)), .ref (ad (k + 4)), .ref (ad (k + 5)), .ref (ad (k + 6)), .ref (ad (k + 7))]) := by
  obtain ⟨h1, h2, h3⟩ := h
  unfold zC
  rw [if_neg (by omega), if_neg (by omega), if_neg (by omega), if_neg (by omega), if_neg (by omega), if_neg (by omega), if_neg (by omega), if_pos h3]
theorem zNet_arr {k : Nat} (h : zNet k) (r : Nat) (h1 : 1 ≤ r) (h2 : r ≤ 7) : zArr (k + r) (zN r) := by
  obtain ⟨a1, a2, a3⟩ := h
  refine ⟨⟨by omega, by omega⟩, fun ad G m lg => ?_⟩
  have e : (k + r) % 8 = r := by omega
  unfold zC
  rw [if_neg (by omega), if_neg (by omega), if_neg (by omega), if_neg (by omega), if_neg (by omega), if_neg (by omega), if_neg (by omega), if_neg (by omega), e]
theorem zArr_4 : zArr 4 60 := ⟨by decide, fun _ _ _ _ => rfl⟩
theorem zArr_5 : zArr 5 48 := ⟨by decide, fun _ _ _ _ => rfl⟩
theorem zArr_6 : zArr 6 8 := ⟨by decide, fun _ _ _ _ => rfl⟩
theorem zNet_lt {k : Nat} (h : zNet k) : zIn k := by have h1 := h.1; have h2 := h.2.1; exact ⟨by omega, by omega⟩
/-- the words of a class's fields -/
theorem zin0 : ∀ w ∈ u_ws RX0 TX0 2, w ∈ lw_tbl := by decide +kernel
theorem zin1 : ∀ w ∈ u_ws RX1 TX1 2, w ∈ lw_tbl := by decide +kernel
theorem zin2 : ∀ w ∈ u_ws RX2 TX2 11, w ∈ lw_tbl := by decide +kernel
theorem zin3 : ∀ w ∈ u_ws RX3 TX3 4, w ∈ lw_tbl := by decide +kernel
theorem zin_g0 : (u_ws RX0 TX0 2).all goodWord = true := by decide +kernel
theorem zin_g1 : (u_ws RX1 TX1 2).all goodWord = true := by decide +kernel
theorem zin_g2 : (u_ws RX2 TX2 11).all goodWord = true := by decide +kernel
theorem zin_g3 : (u_ws RX3 TX3 4).all goodWord = true := by decide +kernel
theorem zin_u {ws : List Cond} (h : ∀ w ∈ ws, w ∈ lw_tbl) (g : ws.all goodWord = true) : ∀ w ∈ ws, w ∈ zU := fun w hw => List.mem_filter.mpr ⟨h w hw, List.all_eq_true.mp g w hw⟩
/-- what a field access needs of the tables: class number ci, its table, the link of the pool's number -/
def zFld (own : String) (index ci f : Nat) (C : String) (T : u_T) (N : Nat) : Prop := vwCl[ci]? = some (C, T, N) ∧ f < N ∧ (∀ w ∈ u_ws C T N, w ∈ zU) ∧ Cond.fieldLink own index (T f).1 (T f).2.1 (T f).2.2.1 ∈ zU
def zRm (d : Nat) : Room := { frames := d, cells := 0, slots := 0, locals := 30 * d }
section Z2
variable {p : Program} {l : Launch} {e : Env} {R : Room} {s : State} {m : MethodId} {args : Array Value} {below : List Frame} {meth : Method} {c : Code} {cc : ByteArray} {nL : Nat} {own : String} {D : va_G} {G : zG} {ad : Nat → Nat} {cells slots : Nat} {Q : State → Prop}
variable {pc : Nat} {lv : List (Nat × Value)} {st : List Value} {σ : zM}
theorem zA_old {H : Heap} {locs : List Loc} (hS : va_S (zA ad s.heap.size) s.heap H locs) : ∀ q, q < H.size → zA ad H.size q → zA ad s.heap.size q := fun q h1 h2 => by
  rcases h2 with h | h
  · exact Or.inl h
  · exact absurd h (Nat.not_le.mpr h1)
theorem zA_free {H : Heap} {locs : List Loc} (hS : va_S (zA ad s.heap.size) s.heap H locs) : ∀ q, zA ad H.size q → zA ad s.heap.size q := fun q h2 => by
  rcases h2 with h | h
  · exact Or.inl h
  · exact Or.inr (Nat.le_trans hS.1 h)
theorem zD_here (hi : zInj ad) : va_D (zA ad s.heap.size) (zW ad G σ) := zD hi (fun k hk => Or.inl ⟨k, hk, rfl⟩)
/-- a field of the object at the cell k is read -/
theorem z_get (X : zX p s m args c cc nL own D G ad) {index ci f k : Nat} {C : String} {T : u_T} {N : Nat} {fs : List Value} {v : Value} (F : zFld own index ci f C T N) (hk : zIn k) (hc : zC ad G k (σ.1 k) (σ.2 k) = .inr (ci, fs)) (hv : fs[f]? = some v) (d : decode cc pc = .ok (.getfield index, 3))
    (kk : zV p l e R s m args below meth c nL D G ad cells slots Q (pc + 3) lv (v :: st) σ) : zV p l e R s m args below meth c nL D G ad cells slots Q pc lv (.ref (ad k) :: st) σ :=
  fun ls H locs h hP hS => va_get (D := D) (ref := (T f).1) X.1 X.2.1 X.2.2.2.2.1 F.2.2.1 X.2.2.2.1 X.2.2.2.2.2.1 hP (zp k) (by rw [zW_get hk, hc]) F.1 f F.2.1 (X.2.2.2.2.1 _ F.2.2.2) (fun _ h9 => h9) hv d (kk ls H locs h hP hS)
/-- an int field of the object at the cell k is written -/
theorem z_putI (X : zX p s m args c cc nL own D G ad) {index ci f k : Nat} {C : String} {T : u_T} {N : Nat} {fs : List Value} {x : Int} (F : zFld own index ci f C T N) (ty0 : Nat → FieldType) (hty : ∀ k, k < N → parseFieldDescriptor (T k).2.2.1 = some (ty0 k)) (hnm : ∀ a, a < N → ∀ b, b < N → a ≠ b → (T a).2.1 ≠ (T b).2.1) (hk : zIn k) (hc : zC ad G k (σ.1 k) (σ.2 k) = .inr (ci, fs)) (hc2 : .inr (ci, fs.set f (vI x)) = zC ad G k (fun b => if b = f then x else σ.1 k b) (σ.2 k)) (hl : f < fs.length) (hfin : (T f).2.2.2 = false) (hd : parseFieldDescriptor (T f).2.2.1 = some .int) (d : decode cc pc = .ok (.putfield index, 3))
    (kk : zV p l e R s m args below meth c nL D G ad cells slots Q (pc + 3) lv st (zS σ k f x)) : zV p l e R s m args below meth c nL D G ad cells slots Q pc lv (vI x :: .ref (ad k) :: st) σ :=
  fun ls H locs h hP hS => va_put (D := D) (ref := (T f).1) X.1 X.2.1 X.2.2.2.2.1 F.2.2.1 ty0 hty hnm X.2.2.2.1 X.2.2.2.2.2.1 hP (zD_here X.2.2.2.2.2.2.1) hS (zp k) (by rw [zW_get hk, hc]) F.1 f F.2.1 (X.2.2.2.2.1 _ F.2.2.2) (fun _ h9 => h9) hfin hd rfl rfl hl d (fun H1 locs1 hP1 _ hS1 => kk ls H1 locs1 h (by rw [zW_set (σ' := zS σ k f x) hk (by rw [zS_row]; exact hc2) (fun i hi => zS_ne σ hi)] at hP1; exact hP1) hS1)
theorem z_iald (X : zX p s m args c cc nL own D G ad) {q n : Nat} {i : Int} (A : zArr q n) (h0 : 0 ≤ i) (h1 : i < n) (hn : n < 2147483648) (d : decode cc pc = .ok (.iaload, 1))
    (kk : zV p l e R s m args below meth c nL D G ad cells slots Q (pc + 1) lv (vI (σ.1 q i.toNat) :: st) σ) : zV p l e R s m args below meth c nL D G ad cells slots Q pc lv (vI i :: .ref (ad q) :: st) σ :=
  fun ls H locs h hP hS => va_iald (D := D) X.1 X.2.1 X.2.2.2.2.2.1 hP (zp q) 0 (by rw [zW_get A.1, A.2]) rfl (iI_in h0 h1 hn) d (by rw [iI_clamp h0 (by omega)]; exact kk ls H locs h hP hS)
theorem z_iast (X : zX p s m args c cc nL own D G ad) {q n : Nat} {i x : Int} (A : zArr q n) (h0 : 0 ≤ i) (h1 : i < n) (hn : n < 2147483648) (d : decode cc pc = .ok (.iastore, 1))
    (kk : zV p l e R s m args below meth c nL D G ad cells slots Q (pc + 1) lv st (zS σ q i.toNat x)) : zV p l e R s m args below meth c nL D G ad cells slots Q pc lv (vI x :: vI i :: .ref (ad q) :: st) σ :=
  fun ls H locs h hP hS => va_iast (D := D) X.1 X.2.1 X.2.2.2.2.2.1 hP (zD_here X.2.2.2.2.2.2.1) hS (zp q) 0 (by rw [zW_get A.1, A.2]) rfl (iI_in h0 h1 hn) d (fun H1 locs1 hP1 _ hS1 => kk ls H1 locs1 h (by
    rw [zW_set (σ' := zS σ q i.toNat x) A.1 (by
      rw [zS_row, A.2, iI_clamp h0 (by omega)]
      refine congrArg (fun f => Sum.inl (G.1, n, Sum.inl f)) (funext fun j => ?_)
      show (if j = i.toNat then iI x else iI (σ.1 q j)) = iI (if j = i.toNat then x else σ.1 q j)
      by_cases e : j = i.toNat
      · rw [if_pos e, if_pos e]
      · rw [if_neg e, if_neg e]) (fun i hi => zS_ne σ hi)] at hP1
    exact hP1) hS1)
theorem z_alen (X : zX p s m args c cc nL own D G ad) {q n : Nat} (A : zArr q n) (d : decode cc pc = .ok (.arraylength, 1))
    (kk : zV p l e R s m args below meth c nL D G ad cells slots Q (pc + 1) lv (vI n :: st) σ) : zV p l e R s m args below meth c nL D G ad cells slots Q pc lv (.ref (ad q) :: st) σ :=
  fun ls H locs h hP hS => va_alen (D := D) (v := iI n) X.1 X.2.1 X.2.2.2.2.2.1 hP (zp q) 0 (by rw [zW_get A.1, A.2]) (ty := .int) rfl (by show Int32.ofNat n = Int32.ofInt n; exact (Int32.ofInt_eq_ofNat).symm) d (kk ls H locs h hP hS)
/-- the saved states' row -/
theorem z_aald (X : zX p s m args c cc nL own D G ad) {i : Int} (h0 : 0 ≤ i) (h1 : i < 6) (d : decode cc pc = .ok (.aaload, 1))
    (kk : zV p l e R s m args below meth c nL D G ad cells slots Q (pc + 1) lv (.ref (ad (σ.1 2 i.toNat).toNat) :: st) σ) : zV p l e R s m args below meth c nL D G ad cells slots Q pc lv (vI i :: .ref (ad 2) :: st) σ :=
  fun ls H locs h hP hS => va_aldq (D := D) X.1 X.2.1 X.2.2.2.2.2.1 hP (zp 2) 1 (by rw [zW_get (by decide)]; rfl) rfl (iI_in h0 h1 (by decide)) d (by rw [iI_clamp h0 (by omega)]; exact kk ls H locs h hP hS)
theorem z_aast (X : zX p s m args c cc nL own D G ad) {i : Int} {k : Nat} (N : zNet k) (h0 : 0 ≤ i) (h1 : i < 6) (d : decode cc pc = .ok (.aastore, 1))
    (kk : zV p l e R s m args below meth c nL D G ad cells slots Q (pc + 1) lv st (zS σ 2 i.toNat k)) : zV p l e R s m args below meth c nL D G ad cells slots Q pc lv (.ref (ad k) :: vI i :: .ref (ad 2) :: st) σ :=
  fun ls H locs h hP hS => va_astq (D := D) X.1 X.2.1 X.2.2.2.2.2.1 hP (zD_here X.2.2.2.2.2.2.1) hS (zp 2) 1 (zp k) 2 (r := (RX2, TX2, 11)) (by rw [zW_get (by decide)]; rfl) rfl (by rw [zW_get (zNet_lt N), zNet_obj N]) rfl (iI_in h0 h1 (by decide)) d (fun H1 locs1 hP1 _ hS1 => kk ls H1 locs1 h (by
    rw [zW_set (σ' := zS σ 2 i.toNat k) (by decide) (by
      rw [zS_row, iI_clamp h0 (by omega)]
      refine congrArg (fun f => Sum.inl (G.2.1, 6, Sum.inr (Sum.inr (Sum.inr (Sum.inr f))))) (funext fun j => ?_)
      show (if j = i.toNat then some (ad k) else some (ad (σ.1 2 j).toNat)) = some (ad (if j = i.toNat then (k : Int) else σ.1 2 j).toNat)
      by_cases e : j = i.toNat
      · rw [if_pos e, if_pos e]; rfl
      · rw [if_neg e, if_neg e]) (fun i hi => zS_ne σ hi)] at hP1
    exact hP1) hS1)
theorem z_null (X : zX p s m args c cc nL own D G ad) {x : Nat} {off : Int} (d : decode cc pc = .ok (.ifnull off, 3))
    (kk : zV p l e R s m args below meth c nL D G ad cells slots Q (pc + 3) lv st σ) : zV p l e R s m args below meth c nL D G ad cells slots Q pc lv (.ref x :: st) σ :=
  fun ls H locs h hP hS => lv_ifnull X.1 X.2.1 d (kk ls H locs h hP hS)
/-- contracts: a method that gives an int (or a truth value), void, a long -/
def zPc (D : va_G) (G : zG) (ad : Nat → Nat) (av : List Value) (σ : zM) (sz : Nat) : Array Value → State → Prop := va_Pc av (fun U => U.heap.size = sz ∧ va_P D vwCl (zW ad G σ) U.heap ∧ va_K D vwCl (zT G) U ∧ zNst U)
def zQI (D : va_G) (G : zG) (ad : Nat → Nat) (sz : Nat) (Post : Int → zM → Prop) : Array Value → State → Outcome → State → Prop := va_Qi (fun r σ' => ∃ z, r = iI z ∧ Post z σ') (fun σ' t => va_P D vwCl (zW ad G σ') t.heap) (zA ad sz)
def zQV (D : va_G) (G : zG) (ad : Nat → Nat) (sz : Nat) (Post : zM → Prop) : Array Value → State → Outcome → State → Prop := va_Qv Post (fun σ' t => va_P D vwCl (zW ad G σ') t.heap) (zA ad sz)
def zQL (D : va_G) (G : zG) (ad : Nat → Nat) (sz : Nat) (Post : Int64 → zM → Prop) : Array Value → State → Outcome → State → Prop := va_Ql Post (fun σ' t => va_P D vwCl (zW ad G σ') t.heap) (zA ad sz)
def zKI (l : Launch) (D : va_G) (G : zG) (ad : Nat → Nat) (y : MethodName) (bytes : ByteArray) (maxL : Nat) (ret : Option FieldType) (d : Nat) (av : List Value) (σ : zM) (Post : Int → zM → Prop) : Prop :=
  ∀ sz, Met l y (.code y bytes maxL ret :: zU) (zRm d) (zPc D G ad av σ sz) (zQI D G ad sz Post) 0 0 (zA ad sz)
def zKV (l : Launch) (D : va_G) (G : zG) (ad : Nat → Nat) (y : MethodName) (bytes : ByteArray) (maxL : Nat) (ret : Option FieldType) (d : Nat) (av : List Value) (σ : zM) (Post : zM → Prop) : Prop :=
  ∀ sz, Met l y (.code y bytes maxL ret :: zU) (zRm d) (zPc D G ad av σ sz) (zQV D G ad sz Post) 0 0 (zA ad sz)
def zKL (l : Launch) (D : va_G) (G : zG) (ad : Nat → Nat) (y : MethodName) (bytes : ByteArray) (maxL : Nat) (ret : Option FieldType) (d : Nat) (av : List Value) (σ : zM) (Post : Int64 → zM → Prop) : Prop :=
  ∀ sz, Met l y (.code y bytes maxL ret :: zU) (zRm d) (zPc D G ad av σ sz) (zQL D G ad sz Post) 0 0 (zA ad sz)
/-- the walk's end -/
def zE (below : List Frame) (Qc : Array Value → State → Outcome → State → Prop) (args : Array Value) (s : State) (ad : Nat → Nat) : State → Prop := MQ below Qc args s 0 0 (zA ad s.heap.size)
theorem z_blind {av : List Value} {sz : Nat} : FrameBlind (zPc D G ad av σ sz) := fun a U g mk q => by
  obtain ⟨e1, e2, e3, e4, e5⟩ := q
  exact ⟨e1, e2, e3, va_K.moved (u := U) (U := U.calling g mk a) (Vm.Alike.refl U.vm) e4, va_Nw.same rfl rfl e5⟩
theorem z_open {y : MethodName} {bytes : ByteArray} {maxL : Nat} {ret : Option FieldType} {d : Nat} {av : List Value} {sz : Nat} {Qc : Array Value → State → Outcome → State → Prop} (hi : zInj ad) (hy : plainName y.cls = true) (hav : (lg_sl av).length ≤ maxL)
    (body : ∀ (p : Program) (e : Env) (s : State) (m : MethodId) (args : Array Value) (below : List Frame) (meth : Method) (c : Code), s.heap.size = sz → zX p s m args c bytes maxL y.cls D G ad → meth.sig.returnType = ret → meth.locks = false → zV p l e (zRm d) s m args below meth c maxL D G ad 0 0 (zE below Qc args s ad) 0 (lv_args 0 av) [] σ) :
    Met l y (.code y bytes maxL ret :: zU) (zRm d) (zPc D G ad av σ sz) Qc 0 0 (zA ad sz) := by
  refine Met.ofW (cc := bytes) (maxL := maxL) (ret := ret) hy rfl ?_
  intro p e s m args below meth c s₁ B hml hv
  obtain ⟨rfl, hsz, hP, hK, hN⟩ := hv
  have hts := atoms_spec (ws := Cond.code y bytes maxL ret :: zU) B.pre
  have hl := lv_entry av (n := maxL) hav
  rw [lg_entry_eq]
  have h := body p e s m _ below meth c hsz ⟨B.exec, B.bytes, hml, findClass_of_methodNamed B.named, fun w hw => hts w (List.mem_cons_of_mem _ hw), hK, hi, hN⟩ B.returns B.notSynchronized
  subst hsz
  exact h _ s.heap [] hl hP va_S.rf
theorem z_iret (X : zX p s m args c cc nL own D G ad) {sz : Nat} {z : Int} {Post : Int → zM → Prop} (hsz : s.heap.size = sz) (hr : meth.sig.returnType = some .int) (hlocks : meth.locks = false) (d : decode cc pc = .ok (.ireturn, 1)) (hq : Post z σ) : zV p l e R s m args below meth c nL D G ad 0 0 (zE below (zQI D G ad sz Post) args s ad) pc lv [vI z] σ := by
  subst hsz
  exact fun ls H locs h hP hS => W.iret X.1 X.2.1 hr (fun t ht hW => ⟨⟨iI z, σ, rfl, ⟨z, rfl, hq⟩, (ht.symm ▸ hP : va_P D vwCl (zW ad G σ) t.heap)⟩, hS.F ht⟩) hS.2.2 d hlocks
theorem z_zret (X : zX p s m args c cc nL own D G ad) {sz : Nat} {z : Int} {Post : Int → zM → Prop} (hsz : s.heap.size = sz) (hr : meth.sig.returnType = some .boolean) (hlocks : meth.locks = false) (d : decode cc pc = .ok (.ireturn, 1)) (h01 : z = 0 ∨ z = 1) (hq : Post z σ) : zV p l e R s m args below meth c nL D G ad 0 0 (zE below (zQI D G ad sz Post) args s ad) pc lv [vI z] σ := by
  subst hsz
  exact fun ls H locs h hP hS => W.zret X.1 X.2.1 hr (by rcases h01 with rfl | rfl <;> rfl) (fun t ht hW => ⟨⟨iI z, σ, rfl, ⟨z, rfl, hq⟩, (ht.symm ▸ hP : va_P D vwCl (zW ad G σ) t.heap)⟩, hS.F ht⟩) hS.2.2 d hlocks
theorem z_vret (X : zX p s m args c cc nL own D G ad) {sz : Nat} {Post : zM → Prop} (hsz : s.heap.size = sz) (hr : meth.sig.returnType = none) (hlocks : meth.locks = false) (d : decode cc pc = .ok (.return_, 1)) (hq : Post σ) : zV p l e R s m args below meth c nL D G ad 0 0 (zE below (zQV D G ad sz Post) args s ad) pc lv [] σ := by
  subst hsz
  exact fun ls H locs h hP hS => W.vret X.1 X.2.1 hr (fun t ht hW => ⟨⟨σ, rfl, hq, (ht.symm ▸ hP : va_P D vwCl (zW ad G σ) t.heap)⟩, hS.F ht⟩) hS.2.2 d hlocks
theorem z_lret (X : zX p s m args c cc nL own D G ad) {sz : Nat} {z : Int64} {Post : Int64 → zM → Prop} (hsz : s.heap.size = sz) (hr : meth.sig.returnType = some .long) (hlocks : meth.locks = false) (d : decode cc pc = .ok (.lreturn, 1)) (hq : Post z σ) : zV p l e R s m args below meth c nL D G ad 0 0 (zE below (zQL D G ad sz Post) args s ad) pc lv [.long z] σ := by
  subst hsz
  exact fun ls H locs h hP hS => W.lret X.1 X.2.1 hr (fun t ht hW => ⟨⟨z, σ, rfl, hq, (ht.symm ▸ hP : va_P D vwCl (zW ad G σ) t.heap)⟩, hS.F ht⟩) hS.2.2 d hlocks
/-- what a call needs of the tables -/
def zLkV (own : String) (idx : Nat) (C : String) (y : MethodName) (bytes : ByteArray) (maxL : Nat) (ret : Option FieldType) (n : Nat) : Prop :=
  (∀ w ∈ wsV own idx C y [Cond.code y bytes maxL ret], w ∈ zU) ∧ (y.cls = C ∧ y.cls ≠ "java/lang/invoke/MethodHandle" ∧ y.cls ≠ "java/lang/invoke/VarHandle" ∧ (parseMethodDescriptor y.desc).map (fun d => d.parameters.length) = some n)
def zLkS (own : String) (idx : Nat) (y : MethodName) (bytes : ByteArray) (maxL : Nat) (ret : Option FieldType) (n : Nat) : Prop :=
  (∀ w ∈ wsS own idx y [Cond.code y bytes maxL ret], w ∈ zU) ∧ (y.cls = own ∧ y.cls ≠ "java/lang/invoke/MethodHandle" ∧ y.cls ≠ "java/lang/invoke/VarHandle" ∧ (parseMethodDescriptor y.desc).map (fun d => d.parameters.length) = some n)
theorem zLk_all {y : MethodName} {bytes : ByteArray} {maxL : Nat} {ret : Option FieldType} {pre : List Cond} (h : ∀ w ∈ pre ++ [Cond.code y bytes maxL ret], w ∈ zU) : ∀ w ∈ pre ++ (Cond.code y bytes maxL ret :: zU), w ∈ zU := fun w hw => by
  rcases List.mem_append.mp hw with q | q
  · exact h w (List.mem_append_left _ q)
  · rcases List.mem_cons.mp q with rfl | q
    · exact h _ (List.mem_append_right _ List.mem_cons_self)
    · exact q
theorem z_runV (X : zX p s m args c cc nL own D G ad) {idx ci k n maxL d sz : Nat} {C : String} {T : u_T} {N : Nat} {y : MethodName} {bytes : ByteArray} {ret : Option FieldType} {As fs : List Value} {Qc : Array Value → State → Outcome → State → Prop}
    (hM : Met l y (.code y bytes maxL ret :: zU) (zRm d) (zPc D G ad (.ref (ad k) :: As) σ sz) Qc 0 0 (zA ad sz)) (K : zLkV own idx C y bytes maxL ret n) (hcl : vwCl[ci]? = some (C, T, N)) (hk : zIn k) (hc : zC ad G k (σ.1 k) (σ.2 k) = .inr (ci, fs)) (hn : As.length = n) (hR : d + 1 ≤ R.frames ∧ 8 + (maxL + 11) + 30 * d ≤ R.locals) (hW : (st.map fun v => v.category).sum ≤ 8) (dd : decode cc pc = .ok (.invokevirtual idx, 3))
    {ls : Array Slot} {H : Heap} {locs : List Loc} (hsz : H.size = sz) (h : lv_has ls nL lv) (hP : va_P D vwCl (zW ad G σ) H) (hS : va_S (zA ad s.heap.size) s.heap H locs) (hcs : cells ≤ R.cells ∧ slots ≤ R.slots) :
    va_Run p l e R s m args below meth c H locs cells slots 0 0 (F0 m pc ls (As.reverse ++ .ref (ad k) :: st)) st (Qc (Value.ref (ad k) :: As).toArray) (zA ad sz) := by
  have hr := va_recv (q := (C, T, N)) (ci := ci) X.2.2.2.2.2.1 hP hcl (q0 := zp k) (a := ad k) (fs := fs) (by rw [zW_get hk, hc])
  exact va_runV (As := As) (rest := st) (C := C) ⟨X.1, X.2.1, X.2.2.1, X.2.2.2.1, X.2.2.2.2.1⟩ hM (cwV n X.2.2.2.2.1 (zU_goodIn (zLk_all K.1)) rfl rfl rfl K.2 hR) ⟨z_blind, hr, fun U hU hW => ⟨rfl, by rw [hU]; exact hsz, by rw [hU]; exact hP, va_K.moved hW.alike X.2.2.2.2.2.1, va_Nw.warmM hW X.2.2.2.2.2.2.2⟩⟩ rfl hn h.1 rfl (lv_room hW) dd hcs
theorem z_runS (X : zX p s m args c cc nL own D G ad) {idx n maxL d sz : Nat} {y : MethodName} {bytes : ByteArray} {ret : Option FieldType} {As : List Value} {Qc : Array Value → State → Outcome → State → Prop}
    (hM : Met l y (.code y bytes maxL ret :: zU) (zRm d) (zPc D G ad As σ sz) Qc 0 0 (zA ad sz)) (K : zLkS own idx y bytes maxL ret n) (hn : As.length = n) (hR : d + 1 ≤ R.frames ∧ 8 + (maxL + 11) + 30 * d ≤ R.locals) (hW : (st.map fun v => v.category).sum ≤ 8) (dd : decode cc pc = .ok (.invokestatic idx, 3))
    {ls : Array Slot} {H : Heap} {locs : List Loc} (hsz : H.size = sz) (h : lv_has ls nL lv) (hP : va_P D vwCl (zW ad G σ) H) (hS : va_S (zA ad s.heap.size) s.heap H locs) (hcs : cells ≤ R.cells ∧ slots ≤ R.slots) :
    va_Run p l e R s m args below meth c H locs cells slots 0 0 (F0 m pc ls (As.reverse ++ st)) st (Qc As.toArray) (zA ad sz) :=
  va_runS (As := As) (rest := st) ⟨X.1, X.2.1, X.2.2.1, X.2.2.2.1, X.2.2.2.2.1⟩ hM (cwS n X.2.2.2.2.1 (zU_goodIn (zLk_all K.1)) rfl rfl rfl K.2 hR) ⟨z_blind, fun U hU hW => ⟨rfl, by rw [hU]; exact hsz, by rw [hU]; exact hP, va_K.moved hW.alike X.2.2.2.2.2.1, va_Nw.warmM hW X.2.2.2.2.2.2.2⟩⟩ rfl hn h.1 rfl (lv_room hW) dd hcs
theorem z_callVI0 (X : zX p s m args c cc nL own D G ad) {idx ci k maxL d : Nat} {C : String} {T : u_T} {N : Nat} {y : MethodName} {bytes : ByteArray} {ret : Option FieldType} {fs : List Value} {Post : Int → zM → Prop} (hM : zKI l D G ad y bytes maxL ret d (.ref (ad k) :: []) σ Post) (K : zLkV own idx C y bytes maxL ret 0) (hcl : vwCl[ci]? = some (C, T, N)) (hk : zIn k) (hc : zC ad G k (σ.1 k) (σ.2 k) = .inr (ci, fs)) (hR : d + 1 ≤ R.frames ∧ 8 + (maxL + 11) + 30 * d ≤ R.locals) (hW : (st.map fun v => v.category).sum ≤ 8) (hcs : cells ≤ R.cells ∧ slots ≤ R.slots) (dd : decode cc pc = .ok (.invokevirtual idx, 3))
    (kk : ∀ (z : Int) (σ1 : zM), Post z σ1 → zV p l e R s m args below meth c nL D G ad cells slots Q (pc + 3) lv (vI z :: st) σ1) : zV p l e R s m args below meth c nL D G ad cells slots Q pc lv (.ref (ad k) :: st) σ :=
  fun ls H locs h hP hS => va_calli (z_runV X (As := []) (hM _) K hcl hk hc rfl hR hW dd rfl h hP hS hcs) hS (zA_old hS) (zA_free hS) (fun r σ1 t H1 locs1 ht _ hp hB _ _ hS1 => by
    obtain ⟨z, rfl, hp⟩ := hp
    exact kk z σ1 hp ls H1 locs1 h (by rw [← ht]; exact hB) hS1)
theorem z_callVI1 (X : zX p s m args c cc nL own D G ad) {idx ci k maxL d : Nat} {C : String} {T : u_T} {N : Nat} {y : MethodName} {bytes : ByteArray} {ret : Option FieldType} {fs : List Value} {a0 : Value} {Post : Int → zM → Prop} (hM : zKI l D G ad y bytes maxL ret d (.ref (ad k) :: [a0]) σ Post) (K : zLkV own idx C y bytes maxL ret 1) (hcl : vwCl[ci]? = some (C, T, N)) (hk : zIn k) (hc : zC ad G k (σ.1 k) (σ.2 k) = .inr (ci, fs)) (hR : d + 1 ≤ R.frames ∧ 8 + (maxL + 11) + 30 * d ≤ R.locals) (hW : (st.map fun v => v.category).sum ≤ 8) (hcs : cells ≤ R.cells ∧ slots ≤ R.slots) (dd : decode cc pc = .ok (.invokevirtual idx, 3))
    (kk : ∀ (z : Int) (σ1 : zM), Post z σ1 → zV p l e R s m args below meth c nL D G ad cells slots Q (pc + 3) lv (vI z :: st) σ1) : zV p l e R s m args below meth c nL D G ad cells slots Q pc lv (a0 :: .ref (ad k) :: st) σ :=
  fun ls H locs h hP hS => va_calli (z_runV X (As := [a0]) (hM _) K hcl hk hc rfl hR hW dd rfl h hP hS hcs) hS (zA_old hS) (zA_free hS) (fun r σ1 t H1 locs1 ht _ hp hB _ _ hS1 => by
    obtain ⟨z, rfl, hp⟩ := hp
    exact kk z σ1 hp ls H1 locs1 h (by rw [← ht]; exact hB) hS1)
theorem z_callVI2 (X : zX p s m args c cc nL own D G ad) {idx ci k maxL d : Nat} {C : String} {T : u_T} {N : Nat} {y : MethodName} {bytes : ByteArray} {ret : Option FieldType} {fs : List Value} {a0 a1 : Value} {Post : Int → zM → Prop} (hM : zKI l D G ad y bytes maxL ret d (.ref (ad k) :: [a0, a1]) σ Post) (K : zLkV own idx C y bytes maxL ret 2) (hcl : vwCl[ci]? = some (C, T, N)) (hk : zIn k) (hc : zC ad G k (σ.1 k) (σ.2 k) = .inr (ci, fs)) (hR : d + 1 ≤ R.frames ∧ 8 + (maxL + 11) + 30 * d ≤ R.locals) (hW : (st.map fun v => v.category).sum ≤ 8) (hcs : cells ≤ R.cells ∧ slots ≤ R.slots) (dd : decode cc pc = .ok (.invokevirtual idx, 3))
    (kk : ∀ (z : Int) (σ1 : zM), Post z σ1 → zV p l e R s m args below meth c nL D G ad cells slots Q (pc + 3) lv (vI z :: st) σ1) : zV p l e R s m args below meth c nL D G ad cells slots Q pc lv (a1 :: a0 :: .ref (ad k) :: st) σ :=
  fun ls H locs h hP hS => va_calli (z_runV X (As := [a0, a1]) (hM _) K hcl hk hc rfl hR hW dd rfl h hP hS hcs) hS (zA_old hS) (zA_free hS) (fun r σ1 t H1 locs1 ht _ hp hB _ _ hS1 => by
    obtain ⟨z, rfl, hp⟩ := hp
    exact kk z σ1 hp ls H1 locs1 h (by rw [← ht]; exact hB) hS1)
theorem z_callVI3 (X : zX p s m args c cc nL own D G ad) {idx ci k maxL d : Nat} {C : String} {T : u_T} {N : Nat} {y : MethodName} {bytes : ByteArray} {ret : Option FieldType} {fs : List Value} {a0 a1 a2 : Value} {Post : Int → zM → Prop} (hM : zKI l D G ad y bytes maxL ret d (.ref (ad k) :: [a0, a1, a2]) σ Post) (K : zLkV own idx C y bytes maxL ret 3) (hcl : vwCl[ci]? = some (C, T, N)) (hk : zIn k) (hc : zC ad G k (σ.1 k) (σ.2 k) = .inr (ci, fs)) (hR : d + 1 ≤ R.frames ∧ 8 + (maxL + 11) + 30 * d ≤ R.locals) (hW : (st.map fun v => v.category).sum ≤ 8) (hcs : cells ≤ R.cells ∧ slots ≤ R.slots) (dd : decode cc pc = .ok (.invokevirtual idx, 3))
    (kk : ∀ (z : Int) (σ1 : zM), Post z σ1 → zV p l e R s m args below meth c nL D G ad cells slots Q (pc + 3) lv (vI z :: st) σ1) : zV p l e R s m args below meth c nL D G ad cells slots Q pc lv (a2 :: a1 :: a0 :: .ref (ad k) :: st) σ :=
  fun ls H locs h hP hS => va_calli (z_runV X (As := [a0, a1, a2]) (hM _) K hcl hk hc rfl hR hW dd rfl h hP hS hcs) hS (zA_old hS) (zA_free hS) (fun r σ1 t H1 locs1 ht _ hp hB _ _ hS1 => by
    obtain ⟨z, rfl, hp⟩ := hp
    exact kk z σ1 hp ls H1 locs1 h (by rw [← ht]; exact hB) hS1)
theorem z_callVI4 (X : zX p s m args c cc nL own D G ad) {idx ci k maxL d : Nat} {C : String} {T : u_T} {N : Nat} {y : MethodName} {bytes : ByteArray} {ret : Option FieldType} {fs : List Value} {a0 a1 a2 a3 : Value} {Post : Int → zM → Prop} (hM : zKI l D G ad y bytes maxL ret d (.ref (ad k) :: [a0, a1, a2, a3]) σ Post) (K : zLkV own idx C y bytes maxL ret 4) (hcl : vwCl[ci]? = some (C, T, N)) (hk : zIn k) (hc : zC ad G k (σ.1 k) (σ.2 k) = .inr (ci, fs)) (hR : d + 1 ≤ R.frames ∧ 8 + (maxL + 11) + 30 * d ≤ R.locals) (hW : (st.map fun v => v.category).sum ≤ 8) (hcs : cells ≤ R.cells ∧ slots ≤ R.slots) (dd : decode cc pc = .ok (.invokevirtual idx, 3))
    (kk : ∀ (z : Int) (σ1 : zM), Post z σ1 → zV p l e R s m args below meth c nL D G ad cells slots Q (pc + 3) lv (vI z :: st) σ1) : zV p l e R s m args below meth c nL D G ad cells slots Q pc lv (a3 :: a2 :: a1 :: a0 :: .ref (ad k) :: st) σ :=
  fun ls H locs h hP hS => va_calli (z_runV X (As := [a0, a1, a2, a3]) (hM _) K hcl hk hc rfl hR hW dd rfl h hP hS hcs) hS (zA_old hS) (zA_free hS) (fun r σ1 t H1 locs1 ht _ hp hB _ _ hS1 => by
    obtain ⟨z, rfl, hp⟩ := hp
    exact kk z σ1 hp ls H1 locs1 h (by rw [← ht]; exact hB) hS1)
theorem z_callVV0 (X : zX p s m args c cc nL own D G ad) {idx ci k maxL d : Nat} {C : String} {T : u_T} {N : Nat} {y : MethodName} {bytes : ByteArray} {ret : Option FieldType} {fs : List Value} {Post : zM → Prop} (hM : zKV l D G ad y bytes maxL ret d (.ref (ad k) :: []) σ Post) (K : zLkV own idx C y bytes maxL ret 0) (hcl : vwCl[ci]? = some (C, T, N)) (hk : zIn k) (hc : zC ad G k (σ.1 k) (σ.2 k) = .inr (ci, fs)) (hR : d + 1 ≤ R.frames ∧ 8 + (maxL + 11) + 30 * d ≤ R.locals) (hW : (st.map fun v => v.category).sum ≤ 8) (hcs : cells ≤ R.cells ∧ slots ≤ R.slots) (dd : decode cc pc = .ok (.invokevirtual idx, 3))
    (kk : ∀ σ1 : zM, Post σ1 → zV p l e R s m args below meth c nL D G ad cells slots Q (pc + 3) lv st σ1) : zV p l e R s m args below meth c nL D G ad cells slots Q pc lv (.ref (ad k) :: st) σ :=
  fun ls H locs h hP hS => va_callv (z_runV X (As := []) (hM _) K hcl hk hc rfl hR hW dd rfl h hP hS hcs) hS (zA_old hS) (zA_free hS) (fun σ1 t H1 locs1 ht _ hp hB _ _ hS1 => kk σ1 hp ls H1 locs1 h (by rw [← ht]; exact hB) hS1)
theorem z_callVV1 (X : zX p s m args c cc nL own D G ad) {idx ci k maxL d : Nat} {C : String} {T : u_T} {N : Nat} {y : MethodName} {bytes : ByteArray} {ret : Option FieldType} {fs : List Value} {a0 : Value} {Post : zM → Prop} (hM : zKV l D G ad y bytes maxL ret d (.ref (ad k) :: [a0]) σ Post) (K : zLkV own idx C y bytes maxL ret 1) (hcl : vwCl[ci]? = some (C, T, N)) (hk : zIn k) (hc : zC ad G k (σ.1 k) (σ.2 k) = .inr (ci, fs)) (hR : d + 1 ≤ R.frames ∧ 8 + (maxL + 11) + 30 * d ≤ R.locals) (hW : (st.map fun v => v.category).sum ≤ 8) (hcs : cells ≤ R.cells ∧ slots ≤ R.slots) (dd : decode cc pc = .ok (.invokevirtual idx, 3))
    (kk : ∀ σ1 : zM, Post σ1 → zV p l e R s m args below meth c nL D G ad cells slots Q (pc + 3) lv st σ1) : zV p l e R s m args below meth c nL D G ad cells slots Q pc lv (a0 :: .ref (ad k) :: st) σ :=
  fun ls H locs h hP hS => va_callv (z_runV X (As := [a0]) (hM _) K hcl hk hc rfl hR hW dd rfl h hP hS hcs) hS (zA_old hS) (zA_free hS) (fun σ1 t H1 locs1 ht _ hp hB _ _ hS1 => kk σ1 hp ls H1 locs1 h (by rw [← ht]; exact hB) hS1)
theorem z_callVV2 (X : zX p s m args c cc nL own D G ad) {idx ci k maxL d : Nat} {C : String} {T : u_T} {N : Nat} {y : MethodName} {bytes : ByteArray} {ret : Option FieldType} {fs : List Value} {a0 a1 : Value} {Post : zM → Prop} (hM : zKV l D G ad y bytes maxL ret d (.ref (ad k) :: [a0, a1]) σ Post) (K : zLkV own idx C y bytes maxL ret 2) (hcl : vwCl[ci]? = some (C, T, N)) (hk : zIn k) (hc : zC ad G k (σ.1 k) (σ.2 k) = .inr (ci, fs)) (hR : d + 1 ≤ R.frames ∧ 8 + (maxL + 11) + 30 * d ≤ R.locals) (hW : (st.map fun v => v.category).sum ≤ 8) (hcs : cells ≤ R.cells ∧ slots ≤ R.slots) (dd : decode cc pc = .ok (.invokevirtual idx, 3))
    (kk : ∀ σ1 : zM, Post σ1 → zV p l e R s m args below meth c nL D G ad cells slots Q (pc + 3) lv st σ1) : zV p l e R s m args below meth c nL D G ad cells slots Q pc lv (a1 :: a0 :: .ref (ad k) :: st) σ :=
  fun ls H locs h hP hS => va_callv (z_runV X (As := [a0, a1]) (hM _) K hcl hk hc rfl hR hW dd rfl h hP hS hcs) hS (zA_old hS) (zA_free hS) (fun σ1 t H1 locs1 ht _ hp hB _ _ hS1 => kk σ1 hp ls H1 locs1 h (by rw [← ht]; exact hB) hS1)
theorem z_callVV3 (X : zX p s m args c cc nL own D G ad) {idx ci k maxL d : Nat} {C : String} {T : u_T} {N : Nat} {y : MethodName} {bytes : ByteArray} {ret : Option FieldType} {fs : List Value} {a0 a1 a2 : Value} {Post : zM → Prop} (hM : zKV l D G ad y bytes maxL ret d (.ref (ad k) :: [a0, a1, a2]) σ Post) (K : zLkV own idx C y bytes maxL ret 3) (hcl : vwCl[ci]? = some (C, T, N)) (hk : zIn k) (hc : zC ad G k (σ.1 k) (σ.2 k) = .inr (ci, fs)) (hR : d + 1 ≤ R.frames ∧ 8 + (maxL + 11) + 30 * d ≤ R.locals) (hW : (st.map fun v => v.category).sum ≤ 8) (hcs : cells ≤ R.cells ∧ slots ≤ R.slots) (dd : decode cc pc = .ok (.invokevirtual idx, 3))
    (kk : ∀ σ1 : zM, Post σ1 → zV p l e R s m args below meth c nL D G ad cells slots Q (pc + 3) lv st σ1) : zV p l e R s m args below meth c nL D G ad cells slots Q pc lv (a2 :: a1 :: a0 :: .ref (ad k) :: st) σ :=
  fun ls H locs h hP hS => va_callv (z_runV X (As := [a0, a1, a2]) (hM _) K hcl hk hc rfl hR hW dd rfl h hP hS hcs) hS (zA_old hS) (zA_free hS) (fun σ1 t H1 locs1 ht _ hp hB _ _ hS1 => kk σ1 hp ls H1 locs1 h (by rw [← ht]; exact hB) hS1)
theorem z_callVV4 (X : zX p s m args c cc nL own D G ad) {idx ci k maxL d : Nat} {C : String} {T : u_T} {N : Nat} {y : MethodName} {bytes : ByteArray} {ret : Option FieldType} {fs : List Value} {a0 a1 a2 a3 : Value} {Post : zM → Prop} (hM : zKV l D G ad y bytes maxL ret d (.ref (ad k) :: [a0, a1, a2, a3]) σ Post) (K : zLkV own idx C y bytes maxL ret 4) (hcl : vwCl[ci]? = some (C, T, N)) (hk : zIn k) (hc : zC ad G k (σ.1 k) (σ.2 k) = .inr (ci, fs)) (hR : d + 1 ≤ R.frames ∧ 8 + (maxL + 11) + 30 * d ≤ R.locals) (hW : (st.map fun v => v.category).sum ≤ 8) (hcs : cells ≤ R.cells ∧ slots ≤ R.slots) (dd : decode cc pc = .ok (.invokevirtual idx, 3))
    (kk : ∀ σ1 : zM, Post σ1 → zV p l e R s m args below meth c nL D G ad cells slots Q (pc + 3) lv st σ1) : zV p l e R s m args below meth c nL D G ad cells slots Q pc lv (a3 :: a2 :: a1 :: a0 :: .ref (ad k) :: st) σ :=
  fun ls H locs h hP hS => va_callv (z_runV X (As := [a0, a1, a2, a3]) (hM _) K hcl hk hc rfl hR hW dd rfl h hP hS hcs) hS (zA_old hS) (zA_free hS) (fun σ1 t H1 locs1 ht _ hp hB _ _ hS1 => kk σ1 hp ls H1 locs1 h (by rw [← ht]; exact hB) hS1)
theorem z_callVL0 (X : zX p s m args c cc nL own D G ad) {idx ci k maxL d : Nat} {C : String} {T : u_T} {N : Nat} {y : MethodName} {bytes : ByteArray} {ret : Option FieldType} {fs : List Value} {Post : Int64 → zM → Prop} (hM : zKL l D G ad y bytes maxL ret d (.ref (ad k) :: []) σ Post) (K : zLkV own idx C y bytes maxL ret 0) (hcl : vwCl[ci]? = some (C, T, N)) (hk : zIn k) (hc : zC ad G k (σ.1 k) (σ.2 k) = .inr (ci, fs)) (hR : d + 1 ≤ R.frames ∧ 8 + (maxL + 11) + 30 * d ≤ R.locals) (hW : (st.map fun v => v.category).sum ≤ 8) (hcs : cells ≤ R.cells ∧ slots ≤ R.slots) (dd : decode cc pc = .ok (.invokevirtual idx, 3))
    (kk : ∀ (z : Int64) (σ1 : zM), Post z σ1 → zV p l e R s m args below meth c nL D G ad cells slots Q (pc + 3) lv (.long z :: st) σ1) : zV p l e R s m args below meth c nL D G ad cells slots Q pc lv (.ref (ad k) :: st) σ :=
  fun ls H locs h hP hS => va_calll (z_runV X (As := []) (hM _) K hcl hk hc rfl hR hW dd rfl h hP hS hcs) hS (zA_old hS) (zA_free hS) (fun z σ1 t H1 locs1 ht _ hp hB _ _ hS1 => kk z σ1 hp ls H1 locs1 h (by rw [← ht]; exact hB) hS1)
theorem z_callVL1 (X : zX p s m args c cc nL own D G ad) {idx ci k maxL d : Nat} {C : String} {T : u_T} {N : Nat} {y : MethodName} {bytes : ByteArray} {ret : Option FieldType} {fs : List Value} {a0 : Value} {Post : Int64 → zM → Prop} (hM : zKL l D G ad y bytes maxL ret d (.ref (ad k) :: [a0]) σ Post) (K : zLkV own idx C y bytes maxL ret 1) (hcl : vwCl[ci]? = some (C, T, N)) (hk : zIn k) (hc : zC ad G k (σ.1 k) (σ.2 k) = .inr (ci, fs)) (hR : d + 1 ≤ R.frames ∧ 8 + (maxL + 11) + 30 * d ≤ R.locals) (hW : (st.map fun v => v.category).sum ≤ 8) (hcs : cells ≤ R.cells ∧ slots ≤ R.slots) (dd : decode cc pc = .ok (.invokevirtual idx, 3))
    (kk : ∀ (z : Int64) (σ1 : zM), Post z σ1 → zV p l e R s m args below meth c nL D G ad cells slots Q (pc + 3) lv (.long z :: st) σ1) : zV p l e R s m args below meth c nL D G ad cells slots Q pc lv (a0 :: .ref (ad k) :: st) σ :=
  fun ls H locs h hP hS => va_calll (z_runV X (As := [a0]) (hM _) K hcl hk hc rfl hR hW dd rfl h hP hS hcs) hS (zA_old hS) (zA_free hS) (fun z σ1 t H1 locs1 ht _ hp hB _ _ hS1 => kk z σ1 hp ls H1 locs1 h (by rw [← ht]; exact hB) hS1)
theorem z_callVL2 (X : zX p s m args c cc nL own D G ad) {idx ci k maxL d : Nat} {C : String} {T : u_T} {N : Nat} {y : MethodName} {bytes : ByteArray} {ret : Option FieldType} {fs : List Value} {a0 a1 : Value} {Post : Int64 → zM → Prop} (hM : zKL l D G ad y bytes maxL ret d (.ref (ad k) :: [a0, a1]) σ Post) (K : zLkV own idx C y bytes maxL ret 2) (hcl : vwCl[ci]? = some (C, T, N)) (hk : zIn k) (hc : zC ad G k (σ.1 k) (σ.2 k) = .inr (ci, fs)) (hR : d + 1 ≤ R.frames ∧ 8 + (maxL + 11) + 30 * d ≤ R.locals) (hW : (st.map fun v => v.category).sum ≤ 8) (hcs : cells ≤ R.cells ∧ slots ≤ R.slots) (dd : decode cc pc = .ok (.invokevirtual idx, 3))
    (kk : ∀ (z : Int64) (σ1 : zM), Post z σ1 → zV p l e R s m args below meth c nL D G ad cells slots Q (pc + 3) lv (.long z :: st) σ1) : zV p l e R s m args below meth c nL D G ad cells slots Q pc lv (a1 :: a0 :: .ref (ad k) :: st) σ :=
  fun ls H locs h hP hS => va_calll (z_runV X (As := [a0, a1]) (hM _) K hcl hk hc rfl hR hW dd rfl h hP hS hcs) hS (zA_old hS) (zA_free hS) (fun z σ1 t H1 locs1 ht _ hp hB _ _ hS1 => kk z σ1 hp ls H1 locs1 h (by rw [← ht]; exact hB) hS1)
theorem z_callVL3 (X : zX p s m args c cc nL own D G ad) {idx ci k maxL d : Nat} {C : String} {T : u_T} {N : Nat} {y : MethodName} {bytes : ByteArray} {ret : Option FieldType} {fs : List Value} {a0 a1 a2 : Value} {Post : Int64 → zM → Prop} (hM : zKL l D G ad y bytes maxL ret d (.ref (ad k) :: [a0, a1, a2]) σ Post) (K : zLkV own idx C y bytes maxL ret 3) (hcl : vwCl[ci]? = some (C, T, N)) (hk : zIn k) (hc : zC ad G k (σ.1 k) (σ.2 k) = .inr (ci, fs)) (hR : d + 1 ≤ R.frames ∧ 8 + (maxL + 11) + 30 * d ≤ R.locals) (hW : (st.map fun v => v.category).sum ≤ 8) (hcs : cells ≤ R.cells ∧ slots ≤ R.slots) (dd : decode cc pc = .ok (.invokevirtual idx, 3))
    (kk : ∀ (z : Int64) (σ1 : zM), Post z σ1 → zV p l e R s m args below meth c nL D G ad cells slots Q (pc + 3) lv (.long z :: st) σ1) : zV p l e R s m args below meth c nL D G ad cells slots Q pc lv (a2 :: a1 :: a0 :: .ref (ad k) :: st) σ :=
  fun ls H locs h hP hS => va_calll (z_runV X (As := [a0, a1, a2]) (hM _) K hcl hk hc rfl hR hW dd rfl h hP hS hcs) hS (zA_old hS) (zA_free hS) (fun z σ1 t H1 locs1 ht _ hp hB _ _ hS1 => kk z σ1 hp ls H1 locs1 h (by rw [← ht]; exact hB) hS1)
theorem z_callVL4 (X : zX p s m args c cc nL own D G ad) {idx ci k maxL d : Nat} {C : String} {T : u_T} {N : Nat} {y : MethodName} {bytes : ByteArray} {ret : Option FieldType} {fs : List Value} {a0 a1 a2 a3 : Value} {Post : Int64 → zM → Prop} (hM : zKL l D G ad y bytes maxL ret d (.ref (ad k) :: [a0, a1, a2, a3]) σ Post) (K : zLkV own idx C y bytes maxL ret 4) (hcl : vwCl[ci]? = some (C, T, N)) (hk : zIn k) (hc : zC ad G k (σ.1 k) (σ.2 k) = .inr (ci, fs)) (hR : d + 1 ≤ R.frames ∧ 8 + (maxL + 11) + 30 * d ≤ R.locals) (hW : (st.map fun v => v.category).sum ≤ 8) (hcs : cells ≤ R.cells ∧ slots ≤ R.slots) (dd : decode cc pc = .ok (.invokevirtual idx, 3))
    (kk : ∀ (z : Int64) (σ1 : zM), Post z σ1 → zV p l e R s m args below meth c nL D G ad cells slots Q (pc + 3) lv (.long z :: st) σ1) : zV p l e R s m args below meth c nL D G ad cells slots Q pc lv (a3 :: a2 :: a1 :: a0 :: .ref (ad k) :: st) σ :=
  fun ls H locs h hP hS => va_calll (z_runV X (As := [a0, a1, a2, a3]) (hM _) K hcl hk hc rfl hR hW dd rfl h hP hS hcs) hS (zA_old hS) (zA_free hS) (fun z σ1 t H1 locs1 ht _ hp hB _ _ hS1 => kk z σ1 hp ls H1 locs1 h (by rw [← ht]; exact hB) hS1)
theorem z_callSI0 (X : zX p s m args c cc nL own D G ad) {idx maxL d : Nat} {y : MethodName} {bytes : ByteArray} {ret : Option FieldType} {Post : Int → zM → Prop} (hM : zKI l D G ad y bytes maxL ret d [] σ Post) (K : zLkS own idx y bytes maxL ret 0) (hR : d + 1 ≤ R.frames ∧ 8 + (maxL + 11) + 30 * d ≤ R.locals) (hW : (st.map fun v => v.category).sum ≤ 8) (hcs : cells ≤ R.cells ∧ slots ≤ R.slots) (dd : decode cc pc = .ok (.invokestatic idx, 3))
    (kk : ∀ (z : Int) (σ1 : zM), Post z σ1 → zV p l e R s m args below meth c nL D G ad cells slots Q (pc + 3) lv (vI z :: st) σ1) : zV p l e R s m args below meth c nL D G ad cells slots Q pc lv (st) σ :=
  fun ls H locs h hP hS => va_calli (z_runS X (As := []) (hM _) K rfl hR hW dd rfl h hP hS hcs) hS (zA_old hS) (zA_free hS) (fun r σ1 t H1 locs1 ht _ hp hB _ _ hS1 => by
    obtain ⟨z, rfl, hp⟩ := hp
    exact kk z σ1 hp ls H1 locs1 h (by rw [← ht]; exact hB) hS1)
theorem z_callSI1 (X : zX p s m args c cc nL own D G ad) {idx maxL d : Nat} {y : MethodName} {bytes : ByteArray} {ret : Option FieldType} {a0 : Value} {Post : Int → zM → Prop} (hM : zKI l D G ad y bytes maxL ret d [a0] σ Post) (K : zLkS own idx y bytes maxL ret 1) (hR : d + 1 ≤ R.frames ∧ 8 + (maxL + 11) + 30 * d ≤ R.locals) (hW : (st.map fun v => v.category).sum ≤ 8) (hcs : cells ≤ R.cells ∧ slots ≤ R.slots) (dd : decode cc pc = .ok (.invokestatic idx, 3))
    (kk : ∀ (z : Int) (σ1 : zM), Post z σ1 → zV p l e R s m args below meth c nL D G ad cells slots Q (pc + 3) lv (vI z :: st) σ1) : zV p l e R s m args below meth c nL D G ad cells slots Q pc lv (a0 :: st) σ :=
  fun ls H locs h hP hS => va_calli (z_runS X (As := [a0]) (hM _) K rfl hR hW dd rfl h hP hS hcs) hS (zA_old hS) (zA_free hS) (fun r σ1 t H1 locs1 ht _ hp hB _ _ hS1 => by
    obtain ⟨z, rfl, hp⟩ := hp
    exact kk z σ1 hp ls H1 locs1 h (by rw [← ht]; exact hB) hS1)
theorem z_callSI2 (X : zX p s m args c cc nL own D G ad) {idx maxL d : Nat} {y : MethodName} {bytes : ByteArray} {ret : Option FieldType} {a0 a1 : Value} {Post : Int → zM → Prop} (hM : zKI l D G ad y bytes maxL ret d [a0, a1] σ Post) (K : zLkS own idx y bytes maxL ret 2) (hR : d + 1 ≤ R.frames ∧ 8 + (maxL + 11) + 30 * d ≤ R.locals) (hW : (st.map fun v => v.category).sum ≤ 8) (hcs : cells ≤ R.cells ∧ slots ≤ R.slots) (dd : decode cc pc = .ok (.invokestatic idx, 3))
    (kk : ∀ (z : Int) (σ1 : zM), Post z σ1 → zV p l e R s m args below meth c nL D G ad cells slots Q (pc + 3) lv (vI z :: st) σ1) : zV p l e R s m args below meth c nL D G ad cells slots Q pc lv (a1 :: a0 :: st) σ :=
  fun ls H locs h hP hS => va_calli (z_runS X (As := [a0, a1]) (hM _) K rfl hR hW dd rfl h hP hS hcs) hS (zA_old hS) (zA_free hS) (fun r σ1 t H1 locs1 ht _ hp hB _ _ hS1 => by
    obtain ⟨z, rfl, hp⟩ := hp
    exact kk z σ1 hp ls H1 locs1 h (by rw [← ht]; exact hB) hS1)
theorem z_callSI3 (X : zX p s m args c cc nL own D G ad) {idx maxL d : Nat} {y : MethodName} {bytes : ByteArray} {ret : Option FieldType} {a0 a1 a2 : Value} {Post : Int → zM → Prop} (hM : zKI l D G ad y bytes maxL ret d [a0, a1, a2] σ Post) (K : zLkS own idx y bytes maxL ret 3) (hR : d + 1 ≤ R.frames ∧ 8 + (maxL + 11) + 30 * d ≤ R.locals) (hW : (st.map fun v => v.category).sum ≤ 8) (hcs : cells ≤ R.cells ∧ slots ≤ R.slots) (dd : decode cc pc = .ok (.invokestatic idx, 3))
    (kk : ∀ (z : Int) (σ1 : zM), Post z σ1 → zV p l e R s m args below meth c nL D G ad cells slots Q (pc + 3) lv (vI z :: st) σ1) : zV p l e R s m args below meth c nL D G ad cells slots Q pc lv (a2 :: a1 :: a0 :: st) σ :=
  fun ls H locs h hP hS => va_calli (z_runS X (As := [a0, a1, a2]) (hM _) K rfl hR hW dd rfl h hP hS hcs) hS (zA_old hS) (zA_free hS) (fun r σ1 t H1 locs1 ht _ hp hB _ _ hS1 => by
    obtain ⟨z, rfl, hp⟩ := hp
    exact kk z σ1 hp ls H1 locs1 h (by rw [← ht]; exact hB) hS1)
theorem z_callSI4 (X : zX p s m args c cc nL own D G ad) {idx maxL d : Nat} {y : MethodName} {bytes : ByteArray} {ret : Option FieldType} {a0 a1 a2 a3 : Value} {Post : Int → zM → Prop} (hM : zKI l D G ad y bytes maxL ret d [a0, a1, a2, a3] σ Post) (K : zLkS own idx y bytes maxL ret 4) (hR : d + 1 ≤ R.frames ∧ 8 + (maxL + 11) + 30 * d ≤ R.locals) (hW : (st.map fun v => v.category).sum ≤ 8) (hcs : cells ≤ R.cells ∧ slots ≤ R.slots) (dd : decode cc pc = .ok (.invokestatic idx, 3))
    (kk : ∀ (z : Int) (σ1 : zM), Post z σ1 → zV p l e R s m args below meth c nL D G ad cells slots Q (pc + 3) lv (vI z :: st) σ1) : zV p l e R s m args below meth c nL D G ad cells slots Q pc lv (a3 :: a2 :: a1 :: a0 :: st) σ :=
  fun ls H locs h hP hS => va_calli (z_runS X (As := [a0, a1, a2, a3]) (hM _) K rfl hR hW dd rfl h hP hS hcs) hS (zA_old hS) (zA_free hS) (fun r σ1 t H1 locs1 ht _ hp hB _ _ hS1 => by
    obtain ⟨z, rfl, hp⟩ := hp
    exact kk z σ1 hp ls H1 locs1 h (by rw [← ht]; exact hB) hS1)
theorem z_callSV0 (X : zX p s m args c cc nL own D G ad) {idx maxL d : Nat} {y : MethodName} {bytes : ByteArray} {ret : Option FieldType} {Post : zM → Prop} (hM : zKV l D G ad y bytes maxL ret d [] σ Post) (K : zLkS own idx y bytes maxL ret 0) (hR : d + 1 ≤ R.frames ∧ 8 + (maxL + 11) + 30 * d ≤ R.locals) (hW : (st.map fun v => v.category).sum ≤ 8) (hcs : cells ≤ R.cells ∧ slots ≤ R.slots) (dd : decode cc pc = .ok (.invokestatic idx, 3))
    (kk : ∀ σ1 : zM, Post σ1 → zV p l e R s m args below meth c nL D G ad cells slots Q (pc + 3) lv st σ1) : zV p l e R s m args below meth c nL D G ad cells slots Q pc lv (st) σ :=
  fun ls H locs h hP hS => va_callv (z_runS X (As := []) (hM _) K rfl hR hW dd rfl h hP hS hcs) hS (zA_old hS) (zA_free hS) (fun σ1 t H1 locs1 ht _ hp hB _ _ hS1 => kk σ1 hp ls H1 locs1 h (by rw [← ht]; exact hB) hS1)
theorem z_callSV1 (X : zX p s m args c cc nL own D G ad) {idx maxL d : Nat} {y : MethodName} {bytes : ByteArray} {ret : Option FieldType} {a0 : Value} {Post : zM → Prop} (hM : zKV l D G ad y bytes maxL ret d [a0] σ Post) (K : zLkS own idx y bytes maxL ret 1) (hR : d + 1 ≤ R.frames ∧ 8 + (maxL + 11) + 30 * d ≤ R.locals) (hW : (st.map fun v => v.category).sum ≤ 8) (hcs : cells ≤ R.cells ∧ slots ≤ R.slots) (dd : decode cc pc = .ok (.invokestatic idx, 3))
    (kk : ∀ σ1 : zM, Post σ1 → zV p l e R s m args below meth c nL D G ad cells slots Q (pc + 3) lv st σ1) : zV p l e R s m args below meth c nL D G ad cells slots Q pc lv (a0 :: st) σ :=
  fun ls H locs h hP hS => va_callv (z_runS X (As := [a0]) (hM _) K rfl hR hW dd rfl h hP hS hcs) hS (zA_old hS) (zA_free hS) (fun σ1 t H1 locs1 ht _ hp hB _ _ hS1 => kk σ1 hp ls H1 locs1 h (by rw [← ht]; exact hB) hS1)
theorem z_callSV2 (X : zX p s m args c cc nL own D G ad) {idx maxL d : Nat} {y : MethodName} {bytes : ByteArray} {ret : Option FieldType} {a0 a1 : Value} {Post : zM → Prop} (hM : zKV l D G ad y bytes maxL ret d [a0, a1] σ Post) (K : zLkS own idx y bytes maxL ret 2) (hR : d + 1 ≤ R.frames ∧ 8 + (maxL + 11) + 30 * d ≤ R.locals) (hW : (st.map fun v => v.category).sum ≤ 8) (hcs : cells ≤ R.cells ∧ slots ≤ R.slots) (dd : decode cc pc = .ok (.invokestatic idx, 3))
    (kk : ∀ σ1 : zM, Post σ1 → zV p l e R s m args below meth c nL D G ad cells slots Q (pc + 3) lv st σ1) : zV p l e R s m args below meth c nL D G ad cells slots Q pc lv (a1 :: a0 :: st) σ :=
  fun ls H locs h hP hS => va_callv (z_runS X (As := [a0, a1]) (hM _) K rfl hR hW dd rfl h hP hS hcs) hS (zA_old hS) (zA_free hS) (fun σ1 t H1 locs1 ht _ hp hB _ _ hS1 => kk σ1 hp ls H1 locs1 h (by rw [← ht]; exact hB) hS1)
theorem z_callSV3 (X : zX p s m args c cc nL own D G ad) {idx maxL d : Nat} {y : MethodName} {bytes : ByteArray} {ret : Option FieldType} {a0 a1 a2 : Value} {Post : zM → Prop} (hM : zKV l D G ad y bytes maxL ret d [a0, a1, a2] σ Post) (K : zLkS own idx y bytes maxL ret 3) (hR : d + 1 ≤ R.frames ∧ 8 + (maxL + 11) + 30 * d ≤ R.locals) (hW : (st.map fun v => v.category).sum ≤ 8) (hcs : cells ≤ R.cells ∧ slots ≤ R.slots) (dd : decode cc pc = .ok (.invokestatic idx, 3))
    (kk : ∀ σ1 : zM, Post σ1 → zV p l e R s m args below meth c nL D G ad cells slots Q (pc + 3) lv st σ1) : zV p l e R s m args below meth c nL D G ad cells slots Q pc lv (a2 :: a1 :: a0 :: st) σ :=
  fun ls H locs h hP hS => va_callv (z_runS X (As := [a0, a1, a2]) (hM _) K rfl hR hW dd rfl h hP hS hcs) hS (zA_old hS) (zA_free hS) (fun σ1 t H1 locs1 ht _ hp hB _ _ hS1 => kk σ1 hp ls H1 locs1 h (by rw [← ht]; exact hB) hS1)
theorem z_callSV4 (X : zX p s m args c cc nL own D G ad) {idx maxL d : Nat} {y : MethodName} {bytes : ByteArray} {ret : Option FieldType} {a0 a1 a2 a3 : Value} {Post : zM → Prop} (hM : zKV l D G ad y bytes maxL ret d [a0, a1, a2, a3] σ Post) (K : zLkS own idx y bytes maxL ret 4) (hR : d + 1 ≤ R.frames ∧ 8 + (maxL + 11) + 30 * d ≤ R.locals) (hW : (st.map fun v => v.category).sum ≤ 8) (hcs : cells ≤ R.cells ∧ slots ≤ R.slots) (dd : decode cc pc = .ok (.invokestatic idx, 3))
    (kk : ∀ σ1 : zM, Post σ1 → zV p l e R s m args below meth c nL D G ad cells slots Q (pc + 3) lv st σ1) : zV p l e R s m args below meth c nL D G ad cells slots Q pc lv (a3 :: a2 :: a1 :: a0 :: st) σ :=
  fun ls H locs h hP hS => va_callv (z_runS X (As := [a0, a1, a2, a3]) (hM _) K rfl hR hW dd rfl h hP hS hcs) hS (zA_old hS) (zA_free hS) (fun σ1 t H1 locs1 ht _ hp hB _ _ hS1 => kk σ1 hp ls H1 locs1 h (by rw [← ht]; exact hB) hS1)
end Z2
