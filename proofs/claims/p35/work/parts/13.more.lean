/-! more rows: truth values, bits, longs, nest mates -/
def zAnd (a b : Int) : Int := (iI a &&& iI b).toInt
def zOr (a b : Int) : Int := (iI a ||| iI b).toInt
def zXor (a b : Int) : Int := (iI a ^^^ iI b).toInt
def zShl (a b : Int) : Int := (iI a <<< (iI b &&& 31)).toInt
def zShr (a b : Int) : Int := (iI a >>> (iI b &&& 31)).toInt
theorem zAnd_eq (a b : Int) : iI a &&& iI b = iI (zAnd a b) := (iI_self _).symm
theorem zOr_eq (a b : Int) : iI a ||| iI b = iI (zOr a b) := (iI_self _).symm
theorem zXor_eq (a b : Int) : iI a ^^^ iI b = iI (zXor a b) := (iI_self _).symm
theorem zShl_eq (a b : Int) : iI a <<< (iI b &&& 31) = iI (zShl a b) := (iI_self _).symm
theorem zShr_eq (a b : Int) : iI a >>> (iI b &&& 31) = iI (zShr a b) := (iI_self _).symm
theorem zB_toInt (x : Int32) : zB x.toInt := iI_rng x
theorem zB_ite {P : Prop} {i : Decidable P} : zB (@ite Int P i 1 0) := by
  by_cases h : P
  · rw [if_pos h]; exact ⟨by decide, by decide⟩
  · rw [if_neg h]; exact ⟨by decide, by decide⟩
theorem zB01 {P : Prop} {i : Decidable P} : @ite Int P i 1 0 = 0 ∨ @ite Int P i 1 0 = 1 := by
  by_cases h : P
  · exact Or.inr (if_pos h)
  · exact Or.inl (if_neg h)
theorem zNA1 {k : Nat} (h : zNet k) : zArr (k + 1) 8 := zNet_arr h 1 (by decide) (by decide)
theorem zNA2 {k : Nat} (h : zNet k) : zArr (k + 2) 8 := zNet_arr h 2 (by decide) (by decide)
theorem zNA3 {k : Nat} (h : zNet k) : zArr (k + 3) 8 := zNet_arr h 3 (by decide) (by decide)
theorem zNA4 {k : Nat} (h : zNet k) : zArr (k + 4) 48 := zNet_arr h 4 (by decide) (by decide)
theorem zNA5 {k : Nat} (h : zNet k) : zArr (k + 5) 48 := zNet_arr h 5 (by decide) (by decide)
theorem zNA6 {k : Nat} (h : zNet k) : zArr (k + 6) 6 := zNet_arr h 6 (by decide) (by decide)
theorem zNA7 {k : Nat} (h : zNet k) : zArr (k + 7) 144 := zNet_arr h 7 (by decide) (by decide)
section Z3
variable {p : Program} {l : Launch} {e : Env} {R : Room} {s : State} {m : MethodId} {args : Array Value} {below : List Frame} {meth : Method} {c : Code} {cc : ByteArray} {nL : Nat} {own : String} {D : va_G} {G : zG} {ad : Nat → Nat} {cells slots : Nat} {Q : State → Prop}
variable {pc : Nat} {lv : List (Nat × Value)} {st : List Value} {σ : zM}
theorem z_ifb_eq (X : zX p s m args c cc nL own D G ad) {P : Prop} {i : Decidable P} {off : Int} (tgt : Nat) (d : decode cc pc = .ok (.ifCond .eq off, 3)) (ht : (pc : Int) + off = (tgt : Int))
    (kt : ¬ P → zV p l e R s m args below meth c nL D G ad cells slots Q tgt lv st σ) (kf : P → zV p l e R s m args below meth c nL D G ad cells slots Q (pc + 3) lv st σ) : zV p l e R s m args below meth c nL D G ad cells slots Q pc lv (vI (@ite Int P i 1 0) :: st) σ :=
  z_if_eq X tgt d ht zB_ite (fun h => kt (fun h2 => by rw [if_pos h2] at h; exact absurd h (by decide))) (fun h => kf (Decidable.byContradiction (fun h2 => h (if_neg h2))))
theorem z_ifb_ne (X : zX p s m args c cc nL own D G ad) {P : Prop} {i : Decidable P} {off : Int} (tgt : Nat) (d : decode cc pc = .ok (.ifCond .ne off, 3)) (ht : (pc : Int) + off = (tgt : Int))
    (kt : P → zV p l e R s m args below meth c nL D G ad cells slots Q tgt lv st σ) (kf : ¬ P → zV p l e R s m args below meth c nL D G ad cells slots Q (pc + 3) lv st σ) : zV p l e R s m args below meth c nL D G ad cells slots Q pc lv (vI (@ite Int P i 1 0) :: st) σ :=
  z_if_ne X tgt d ht zB_ite (fun h => kt (Decidable.byContradiction (fun h2 => h (if_neg h2)))) (fun h => kf (fun h2 => by rw [if_pos h2] at h; exact absurd h (by decide)))
theorem z_lload_n (X : zX p s m args c cc nL own D G ad) {i : Fin 4} {x : Int64} (d : decode cc pc = .ok (.lload_n i, 1)) (hl : zL lv i.val = some (.long x))
    (k : zV p l e R s m args below meth c nL D G ad cells slots Q (pc + 1) lv (.long x :: st) σ) : zV p l e R s m args below meth c nL D G ad cells slots Q pc lv st σ :=
  fun ls H locs h hP hS => lv_lload_n X.1 X.2.1 d rfl (zL_at h hl) (k ls H locs h hP hS)
theorem z_lload (X : zX p s m args c cc nL own D G ad) {i : Nat} {x : Int64} (d : decode cc pc = .ok (.lload i, 2)) (hl : zL lv i = some (.long x))
    (k : zV p l e R s m args below meth c nL D G ad cells slots Q (pc + 2) lv (.long x :: st) σ) : zV p l e R s m args below meth c nL D G ad cells slots Q pc lv st σ :=
  fun ls H locs h hP hS => lv_lload X.1 X.2.1 d (zL_at h hl) (k ls H locs h hP hS)
theorem z_lstore_n (X : zX p s m args c cc nL own D G ad) {i : Fin 4} {x : Int64} (d : decode cc pc = .ok (.lstore_n i, 1)) (hn : i.val + 1 < nL)
    (k : zV p l e R s m args below meth c nL D G ad cells slots Q (pc + 1) (zF2 i.val (.long x) lv) st σ) : zV p l e R s m args below meth c nL D G ad cells slots Q pc lv (.long x :: st) σ :=
  fun ls H locs h hP hS => lv_lstore_n X.1 X.2.1 d rfl h hn rfl (fun ls' h' => k ls' H locs h' hP hS)
theorem z_lstore (X : zX p s m args c cc nL own D G ad) {i : Nat} {x : Int64} (d : decode cc pc = .ok (.lstore i, 2)) (hn : i + 1 < nL)
    (k : zV p l e R s m args below meth c nL D G ad cells slots Q (pc + 2) (zF2 i (.long x) lv) st σ) : zV p l e R s m args below meth c nL D G ad cells slots Q pc lv (.long x :: st) σ :=
  fun ls H locs h hP hS => lv_lstore X.1 X.2.1 d h hn rfl (fun ls' h' => k ls' H locs h' hP hS)
theorem z_i2l (X : zX p s m args c cc nL own D G ad) {a : Int} (d : decode cc pc = .ok (.i2l, 1))
    (k : zV p l e R s m args below meth c nL D G ad cells slots Q (pc + 1) lv (.long (iI a).toInt64 :: st) σ) : zV p l e R s m args below meth c nL D G ad cells slots Q pc lv (vI a :: st) σ :=
  fun ls H locs h hP hS => lv_i2l X.1 X.2.1 d rfl (k ls H locs h hP hS)
theorem z_ladd (X : zX p s m args c cc nL own D G ad) {a b : Int64} (d : decode cc pc = .ok (.ladd, 1))
    (k : zV p l e R s m args below meth c nL D G ad cells slots Q (pc + 1) lv (.long (a + b) :: st) σ) : zV p l e R s m args below meth c nL D G ad cells slots Q pc lv (.long b :: .long a :: st) σ :=
  fun ls H locs h hP hS => lv_ladd X.1 X.2.1 d (k ls H locs h hP hS)
theorem z_lmul (X : zX p s m args c cc nL own D G ad) {a b : Int64} (d : decode cc pc = .ok (.lmul, 1))
    (k : zV p l e R s m args below meth c nL D G ad cells slots Q (pc + 1) lv (.long (a * b) :: st) σ) : zV p l e R s m args below meth c nL D G ad cells slots Q pc lv (.long b :: .long a :: st) σ :=
  fun ls H locs h hP hS => lv_lmul X.1 X.2.1 d (k ls H locs h hP hS)
theorem z_lconst (X : zX p s m args c cc nL own D G ad) {n : Fin 2} (v : Int64) (d : decode cc pc = .ok (.lconst n, 1)) (hv : Int64.ofNat (n : Nat) = v)
    (k : zV p l e R s m args below meth c nL D G ad cells slots Q (pc + 1) lv (.long v :: st) σ) : zV p l e R s m args below meth c nL D G ad cells slots Q pc lv st σ :=
  fun ls H locs h hP hS => lv_lconst X.1 X.2.1 d hv (k ls H locs h hP hS)
theorem z_ldc2 (X : zX p s m args c cc nL own D G ad) {ix : Nat} {v : Int64} (hw : Cond.constantLong own ix v ∈ zU) (d : decode cc pc = .ok (.ldc2_w ix, 3))
    (k : zV p l e R s m args below meth c nL D G ad cells slots Q (pc + 3) lv (.long v :: st) σ) : zV p l e R s m args below meth c nL D G ad cells slots Q pc lv st σ :=
  fun ls H locs h hP hS => lv_ldc2 X.1 X.2.1 X.2.2.2.1 (X.2.2.2.2.1 _ hw) d (k ls H locs h hP hS)
/-- a static method of a nest mate -/
def zLkN (own : String) (idx : Nat) (y : MethodName) (host : String) (bytes : ByteArray) (maxL : Nat) (ret : Option FieldType) (n : Nat) : Prop :=
  (own = RX2 ∧ idx = 72 ∧ y = yX3_isSite ∧ host = RX3) ∧ Cond.static y ∈ zU ∧ Cond.initialized y.cls ∈ zU ∧ Cond.code y bytes maxL ret ∈ zU ∧ y.cls ≠ "java/lang/invoke/MethodHandle" ∧ y.cls ≠ "java/lang/invoke/VarHandle" ∧ (parseMethodDescriptor y.desc).map (fun d => d.parameters.length) = some n
theorem z_callNI1 (X : zX p s m args c cc nL own D G ad) {idx maxL d : Nat} {y : MethodName} {host : String} {bytes : ByteArray} {ret : Option FieldType} {a0 : Value} {Post : Int → zM → Prop} (hM : zKI l D G ad y bytes maxL ret d [a0] σ Post) (K : zLkN own idx y host bytes maxL ret 1) (hR : d + 1 ≤ R.frames ∧ 8 + (maxL + 11) + 30 * d ≤ R.locals) (hW : (st.map fun v => v.category).sum ≤ 8) (hcs : cells ≤ R.cells ∧ slots ≤ R.slots) (dd : decode cc pc = .ok (.invokestatic idx, 3))
    (kk : ∀ (z : Int) (σ1 : zM), Post z σ1 → zV p l e R s m args below meth c nL D G ad cells slots Q (pc + 3) lv (vI z :: st) σ1) : zV p l e R s m args below meth c nL D G ad cells slots Q pc lv (a0 :: st) σ := by
  intro ls H locs h hP hS
  have hts := X.2.2.2.2.1
  refine va_calli (va_runSN (As := [a0]) (rest := st) (n := 1) (ws := Cond.code y bytes maxL ret :: zU) (host := host) ⟨X.1, X.2.1, X.2.2.1, X.2.2.2.1, X.2.2.2.2.1⟩ (hM _) ⟨va_cnB 1 hts (zU_goodIn (zAllc K.2.2.2.1 (fun w h => h))) rfl rfl rfl (by obtain ⟨rfl, rfl, rfl, rfl⟩ := K.1; exact X.2.2.2.2.2.2.2) (hts _ K.2.2.1) ⟨K.2.2.2.2.1, K.2.2.2.2.2.1, K.2.2.2.2.2.2⟩ hR, hts _ K.2.1, trivial⟩ ⟨z_blind, fun U hU hW => ⟨rfl, by rw [hU], by rw [hU]; exact hP, va_K.moved hW.alike X.2.2.2.2.2.1, va_Nw.warmM hW X.2.2.2.2.2.2.2⟩⟩ rfl rfl h.1 rfl (lv_room hW) dd hcs) hS (zA_old hS) (zA_free hS) (fun r σ1 t H1 locs1 ht _ hp hB _ _ hS1 => by
    obtain ⟨z, rfl, hp⟩ := hp
    exact kk z σ1 hp ls H1 locs1 h (by rw [← ht]; exact hB) hS1)
end Z3
theorem kX2_72 : zLkN RX2 72 yX3_isSite RX3 cX3_isSite 1 (some .boolean) 1 := ⟨⟨rfl, rfl, rfl, rfl⟩, zU_mem 293 (by decide +kernel) (by decide +kernel), u_iniX3, zU_mem 294 (by decide +kernel) (by decide +kernel), by decide +kernel, by decide +kernel, by decide +kernel⟩
