/-! loops; doubles: no draw is made, for nothing here is not a number -/
theorem zForL {S : Type} (lo n : Int) (Inv Goal : Int → S → Prop) (step : ∀ i s, lo ≤ i → i ≤ n → Inv i s → (i < n → ∀ s', Inv (i + 1) s' → Goal (i + 1) s') → Goal i s) (s0 : S) (h0 : lo ≤ n) (hi : Inv lo s0) : Goal lo s0 := by
  have key : ∀ (f : Nat) (i : Int) (s : S), lo ≤ i → i ≤ n → n - i < f → Inv i s → Goal i s := by
    intro f
    induction f with
    | zero => intro i s a b c; omega
    | succ f ih => intro i s a b c hv; exact step i s a b hv (fun hlt s' hs => ih (i + 1) s' (by omega) (by omega) (by omega) hs)
  exact key ((n - lo).toNat + 1) lo s0 (Int.le_refl lo) h0 (by omega) hi
theorem le_lit {r c c' : UInt64} (e1 : c.toNat = 2 ^ 63 - 1) (e2 : c'.toNat = 9218868437227405312) (h : ¬ 9218868437227405312 < r.toNat % 2 ^ 63) : r &&& c ≤ c' := by
  rw [UInt64.le_iff_toNat_le, UInt64.toNat_and, e1, e2, Nat.and_two_pow_sub_one_eq_mod]
  exact Nat.le_of_not_lt h
theorem vf_n64_of {r : UInt64} (h : FP.dIsNaN r = false) : vf_n64 r := by
  unfold vf_n64
  refine le_lit (by decide +kernel) (by decide +kernel) (fun q => ?_)
  have := (FP.Core.isNaN_bits r).mpr q
  have h2 : FP.Core.dIsNaN r = false := h
  rw [h2] at this
  cases this
theorem iI_ne0 {x : Int} (hb : zB x) (h : x ≠ 0) : iI x ≠ 0 := fun e => h (by
  have := congrArg Int32.toInt e
  rw [iI_toInt hb] at this
  exact this)
theorem zDdiv {x y : Int} (h : y ≠ 0 ∧ zB y) : vf_n64 (FP.ddiv (FP.i2d (iI x)) (FP.i2d (iI y))) := by
  refine vf_n64_of (FP.Core.ddiv_out (FP.Core.i2d_fin _).notNaN (FP.Core.i2d_fin _) (fun z => ?_))
  exact FP.Core.i2d_ne_zero (iI_ne0 h.2 h.1) ((FP.Core.zero_bits2 _).mp z)
def zQD (D : va_G) (G : zG) (ad : Nat → Nat) (sz : Nat) (Post : UInt64 → zM → Prop) : Array Value → State → Outcome → State → Prop := va_Qd Post (fun σ' t => va_P D vwCl (zW ad G σ') t.heap) (zA ad sz)
def zKD (l : Launch) (D : va_G) (G : zG) (ad : Nat → Nat) (y : MethodName) (bytes : ByteArray) (maxL : Nat) (ret : Option FieldType) (d : Nat) (av : List Value) (σ : zM) (Post : UInt64 → zM → Prop) : Prop :=
  ∀ sz, Met l y (.code y bytes maxL ret :: zU) (zRm d) (zPc D G ad av σ sz) (zQD D G ad sz Post) 0 0 (zA ad sz)
section Db
variable {p : Program} {l : Launch} {e : Env} {R : Room} {s : State} {m : MethodId} {args : Array Value} {below : List Frame} {meth : Method} {c : Code} {cc : ByteArray} {nL : Nat} {own : String} {D : va_G} {G : zG} {ad : Nat → Nat} {cells slots : Nat} {Q : State → Prop}
variable {pc : Nat} {lv : List (Nat × Value)} {st : List Value} {σ : zM}
theorem z_i2d (X : zX p s m args c cc nL own D G ad) {a : Int} (d : decode cc pc = .ok (.i2d, 1))
    (k : zV p l e R s m args below meth c nL D G ad cells slots Q (pc + 1) lv (.double (FP.i2d (iI a)) :: st) σ) : zV p l e R s m args below meth c nL D G ad cells slots Q pc lv (vI a :: st) σ :=
  fun ls H locs h hP hS => lv_i2d X.1 X.2.1 d (k ls H locs h hP hS)
theorem z_dconst0 (X : zX p s m args c cc nL own D G ad) (d : decode cc pc = .ok (.dconst 0, 1))
    (k : zV p l e R s m args below meth c nL D G ad cells slots Q (pc + 1) lv (.double FP.dconst0 :: st) σ) : zV p l e R s m args below meth c nL D G ad cells slots Q pc lv st σ :=
  fun ls H locs h hP hS => lv_dconst0 X.1 X.2.1 d (k ls H locs h hP hS)
theorem z_ddiv (X : zX p s m args c cc nL own D G ad) {a b : UInt64} (hne : vf_n64 (FP.ddiv a b)) (d : decode cc pc = .ok (.ddiv, 1))
    (k : zV p l e R s m args below meth c nL D G ad cells slots Q (pc + 1) lv (.double (FP.ddiv a b) :: st) σ) : zV p l e R s m args below meth c nL D G ad cells slots Q pc lv (.double b :: .double a :: st) σ :=
  fun ls H locs h hP hS => lv_ddiv X.1 X.2.1 d hne (k ls H locs h hP hS)
theorem z_dret (X : zX p s m args c cc nL own D G ad) {sz : Nat} {z : UInt64} {Post : UInt64 → zM → Prop} (hsz : s.heap.size = sz) (hr : meth.sig.returnType = some .double) (hlocks : meth.locks = false) (d : decode cc pc = .ok (.dreturn, 1)) (hq : Post z σ) : zV p l e R s m args below meth c nL D G ad 0 0 (zE below (zQD D G ad sz Post) args s ad) pc lv [.double z] σ := by
  subst hsz
  exact fun ls H locs h hP hS => W.dret X.1 X.2.1 hr (fun t ht hW => ⟨⟨z, σ, rfl, hq, (ht.symm ▸ hP : va_P D vwCl (zW ad G σ) t.heap)⟩, hS.F ht⟩) hS.2.2 d hlocks
end Db
theorem zSum_01' {f : Int → Int} (hf : ∀ i, 0 ≤ f i ∧ f i ≤ 1) : ∀ n : Nat, 0 ≤ zSum f n ∧ zSum f n ≤ n
  | 0 => ⟨Int.le_refl _, Int.le_refl _⟩
  | n + 1 => by
    have h1 := zSum_01' hf n
    have h2 := hf n
    rw [zSum]
    omega
theorem zSum_01 {P : Int → Prop} [DecidablePred P] {a : Int} {n : Nat} (h : a = zSum (fun k => if P k then 1 else 0) n) : 0 ≤ a ∧ a ≤ n := by
  rw [h]
  exact zSum_01' (fun i => by show 0 ≤ (if P i then (1 : Int) else 0) ∧ (if P i then (1 : Int) else 0) ≤ 1; split <;> decide) n
