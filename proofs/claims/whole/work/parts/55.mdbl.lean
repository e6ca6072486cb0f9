/-! doubles: no draw is made, for nothing here is not a number -/
theorem le_lit {r c c' : UInt64} (e1 : c.toNat = 2 ^ 63 - 1) (e2 : c'.toNat = 9218868437227405312) (h : ¬ 9218868437227405312 < r.toNat % 2 ^ 63) : r &&& c ≤ c' := by
  rw [UInt64.le_iff_toNat_le, UInt64.toNat_and, e1, e2, Nat.and_two_pow_sub_one_eq_mod]
  exact Nat.le_of_not_lt h
theorem vf_n64_of {r : UInt64} (h : FP.dIsNaN r = false) : vf_n64 r := by
  unfold vf_n64
  refine le_lit (by decide +kernel) (by decide +kernel) (fun q => ?_)
  have := (FP.Core.isNaN_bits r).mpr q
  have h2 : FP.Core.dIsNaN r = false := h
  rw [h2] at this
  cases this
theorem iI_ne0 {x : Int} (hb : zB x) (h : x ≠ 0) : iI x ≠ 0 := fun e => h (by
  have := congrArg Int32.toInt e
  rw [iI_toInt hb] at this
  exact this)
theorem zDdiv {x y : Int} (h : y ≠ 0 ∧ zB y) : vf_n64 (FP.ddiv (FP.i2d (iI x)) (FP.i2d (iI y))) := by
  refine vf_n64_of (FP.Core.ddiv_out (FP.Core.i2d_fin _).notNaN (FP.Core.i2d_fin _) (fun z => ?_))
  exact FP.Core.i2d_ne_zero (iI_ne0 h.2 h.1) ((FP.Core.zero_bits2 _).mp z)
def zQD (D : va_G) (G : zG) (ad : Nat → Nat) (sz : Nat) (Post : UInt64 → zM → Prop) : Array Value → State → Outcome → State → Prop := va_Qd Post (fun σ' t => va_P D vwCl (zW ad G σ') t.heap) (zA ad sz)
def zKD (l : Launch) (D : va_G) (G : zG) (ad : Nat → Nat) (y : MethodName) (bytes : ByteArray) (maxL : Nat) (ret : Option FieldType) (d : Nat) (av : List Value) (σ : zM) (Post : UInt64 → zM → Prop) : Prop :=
  ∀ sz, Met l y (.code y bytes maxL ret :: zU) (zRm d) (zPc D G ad av σ sz) (zQD D G ad sz Post) 0 0 (zA ad sz)
section Db
variable {p : Program} {l : Launch} {e : Env} {R : Room} {s : State} {m : MethodId} {args : Array Value} {below : List Frame} {meth : Method} {c : Code} {cc : ByteArray} {nL : Nat} {own : String} {D : va_G} {G : zG} {ad : Nat → Nat} {cells slots : Nat} {Q : State → Prop}
variable {pc : Nat} {lv : List (Nat × Value)} {st : List Value} {σ : zM}
theorem z_i2d (X : zX p s m args c cc nL own D G ad) {a : Int} (d : decode cc pc = .ok (.i2d, 1))
    (k : zV p l e R s m args below meth c nL D G ad cells slots Q (pc + 1) lv (.double (FP.i2d (iI a)) :: st) σ) : zV p l e R s m args below meth c nL D G ad cells slots Q pc lv (vI a :: st) σ :=
  fun ls H locs h hP hS => lv_i2d X.1 X.2.1 d (k ls H locs h hP hS)
theorem z_dconst0 (X : zX p s m args c cc nL own D G ad) (d : decode cc pc = .ok (.dconst 0, 1))
    (k : zV p l e R s m args below meth c nL D G ad cells slots Q (pc + 1) lv (.double FP.dconst0 :: st) σ) : zV p l e R s m args below meth c nL D G ad cells slots Q pc lv st σ :=
  fun ls H locs h hP hS => lv_dconst0 X.1 X.2.1 d (k ls H locs h hP hS)
theorem z_ddiv (X : zX p s m args c cc nL own D G ad) {a b : UInt64} (hne : vf_n64 (FP.ddiv a b)) (d : decode cc pc = .ok (.ddiv, 1))
    (k : zV p l e R s m args below meth c nL D G ad cells slots Q (pc + 1) lv (.double (FP.ddiv a b) :: st) σ) : zV p l e R s m args below meth c nL D G ad cells slots Q pc lv (.double b :: .double a :: st) σ :=
  fun ls H locs h hP hS => lv_ddiv X.1 X.2.1 d hne (k ls H locs h hP hS)
theorem z_dret (X : zX p s m args c cc nL own D G ad) {sz : Nat} {z : UInt64} {Post : UInt64 → zM → Prop} (hsz : s.heap.size = sz) (hr : meth.sig.returnType = some .double) (hlocks : meth.locks = false) (d : decode cc pc = .ok (.dreturn, 1)) (hq : Post z σ) : zV p l e R s m args below meth c nL D G ad 0 0 (zE below (zQD D G ad sz Post) args s ad) pc lv [.double z] σ := by
  subst hsz
  exact fun ls H locs h hP hS => W.dret X.1 X.2.1 hr (fun t ht hW => ⟨⟨z, σ, rfl, hq, (ht.symm ▸ hP : va_P D vwCl (zW ad G σ) t.heap)⟩, hS.F ht⟩) hS.2.2 d hlocks
end Db
theorem zSum_01' {f : Int → Int} (hf : ∀ i, 0 ≤ f i ∧ f i ≤ 1) : ∀ n : Nat, 0 ≤ zSum f n ∧ zSum f n ≤ n
  | 0 => ⟨Int.le_refl _, Int.le_refl _⟩
  | n + 1 => by
    have h1 := zSum_01' hf n
    have h2 := hf n
    rw [zSum]
    omega
theorem zSum_01 {P : Int → Prop} [DecidablePred P] {a : Int} {n : Nat} (h : a = zSum (fun k => if P k then 1 else 0) n) : 0 ≤ a ∧ a ≤ n := by
  rw [h]
  exact zSum_01' (fun i => by show 0 ≤ (if P i then (1 : Int) else 0) ∧ (if P i then (1 : Int) else 0) ≤ 1; split <;> decide) n
def mMems (V : zNt) : Int := zSum (fun k => if cSt V (k / 6) (k % 6) ≠ -1 then 1 else 0) (6 * V 0 0).toNat
def mDbs (V : zNt) : Int := zSum (fun k => if cSt V (k / 6) (k % 6) = 1 then 1 else 0) (6 * V 0 0).toNat
def mShare (V : zNt) : UInt64 := if mMems V = 0 then FP.dconst0 else FP.ddiv (FP.i2d (iI (mDbs V))) (FP.i2d (iI (mMems V)))
set_option maxHeartbeats 4000000 in
set_option maxRecDepth 100000 in
theorem c_X4_doubtShare {l : Launch} {D : va_G} {G : zG} {ad : Nat → Nat} (hJ : zInj ad) (σ : zM) {N : Nat → Nat → Int}   (ok : rOk (mV N 0)) : zKD l D G ad yX4_doubtShare cX4_doubtShare 4 (some .double) 3 [.ref (ad 5)] (zBk σ 5 3 N) (fun z σ9 => z = mShare (mV N 0) ∧ σ9 = (zBk σ 5 3 (up2 N 0 0 0))) := by
  intro sz
  refine z_open hJ (by decide +kernel) (Nat.le_of_ble_eq_true rfl) ?_
  intro p e s0 m args below meth c hsz X hr hlocks
  have hn := rk_n ok
  have e00 : ∀ x : Int, mV (up2 N 0 0 x) 0 = mV N 0 := fun x => mV_r0 N 0 x 0
  have e000 : mV (up2 N 0 0 0) 0 0 0 = mV N 0 0 0 := by rw [e00]
  refine z_sub [(0, .ref (ad 5))] (zSub_cons rfl zSub_nil) ?_
  refine z_aload_n X dX4_doubtShare_0 rfl ?_
  refine z_iconst X dX4_doubtShare_1 ?_
  refine y_pMod0 X fX4_16 dX4_doubtShare_2 ?_
  refine z_iconst X dX4_doubtShare_5 ?_
  refine z_istore_n X dX4_doubtShare_6 (by decide) ?_
  refine z_sub [(0, .ref (ad 5)), (1, vI 0)] (zSub_cons rfl (zSub_cons rfl zSub_nil)) ?_
  refine z_iconst X dX4_doubtShare_7 ?_
  refine z_istore_n X dX4_doubtShare_8 (by decide) ?_
  refine z_sub [(0, .ref (ad 5)), (1, vI 0), (2, vI 0)] (zSub_cons rfl (zSub_cons rfl (zSub_cons rfl zSub_nil))) ?_
  refine z_iconst X dX4_doubtShare_9 ?_
  refine z_istore_n X dX4_doubtShare_10 (by decide) ?_
  refine z_sub [(0, .ref (ad 5)), (1, vI 0), (2, vI 0), (3, vI 0)] (zSub_cons rfl (zSub_cons rfl (zSub_cons rfl (zSub_cons rfl zSub_nil)))) ?_
  refine z_sub [(0, .ref (ad 5)), (1, vI 0), (2, vI 0), (3, vI 0)] (zSub_cons rfl (zSub_cons rfl (zSub_cons rfl (zSub_cons rfl zSub_nil)))) ?_
  refine zFor (S := (Int × Int)) (6 * (mV N 0) 0 0) (fun i q => q.1 = zSum (fun k => if cSt (mV N 0) (k / 6) (k % 6) ≠ -1 then 1 else 0) i.toNat ∧ q.2 = zSum (fun k => if cSt (mV N 0) (k / 6) (k % 6) = 1 then 1 else 0) i.toNat) (fun i q => zV p l e (zRm 3) s0 m args below meth c 4 D G ad 0 0 (zE below (zQD D G ad sz (fun z σ9 => z = mShare (mV N 0) ∧ σ9 = (zBk σ 5 3 (up2 N 0 0 0)))) args s0 ad) 11 [(0, .ref (ad 5)), (1, vI q.1), (2, vI q.2), (3, vI i)] [] (zBk σ 5 3 (up2 N 0 0 0))) (fun i q i0 i1 hv ih => ?_) (0, 0) (by omega) ⟨rfl, rfl⟩
  refine z_iload_n X dX4_doubtShare_11 rfl ?_
  refine z_bipush X dX4_doubtShare_12 rfl ?_
  refine z_aload_n X dX4_doubtShare_14 rfl ?_
  refine y_gMod1 X fX4_7 dX4_doubtShare_15 ?_
  refine z_iconst X dX4_doubtShare_18 ?_
  refine y_iald X 1 (zArr_6) (by decide) (by omega) (by omega) (by decide) dX4_doubtShare_19 ?_
  rw [fl_n0 (N := (up2 N 0 0 0)), e00]
  refine z_imul X dX4_doubtShare_20 ?_
  refine z_icmp_ge X 79 dX4_doubtShare_21 (by decide) (by first | assumption | (unfold zB at *; omega)) (by first | assumption | (unfold zB at *; omega)) (fun c_1 => ?_) (fun c_1 => ?_)
  · refine z_iload_n X dX4_doubtShare_79 rfl ?_
    refine z_if_ne X 87 dX4_doubtShare_80 (by decide) (by have := zSum_01 hv.1; unfold zB; omega) (fun c_2 => ?_) (fun c_2 => ?_)
    · have hnz : q.1 ≠ 0 ∧ zB q.1 := ⟨by omega, by have := zSum_01 hv.1; unfold zB; omega⟩
      refine z_iload_n X dX4_doubtShare_87 rfl ?_
      refine z_i2d X dX4_doubtShare_88 ?_
      refine z_iload_n X dX4_doubtShare_89 rfl ?_
      refine z_i2d X dX4_doubtShare_90 ?_
      refine z_ddiv X (zDdiv hnz) dX4_doubtShare_91 ?_
      exact z_dret X hsz hr hlocks dX4_doubtShare_92 ⟨(by unfold mShare mMems mDbs; rw [show (6 * mV N 0 0 0) = i by omega, ← hv.1, ← hv.2]; first | rw [if_pos (by assumption)] | rw [if_neg (by assumption)]), (congrArg (zBk σ _ _) rfl)⟩
    · refine z_dconst0 X dX4_doubtShare_83 ?_
      refine z_goto X 92 dX4_doubtShare_84 (by decide) ?_
      exact z_dret X hsz hr hlocks dX4_doubtShare_92 ⟨(by unfold mShare mMems mDbs; rw [show (6 * mV N 0 0 0) = i by omega, ← hv.1, ← hv.2]; first | rw [if_pos (by assumption)] | rw [if_neg (by assumption)]), (congrArg (zBk σ _ _) rfl)⟩
  · refine z_iload_n X dX4_doubtShare_24 rfl ?_
    refine z_aload_n X dX4_doubtShare_25 rfl ?_
    refine z_iconst X dX4_doubtShare_26 ?_
    refine z_iload_n X dX4_doubtShare_27 rfl ?_
    refine z_bipush X dX4_doubtShare_28 rfl ?_
    refine z_idiv6 X (by omega) (by omega) dX4_doubtShare_30 ?_
    refine z_iload_n X dX4_doubtShare_31 rfl ?_
    refine z_bipush X dX4_doubtShare_32 rfl ?_
    refine z_irem6 X (by omega) (by omega) dX4_doubtShare_34 ?_
    refine z_callVI3 X (c_X4_isMember hJ _ ⟨by decide, by decide⟩ (by unfold zB; omega) (by unfold zB; omega) (by omega) (by first | exact ok | (rw [e00]; exact ok)) (by first | omega | assumption | grind) (by omega)) kX4_28 rfl (by decide) rfl ⟨(Nat.le_of_ble_eq_true rfl), (Nat.le_of_ble_eq_true rfl)⟩ (Nat.le_of_ble_eq_true rfl) ⟨Nat.zero_le _, Nat.zero_le _⟩ dX4_doubtShare_35 (fun z9 σ1 hz9 => ?_)
    obtain ⟨rfl, rfl⟩ := hz9
    try rw [e00]
    refine z_ifb_eq X 45 dX4_doubtShare_38 (by decide) (fun c_4 => ?_) (fun c_4 => ?_)
    · refine z_iconst X dX4_doubtShare_45 ?_
      refine z_iadd X dX4_doubtShare_46 ?_
      refine z_istore_n X dX4_doubtShare_47 (by decide) ?_
      refine z_sub [(0, .ref (ad 5)), (1, vI (q.1 + 0)), (2, vI q.2), (3, vI i)] (zSub_cons rfl (zSub_cons rfl (zSub_cons rfl (zSub_cons rfl zSub_nil)))) ?_
      refine z_iload_n X dX4_doubtShare_48 rfl ?_
      refine z_aload_n X dX4_doubtShare_49 rfl ?_
      refine z_iconst X dX4_doubtShare_50 ?_
      refine z_iload_n X dX4_doubtShare_51 rfl ?_
      refine z_bipush X dX4_doubtShare_52 rfl ?_
      refine z_idiv6 X (by omega) (by omega) dX4_doubtShare_54 ?_
      refine z_iload_n X dX4_doubtShare_55 rfl ?_
      refine z_bipush X dX4_doubtShare_56 rfl ?_
      refine z_irem6 X (by omega) (by omega) dX4_doubtShare_58 ?_
      refine z_callVI3 X (c_X4_stateOf hJ _ ⟨by decide, by decide⟩ (by unfold zB; omega) (by unfold zB; omega) (by omega) (by first | exact ok | (rw [e00]; exact ok)) (by first | omega | assumption | grind) (by omega)) kX4_35 rfl (by decide) rfl ⟨(Nat.le_of_ble_eq_true rfl), (Nat.le_of_ble_eq_true rfl)⟩ (Nat.le_of_ble_eq_true rfl) ⟨Nat.zero_le _, Nat.zero_le _⟩ dX4_doubtShare_59 (fun z9 σ1 hz9 => ?_)
      obtain ⟨rfl, rfl⟩ := hz9
      try rw [e00]
      refine z_iconst X dX4_doubtShare_62 ?_
      refine z_icmp_ne X 70 dX4_doubtShare_63 (by decide) (zB_sm (qg_st (by first | exact ok | (rw [e00]; exact ok)) _ _)) ⟨by decide, by decide⟩ (fun c_6 => ?_) (fun c_6 => ?_)
      · refine z_iconst X dX4_doubtShare_70 ?_
        refine z_iadd X dX4_doubtShare_71 ?_
        refine z_istore_n X dX4_doubtShare_72 (by decide) ?_
        refine z_sub [(0, .ref (ad 5)), (1, vI (q.1 + 0)), (2, vI (q.2 + 0)), (3, vI i)] (zSub_cons rfl (zSub_cons rfl (zSub_cons rfl (zSub_cons rfl zSub_nil)))) ?_
        refine z_iinc X dX4_doubtShare_73 rfl (by decide) ?_
        refine z_sub [(0, .ref (ad 5)), (1, vI (q.1 + 0)), (2, vI (q.2 + 0)), (3, vI (i + 1))] (zSub_cons rfl (zSub_cons rfl (zSub_cons rfl (zSub_cons rfl zSub_nil)))) ?_
        refine z_goto X 11 dX4_doubtShare_76 (by decide) ?_
        refine z_sub [(0, .ref (ad 5)), (1, vI (q.1 + 0)), (2, vI (q.2 + 0)), (3, vI (i + 1))] (zSub_cons rfl (zSub_cons rfl (zSub_cons rfl (zSub_cons rfl zSub_nil)))) ?_
        exact ih (by omega) ((q.1 + 0), (q.2 + 0)) ⟨by rw [zSum_step i0, ← hv.1]; grind, by rw [zSum_step i0, ← hv.2]; grind⟩
      · refine z_iconst X dX4_doubtShare_66 ?_
        refine z_goto X 71 dX4_doubtShare_67 (by decide) ?_
        refine z_iadd X dX4_doubtShare_71 ?_
        refine z_istore_n X dX4_doubtShare_72 (by decide) ?_
        refine z_sub [(0, .ref (ad 5)), (1, vI (q.1 + 0)), (2, vI (q.2 + 1)), (3, vI i)] (zSub_cons rfl (zSub_cons rfl (zSub_cons rfl (zSub_cons rfl zSub_nil)))) ?_
        refine z_iinc X dX4_doubtShare_73 rfl (by decide) ?_
        refine z_sub [(0, .ref (ad 5)), (1, vI (q.1 + 0)), (2, vI (q.2 + 1)), (3, vI (i + 1))] (zSub_cons rfl (zSub_cons rfl (zSub_cons rfl (zSub_cons rfl zSub_nil)))) ?_
        refine z_goto X 11 dX4_doubtShare_76 (by decide) ?_
        refine z_sub [(0, .ref (ad 5)), (1, vI (q.1 + 0)), (2, vI (q.2 + 1)), (3, vI (i + 1))] (zSub_cons rfl (zSub_cons rfl (zSub_cons rfl (zSub_cons rfl zSub_nil)))) ?_
        exact ih (by omega) ((q.1 + 0), (q.2 + 1)) ⟨by rw [zSum_step i0, ← hv.1]; grind, by rw [zSum_step i0, ← hv.2]; grind⟩
    · refine z_iconst X dX4_doubtShare_41 ?_
      refine z_goto X 46 dX4_doubtShare_42 (by decide) ?_
      refine z_iadd X dX4_doubtShare_46 ?_
      refine z_istore_n X dX4_doubtShare_47 (by decide) ?_
      refine z_sub [(0, .ref (ad 5)), (1, vI (q.1 + 1)), (2, vI q.2), (3, vI i)] (zSub_cons rfl (zSub_cons rfl (zSub_cons rfl (zSub_cons rfl zSub_nil)))) ?_
      refine z_iload_n X dX4_doubtShare_48 rfl ?_
      refine z_aload_n X dX4_doubtShare_49 rfl ?_
      refine z_iconst X dX4_doubtShare_50 ?_
      refine z_iload_n X dX4_doubtShare_51 rfl ?_
      refine z_bipush X dX4_doubtShare_52 rfl ?_
      refine z_idiv6 X (by omega) (by omega) dX4_doubtShare_54 ?_
      refine z_iload_n X dX4_doubtShare_55 rfl ?_
      refine z_bipush X dX4_doubtShare_56 rfl ?_
      refine z_irem6 X (by omega) (by omega) dX4_doubtShare_58 ?_
      refine z_callVI3 X (c_X4_stateOf hJ _ ⟨by decide, by decide⟩ (by unfold zB; omega) (by unfold zB; omega) (by omega) (by first | exact ok | (rw [e00]; exact ok)) (by first | omega | assumption | grind) (by omega)) kX4_35 rfl (by decide) rfl ⟨(Nat.le_of_ble_eq_true rfl), (Nat.le_of_ble_eq_true rfl)⟩ (Nat.le_of_ble_eq_true rfl) ⟨Nat.zero_le _, Nat.zero_le _⟩ dX4_doubtShare_59 (fun z9 σ1 hz9 => ?_)
      obtain ⟨rfl, rfl⟩ := hz9
      try rw [e00]
      refine z_iconst X dX4_doubtShare_62 ?_
      refine z_icmp_ne X 70 dX4_doubtShare_63 (by decide) (zB_sm (qg_st (by first | exact ok | (rw [e00]; exact ok)) _ _)) ⟨by decide, by decide⟩ (fun c_8 => ?_) (fun c_8 => ?_)
      · refine z_iconst X dX4_doubtShare_70 ?_
        refine z_iadd X dX4_doubtShare_71 ?_
        refine z_istore_n X dX4_doubtShare_72 (by decide) ?_
        refine z_sub [(0, .ref (ad 5)), (1, vI (q.1 + 1)), (2, vI (q.2 + 0)), (3, vI i)] (zSub_cons rfl (zSub_cons rfl (zSub_cons rfl (zSub_cons rfl zSub_nil)))) ?_
        refine z_iinc X dX4_doubtShare_73 rfl (by decide) ?_
        refine z_sub [(0, .ref (ad 5)), (1, vI (q.1 + 1)), (2, vI (q.2 + 0)), (3, vI (i + 1))] (zSub_cons rfl (zSub_cons rfl (zSub_cons rfl (zSub_cons rfl zSub_nil)))) ?_
        refine z_goto X 11 dX4_doubtShare_76 (by decide) ?_
        refine z_sub [(0, .ref (ad 5)), (1, vI (q.1 + 1)), (2, vI (q.2 + 0)), (3, vI (i + 1))] (zSub_cons rfl (zSub_cons rfl (zSub_cons rfl (zSub_cons rfl zSub_nil)))) ?_
        exact ih (by omega) ((q.1 + 1), (q.2 + 0)) ⟨by rw [zSum_step i0, ← hv.1]; grind, by rw [zSum_step i0, ← hv.2]; grind⟩
      · refine z_iconst X dX4_doubtShare_66 ?_
        refine z_goto X 71 dX4_doubtShare_67 (by decide) ?_
        refine z_iadd X dX4_doubtShare_71 ?_
        refine z_istore_n X dX4_doubtShare_72 (by decide) ?_
        refine z_sub [(0, .ref (ad 5)), (1, vI (q.1 + 1)), (2, vI (q.2 + 1)), (3, vI i)] (zSub_cons rfl (zSub_cons rfl (zSub_cons rfl (zSub_cons rfl zSub_nil)))) ?_
        refine z_iinc X dX4_doubtShare_73 rfl (by decide) ?_
        refine z_sub [(0, .ref (ad 5)), (1, vI (q.1 + 1)), (2, vI (q.2 + 1)), (3, vI (i + 1))] (zSub_cons rfl (zSub_cons rfl (zSub_cons rfl (zSub_cons rfl zSub_nil)))) ?_
        refine z_goto X 11 dX4_doubtShare_76 (by decide) ?_
        refine z_sub [(0, .ref (ad 5)), (1, vI (q.1 + 1)), (2, vI (q.2 + 1)), (3, vI (i + 1))] (zSub_cons rfl (zSub_cons rfl (zSub_cons rfl (zSub_cons rfl zSub_nil)))) ?_
        exact ih (by omega) ((q.1 + 1), (q.2 + 1)) ⟨by rw [zSum_step i0, ← hv.1]; grind, by rw [zSum_step i0, ← hv.2]; grind⟩
