/-! THE CONSTRUCTORS -/
def E0 (u : Nat → Nat) : va_E := .inr (0, [.ref (u 4), vI 0])
def N0 (G : zG) (u : Nat → Nat) : va_W := [(u 4, .inl (G.1, 60, .inl (fun _ => iI 0)))]
def E2 (u : Nat → Nat) : va_E := .inr (2, [vI 0, vI 63, vI 0, vI 3, .ref (u 1), .ref (u 2), .ref (u 3), .ref (u 4), .ref (u 5), .ref (u 6), .ref (u 7)])
def N2 (G : zG) (u : Nat → Nat) : va_W := [(u 1, .inl (G.1, 8, .inl (fun _ => iI 0))), (u 2, .inl (G.1, 8, .inl (fun _ => iI 0))), (u 3, .inl (G.1, 8, .inl (fun _ => iI 0))), (u 4, .inl (G.1, 48, .inl (fun _ => iI 0))), (u 5, .inl (G.1, 48, .inl (fun _ => iI 0))), (u 6, .inl (G.1, 6, .inl (fun _ => iI 0))), (u 7, .inl (G.1, 144, .inl (fun _ => iI 0)))]
def nt (G : zG) (u : Nat → Nat) (k : Nat) : va_W := (u k, E2 (fun r => u (k + r))) :: N2 G (fun r => u (k + r))
def hRow (u : Nat → Nat) : Nat → Option Nat := va_up (va_up (va_up (va_up (va_up (va_up (fun _ => none) 0 (some (u 24))) 1 (some (u 32))) 2 (some (u 40))) 3 (some (u 48))) 4 (some (u 56))) 5 (some (u 64))
def E1 (u : Nat → Nat) : va_E := .inr (1, [.ref (u 2), vI 0])
def N1 (G : zG) (u : Nat → Nat) : va_W := (u 2, .inl (G.2.1, 6, .inr (.inr (.inr (.inr (hRow u)))))) :: (nt G u 24 ++ nt G u 32 ++ nt G u 40 ++ nt G u 48 ++ nt G u 56 ++ nt G u 64)
def E3 (u : Nat → Nat) : va_E := .inr (3, [.ref (u 8), .ref (u 16), .ref (u 1), .ref (u 3)])
def N3 (G : zG) (u : Nat → Nat) : va_W := nt G u 8 ++ nt G u 16 ++ ((u 1, E1 u) :: N1 G u) ++ ((u 3, E0 u) :: N0 G u)
theorem u_oI : Cond.instanceMethod Lib.objectInit ∈ zU := (zU_mem 34 (by decide +kernel) (by decide +kernel))
theorem u_oC : Cond.code Lib.objectInit ⟨#[0xb1]⟩ 1 none ∈ zU := (zU_mem 35 (by decide +kernel) (by decide +kernel))
theorem u_Ai : Cond.arrayClass .int ∈ zU := (zU_mem 76 (by decide +kernel) (by decide +kernel))
theorem w_X0 : Cond.instantiable RX0 2 ∈ zU := (zU_mem 94 (by decide +kernel) (by decide +kernel))
theorem w_iX0 : Cond.instanceMethod yX0_init ∈ zU := (zU_mem 96 (by decide +kernel) (by decide +kernel))
theorem w_cX0 : Cond.code yX0_init cX0_init 1 none ∈ zU := (zU_mem 97 (by decide +kernel) (by decide +kernel))
theorem w_dX0 : yX0_init.cls ≠ "java/lang/invoke/MethodHandle" ∧ yX0_init.cls ≠ "java/lang/invoke/VarHandle" ∧ (parseMethodDescriptor yX0_init.desc).map (fun d => d.parameters.length) = some 0 := by decide +kernel
theorem w_X1 : Cond.instantiable RX1 2 ∈ zU := (zU_mem 78 (by decide +kernel) (by decide +kernel))
theorem w_iX1 : Cond.instanceMethod yX1_init ∈ zU := (zU_mem 80 (by decide +kernel) (by decide +kernel))
theorem w_cX1 : Cond.code yX1_init cX1_init 2 none ∈ zU := (zU_mem 81 (by decide +kernel) (by decide +kernel))
theorem w_dX1 : yX1_init.cls ≠ "java/lang/invoke/MethodHandle" ∧ yX1_init.cls ≠ "java/lang/invoke/VarHandle" ∧ (parseMethodDescriptor yX1_init.desc).map (fun d => d.parameters.length) = some 0 := by decide +kernel
theorem w_X2 : Cond.instantiable RX2 11 ∈ zU := (zU_mem 37 (by decide +kernel) (by decide +kernel))
theorem w_iX2 : Cond.instanceMethod yX2_init ∈ zU := (zU_mem 39 (by decide +kernel) (by decide +kernel))
theorem w_cX2 : Cond.code yX2_init cX2_init 1 none ∈ zU := (zU_mem 40 (by decide +kernel) (by decide +kernel))
theorem w_dX2 : yX2_init.cls ≠ "java/lang/invoke/MethodHandle" ∧ yX2_init.cls ≠ "java/lang/invoke/VarHandle" ∧ (parseMethodDescriptor yX2_init.desc).map (fun d => d.parameters.length) = some 0 := by decide +kernel
theorem w_X3 : Cond.instantiable RX3 4 ∈ zU := (zU_mem 29 (by decide +kernel) (by decide +kernel))
theorem w_iX3 : Cond.instanceMethod yX3_init ∈ zU := (zU_mem 31 (by decide +kernel) (by decide +kernel))
theorem w_cX3 : Cond.code yX3_init cX3_init 1 none ∈ zU := (zU_mem 32 (by decide +kernel) (by decide +kernel))
theorem w_dX3 : yX3_init.cls ≠ "java/lang/invoke/MethodHandle" ∧ yX3_init.cls ≠ "java/lang/invoke/VarHandle" ∧ (parseMethodDescriptor yX3_init.desc).map (fun d => d.parameters.length) = some 0 := by decide +kernel
theorem w_fX0 : ∀ j, j < 2 → defaultValue (tyX0 j) = vp_V [.null, vI 0] j := fun j hj => match j, hj with
  | 0, _ => rfl
  | 1, _ => rfl
  | n + 2, h => absurd h (by omega)
theorem w_fX1 : ∀ j, j < 2 → defaultValue (tyX1 j) = vp_V [.null, vI 0] j := fun j hj => match j, hj with
  | 0, _ => rfl
  | 1, _ => rfl
  | n + 2, h => absurd h (by omega)
theorem w_fX2 : ∀ j, j < 11 → defaultValue (tyX2 j) = vp_V [vI 0, vI 0, vI 0, vI 0, .null, .null, .null, .null, .null, .null, .null] j := fun j hj => match j, hj with
  | 0, _ => rfl
  | 1, _ => rfl
  | 2, _ => rfl
  | 3, _ => rfl
  | 4, _ => rfl
  | 5, _ => rfl
  | 6, _ => rfl
  | 7, _ => rfl
  | 8, _ => rfl
  | 9, _ => rfl
  | 10, _ => rfl
  | n + 11, h => absurd h (by omega)
theorem w_fX3 : ∀ j, j < 4 → defaultValue (tyX3 j) = vp_V [.null, .null, .null, .null] j := fun j hj => match j, hj with
  | 0, _ => rfl
  | 1, _ => rfl
  | 2, _ => rfl
  | 3, _ => rfl
  | n + 4, h => absurd h (by omega)
theorem zwu_X0 : ∀ w ∈ u_ws RX0 TX0 2, w ∈ zU := fX0_9.2.2.1
theorem zwu_X1 : ∀ w ∈ u_ws RX1 TX1 2, w ∈ zU := fX1_11.2.2.1
theorem zwu_X2 : ∀ w ∈ u_ws RX2 TX2 11, w ∈ zU := fX2_9.2.2.1
theorem zwu_X3 : ∀ w ∈ u_ws RX3 TX3 4, w ∈ zU := fX3_12.2.2.1
set_option maxHeartbeats 4000000 in
set_option maxRecDepth 100000 in
theorem ci_X0 {l : Launch} {D : va_G} {G : zG} : iK l D G yX0_init cX0_init 1 1 1 60 0 [.null, vI 0] E0 (N0 G) := by
  refine i_open (by decide +kernel) rfl (Nat.le_of_ble_eq_true rfl) ?_
  intro p en s m args below meth c a X hr hlocks hnm
  refine i_aload_n X dX0_init_0 rfl ?_
  refine i_objInit X (zU_mem 98 (by decide +kernel) (by decide +kernel)) u_oI u_oC rfl ⟨(Nat.le_of_ble_eq_true rfl), (Nat.le_of_ble_eq_true rfl)⟩ dX0_init_1 ?_
  refine i_aload_n X dX0_init_4 rfl ?_
  refine i_bipush X dX0_init_5 (by decide) ?_
  refine i_newa X (N := 60) u_Ai (by decide) (by decide) (Nat.le_of_ble_eq_true rfl) (Nat.le_of_ble_eq_true rfl) (Nat.le_of_ble_eq_true rfl) dX0_init_7 (fun q0 => ?_)
  refine i_putF X hnm fX0_9 tyX0_ok nmX0 rfl rfl (ty := tyX0 0) (by decide +kernel) rfl rfl (Nat.le_of_ble_eq_true rfl) (fs' := [.ref q0, vI 0]) rfl dX0_init_9 ?_
  refine i_aload_n X dX0_init_12 rfl ?_
  refine i_iconst X dX0_init_13 ?_
  refine i_put X fX0_15 tyX0_ok nmX0 rfl (ty := tyX0 1) (by decide +kernel) rfl rfl (Nat.le_of_ble_eq_true rfl) (fs' := [.ref q0, vI 0]) rfl dX0_init_14 ?_
  exact i_vret X (fun k => ([0, 0, 0, 0, q0] : List Nat)[k]?.getD 0) rfl rfl hr hlocks dX0_init_17 (Nat.le_of_ble_eq_true rfl) (Nat.le_of_ble_eq_true rfl)
set_option maxHeartbeats 4000000 in
set_option maxRecDepth 100000 in
theorem ci_X2 {l : Launch} {D : va_G} {G : zG} : iK l D G yX2_init cX2_init 1 1 7 270 2 [vI 0, vI 0, vI 0, vI 0, .null, .null, .null, .null, .null, .null, .null] E2 (N2 G) := by
  refine i_open (by decide +kernel) rfl (Nat.le_of_ble_eq_true rfl) ?_
  intro p en s m args below meth c a X hr hlocks hnm
  refine i_aload_n X dX2_init_0 rfl ?_
  refine i_objInit X (zU_mem 41 (by decide +kernel) (by decide +kernel)) u_oI u_oC rfl ⟨(Nat.le_of_ble_eq_true rfl), (Nat.le_of_ble_eq_true rfl)⟩ dX2_init_1 ?_
  refine i_aload_n X dX2_init_4 rfl ?_
  refine i_iconst X dX2_init_5 ?_
  refine i_put X fX2_9 tyX2_ok nmX2 rfl (ty := tyX2 0) (by decide +kernel) rfl rfl (Nat.le_of_ble_eq_true rfl) (fs' := [vI 0, vI 0, vI 0, vI 0, .null, .null, .null, .null, .null, .null, .null]) rfl dX2_init_6 ?_
  refine i_aload_n X dX2_init_9 rfl ?_
  refine i_bipush X dX2_init_10 (by decide) ?_
  refine i_put X fX2_15 tyX2_ok nmX2 rfl (ty := tyX2 1) (by decide +kernel) rfl rfl (Nat.le_of_ble_eq_true rfl) (fs' := [vI 0, vI 63, vI 0, vI 0, .null, .null, .null, .null, .null, .null, .null]) rfl dX2_init_12 ?_
  refine i_aload_n X dX2_init_15 rfl ?_
  refine i_iconst X dX2_init_16 ?_
  refine i_put X fX2_18 tyX2_ok nmX2 rfl (ty := tyX2 2) (by decide +kernel) rfl rfl (Nat.le_of_ble_eq_true rfl) (fs' := [vI 0, vI 63, vI 0, vI 0, .null, .null, .null, .null, .null, .null, .null]) rfl dX2_init_17 ?_
  refine i_aload_n X dX2_init_20 rfl ?_
  refine i_iconst X dX2_init_21 ?_
  refine i_put X fX2_21 tyX2_ok nmX2 rfl (ty := tyX2 3) (by decide +kernel) rfl rfl (Nat.le_of_ble_eq_true rfl) (fs' := [vI 0, vI 63, vI 0, vI 3, .null, .null, .null, .null, .null, .null, .null]) rfl dX2_init_22 ?_
  refine i_aload_n X dX2_init_25 rfl ?_
  refine i_bipush X dX2_init_26 (by decide) ?_
  refine i_newa X (N := 8) u_Ai (by decide) (by decide) (Nat.le_of_ble_eq_true rfl) (Nat.le_of_ble_eq_true rfl) (Nat.le_of_ble_eq_true rfl) dX2_init_28 (fun q0 => ?_)
  refine i_putF X hnm fX2_24 tyX2_ok nmX2 rfl rfl (ty := tyX2 4) (by decide +kernel) rfl rfl (Nat.le_of_ble_eq_true rfl) (fs' := [vI 0, vI 63, vI 0, vI 3, .ref q0, .null, .null, .null, .null, .null, .null]) rfl dX2_init_30 ?_
  refine i_aload_n X dX2_init_33 rfl ?_
  refine i_bipush X dX2_init_34 (by decide) ?_
  refine i_newa X (N := 8) u_Ai (by decide) (by decide) (Nat.le_of_ble_eq_true rfl) (Nat.le_of_ble_eq_true rfl) (Nat.le_of_ble_eq_true rfl) dX2_init_36 (fun q1 => ?_)
  refine i_putF X hnm fX2_28 tyX2_ok nmX2 rfl rfl (ty := tyX2 5) (by decide +kernel) rfl rfl (Nat.le_of_ble_eq_true rfl) (fs' := [vI 0, vI 63, vI 0, vI 3, .ref q0, .ref q1, .null, .null, .null, .null, .null]) rfl dX2_init_38 ?_
  refine i_aload_n X dX2_init_41 rfl ?_
  refine i_bipush X dX2_init_42 (by decide) ?_
  refine i_newa X (N := 8) u_Ai (by decide) (by decide) (Nat.le_of_ble_eq_true rfl) (Nat.le_of_ble_eq_true rfl) (Nat.le_of_ble_eq_true rfl) dX2_init_44 (fun q2 => ?_)
  refine i_putF X hnm fX2_31 tyX2_ok nmX2 rfl rfl (ty := tyX2 6) (by decide +kernel) rfl rfl (Nat.le_of_ble_eq_true rfl) (fs' := [vI 0, vI 63, vI 0, vI 3, .ref q0, .ref q1, .ref q2, .null, .null, .null, .null]) rfl dX2_init_46 ?_
  refine i_aload_n X dX2_init_49 rfl ?_
  refine i_bipush X dX2_init_50 (by decide) ?_
  refine i_newa X (N := 48) u_Ai (by decide) (by decide) (Nat.le_of_ble_eq_true rfl) (Nat.le_of_ble_eq_true rfl) (Nat.le_of_ble_eq_true rfl) dX2_init_52 (fun q3 => ?_)
  refine i_putF X hnm fX2_34 tyX2_ok nmX2 rfl rfl (ty := tyX2 7) (by decide +kernel) rfl rfl (Nat.le_of_ble_eq_true rfl) (fs' := [vI 0, vI 63, vI 0, vI 3, .ref q0, .ref q1, .ref q2, .ref q3, .null, .null, .null]) rfl dX2_init_54 ?_
  refine i_aload_n X dX2_init_57 rfl ?_
  refine i_bipush X dX2_init_58 (by decide) ?_
  refine i_newa X (N := 48) u_Ai (by decide) (by decide) (Nat.le_of_ble_eq_true rfl) (Nat.le_of_ble_eq_true rfl) (Nat.le_of_ble_eq_true rfl) dX2_init_60 (fun q4 => ?_)
  refine i_putF X hnm fX2_37 tyX2_ok nmX2 rfl rfl (ty := tyX2 8) (by decide +kernel) rfl rfl (Nat.le_of_ble_eq_true rfl) (fs' := [vI 0, vI 63, vI 0, vI 3, .ref q0, .ref q1, .ref q2, .ref q3, .ref q4, .null, .null]) rfl dX2_init_62 ?_
  refine i_aload_n X dX2_init_65 rfl ?_
  refine i_bipush X dX2_init_66 (by decide) ?_
  refine i_newa X (N := 6) u_Ai (by decide) (by decide) (Nat.le_of_ble_eq_true rfl) (Nat.le_of_ble_eq_true rfl) (Nat.le_of_ble_eq_true rfl) dX2_init_68 (fun q5 => ?_)
  refine i_putF X hnm fX2_40 tyX2_ok nmX2 rfl rfl (ty := tyX2 9) (by decide +kernel) rfl rfl (Nat.le_of_ble_eq_true rfl) (fs' := [vI 0, vI 63, vI 0, vI 3, .ref q0, .ref q1, .ref q2, .ref q3, .ref q4, .ref q5, .null]) rfl dX2_init_70 ?_
  refine i_aload_n X dX2_init_73 rfl ?_
  refine i_sipush X dX2_init_74 (by decide) ?_
  refine i_newa X (N := 144) u_Ai (by decide) (by decide) (Nat.le_of_ble_eq_true rfl) (Nat.le_of_ble_eq_true rfl) (Nat.le_of_ble_eq_true rfl) dX2_init_77 (fun q6 => ?_)
  refine i_putF X hnm fX2_43 tyX2_ok nmX2 rfl rfl (ty := tyX2 10) (by decide +kernel) rfl rfl (Nat.le_of_ble_eq_true rfl) (fs' := [vI 0, vI 63, vI 0, vI 3, .ref q0, .ref q1, .ref q2, .ref q3, .ref q4, .ref q5, .ref q6]) rfl dX2_init_79 ?_
  exact i_vret X (fun k => ([0, q0, q1, q2, q3, q4, q5, q6] : List Nat)[k]?.getD 0) rfl rfl hr hlocks dX2_init_82 (Nat.le_of_ble_eq_true rfl) (Nat.le_of_ble_eq_true rfl)
section HI
variable {p : Program} {l : Launch} {en : Env} {R : Room} {s : State} {m : MethodId} {args : Array Value} {below : List Frame} {meth : Method} {c : Code} {cc : ByteArray} {nL : Nat} {own : String} {D : va_G} {G : zG} {A : Nat → Prop} {cells slots : Nat} {Q : State → Prop}
variable {pc : Nat} {lv : List (Nat × Value)} {st : List Value} {ws tl pl nw : va_W} {a r w : Nat} {f : Nat → Option Nat}
abbrev hE (G : zG) (f : Nat → Option Nat) : va_E := .inl (G.2.1, 6, .inr (.inr (.inr (.inr f))))
theorem i_aast (X : iX p s m args c cc nL own D G A) {x0 : Nat × va_E} {vs : List Value} {i : Int} (h0 : 0 ≤ i) (h1 : i < 6) (d : decode cc pc = .ok (.aastore, 1))
    (k : iV p l en R s m args below meth c nL D A cells slots Q (pc + 1) lv st (x0 :: (r, hE G (va_up f i.toNat (some w))) :: (pl ++ ((w, .inr (2, vs)) :: nw)))) : iV p l en R s m args below meth c nL D A cells slots Q pc lv (.ref w :: vI i :: .ref r :: st) (x0 :: (r, hE G f) :: (pl ++ ((w, .inr (2, vs)) :: nw))) :=
  fun ls H locs h hP hD hS => va_astq (D := D) (r := (RX2, TX2, 11)) X.1 X.2.1 X.2.2.2.2.2.1 hP hD hS 1 1 (pl.length + 2) 2 (vs := vs) rfl rfl (by simp) rfl (iI_in h0 h1 (by decide)) d (fun H1 locs1 hP1 hD1 hS1 => k ls H1 locs1 h (by rw [iI_clamp h0 (by omega)] at hP1; exact hP1) (by rw [iI_clamp h0 (by omega)] at hD1; exact hD1) hS1)
set_option maxHeartbeats 4000000 in
set_option maxRecDepth 100000 in
theorem h_step (X : iX p s m args c cX1_init 2 RX1 D G A) {j : Int} (hj : 0 ≤ j ∧ j < 6) (hcs : cells + 1 + 7 ≤ R.cells ∧ slots + 11 + 270 ≤ R.slots) (hR : 2 ≤ R.frames ∧ 50 ≤ R.locals)
    (k : ∀ (w : Nat) (u : Nat → Nat), iV p l en R s m args below meth c 2 D A (cells + 1 + 7) (slots + 11 + 270) Q 20 [(0, .ref a), (1, vI (j + 1))] [] ((a, .inr (1, [.ref r, vI 0])) :: (r, hE G (va_up f j.toNat (some w))) :: (pl ++ ((w, E2 u) :: N2 G u)))) : iV p l en R s m args below meth c 2 D A cells slots Q 20 [(0, .ref a), (1, vI j)] [] ((a, .inr (1, [.ref r, vI 0])) :: (r, hE G f) :: pl) := by
  refine i_iload_n X dX1_init_20 rfl ?_
  refine i_bipush X dX1_init_21 (by decide) ?_
  refine i_icmp_ge X 45 dX1_init_23 (by decide) (by unfold zB; omega) ⟨by decide, by decide⟩ (fun h => absurd h (by omega)) (fun _ => ?_)
  refine i_aload_n X dX1_init_26 rfl ?_
  refine i_get X fX1_11 (v := .ref r) rfl dX1_init_27 ?_
  refine i_iload_n X dX1_init_30 rfl ?_
  refine i_mk X ci_X2 zwu_X2 tyX2_ok (zU_mem 83 (by decide +kernel) (by decide +kernel)) w_X2 u_iniX2 rfl w_fX2 ⟨Or.inr ⟨_, X.2.2.2.2.2.2.2.2.1⟩, rfl, w_cX2, w_iX2⟩ rfl w_dX2 ⟨hR.1, hR.2⟩ (Nat.le_of_ble_eq_true rfl) hcs dX1_init_31 dX1_init_34 dX1_init_35 (fun w u => ?_)
  refine i_aast X hj.1 hj.2 dX1_init_38 ?_
  refine i_iinc X dX1_init_39 rfl (by decide) ?_
  refine i_goto X 20 dX1_init_42 (by decide) ?_
  exact i_sub [(0, .ref a), (1, vI (j + 1))] (zSub_cons rfl (zSub_cons rfl zSub_nil)) (k w u)
end HI
set_option maxHeartbeats 4000000 in
set_option maxRecDepth 100000 in
theorem ci_X1 {l : Launch} {D : va_G} {G : zG} : iK l D G yX1_init cX1_init 2 2 49 1692 1 [.null, vI 0] E1 (N1 G) := by
  refine i_open (by decide +kernel) rfl (Nat.le_of_ble_eq_true rfl) ?_
  intro p en s m args below meth c a X hr hlocks hnm
  refine i_aload_n X dX1_init_0 rfl ?_
  refine i_objInit X (zU_mem 82 (by decide +kernel) (by decide +kernel)) u_oI u_oC rfl ⟨(Nat.le_of_ble_eq_true rfl), (Nat.le_of_ble_eq_true rfl)⟩ dX1_init_1 ?_
  refine i_aload_n X dX1_init_4 rfl ?_
  refine i_bipush X dX1_init_5 (by decide) ?_
  refine i_newq X (zU_mem 83 (by decide +kernel) (by decide +kernel)) (Nat.le_of_ble_eq_true rfl) (Nat.le_of_ble_eq_true rfl) dX1_init_7 (fun r => ?_)
  refine i_putF X hnm fX1_11 tyX1_ok nmX1 rfl rfl (ty := tyX1 0) (by decide +kernel) rfl rfl (Nat.le_of_ble_eq_true rfl) (fs' := [.ref r, vI 0]) rfl dX1_init_10 ?_
  refine i_aload_n X dX1_init_13 rfl ?_
  refine i_iconst X dX1_init_14 ?_
  refine i_put X fX1_17 tyX1_ok nmX1 rfl (ty := tyX1 1) (by decide +kernel) rfl rfl (Nat.le_of_ble_eq_true rfl) (fs' := [.ref r, vI 0]) rfl dX1_init_15 ?_
  refine i_iconst X dX1_init_18 ?_
  refine i_istore_n X dX1_init_19 (by decide) ?_
  refine i_sub [(0, .ref a), (1, vI 0)] (zSub_cons rfl (zSub_cons rfl zSub_nil)) ?_
  refine h_step X (j := 0) (by decide) ⟨(Nat.le_of_ble_eq_true rfl), (Nat.le_of_ble_eq_true rfl)⟩ ⟨(Nat.le_of_ble_eq_true rfl), (Nat.le_of_ble_eq_true rfl)⟩ (fun w0 u0 => ?_)
  refine h_step X (j := 1) (by decide) ⟨(Nat.le_of_ble_eq_true rfl), (Nat.le_of_ble_eq_true rfl)⟩ ⟨(Nat.le_of_ble_eq_true rfl), (Nat.le_of_ble_eq_true rfl)⟩ (fun w1 u1 => ?_)
  refine h_step X (j := 2) (by decide) ⟨(Nat.le_of_ble_eq_true rfl), (Nat.le_of_ble_eq_true rfl)⟩ ⟨(Nat.le_of_ble_eq_true rfl), (Nat.le_of_ble_eq_true rfl)⟩ (fun w2 u2 => ?_)
  refine h_step X (j := 3) (by decide) ⟨(Nat.le_of_ble_eq_true rfl), (Nat.le_of_ble_eq_true rfl)⟩ ⟨(Nat.le_of_ble_eq_true rfl), (Nat.le_of_ble_eq_true rfl)⟩ (fun w3 u3 => ?_)
  refine h_step X (j := 4) (by decide) ⟨(Nat.le_of_ble_eq_true rfl), (Nat.le_of_ble_eq_true rfl)⟩ ⟨(Nat.le_of_ble_eq_true rfl), (Nat.le_of_ble_eq_true rfl)⟩ (fun w4 u4 => ?_)
  refine h_step X (j := 5) (by decide) ⟨(Nat.le_of_ble_eq_true rfl), (Nat.le_of_ble_eq_true rfl)⟩ ⟨(Nat.le_of_ble_eq_true rfl), (Nat.le_of_ble_eq_true rfl)⟩ (fun w5 u5 => ?_)
  refine i_iload_n X dX1_init_20 rfl ?_
  refine i_bipush X dX1_init_21 (by decide) ?_
  refine i_icmp_ge X 45 dX1_init_23 (by decide) ⟨by decide, by decide⟩ ⟨by decide, by decide⟩ (fun _ => ?_) (fun h => absurd h (by decide))
  exact i_vret X (fun k => ([0, 0, r, 0, 0, 0, 0, 0, 0, 0, 0, 0, 0, 0, 0, 0, 0, 0, 0, 0, 0, 0, 0, 0, w0, u0 1, u0 2, u0 3, u0 4, u0 5, u0 6, u0 7, w1, u1 1, u1 2, u1 3, u1 4, u1 5, u1 6, u1 7, w2, u2 1, u2 2, u2 3, u2 4, u2 5, u2 6, u2 7, w3, u3 1, u3 2, u3 3, u3 4, u3 5, u3 6, u3 7, w4, u4 1, u4 2, u4 3, u4 4, u4 5, u4 6, u4 7, w5, u5 1, u5 2, u5 3, u5 4, u5 5, u5 6, u5 7] : List Nat)[k]?.getD 0) rfl rfl hr hlocks dX1_init_45 (Nat.le_of_ble_eq_true rfl) (Nat.le_of_ble_eq_true rfl)
set_option maxHeartbeats 4000000 in
set_option maxRecDepth 100000 in
theorem ci_X3 {l : Launch} {D : va_G} {G : zG} : iK l D G yX3_init cX3_init 1 3 68 2318 3 [.null, .null, .null, .null] E3 (N3 G) := by
  refine i_open (by decide +kernel) rfl (Nat.le_of_ble_eq_true rfl) ?_
  intro p en s m args below meth c a X hr hlocks hnm
  refine i_aload_n X dX3_init_0 rfl ?_
  refine i_objInit X (zU_mem 33 (by decide +kernel) (by decide +kernel)) u_oI u_oC rfl ⟨(Nat.le_of_ble_eq_true rfl), (Nat.le_of_ble_eq_true rfl)⟩ dX3_init_1 ?_
  refine i_aload_n X dX3_init_4 rfl ?_
  refine i_mk X ci_X2 (zwu_X2) tyX2_ok (zU_mem 36 (by decide +kernel) (by decide +kernel)) w_X2 u_iniX2 rfl w_fX2 ⟨(Or.inr ⟨_, X.2.2.2.2.2.2.2.1⟩), rfl, w_cX2, w_iX2⟩ rfl w_dX2 ⟨(Nat.le_of_ble_eq_true rfl), (Nat.le_of_ble_eq_true rfl)⟩ (Nat.le_of_ble_eq_true rfl) ⟨(Nat.le_of_ble_eq_true rfl), (Nat.le_of_ble_eq_true rfl)⟩ dX3_init_5 dX3_init_8 dX3_init_9 (fun w0 u0 => ?_)
  refine i_putF X hnm fX3_12 tyX3_ok nmX3 rfl rfl (ty := tyX3 0) (by decide +kernel) rfl rfl (Nat.le_of_ble_eq_true rfl) (fs' := [.ref w0, .null, .null, .null]) rfl dX3_init_12 ?_
  refine i_aload_n X dX3_init_15 rfl ?_
  refine i_mk X ci_X2 (zwu_X2) tyX2_ok (zU_mem 36 (by decide +kernel) (by decide +kernel)) w_X2 u_iniX2 rfl w_fX2 ⟨(Or.inr ⟨_, X.2.2.2.2.2.2.2.1⟩), rfl, w_cX2, w_iX2⟩ rfl w_dX2 ⟨(Nat.le_of_ble_eq_true rfl), (Nat.le_of_ble_eq_true rfl)⟩ (Nat.le_of_ble_eq_true rfl) ⟨(Nat.le_of_ble_eq_true rfl), (Nat.le_of_ble_eq_true rfl)⟩ dX3_init_16 dX3_init_19 dX3_init_20 (fun w1 u1 => ?_)
  refine i_putF X hnm fX3_16 tyX3_ok nmX3 rfl rfl (ty := tyX3 1) (by decide +kernel) rfl rfl (Nat.le_of_ble_eq_true rfl) (fs' := [.ref w0, .ref w1, .null, .null]) rfl dX3_init_23 ?_
  refine i_aload_n X dX3_init_26 rfl ?_
  refine i_mk X ci_X1 (zwu_X1) tyX1_ok (zU_mem 77 (by decide +kernel) (by decide +kernel)) w_X1 u_iniX1 rfl w_fX1 ⟨(Or.inl (zU_mem 79 (by decide +kernel) (by decide +kernel))), rfl, w_cX1, w_iX1⟩ rfl w_dX1 ⟨(Nat.le_of_ble_eq_true rfl), (Nat.le_of_ble_eq_true rfl)⟩ (Nat.le_of_ble_eq_true rfl) ⟨(Nat.le_of_ble_eq_true rfl), (Nat.le_of_ble_eq_true rfl)⟩ dX3_init_27 dX3_init_30 dX3_init_31 (fun w2 u2 => ?_)
  refine i_putF X hnm fX3_22 tyX3_ok nmX3 rfl rfl (ty := tyX3 2) (by decide +kernel) rfl rfl (Nat.le_of_ble_eq_true rfl) (fs' := [.ref w0, .ref w1, .ref w2, .null]) rfl dX3_init_34 ?_
  refine i_aload_n X dX3_init_37 rfl ?_
  refine i_mk X ci_X0 (zwu_X0) tyX0_ok (zU_mem 93 (by decide +kernel) (by decide +kernel)) w_X0 u_iniX0 rfl w_fX0 ⟨(Or.inr ⟨_, X.2.2.2.2.2.2.2.2.2.1⟩), rfl, w_cX0, w_iX0⟩ rfl w_dX0 ⟨(Nat.le_of_ble_eq_true rfl), (Nat.le_of_ble_eq_true rfl)⟩ (Nat.le_of_ble_eq_true rfl) ⟨(Nat.le_of_ble_eq_true rfl), (Nat.le_of_ble_eq_true rfl)⟩ dX3_init_38 dX3_init_41 dX3_init_42 (fun w3 u3 => ?_)
  refine i_putF X hnm fX3_29 tyX3_ok nmX3 rfl rfl (ty := tyX3 3) (by decide +kernel) rfl rfl (Nat.le_of_ble_eq_true rfl) (fs' := [.ref w0, .ref w1, .ref w2, .ref w3]) rfl dX3_init_45 ?_
  exact i_vret X (fun k => ([0, w2, u2 2, w3, u3 4, 0, 0, 0, w0, u0 1, u0 2, u0 3, u0 4, u0 5, u0 6, u0 7, w1, u1 1, u1 2, u1 3, u1 4, u1 5, u1 6, u1 7, u2 24, u2 25, u2 26, u2 27, u2 28, u2 29, u2 30, u2 31, u2 32, u2 33, u2 34, u2 35, u2 36, u2 37, u2 38, u2 39, u2 40, u2 41, u2 42, u2 43, u2 44, u2 45, u2 46, u2 47, u2 48, u2 49, u2 50, u2 51, u2 52, u2 53, u2 54, u2 55, u2 56, u2 57, u2 58, u2 59, u2 60, u2 61, u2 62, u2 63, u2 64, u2 65, u2 66, u2 67, u2 68, u2 69, u2 70, u2 71] : List Nat)[k]?.getD 0) rfl rfl hr hlocks dX3_init_48 (Nat.le_of_ble_eq_true rfl) (Nat.le_of_ble_eq_true rfl)
