theorem up2_self (N : zNt) (r j : Nat) : up2 N r j (N r j) = N := by
  funext a b; unfold up2; split
  · rename_i h; rw [h.1, h.2]
  · rfl
/-- a query's end: x in thrown, the copy may hold anything -/
def mQ (N N9 : zNt) (x : Int) : Prop := N9 0 0 = x ∧ (∀ j, j ≠ 0 → N9 0 j = N 0 j) ∧ (∀ j, N9 2 j = N 2 j) ∧ ∀ j, j < 1974 → N9 1 j = N 1 j
theorem mQ_up (N : zNt) (x : Int) {y : Int} (h : x = y) : mQ N (up2 N 0 0 x) y := ⟨by rw [up2_at, h], fun j hj => up2_ne _ _ (fun q => hj q.2), fun j => up2_rw _ _ (by decide) _, fun j _ => up2_rw _ _ (by decide) _⟩
theorem mQ_cp {N Nc M : zNt} {y : Int} (h : mFr Nc M 1974) (hNc : Nc = mCp (up2 N 0 0 0) 0 7) (hy : y = 0) : mQ N M y := by
  subst hNc
  refine ⟨by rw [h.1, mCp_r0, up2_at, hy], fun j hj => by rw [h.1, mCp_r0]; exact up2_ne _ _ (fun q => hj q.2), fun j => by rw [h.2.1, mCp_r2]; exact up2_rw _ _ (by decide) _, fun j hj => ?_⟩
  rw [h.2.2 j (fun q => by have := q.1; rw [show (1974 : Int).toNat = 1974 from rfl] at this; omega)]
  unfold mCp mCpK
  rw [if_neg (by rw [show (7 : Int).toNat = 7 from rfl]; omega)]
  exact up2_rw _ _ (by decide) _
section Hs
variable {p : Program} {l : Launch} {e : Env} {R : Room} {s : State} {m : MethodId} {args : Array Value} {below : List Frame} {meth : Method} {c : Code} {cc : ByteArray} {nL : Nat} {own : String} {D : va_G} {G : zG} {ad : Nat → Nat} {cells slots : Nat} {Q : State → Prop}
variable {pc : Nat} {lv : List (Nat × Value)} {st : List Value} {σ : zM} {N : Nat → Nat → Int} {h : Int64}
theorem zSL_at (σ : zM) (k j : Nat) (x : Int64) : (zSL σ k j x).2 k j = x := by unfold zSL; simp
theorem zSL_zSL (σ : zM) (k j : Nat) (x y : Int64) : zSL (zSL σ k j x) k j y = zSL σ k j y := by
  unfold zSL
  refine congrArg (fun z => (σ.1, z)) (funext fun a => funext fun b => ?_)
  by_cases q : a = k ∧ b = j
  · rw [if_pos q, if_pos q]
  · rw [if_neg q, if_neg q]; show (if a = k ∧ b = j then x else σ.2 a b) = σ.2 a b; rw [if_neg q]
theorem zSL_bk (σ : zM) (x : Int64) : zSL (zBk σ 5 3 N) 5 10 x = zBk (zSL σ 5 10 x) 5 3 N := rfl
theorem zSL_rd (σ : zM) : zSL σ 5 10 (σ.2 5 10) = σ := by
  obtain ⟨f, g⟩ := σ
  unfold zSL
  refine congrArg (fun z => (f, z)) (funext fun a => funext fun b => ?_)
  show (if a = 5 ∧ b = 10 then g 5 10 else g a b) = g a b
  split
  · rename_i q; rw [q.1, q.2]
  · rfl
theorem y_gModH (X : zX p s m args c cc nL own D G ad) {ix : Nat} (F : zFld own ix 4 10 RX4 TX4 11) (d : decode cc pc = .ok (.getfield ix, 3))
    (kk : zV p l e R s m args below meth c nL D G ad cells slots Q (pc + 3) lv (.long h :: st) (zBk (zSL σ 5 10 h) 5 3 N)) : zV p l e R s m args below meth c nL D G ad cells slots Q pc lv (.ref (ad 5) :: st) (zBk (zSL σ 5 10 h) 5 3 N) :=
  z_get X F (by decide) rfl (by show some (Value.long ((zSL σ 5 10 h).2 5 10)) = some (Value.long h); rw [zSL_at]) d kk
theorem y_pModH (X : zX p s m args c cc nL own D G ad) {ix : Nat} {x : Int64} (F : zFld own ix 4 10 RX4 TX4 11) (d : decode cc pc = .ok (.putfield ix, 3))
    (kk : zV p l e R s m args below meth c nL D G ad cells slots Q (pc + 3) lv st (zBk (zSL σ 5 10 x) 5 3 N)) : zV p l e R s m args below meth c nL D G ad cells slots Q pc lv (.long x :: .ref (ad 5) :: st) (zBk (zSL σ 5 10 h) 5 3 N) :=
  z_putL X F tyX4 tyX4_ok nmX4 (by decide) rfl rfl (Nat.le_of_ble_eq_true rfl) rfl (by decide +kernel) d (by rw [zSL_bk, zSL_zSL]; exact kk)
end Hs
set_option maxHeartbeats 4000000 in
set_option maxRecDepth 100000 in
theorem c_X4_ticksToEnd {l : Launch} {D : va_G} {G : zG} {ad : Nat → Nat} (hJ : zInj ad) (σ : zM) {N : Nat → Nat → Int}  {d : Int} (hd : zB d) {s : Int} (hs : zB s) (ok : rOk (mV N 0)) (bd : Bud (mV N 0)) (pk : pOk (mV N 0)) : zKI l D G ad yX4_ticksToEnd cX4_ticksToEnd 4 (some .int) 7 [.ref (ad 5), vI d, vI s] (zBk σ 5 3 N) (fun z σ9 => z = (if cHas (mV N 0) d ∧ (0 ≤ s ∧ s ≤ 5) then (if cSt (mV N 0) d s = -1 then -1 else zFind (fun i => decide (2 ≤ cSt (aPassL (mV N 0) i.toNat) d s)) 41) else 0) ∧ ∃ N9, σ9 = zBk σ 5 3 N9 ∧ mQ N N9 (if cHas (mV N 0) d ∧ (0 ≤ s ∧ s ≤ 5) then 0 else 1)) := by
  intro sz
  refine z_open hJ (by decide +kernel) (Nat.le_of_ble_eq_true rfl) ?_
  intro p e s0 m args below meth c hsz X hr hlocks
  have hn := rk_n ok
  have e00 : ∀ x : Int, mV (up2 N 0 0 x) 0 = mV N 0 := fun x => mV_r0 N 0 x 0
  refine z_sub [(0, .ref (ad 5)), (1, vI d), (2, vI s)] (zSub_cons rfl (zSub_cons rfl (zSub_cons rfl zSub_nil))) ?_
  refine z_aload_n X dX4_ticksToEnd_0 rfl ?_
  refine z_aload_n X dX4_ticksToEnd_1 rfl ?_
  refine z_iload_n X dX4_ticksToEnd_2 rfl ?_
  refine z_callVI1 X (c_X4_isDeal hJ σ hd ok) kX4_96 rfl (by decide) rfl ⟨(Nat.le_of_ble_eq_true rfl), (Nat.le_of_ble_eq_true rfl)⟩ (Nat.le_of_ble_eq_true rfl) ⟨Nat.zero_le _, Nat.zero_le _⟩ dX4_ticksToEnd_3 (fun z9 σ1 hz9 => ?_)
  obtain ⟨rfl, rfl⟩ := hz9
  refine z_ifb_eq X 20 dX4_ticksToEnd_6 (by decide) (fun c_2 => ?_) (fun c_2 => ?_)
  · refine z_iconst X dX4_ticksToEnd_20 ?_
    refine z_callVI1 X (c_X4_holds hJ σ ⟨by decide, by decide⟩) kX4_90 rfl (by decide) rfl ⟨(Nat.le_of_ble_eq_true rfl), (Nat.le_of_ble_eq_true rfl)⟩ (Nat.le_of_ble_eq_true rfl) ⟨Nat.zero_le _, Nat.zero_le _⟩ dX4_ticksToEnd_21 (fun z9 σ1 hz9 => ?_)
    obtain ⟨rfl, rfl⟩ := hz9
    refine z_ifb_ne X 29 dX4_ticksToEnd_24 (by decide) (fun h9 => absurd h9 (by decide)) (fun _ => ?_)
    refine z_iconst X dX4_ticksToEnd_27 ?_
    exact z_iret X hsz hr hlocks dX4_ticksToEnd_28 ⟨(by rw [if_neg (by grind)]), ⟨_, rfl, mQ_up N 1 (by grind)⟩⟩
  · refine z_iload_n X dX4_ticksToEnd_9 rfl ?_
    refine z_callSI1 X (c_X4_isSite hJ _ hs) kX4_86 ⟨(Nat.le_of_ble_eq_true rfl), (Nat.le_of_ble_eq_true rfl)⟩ (Nat.le_of_ble_eq_true rfl) ⟨Nat.zero_le _, Nat.zero_le _⟩ dX4_ticksToEnd_10 (fun z9 σ1 hz9 => ?_)
    obtain ⟨rfl, rfl⟩ := hz9
    refine z_ifb_eq X 20 dX4_ticksToEnd_13 (by decide) (fun c_5 => ?_) (fun c_5 => ?_)
    · refine z_iconst X dX4_ticksToEnd_20 ?_
      refine z_callVI1 X (c_X4_holds hJ σ ⟨by decide, by decide⟩) kX4_90 rfl (by decide) rfl ⟨(Nat.le_of_ble_eq_true rfl), (Nat.le_of_ble_eq_true rfl)⟩ (Nat.le_of_ble_eq_true rfl) ⟨Nat.zero_le _, Nat.zero_le _⟩ dX4_ticksToEnd_21 (fun z9 σ1 hz9 => ?_)
      obtain ⟨rfl, rfl⟩ := hz9
      refine z_ifb_ne X 29 dX4_ticksToEnd_24 (by decide) (fun h9 => absurd h9 (by decide)) (fun _ => ?_)
      refine z_iconst X dX4_ticksToEnd_27 ?_
      exact z_iret X hsz hr hlocks dX4_ticksToEnd_28 ⟨(by rw [if_neg (by grind)]), ⟨_, rfl, mQ_up N 1 (by grind)⟩⟩
    · refine z_iconst X dX4_ticksToEnd_16 ?_
      refine z_goto X 21 dX4_ticksToEnd_17 (by decide) ?_
      refine z_callVI1 X (c_X4_holds hJ σ ⟨by decide, by decide⟩) kX4_90 rfl (by decide) rfl ⟨(Nat.le_of_ble_eq_true rfl), (Nat.le_of_ble_eq_true rfl)⟩ (Nat.le_of_ble_eq_true rfl) ⟨Nat.zero_le _, Nat.zero_le _⟩ dX4_ticksToEnd_21 (fun z9 σ1 hz9 => ?_)
      obtain ⟨rfl, rfl⟩ := hz9
      refine z_ifb_ne X 29 dX4_ticksToEnd_24 (by decide) (fun _ => ?_) (fun h9 => absurd rfl h9)
      refine z_aload_n X dX4_ticksToEnd_29 rfl ?_
      refine z_iconst X dX4_ticksToEnd_30 ?_
      refine z_iload_n X dX4_ticksToEnd_31 rfl ?_
      refine z_iload_n X dX4_ticksToEnd_32 rfl ?_
      refine z_callVI3 X (c_X4_isMember hJ σ ⟨by decide, by decide⟩ hd hs (by omega) (by rw [e00]; exact ok) (by first | omega | assumption | grind) (by omega)) kX4_28 rfl (by decide) rfl ⟨(Nat.le_of_ble_eq_true rfl), (Nat.le_of_ble_eq_true rfl)⟩ (Nat.le_of_ble_eq_true rfl) ⟨Nat.zero_le _, Nat.zero_le _⟩ dX4_ticksToEnd_33 (fun z9 σ1 hz9 => ?_)
      obtain ⟨rfl, rfl⟩ := hz9
      refine z_ifb_ne X 41 dX4_ticksToEnd_36 (by decide) (fun c_9 => ?_) (fun c_9 => ?_)
      · refine z_aload_n X dX4_ticksToEnd_41 rfl ?_
        refine z_iconst X dX4_ticksToEnd_42 ?_
        refine z_bipush X dX4_ticksToEnd_43 rfl ?_
        refine z_callVV2 X (c_X4_copies hJ σ ⟨by decide, by decide⟩ ⟨by decide, by decide⟩ (by omega) (by omega) (by omega)) kX4_79 rfl (by decide) rfl ⟨(Nat.le_of_ble_eq_true rfl), (Nat.le_of_ble_eq_true rfl)⟩ (Nat.le_of_ble_eq_true rfl) ⟨Nat.zero_le _, Nat.zero_le _⟩ dX4_ticksToEnd_45 (fun σ1 hz9 => ?_)
        obtain rfl := hz9
        obtain ⟨Nc, hNc⟩ : ∃ Nc, Nc = mCp (up2 N 0 0 0) 0 7 := ⟨_, rfl⟩
        rw [← hNc]
        have eNc : mV Nc 1974 = mV N 0 := by rw [hNc, show (1974 : Int) = 282 * 7 from rfl, mCp_at, show (282 : Int) * 0 = 0 from rfl, e00]
        have okc : rOk (mV Nc 1974) := by rw [eNc]; exact ok
        have bdc : Bud (mV Nc 1974) := by rw [eNc]; exact bd
        have pkc : pOk (mV Nc 1974) := by rw [eNc]; exact pk
        have hnc : mV Nc 1974 0 0 = mV N 0 0 0 := by rw [eNc]
        refine z_iconst X dX4_ticksToEnd_48 ?_
        refine z_istore_n X dX4_ticksToEnd_49 (by decide) ?_
        refine z_sub [(0, .ref (ad 5)), (1, vI d), (2, vI s), (3, vI 0)] (zSub_cons rfl (zSub_cons rfl (zSub_cons rfl (zSub_cons rfl zSub_nil)))) ?_
        refine z_sub [(0, .ref (ad 5)), (1, vI d), (2, vI s), (3, vI 0)] (zSub_cons rfl (zSub_cons rfl (zSub_cons rfl (zSub_cons rfl zSub_nil)))) ?_
        refine zFor (S := zNt) 41 (fun i M => mTo Nc M 1974 (aPassL (mV N 0) i.toNat) ∧ rOk (mV M 1974) ∧ Bud (mV M 1974) ∧ pOk (mV M 1974) ∧ mV M 1974 0 0 = mV N 0 0 0 ∧ zFind (fun i => decide (2 ≤ cSt (aPassL (mV N 0) i.toNat) d s)) i.toNat = -1) (fun i M => zV p l e (zRm 7) s0 m args below meth c 4 D G ad 0 0 (zE below (zQI D G ad sz (fun z σ9 => z = (if cHas (mV N 0) d ∧ (0 ≤ s ∧ s ≤ 5) then (if cSt (mV N 0) d s = -1 then -1 else zFind (fun i => decide (2 ≤ cSt (aPassL (mV N 0) i.toNat) d s)) 41) else 0) ∧ ∃ N9, σ9 = zBk σ 5 3 N9 ∧ mQ N N9 (if cHas (mV N 0) d ∧ (0 ≤ s ∧ s ≤ 5) then 0 else 1))) args s0 ad) 50 [(0, .ref (ad 5)), (1, vI d), (2, vI s), (3, vI i)] [] (zBk σ 5 3 M)) (fun i M i0 i1 hv ih => ?_) Nc (by omega) ⟨⟨eNc, mFr_rf⟩, okc, bdc, pkc, hnc, rfl⟩
        have hn3 := hv.2.2.2.2.1
        refine z_iload_n X dX4_ticksToEnd_50 rfl ?_
        refine z_bipush X dX4_ticksToEnd_51 rfl ?_
        refine z_icmp_gt X 84 dX4_ticksToEnd_53 (by decide) (by first | assumption | (unfold zB at *; omega)) ⟨by decide, by decide⟩ (fun c_11 => ?_) (fun c_11 => ?_)
        · refine z_iconst X dX4_ticksToEnd_84 ?_
          exact z_iret X hsz hr hlocks dX4_ticksToEnd_85 ⟨(by rw [if_pos (by grind), if_neg (by grind)]; exact (show zFind (fun i => decide (2 ≤ cSt (aPassL (mV N 0) i.toNat) d s)) 41 = -1 from by have h9 := hv.2.2.2.2.2; rw [show i = 41 by omega] at h9; exact h9).symm), ⟨M, rfl, mQ_cp hv.1.2 hNc (if_pos (by grind))⟩⟩
        · refine z_aload_n X dX4_ticksToEnd_56 rfl ?_
          refine z_sipush X dX4_ticksToEnd_57 rfl ?_
          refine z_iload_n X dX4_ticksToEnd_60 rfl ?_
          refine z_iload_n X dX4_ticksToEnd_61 rfl ?_
          refine z_callVI3 X (c_X4_stateOf hJ σ ⟨by decide, by decide⟩ hd hs (by omega) hv.2.1 (by first | omega | assumption | grind) (by omega)) kX4_35 rfl (by decide) rfl ⟨(Nat.le_of_ble_eq_true rfl), (Nat.le_of_ble_eq_true rfl)⟩ (Nat.le_of_ble_eq_true rfl) ⟨Nat.zero_le _, Nat.zero_le _⟩ dX4_ticksToEnd_62 (fun z9 σ1 hz9 => ?_)
          obtain ⟨rfl, rfl⟩ := hz9
          refine z_iconst X dX4_ticksToEnd_65 ?_
          refine z_icmp_lt X 71 dX4_ticksToEnd_66 (by decide) (zB_sm (qg_st hv.2.1 _ _)) ⟨by decide, by decide⟩ (fun c_13 => ?_) (fun c_13 => ?_)
          · refine z_aload_n X dX4_ticksToEnd_71 rfl ?_
            refine z_sipush X dX4_ticksToEnd_72 rfl ?_
            refine z_callVV1 X (c_X4_ticks hJ σ ⟨by decide, by decide⟩ (by omega) hv.2.1 hv.2.2.1 (by first | exact pk | exact hv.2.2.2.1)) kX4_72 rfl (by decide) rfl ⟨(Nat.le_of_ble_eq_true rfl), (Nat.le_of_ble_eq_true rfl)⟩ (Nat.le_of_ble_eq_true rfl) ⟨Nat.zero_le _, Nat.zero_le _⟩ dX4_ticksToEnd_75 (fun σ1 hz9 => ?_)
            obtain ⟨N1, rfl, hT1⟩ := hz9
            have hnN1 : mV N1 1974 0 0 = mV M 1974 0 0 := by rw [hT1.1]; exact n_aTick _
            have okN1 : rOk (mV N1 1974) := (by rw [hT1.1]; exact (iv_aTick hv.2.1 hv.2.2.1 (by first | exact pk | exact hv.2.2.2.1)).1)
            have bdN1 : Bud (mV N1 1974) := (by rw [hT1.1]; exact (iv_aTick hv.2.1 hv.2.2.1 (by first | exact pk | exact hv.2.2.2.1)).2.1)
            refine z_iinc X dX4_ticksToEnd_78 rfl (by decide) ?_
            refine z_sub [(0, .ref (ad 5)), (1, vI d), (2, vI s), (3, vI (i + 1))] (zSub_cons rfl (zSub_cons rfl (zSub_cons rfl (zSub_cons rfl zSub_nil)))) ?_
            refine z_goto X 50 dX4_ticksToEnd_81 (by decide) ?_
            refine z_sub [(0, .ref (ad 5)), (1, vI d), (2, vI s), (3, vI (i + 1))] (zSub_cons rfl (zSub_cons rfl (zSub_cons rfl (zSub_cons rfl zSub_nil)))) ?_
            exact ih (by omega) N1 ⟨⟨by rw [hT1.1, aPassL_step i0, ← hv.1.1], mFr_tr hv.1.2 hT1.2⟩, okN1, bdN1, (by rw [hT1.1]; exact (iv_aTick hv.2.1 hv.2.2.1 hv.2.2.2.1).2.2), hnN1.trans hv.2.2.2.2.1, zFind_step i0 hv.2.2.2.2.2 (decide_eq_false (by rw [← hv.1.1]; omega))⟩
          · refine z_iload_n X dX4_ticksToEnd_69 rfl ?_
            exact z_iret X hsz hr hlocks dX4_ticksToEnd_70 ⟨(by rw [if_pos (by grind), if_neg (by grind)]; exact (show zFind (fun i => decide (2 ≤ cSt (aPassL (mV N 0) i.toNat) d s)) 41 = i from zFind_hit (n := 41) i0 (by omega) hv.2.2.2.2.2 (decide_eq_true (by rw [← hv.1.1]; omega))).symm), ⟨M, rfl, mQ_cp hv.1.2 hNc (if_pos (by grind))⟩⟩
      · refine z_iconst X dX4_ticksToEnd_39 ?_
        exact z_iret X hsz hr hlocks dX4_ticksToEnd_40 ⟨(by (try simp only [e00] at *); rw [if_pos (by grind), if_pos (by grind)]), ⟨_, rfl, mQ_up N 0 (by grind)⟩⟩

set_option maxHeartbeats 4000000 in
set_option maxRecDepth 100000 in
theorem c_X4_mix {l : Launch} {D : va_G} {G : zG} {ad : Nat → Nat} (hJ : zInj ad) (σ : zM) {N : Nat → Nat → Int} {h v : Int64} : zKV l D G ad yX4_mix cX4_mix 3 none 0 [.ref (ad 5), .long v] (zBk (zSL σ 5 10 h) 5 3 N) (fun σ9 => σ9 = zBk (zSL σ 5 10 (31 * h + v)) 5 3 N) := by
  intro sz
  refine z_open hJ (by decide +kernel) (Nat.le_of_ble_eq_true rfl) ?_
  intro p e s0 m args below meth c hsz X hr hlocks
  refine z_sub [(0, .ref (ad 5)), (1, .long v)] (zSub_cons rfl (zSub_cons rfl zSub_nil)) ?_
  refine z_aload_n X dX4_mix_0 rfl ?_
  refine z_ldc2 X (v := 31) (zU_mem 1141 (by decide +kernel) (by decide +kernel)) dX4_mix_1 ?_
  refine z_aload_n X dX4_mix_4 rfl ?_
  refine y_gModH X fX4_185 dX4_mix_5 ?_
  refine z_lmul X dX4_mix_8 ?_
  refine z_lload_n X dX4_mix_9 rfl ?_
  refine z_ladd X dX4_mix_10 ?_
  refine y_pModH X fX4_185 dX4_mix_11 ?_
  exact z_vret X hsz hr hlocks dX4_mix_14 rfl
