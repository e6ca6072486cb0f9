theorem iI_nI {a : Int} (h : 0 ≤ a) : iI a = nI a.toNat := by
  unfold iI nI
  rw [← Int32.ofInt_eq_ofNat, Int.toNat_of_nonneg h]
section Dv
variable {p : Program} {l : Launch} {e : Env} {R : Room} {s : State} {m : MethodId} {args : Array Value} {below : List Frame} {meth : Method} {c : Code} {cc : ByteArray} {nL : Nat} {own : String} {D : va_G} {G : zG} {ad : Nat → Nat} {cells slots : Nat} {Q : State → Prop}
variable {pc : Nat} {lv : List (Nat × Value)} {st : List Value} {σ : zM}
theorem z_idiv6 (X : zX p s m args c cc nL own D G ad) {a : Int} (h0 : 0 ≤ a) (h1 : a < 2147483648) (d : decode cc pc = .ok (.idiv, 1))
    (k : zV p l e R s m args below meth c nL D G ad cells slots Q (pc + 1) lv (vI (a / 6) :: st) σ) : zV p l e R s m args below meth c nL D G ad cells slots Q pc lv (vI 6 :: vI a :: st) σ :=
  fun ls H locs h hP hS => lv_idiv X.1 X.2.1 d (by decide) (by
    rw [iI_nI h0, show iI 6 = nI 6 from rfl, pk_div (by omega) (by decide) (by decide), show nI (a.toNat / 6) = iI (a / 6) by rw [iI_nI (by omega)]; exact congrArg nI (by omega)]
    exact k ls H locs h hP hS)
theorem z_irem6 (X : zX p s m args c cc nL own D G ad) {a : Int} (h0 : 0 ≤ a) (h1 : a < 2147483648) (d : decode cc pc = .ok (.irem, 1))
    (k : zV p l e R s m args below meth c nL D G ad cells slots Q (pc + 1) lv (vI (a % 6) :: st) σ) : zV p l e R s m args below meth c nL D G ad cells slots Q pc lv (vI 6 :: vI a :: st) σ :=
  fun ls H locs h hP hS => lv_irem X.1 X.2.1 d (by decide) (by
    rw [iI_nI h0, show iI 6 = nI 6 from rfl, pk_rem (by omega) (by decide) (by decide), show nI (a.toNat % 6) = iI (a % 6) by rw [iI_nI (by omega)]; exact congrArg nI (by omega)]
    exact k ls H locs h hP hS)
end Dv
theorem ld_v {N : zNt} (ok : rOk N) {d : Int} (hd : cHas N d) : 0 ≤ cLead N d ∧ cLead N d < 6 := by
  have hn := rk_n ok
  have h := rk_ld ok (d := d.toNat) (by omega)
  unfold cLead; rw [if_pos hd]; omega
theorem fl_pt {N : zNt} {b d s : Int} (hb0 : 0 ≤ b) (hd : cHas (mV N b) d) (hn : 0 ≤ mV N b 0 0 ∧ mV N b 0 0 ≤ 8) (hs : 0 ≤ s ∧ s < 6) : N 1 (((b + 84) + (6 * d)) + s).toNat = mV N b 5 (d * 6 + s).toNat :=
  ((mV_rd (by omega) (by decide)).trans (congrArg (N 1) (by unfold mIx; simp; omega))).symm
theorem zFind_none {f : Int → Bool} {n : Nat} (h : ∀ i : Nat, i < n → f i = false) : zFind f n = -1 := by
  induction n with
  | zero => rfl
  | succ n ih => rw [zFind, ih (fun i hi => h i (by omega)), h n (by omega)]; simp
def mEnded (N : zNt) : Int := zSum (fun k => if 2 ≤ cSt N (k / 6) (k % 6) then 1 else 0) (6 * N 0 0).toNat
def mBits (x : Int) : Nat → Int
  | 0 => 0
  | n + 1 => mBits x n + zAnd (zShr x n) 1
theorem mBits_step {x i : Int} (h : 0 ≤ i) : mBits x (i + 1).toNat = mBits x i.toNat + zAnd (zShr x i) 1 := by
  rw [show (i + 1).toNat = i.toNat + 1 by omega, mBits, Int.toNat_of_nonneg h]
theorem rg_bits0 (x : Int) : ∀ n : Nat, 0 ≤ mBits x n ∧ mBits x n ≤ n
  | 0 => by rw [mBits]; decide
  | n + 1 => by
    have h := rg_bits0 x n
    rw [mBits]
    rcases bit01 (zShr x n) with q | q <;> rw [q] <;> omega
theorem rg_bits (x : Int) : 0 ≤ mBits x 6 ∧ mBits x 6 ≤ 6 := rg_bits0 x 6
set_option maxHeartbeats 4000000 in
set_option maxRecDepth 100000 in
theorem c_X4_canVote {l : Launch} {D : va_G} {G : zG} {ad : Nat → Nat} (hJ : zInj ad) (σ : zM) {N : Nat → Nat → Int}  {d : Int} (hd : zB d) {s : Int} (hs : zB s) (ok : rOk (mV N 0)) (hd8 : cHas (mV N 0) d) (hs6 : 0 ≤ s ∧ s < 6) : zKI l D G ad yX4_canVote cX4_canVote 3 (some .boolean) 3 [.ref (ad 5), vI d, vI s] (zBk σ 5 3 N) (fun z σ9 => z = (if cCanVote (mV N 0) d s then 1 else 0) ∧ σ9 = (zBk σ 5 3 N)) := by
  intro sz
  refine z_open hJ (by decide +kernel) (Nat.le_of_ble_eq_true rfl) ?_
  intro p e s0 m args below meth c hsz X hr hlocks
  have hn := rk_n ok
  refine z_sub [(0, .ref (ad 5)), (1, vI d), (2, vI s)] (zSub_cons rfl (zSub_cons rfl (zSub_cons rfl zSub_nil))) ?_
  refine z_aload_n X dX4_canVote_0 rfl ?_
  refine z_iconst X dX4_canVote_1 ?_
  refine z_iload_n X dX4_canVote_2 rfl ?_
  refine z_callVI2 X (c_X4_isUpNow hJ σ ⟨by decide, by decide⟩ hs (by omega) (by omega)) kX4_58 rfl (by decide) rfl ⟨(Nat.le_of_ble_eq_true rfl), (Nat.le_of_ble_eq_true rfl)⟩ (Nat.le_of_ble_eq_true rfl) ⟨Nat.zero_le _, Nat.zero_le _⟩ dX4_canVote_3 (fun z9 σ1 hz9 => ?_)
  obtain ⟨rfl, rfl⟩ := hz9
  refine z_ifb_eq X 23 dX4_canVote_6 (by decide) (fun c_2 => ?_) (fun c_2 => ?_)
  · refine z_iconst X dX4_canVote_23 ?_
    exact z_zret X hsz hr hlocks dX4_canVote_24 (Or.inl rfl) ⟨(by first | rfl | grind), rfl⟩
  · refine z_aload_n X dX4_canVote_9 rfl ?_
    refine z_iconst X dX4_canVote_10 ?_
    refine z_iload_n X dX4_canVote_11 rfl ?_
    refine z_iload_n X dX4_canVote_12 rfl ?_
    refine z_callVI3 X (c_X4_stateOf hJ σ ⟨by decide, by decide⟩ hd hs (by omega) ok (by first | omega | assumption) (by omega)) kX4_35 rfl (by decide) rfl ⟨(Nat.le_of_ble_eq_true rfl), (Nat.le_of_ble_eq_true rfl)⟩ (Nat.le_of_ble_eq_true rfl) ⟨Nat.zero_le _, Nat.zero_le _⟩ dX4_canVote_13 (fun z9 σ1 hz9 => ?_)
    obtain ⟨rfl, rfl⟩ := hz9
    refine z_if_ne X 23 dX4_canVote_16 (by decide) (zB_sm (qg_st ok _ _)) (fun c_4 => ?_) (fun c_4 => ?_)
    · refine z_iconst X dX4_canVote_23 ?_
      exact z_zret X hsz hr hlocks dX4_canVote_24 (Or.inl rfl) ⟨(by first | rfl | grind), rfl⟩
    · refine z_iconst X dX4_canVote_19 ?_
      refine z_goto X 24 dX4_canVote_20 (by decide) ?_
      exact z_zret X hsz hr hlocks dX4_canVote_24 (Or.inr rfl) ⟨(by first | rfl | grind), rfl⟩

set_option maxHeartbeats 4000000 in
set_option maxRecDepth 100000 in
theorem c_X4_canDecide {l : Launch} {D : va_G} {G : zG} {ad : Nat → Nat} (hJ : zInj ad) (σ : zM) {N : Nat → Nat → Int}  {d : Int} (hd : zB d) (ok : rOk (mV N 0)) (hd8 : cHas (mV N 0) d) : zKI l D G ad yX4_canDecide cX4_canDecide 2 (some .boolean) 1 [.ref (ad 5), vI d] (zBk σ 5 3 N) (fun z σ9 => z = (if cCanDecide (mV N 0) d then 1 else 0) ∧ σ9 = (zBk σ 5 3 N)) := by
  intro sz
  refine z_open hJ (by decide +kernel) (Nat.le_of_ble_eq_true rfl) ?_
  intro p e s0 m args below meth c hsz X hr hlocks
  have hn := rk_n ok
  have hl : 0 ≤ cLead (mV N 0) d ∧ cLead (mV N 0) d < 6 := ld_v ok hd8
  refine z_sub [(0, .ref (ad 5)), (1, vI d)] (zSub_cons rfl (zSub_cons rfl zSub_nil)) ?_
  refine z_aload_n X dX4_canDecide_0 rfl ?_
  refine z_iconst X dX4_canDecide_1 ?_
  refine z_aload_n X dX4_canDecide_2 rfl ?_
  refine z_iconst X dX4_canDecide_3 ?_
  refine z_iload_n X dX4_canDecide_4 rfl ?_
  refine z_iconst X dX4_canDecide_5 ?_
  refine z_callVI3 X (c_X4_of0 hJ σ ⟨by decide, by decide⟩ hd (by omega) ok (by first | omega | assumption)) kX4_24 rfl (by decide) rfl ⟨(Nat.le_of_ble_eq_true rfl), (Nat.le_of_ble_eq_true rfl)⟩ (Nat.le_of_ble_eq_true rfl) ⟨Nat.zero_le _, Nat.zero_le _⟩ dX4_canDecide_6 (fun z9 σ1 hz9 => ?_)
  obtain ⟨rfl, rfl⟩ := hz9
  refine z_callVI2 X (c_X4_isUpNow hJ σ ⟨by decide, by decide⟩ (zB_sm (qg_ld ok _)) (by omega) (by omega)) kX4_58 rfl (by decide) rfl ⟨(Nat.le_of_ble_eq_true rfl), (Nat.le_of_ble_eq_true rfl)⟩ (Nat.le_of_ble_eq_true rfl) ⟨Nat.zero_le _, Nat.zero_le _⟩ dX4_canDecide_9 (fun z9 σ1 hz9 => ?_)
  obtain ⟨rfl, rfl⟩ := hz9
  refine z_ifb_eq X 29 dX4_canDecide_12 (by decide) (fun c_3 => ?_) (fun c_3 => ?_)
  · refine z_iconst X dX4_canDecide_29 ?_
    exact z_zret X hsz hr hlocks dX4_canDecide_30 (Or.inl rfl) ⟨(by first | rfl | grind), rfl⟩
  · refine z_aload_n X dX4_canDecide_15 rfl ?_
    refine z_iconst X dX4_canDecide_16 ?_
    refine z_iload_n X dX4_canDecide_17 rfl ?_
    refine z_iconst X dX4_canDecide_18 ?_
    refine z_callVI3 X (c_X4_of3 hJ σ ⟨by decide, by decide⟩ hd (by omega) ok (by first | omega | assumption)) kX4_24 rfl (by decide) rfl ⟨(Nat.le_of_ble_eq_true rfl), (Nat.le_of_ble_eq_true rfl)⟩ (Nat.le_of_ble_eq_true rfl) ⟨Nat.zero_le _, Nat.zero_le _⟩ dX4_canDecide_19 (fun z9 σ1 hz9 => ?_)
    obtain ⟨rfl, rfl⟩ := hz9
    refine z_if_ne X 29 dX4_canDecide_22 (by decide) (zB_sm (qg_dc ok _)) (fun c_5 => ?_) (fun c_5 => ?_)
    · refine z_iconst X dX4_canDecide_29 ?_
      exact z_zret X hsz hr hlocks dX4_canDecide_30 (Or.inl rfl) ⟨(by first | rfl | grind), rfl⟩
    · refine z_iconst X dX4_canDecide_25 ?_
      refine z_goto X 30 dX4_canDecide_26 (by decide) ?_
      exact z_zret X hsz hr hlocks dX4_canDecide_30 (Or.inr rfl) ⟨(by first | rfl | grind), rfl⟩

set_option maxHeartbeats 4000000 in
set_option maxRecDepth 100000 in
theorem c_X4_canTell {l : Launch} {D : va_G} {G : zG} {ad : Nat → Nat} (hJ : zInj ad) (σ : zM) {N : Nat → Nat → Int}  {d : Int} (hd : zB d) {s : Int} (hs : zB s) (ok : rOk (mV N 0)) (hd8 : cHas (mV N 0) d) (hs6 : 0 ≤ s ∧ s < 6) : zKI l D G ad yX4_canTell cX4_canTell 3 (some .boolean) 2 [.ref (ad 5), vI d, vI s] (zBk σ 5 3 N) (fun z σ9 => z = (if cCanTell (mV N 0) d s then 1 else 0) ∧ σ9 = (zBk σ 5 3 N)) := by
  intro sz
  refine z_open hJ (by decide +kernel) (Nat.le_of_ble_eq_true rfl) ?_
  intro p e s0 m args below meth c hsz X hr hlocks
  have hn := rk_n ok
  have hl : 0 ≤ cLead (mV N 0) d ∧ cLead (mV N 0) d < 6 := ld_v ok hd8
  have hdc := dc_v ok hd8
  have hd23 := fun h9 => dc_23 ok hd8 h9
  refine z_sub [(0, .ref (ad 5)), (1, vI d), (2, vI s)] (zSub_cons rfl (zSub_cons rfl (zSub_cons rfl zSub_nil))) ?_
  refine z_aload_n X dX4_canTell_0 rfl ?_
  refine z_iconst X dX4_canTell_1 ?_
  refine z_iload_n X dX4_canTell_2 rfl ?_
  refine z_iload_n X dX4_canTell_3 rfl ?_
  refine z_callVI3 X (c_X4_isMember hJ σ ⟨by decide, by decide⟩ hd hs (by omega) ok (by first | omega | assumption) (by omega)) kX4_28 rfl (by decide) rfl ⟨(Nat.le_of_ble_eq_true rfl), (Nat.le_of_ble_eq_true rfl)⟩ (Nat.le_of_ble_eq_true rfl) ⟨Nat.zero_le _, Nat.zero_le _⟩ dX4_canTell_4 (fun z9 σ1 hz9 => ?_)
  obtain ⟨rfl, rfl⟩ := hz9
  refine z_ifb_eq X 48 dX4_canTell_7 (by decide) (fun c_2 => ?_) (fun c_2 => ?_)
  · refine z_iconst X dX4_canTell_48 ?_
    exact z_zret X hsz hr hlocks dX4_canTell_49 (Or.inl rfl) ⟨(by first | rfl | grind), rfl⟩
  · refine z_aload_n X dX4_canTell_10 rfl ?_
    refine z_iconst X dX4_canTell_11 ?_
    refine z_iload_n X dX4_canTell_12 rfl ?_
    refine z_callVI2 X (c_X4_isUpNow hJ σ ⟨by decide, by decide⟩ hs (by omega) (by omega)) kX4_58 rfl (by decide) rfl ⟨(Nat.le_of_ble_eq_true rfl), (Nat.le_of_ble_eq_true rfl)⟩ (Nat.le_of_ble_eq_true rfl) ⟨Nat.zero_le _, Nat.zero_le _⟩ dX4_canTell_13 (fun z9 σ1 hz9 => ?_)
    obtain ⟨rfl, rfl⟩ := hz9
    refine z_ifb_eq X 48 dX4_canTell_16 (by decide) (fun c_4 => ?_) (fun c_4 => ?_)
    · refine z_iconst X dX4_canTell_48 ?_
      exact z_zret X hsz hr hlocks dX4_canTell_49 (Or.inl rfl) ⟨(by first | rfl | grind), rfl⟩
    · refine z_aload_n X dX4_canTell_19 rfl ?_
      refine z_iconst X dX4_canTell_20 ?_
      refine z_aload_n X dX4_canTell_21 rfl ?_
      refine z_iconst X dX4_canTell_22 ?_
      refine z_iload_n X dX4_canTell_23 rfl ?_
      refine z_iconst X dX4_canTell_24 ?_
      refine z_callVI3 X (c_X4_of0 hJ σ ⟨by decide, by decide⟩ hd (by omega) ok (by first | omega | assumption)) kX4_24 rfl (by decide) rfl ⟨(Nat.le_of_ble_eq_true rfl), (Nat.le_of_ble_eq_true rfl)⟩ (Nat.le_of_ble_eq_true rfl) ⟨Nat.zero_le _, Nat.zero_le _⟩ dX4_canTell_25 (fun z9 σ1 hz9 => ?_)
      obtain ⟨rfl, rfl⟩ := hz9
      refine z_callVI2 X (c_X4_isUpNow hJ σ ⟨by decide, by decide⟩ (zB_sm (qg_ld ok _)) (by omega) (by omega)) kX4_58 rfl (by decide) rfl ⟨(Nat.le_of_ble_eq_true rfl), (Nat.le_of_ble_eq_true rfl)⟩ (Nat.le_of_ble_eq_true rfl) ⟨Nat.zero_le _, Nat.zero_le _⟩ dX4_canTell_28 (fun z9 σ1 hz9 => ?_)
      obtain ⟨rfl, rfl⟩ := hz9
      refine z_ifb_eq X 48 dX4_canTell_31 (by decide) (fun c_7 => ?_) (fun c_7 => ?_)
      · refine z_iconst X dX4_canTell_48 ?_
        exact z_zret X hsz hr hlocks dX4_canTell_49 (Or.inl rfl) ⟨(by first | rfl | grind), rfl⟩
      · refine z_aload_n X dX4_canTell_34 rfl ?_
        refine z_iconst X dX4_canTell_35 ?_
        refine z_iload_n X dX4_canTell_36 rfl ?_
        refine z_iconst X dX4_canTell_37 ?_
        refine z_callVI3 X (c_X4_of3 hJ σ ⟨by decide, by decide⟩ hd (by omega) ok (by first | omega | assumption)) kX4_24 rfl (by decide) rfl ⟨(Nat.le_of_ble_eq_true rfl), (Nat.le_of_ble_eq_true rfl)⟩ (Nat.le_of_ble_eq_true rfl) ⟨Nat.zero_le _, Nat.zero_le _⟩ dX4_canTell_38 (fun z9 σ1 hz9 => ?_)
        obtain ⟨rfl, rfl⟩ := hz9
        refine z_if_eq X 48 dX4_canTell_41 (by decide) (zB_sm (qg_dc ok _)) (fun c_9 => ?_) (fun c_9 => ?_)
        · refine z_iconst X dX4_canTell_48 ?_
          exact z_zret X hsz hr hlocks dX4_canTell_49 (Or.inl rfl) ⟨(by first | rfl | grind), rfl⟩
        · refine z_iconst X dX4_canTell_44 ?_
          refine z_goto X 49 dX4_canTell_45 (by decide) ?_
          exact z_zret X hsz hr hlocks dX4_canTell_49 (Or.inr rfl) ⟨(by first | rfl | grind), rfl⟩

set_option maxHeartbeats 4000000 in
set_option maxRecDepth 100000 in
theorem c_X4_canAsk {l : Launch} {D : va_G} {G : zG} {ad : Nat → Nat} (hJ : zInj ad) (σ : zM) {N : Nat → Nat → Int}  {d : Int} (hd : zB d) {s : Int} (hs : zB s) {o : Int} (ho : zB o) (ok : rOk (mV N 0)) (hd8 : cHas (mV N 0) d) (hs6 : 0 ≤ s ∧ s < 6) (ho6 : 0 ≤ o ∧ o < 6) : zKI l D G ad yX4_canAsk cX4_canAsk 4 (some .boolean) 3 [.ref (ad 5), vI d, vI s, vI o] (zBk σ 5 3 N) (fun z σ9 => z = (if (cUp (mV N 0) s ∧ cUp (mV N 0) o ∧ cSt (mV N 0) d s = 1) then 1 else 0) ∧ σ9 = (zBk σ 5 3 N)) := by
  intro sz
  refine z_open hJ (by decide +kernel) (Nat.le_of_ble_eq_true rfl) ?_
  intro p e s0 m args below meth c hsz X hr hlocks
  have hn := rk_n ok
  refine z_sub [(0, .ref (ad 5)), (1, vI d), (2, vI s), (3, vI o)] (zSub_cons rfl (zSub_cons rfl (zSub_cons rfl (zSub_cons rfl zSub_nil)))) ?_
  refine z_aload_n X dX4_canAsk_0 rfl ?_
  refine z_iconst X dX4_canAsk_1 ?_
  refine z_iload_n X dX4_canAsk_2 rfl ?_
  refine z_callVI2 X (c_X4_isUpNow hJ σ ⟨by decide, by decide⟩ hs (by omega) (by omega)) kX4_58 rfl (by decide) rfl ⟨(Nat.le_of_ble_eq_true rfl), (Nat.le_of_ble_eq_true rfl)⟩ (Nat.le_of_ble_eq_true rfl) ⟨Nat.zero_le _, Nat.zero_le _⟩ dX4_canAsk_3 (fun z9 σ1 hz9 => ?_)
  obtain ⟨rfl, rfl⟩ := hz9
  refine z_ifb_eq X 33 dX4_canAsk_6 (by decide) (fun c_2 => ?_) (fun c_2 => ?_)
  · refine z_iconst X dX4_canAsk_33 ?_
    exact z_zret X hsz hr hlocks dX4_canAsk_34 (Or.inl rfl) ⟨(by first | rfl | grind), rfl⟩
  · refine z_aload_n X dX4_canAsk_9 rfl ?_
    refine z_iconst X dX4_canAsk_10 ?_
    refine z_iload_n X dX4_canAsk_11 rfl ?_
    refine z_callVI2 X (c_X4_isUpNow hJ σ ⟨by decide, by decide⟩ ho (by omega) (by omega)) kX4_58 rfl (by decide) rfl ⟨(Nat.le_of_ble_eq_true rfl), (Nat.le_of_ble_eq_true rfl)⟩ (Nat.le_of_ble_eq_true rfl) ⟨Nat.zero_le _, Nat.zero_le _⟩ dX4_canAsk_12 (fun z9 σ1 hz9 => ?_)
    obtain ⟨rfl, rfl⟩ := hz9
    refine z_ifb_eq X 33 dX4_canAsk_15 (by decide) (fun c_4 => ?_) (fun c_4 => ?_)
    · refine z_iconst X dX4_canAsk_33 ?_
      exact z_zret X hsz hr hlocks dX4_canAsk_34 (Or.inl rfl) ⟨(by first | rfl | grind), rfl⟩
    · refine z_aload_n X dX4_canAsk_18 rfl ?_
      refine z_iconst X dX4_canAsk_19 ?_
      refine z_iload_n X dX4_canAsk_20 rfl ?_
      refine z_iload_n X dX4_canAsk_21 rfl ?_
      refine z_callVI3 X (c_X4_stateOf hJ σ ⟨by decide, by decide⟩ hd hs (by omega) ok (by first | omega | assumption) (by omega)) kX4_35 rfl (by decide) rfl ⟨(Nat.le_of_ble_eq_true rfl), (Nat.le_of_ble_eq_true rfl)⟩ (Nat.le_of_ble_eq_true rfl) ⟨Nat.zero_le _, Nat.zero_le _⟩ dX4_canAsk_22 (fun z9 σ1 hz9 => ?_)
      obtain ⟨rfl, rfl⟩ := hz9
      refine z_iconst X dX4_canAsk_25 ?_
      refine z_icmp_ne X 33 dX4_canAsk_26 (by decide) (zB_sm (qg_st ok _ _)) ⟨by decide, by decide⟩ (fun c_6 => ?_) (fun c_6 => ?_)
      · refine z_iconst X dX4_canAsk_33 ?_
        exact z_zret X hsz hr hlocks dX4_canAsk_34 (Or.inl rfl) ⟨(by first | rfl | grind), rfl⟩
      · refine z_iconst X dX4_canAsk_29 ?_
        refine z_goto X 34 dX4_canAsk_30 (by decide) ?_
        exact z_zret X hsz hr hlocks dX4_canAsk_34 (Or.inr rfl) ⟨(by first | rfl | grind), rfl⟩

set_option maxHeartbeats 4000000 in
set_option maxRecDepth 100000 in
theorem c_X4_patienceOf {l : Launch} {D : va_G} {G : zG} {ad : Nat → Nat} (hJ : zInj ad) (σ : zM) {N : Nat → Nat → Int}  {d : Int} (hd : zB d) {s : Int} (hs : zB s) (ok : rOk (mV N 0)) (hd8 : cHas (mV N 0) d) (hs6 : 0 ≤ s ∧ s < 6) : zKI l D G ad yX4_patienceOf cX4_patienceOf 3 (some .int) 3 [.ref (ad 5), vI d, vI s] (zBk σ 5 3 N) (fun z σ9 => z = cPat (mV N 0) d s ∧ σ9 = (zBk σ 5 3 N)) := by
  intro sz
  refine z_open hJ (by decide +kernel) (Nat.le_of_ble_eq_true rfl) ?_
  intro p e s0 m args below meth c hsz X hr hlocks
  have hn := rk_n ok
  refine z_sub [(0, .ref (ad 5)), (1, vI d), (2, vI s)] (zSub_cons rfl (zSub_cons rfl (zSub_cons rfl zSub_nil))) ?_
  refine z_aload_n X dX4_patienceOf_0 rfl ?_
  refine z_iconst X dX4_patienceOf_1 ?_
  refine z_iload_n X dX4_patienceOf_2 rfl ?_
  refine z_iload_n X dX4_patienceOf_3 rfl ?_
  refine z_callVI3 X (c_X4_stateOf hJ σ ⟨by decide, by decide⟩ hd hs (by omega) ok (by first | omega | assumption) (by omega)) kX4_35 rfl (by decide) rfl ⟨(Nat.le_of_ble_eq_true rfl), (Nat.le_of_ble_eq_true rfl)⟩ (Nat.le_of_ble_eq_true rfl) ⟨Nat.zero_le _, Nat.zero_le _⟩ dX4_patienceOf_4 (fun z9 σ1 hz9 => ?_)
  obtain ⟨rfl, rfl⟩ := hz9
  refine z_iconst X dX4_patienceOf_7 ?_
  refine z_icmp_ne X 28 dX4_patienceOf_8 (by decide) (zB_sm (qg_st ok _ _)) ⟨by decide, by decide⟩ (fun c_2 => ?_) (fun c_2 => ?_)
  · refine z_iconst X dX4_patienceOf_28 ?_
    exact z_iret X hsz hr hlocks dX4_patienceOf_29 ⟨(by unfold cPat; rw [if_neg (by assumption)]), rfl⟩
  · refine z_aload_n X dX4_patienceOf_11 rfl ?_
    refine y_gMod1 X fX4_7 dX4_patienceOf_12 ?_
    refine z_bipush X dX4_patienceOf_15 rfl ?_
    refine z_bipush X dX4_patienceOf_17 rfl ?_
    refine z_iload_n X dX4_patienceOf_19 rfl ?_
    refine z_imul X dX4_patienceOf_20 ?_
    refine z_iadd X dX4_patienceOf_21 ?_
    refine z_iload_n X dX4_patienceOf_22 rfl ?_
    refine z_iadd X dX4_patienceOf_23 ?_
    refine y_iald X 1 (zArr_6) (by decide) (by omega) (by omega) (by decide) dX4_patienceOf_24 ?_
    refine z_goto X 29 dX4_patienceOf_25 (by decide) ?_
    exact z_iret X hsz hr hlocks dX4_patienceOf_29 ⟨(by unfold cPat; rw [if_pos (by assumption)]; exact (fl_pt (b := 0) (by decide) hd8 hn hs6)), rfl⟩

set_option maxHeartbeats 4000000 in
set_option maxRecDepth 100000 in
theorem c_X4_openDeals {l : Launch} {D : va_G} {G : zG} {ad : Nat → Nat} (hJ : zInj ad) (σ : zM) {N : Nat → Nat → Int}   (ok : rOk (mV N 0)) : zKI l D G ad yX4_openDeals cX4_openDeals 5 (some .int) 3 [.ref (ad 5)] (zBk σ 5 3 N) (fun z σ9 => z = cOpens (mV N 0) ∧ σ9 = (zBk σ 5 3 N)) := by
  intro sz
  refine z_open hJ (by decide +kernel) (Nat.le_of_ble_eq_true rfl) ?_
  intro p e s0 m args below meth c hsz X hr hlocks
  have hn := rk_n ok
  refine z_sub [(0, .ref (ad 5))] (zSub_cons rfl zSub_nil) ?_
  refine z_iconst X dX4_openDeals_0 ?_
  refine z_istore_n X dX4_openDeals_1 (by decide) ?_
  refine z_sub [(0, .ref (ad 5)), (1, vI 0)] (zSub_cons rfl (zSub_cons rfl zSub_nil)) ?_
  refine z_iconst X dX4_openDeals_2 ?_
  refine z_istore_n X dX4_openDeals_3 (by decide) ?_
  refine z_sub [(0, .ref (ad 5)), (1, vI 0), (2, vI 0)] (zSub_cons rfl (zSub_cons rfl (zSub_cons rfl zSub_nil))) ?_
  refine z_sub [(0, .ref (ad 5)), (1, vI 0), (2, vI 0)] (zSub_cons rfl (zSub_cons rfl (zSub_cons rfl zSub_nil))) ?_
  refine zFor (S := Int) (mV N 0 0 0) (fun i a => a = zSum (fun d => if cOpen (mV N 0) d then 1 else 0) i.toNat) (fun i a => zV p l e (zRm 3) s0 m args below meth c 5 D G ad 0 0 (zE below (zQI D G ad sz (fun z σ9 => z = cOpens (mV N 0) ∧ σ9 = (zBk σ 5 3 N))) args s0 ad) 4 [(0, .ref (ad 5)), (1, vI a), (2, vI i)] [] (zBk σ 5 3 N)) (fun i a i0 i1 hv ih => ?_) 0 (by omega) rfl
  refine z_iload_n X dX4_openDeals_4 rfl ?_
  refine z_aload_n X dX4_openDeals_5 rfl ?_
  refine y_gMod1 X fX4_7 dX4_openDeals_6 ?_
  refine z_iconst X dX4_openDeals_9 ?_
  refine y_iald X 1 (zArr_6) (by decide) (by omega) (by omega) (by decide) dX4_openDeals_10 ?_
  rw [fl_n0 (N := N)]
  refine z_icmp_ge X 76 dX4_openDeals_11 (by decide) (by first | assumption | (unfold zB at *; omega)) (zB_sm (rk_n ok)) (fun c_1 => ?_) (fun c_1 => ?_)
  · refine z_iload_n X dX4_openDeals_76 rfl ?_
    exact z_iret X hsz hr hlocks dX4_openDeals_77 ⟨(by rw [hv, show i = mV N 0 0 0 by omega]; rfl), rfl⟩
  · refine z_iconst X dX4_openDeals_14 ?_
    refine z_istore_n X dX4_openDeals_15 (by decide) ?_
    refine z_sub [(0, .ref (ad 5)), (1, vI a), (2, vI i), (3, vI 0)] (zSub_cons rfl (zSub_cons rfl (zSub_cons rfl (zSub_cons rfl zSub_nil)))) ?_
    refine z_iconst X dX4_openDeals_16 ?_
    refine z_istore X dX4_openDeals_17 (by decide) ?_
    refine z_sub [(0, .ref (ad 5)), (1, vI a), (2, vI i), (3, vI 0), (4, vI 0)] (zSub_cons rfl (zSub_cons rfl (zSub_cons rfl (zSub_cons rfl (zSub_cons rfl zSub_nil))))) ?_
    refine z_sub [(0, .ref (ad 5)), (1, vI a), (2, vI i), (3, vI 0), (4, vI 0)] (zSub_cons rfl (zSub_cons rfl (zSub_cons rfl (zSub_cons rfl (zSub_cons rfl zSub_nil))))) ?_
    refine zFor (S := Int) 6 (fun j q => q = if zAny (fun s => decide (cSt (mV N 0) i s = 0 ∨ cSt (mV N 0) i s = 1)) j.toNat = true then 1 else 0) (fun j q => zV p l e (zRm 3) s0 m args below meth c 5 D G ad 0 0 (zE below (zQI D G ad sz (fun z σ9 => z = cOpens (mV N 0) ∧ σ9 = (zBk σ 5 3 N))) args s0 ad) 19 [(0, .ref (ad 5)), (1, vI a), (2, vI i), (3, vI q), (4, vI j)] [] (zBk σ 5 3 N)) (fun j q j0 j1 hvb ihb => ?_) 0 (by omega) rfl
    refine z_iload X dX4_openDeals_19 rfl ?_
    refine z_bipush X dX4_openDeals_21 rfl ?_
    refine z_icmp_ge X 58 dX4_openDeals_23 (by decide) (by first | assumption | (unfold zB at *; omega)) ⟨by decide, by decide⟩ (fun c_2 => ?_) (fun c_2 => ?_)
    · refine z_iload_n X dX4_openDeals_58 rfl ?_
      refine z_iload_n X dX4_openDeals_59 rfl ?_
      refine z_if_eq X 67 dX4_openDeals_60 (by decide) (by rw [hvb]; exact zB_ite) (fun c_3 => ?_) (fun c_3 => ?_)
      · refine z_iconst X dX4_openDeals_67 ?_
        refine z_iadd X dX4_openDeals_68 ?_
        refine z_istore_n X dX4_openDeals_69 (by decide) ?_
        refine z_sub [(0, .ref (ad 5)), (1, vI (a + 0)), (2, vI i), (3, vI q), (4, vI j)] (zSub_cons rfl (zSub_cons rfl (zSub_cons rfl (zSub_cons rfl (zSub_cons rfl zSub_nil))))) ?_
        refine z_iinc X dX4_openDeals_70 rfl (by decide) ?_
        refine z_sub [(0, .ref (ad 5)), (1, vI (a + 0)), (2, vI (i + 1)), (3, vI q), (4, vI j)] (zSub_cons rfl (zSub_cons rfl (zSub_cons rfl (zSub_cons rfl (zSub_cons rfl zSub_nil))))) ?_
        refine z_goto X 4 dX4_openDeals_73 (by decide) ?_
        refine z_sub [(0, .ref (ad 5)), (1, vI (a + 0)), (2, vI (i + 1))] (zSub_cons rfl (zSub_cons rfl (zSub_cons rfl zSub_nil))) ?_
        exact ih (by omega) (a + 0) (by rw [zSum_step i0, ← hv]; have e9 : j = 6 := (by omega); subst e9; have h8 : q = if zAny (fun s => decide (cSt (mV N 0) i s = 0 ∨ cSt (mV N 0) i s = 1)) 6 = true then 1 else 0 := hvb; clear hvb ih; grind)
      · refine z_iconst X dX4_openDeals_63 ?_
        refine z_goto X 68 dX4_openDeals_64 (by decide) ?_
        refine z_iadd X dX4_openDeals_68 ?_
        refine z_istore_n X dX4_openDeals_69 (by decide) ?_
        refine z_sub [(0, .ref (ad 5)), (1, vI (a + 1)), (2, vI i), (3, vI q), (4, vI j)] (zSub_cons rfl (zSub_cons rfl (zSub_cons rfl (zSub_cons rfl (zSub_cons rfl zSub_nil))))) ?_
        refine z_iinc X dX4_openDeals_70 rfl (by decide) ?_
        refine z_sub [(0, .ref (ad 5)), (1, vI (a + 1)), (2, vI (i + 1)), (3, vI q), (4, vI j)] (zSub_cons rfl (zSub_cons rfl (zSub_cons rfl (zSub_cons rfl (zSub_cons rfl zSub_nil))))) ?_
        refine z_goto X 4 dX4_openDeals_73 (by decide) ?_
        refine z_sub [(0, .ref (ad 5)), (1, vI (a + 1)), (2, vI (i + 1))] (zSub_cons rfl (zSub_cons rfl (zSub_cons rfl zSub_nil))) ?_
        exact ih (by omega) (a + 1) (by rw [zSum_step i0, ← hv]; have e9 : j = 6 := (by omega); subst e9; have h8 : q = if zAny (fun s => decide (cSt (mV N 0) i s = 0 ∨ cSt (mV N 0) i s = 1)) 6 = true then 1 else 0 := hvb; clear hvb ih; grind)
    · refine z_iload_n X dX4_openDeals_26 rfl ?_
      refine z_if_ne X 46 dX4_openDeals_27 (by decide) (by rw [hvb]; exact zB_ite) (fun c_4 => ?_) (fun c_4 => ?_)
      · refine z_iconst X dX4_openDeals_46 ?_
        refine z_goto X 51 dX4_openDeals_47 (by decide) ?_
        refine z_istore_n X dX4_openDeals_51 (by decide) ?_
        refine z_sub [(0, .ref (ad 5)), (1, vI a), (2, vI i), (3, vI 1), (4, vI j)] (zSub_cons rfl (zSub_cons rfl (zSub_cons rfl (zSub_cons rfl (zSub_cons rfl zSub_nil))))) ?_
        refine z_iinc X dX4_openDeals_52 rfl (by decide) ?_
        refine z_sub [(0, .ref (ad 5)), (1, vI a), (2, vI i), (3, vI 1), (4, vI (j + 1))] (zSub_cons rfl (zSub_cons rfl (zSub_cons rfl (zSub_cons rfl (zSub_cons rfl zSub_nil))))) ?_
        refine z_goto X 19 dX4_openDeals_55 (by decide) ?_
        refine z_sub [(0, .ref (ad 5)), (1, vI a), (2, vI i), (3, vI 1), (4, vI (j + 1))] (zSub_cons rfl (zSub_cons rfl (zSub_cons rfl (zSub_cons rfl (zSub_cons rfl zSub_nil))))) ?_
        exact ihb (by omega) 1 (by rw [zAny_succ j0]; grind)
      · refine z_aload_n X dX4_openDeals_30 rfl ?_
        refine z_iconst X dX4_openDeals_31 ?_
        refine z_iload_n X dX4_openDeals_32 rfl ?_
        refine z_iload X dX4_openDeals_33 rfl ?_
        refine z_callVI3 X (c_X4_stateOf hJ σ ⟨by decide, by decide⟩ (by first | assumption | (unfold zB at *; omega)) (by first | assumption | (unfold zB at *; omega)) (by omega) ok (by first | omega | assumption) (by omega)) kX4_35 rfl (by decide) rfl ⟨(Nat.le_of_ble_eq_true rfl), (Nat.le_of_ble_eq_true rfl)⟩ (Nat.le_of_ble_eq_true rfl) ⟨Nat.zero_le _, Nat.zero_le _⟩ dX4_openDeals_35 (fun z9 σ1 hz9 => ?_)
        obtain ⟨rfl, rfl⟩ := hz9
        refine z_iconst X dX4_openDeals_38 ?_
        refine z_iconst X dX4_openDeals_39 ?_
        refine z_callSI3 X (c_X4_in hJ _ (zB_sm (qg_st ok _ _)) ⟨by decide, by decide⟩ ⟨by decide, by decide⟩) kX4_20 ⟨(Nat.le_of_ble_eq_true rfl), (Nat.le_of_ble_eq_true rfl)⟩ (Nat.le_of_ble_eq_true rfl) ⟨Nat.zero_le _, Nat.zero_le _⟩ dX4_openDeals_40 (fun z9 σ1 hz9 => ?_)
        obtain ⟨rfl, rfl⟩ := hz9
        refine z_ifb_eq X 50 dX4_openDeals_43 (by decide) (fun c_7 => ?_) (fun c_7 => ?_)
        · refine z_iconst X dX4_openDeals_50 ?_
          refine z_istore_n X dX4_openDeals_51 (by decide) ?_
          refine z_sub [(0, .ref (ad 5)), (1, vI a), (2, vI i), (3, vI 0), (4, vI j)] (zSub_cons rfl (zSub_cons rfl (zSub_cons rfl (zSub_cons rfl (zSub_cons rfl zSub_nil))))) ?_
          refine z_iinc X dX4_openDeals_52 rfl (by decide) ?_
          refine z_sub [(0, .ref (ad 5)), (1, vI a), (2, vI i), (3, vI 0), (4, vI (j + 1))] (zSub_cons rfl (zSub_cons rfl (zSub_cons rfl (zSub_cons rfl (zSub_cons rfl zSub_nil))))) ?_
          refine z_goto X 19 dX4_openDeals_55 (by decide) ?_
          refine z_sub [(0, .ref (ad 5)), (1, vI a), (2, vI i), (3, vI 0), (4, vI (j + 1))] (zSub_cons rfl (zSub_cons rfl (zSub_cons rfl (zSub_cons rfl (zSub_cons rfl zSub_nil))))) ?_
          exact ihb (by omega) 0 (by rw [zAny_succ j0]; grind)
        · refine z_iconst X dX4_openDeals_46 ?_
          refine z_goto X 51 dX4_openDeals_47 (by decide) ?_
          refine z_istore_n X dX4_openDeals_51 (by decide) ?_
          refine z_sub [(0, .ref (ad 5)), (1, vI a), (2, vI i), (3, vI 1), (4, vI j)] (zSub_cons rfl (zSub_cons rfl (zSub_cons rfl (zSub_cons rfl (zSub_cons rfl zSub_nil))))) ?_
          refine z_iinc X dX4_openDeals_52 rfl (by decide) ?_
          refine z_sub [(0, .ref (ad 5)), (1, vI a), (2, vI i), (3, vI 1), (4, vI (j + 1))] (zSub_cons rfl (zSub_cons rfl (zSub_cons rfl (zSub_cons rfl (zSub_cons rfl zSub_nil))))) ?_
          refine z_goto X 19 dX4_openDeals_55 (by decide) ?_
          refine z_sub [(0, .ref (ad 5)), (1, vI a), (2, vI i), (3, vI 1), (4, vI (j + 1))] (zSub_cons rfl (zSub_cons rfl (zSub_cons rfl (zSub_cons rfl (zSub_cons rfl zSub_nil))))) ?_
          exact ihb (by omega) 1 (by rw [zAny_succ j0]; grind)

set_option maxHeartbeats 4000000 in
set_option maxRecDepth 100000 in
theorem c_X4_helperOf {l : Launch} {D : va_G} {G : zG} {ad : Nat → Nat} (hJ : zInj ad) (σ : zM) {N : Nat → Nat → Int}  {d : Int} (hd : zB d) {s : Int} (hs : zB s) (ok : rOk (mV N 0)) (hd8 : cHas (mV N 0) d) (hs6 : 0 ≤ s ∧ s < 6) : zKI l D G ad yX4_helperOf cX4_helperOf 4 (some .int) 4 [.ref (ad 5), vI d, vI s] (zBk σ 5 3 N) (fun z σ9 => z = cHelp (mV N 0) d s ∧ σ9 = (zBk σ 5 3 N)) := by
  intro sz
  refine z_open hJ (by decide +kernel) (Nat.le_of_ble_eq_true rfl) ?_
  intro p e s0 m args below meth c hsz X hr hlocks
  have hn := rk_n ok
  refine z_sub [(0, .ref (ad 5)), (1, vI d), (2, vI s)] (zSub_cons rfl (zSub_cons rfl (zSub_cons rfl zSub_nil))) ?_
  refine z_aload_n X dX4_helperOf_0 rfl ?_
  refine z_iconst X dX4_helperOf_1 ?_
  refine z_iload_n X dX4_helperOf_2 rfl ?_
  refine z_callVI2 X (c_X4_isUpNow hJ σ ⟨by decide, by decide⟩ hs (by omega) (by omega)) kX4_58 rfl (by decide) rfl ⟨(Nat.le_of_ble_eq_true rfl), (Nat.le_of_ble_eq_true rfl)⟩ (Nat.le_of_ble_eq_true rfl) ⟨Nat.zero_le _, Nat.zero_le _⟩ dX4_helperOf_3 (fun z9 σ1 hz9 => ?_)
  obtain ⟨rfl, rfl⟩ := hz9
  refine z_ifb_eq X 20 dX4_helperOf_6 (by decide) (fun c_2 => ?_) (fun c_2 => ?_)
  · refine z_iconst X dX4_helperOf_20 ?_
    exact z_iret X hsz hr hlocks dX4_helperOf_21 ⟨(show zFind (fun o => decide ((o = cLead (mV N 0) d ∨ cAns (cSt (mV N 0) d o)) ∧ cCanAsk (mV N 0) d s o)) 6 = -1 from zFind_none (fun o ho => decide_eq_false (by grind))).symm, rfl⟩
  · refine z_aload_n X dX4_helperOf_9 rfl ?_
    refine z_iconst X dX4_helperOf_10 ?_
    refine z_iload_n X dX4_helperOf_11 rfl ?_
    refine z_iload_n X dX4_helperOf_12 rfl ?_
    refine z_callVI3 X (c_X4_stateOf hJ σ ⟨by decide, by decide⟩ hd hs (by omega) ok (by first | omega | assumption) (by omega)) kX4_35 rfl (by decide) rfl ⟨(Nat.le_of_ble_eq_true rfl), (Nat.le_of_ble_eq_true rfl)⟩ (Nat.le_of_ble_eq_true rfl) ⟨Nat.zero_le _, Nat.zero_le _⟩ dX4_helperOf_13 (fun z9 σ1 hz9 => ?_)
    obtain ⟨rfl, rfl⟩ := hz9
    refine z_iconst X dX4_helperOf_16 ?_
    refine z_icmp_eq X 22 dX4_helperOf_17 (by decide) (zB_sm (qg_st ok _ _)) ⟨by decide, by decide⟩ (fun c_4 => ?_) (fun c_4 => ?_)
    · refine z_iconst X dX4_helperOf_22 ?_
      refine z_istore_n X dX4_helperOf_23 (by decide) ?_
      refine z_sub [(0, .ref (ad 5)), (1, vI d), (2, vI s), (3, vI 0)] (zSub_cons rfl (zSub_cons rfl (zSub_cons rfl (zSub_cons rfl zSub_nil)))) ?_
      refine z_sub [(0, .ref (ad 5)), (1, vI d), (2, vI s), (3, vI 0)] (zSub_cons rfl (zSub_cons rfl (zSub_cons rfl (zSub_cons rfl zSub_nil)))) ?_
      refine zFor (S := Unit) 6 (fun i _u => zFind (fun o => decide ((o = cLead (mV N 0) d ∨ cAns (cSt (mV N 0) d o)) ∧ cCanAsk (mV N 0) d s o)) i.toNat = -1) (fun i _u => zV p l e (zRm 4) s0 m args below meth c 4 D G ad 0 0 (zE below (zQI D G ad sz (fun z σ9 => z = cHelp (mV N 0) d s ∧ σ9 = (zBk σ 5 3 N))) args s0 ad) 24 [(0, .ref (ad 5)), (1, vI d), (2, vI s), (3, vI i)] [] (zBk σ 5 3 N)) (fun i _u i0 i1 hv ih => ?_) () (by omega) rfl
      refine z_iload_n X dX4_helperOf_24 rfl ?_
      refine z_bipush X dX4_helperOf_25 rfl ?_
      refine z_icmp_ge X 62 dX4_helperOf_27 (by decide) (by first | assumption | (unfold zB at *; omega)) ⟨by decide, by decide⟩ (fun c_5 => ?_) (fun c_5 => ?_)
      · refine z_iconst X dX4_helperOf_62 ?_
        exact z_iret X hsz hr hlocks dX4_helperOf_63 ⟨(show zFind (fun o => decide ((o = cLead (mV N 0) d ∨ cAns (cSt (mV N 0) d o)) ∧ cCanAsk (mV N 0) d s o)) 6 = -1 from by have e : i = 6 := (by omega); subst e; exact hv).symm, rfl⟩
      · refine z_iload_n X dX4_helperOf_30 rfl ?_
        refine z_iload_n X dX4_helperOf_31 rfl ?_
        refine z_icmp_eq X 56 dX4_helperOf_32 (by decide) (by first | assumption | (unfold zB at *; omega)) hs (fun c_6 => ?_) (fun c_6 => ?_)
        · refine z_iinc X dX4_helperOf_56 rfl (by decide) ?_
          refine z_sub [(0, .ref (ad 5)), (1, vI d), (2, vI s), (3, vI (i + 1))] (zSub_cons rfl (zSub_cons rfl (zSub_cons rfl (zSub_cons rfl zSub_nil)))) ?_
          refine z_goto X 24 dX4_helperOf_59 (by decide) ?_
          refine z_sub [(0, .ref (ad 5)), (1, vI d), (2, vI s), (3, vI (i + 1))] (zSub_cons rfl (zSub_cons rfl (zSub_cons rfl (zSub_cons rfl zSub_nil)))) ?_
          exact ih (by omega) () (zFind_step i0 hv (decide_eq_false (by have hq := qg_st ok d i; grind)))
        · refine z_aload_n X dX4_helperOf_35 rfl ?_
          refine z_iconst X dX4_helperOf_36 ?_
          refine z_iload_n X dX4_helperOf_37 rfl ?_
          refine z_callVI2 X (c_X4_isUpNow hJ σ ⟨by decide, by decide⟩ (by first | assumption | (unfold zB at *; omega)) (by omega) (by omega)) kX4_58 rfl (by decide) rfl ⟨(Nat.le_of_ble_eq_true rfl), (Nat.le_of_ble_eq_true rfl)⟩ (Nat.le_of_ble_eq_true rfl) ⟨Nat.zero_le _, Nat.zero_le _⟩ dX4_helperOf_38 (fun z9 σ1 hz9 => ?_)
          obtain ⟨rfl, rfl⟩ := hz9
          refine z_ifb_eq X 56 dX4_helperOf_41 (by decide) (fun c_8 => ?_) (fun c_8 => ?_)
          · refine z_iinc X dX4_helperOf_56 rfl (by decide) ?_
            refine z_sub [(0, .ref (ad 5)), (1, vI d), (2, vI s), (3, vI (i + 1))] (zSub_cons rfl (zSub_cons rfl (zSub_cons rfl (zSub_cons rfl zSub_nil)))) ?_
            refine z_goto X 24 dX4_helperOf_59 (by decide) ?_
            refine z_sub [(0, .ref (ad 5)), (1, vI d), (2, vI s), (3, vI (i + 1))] (zSub_cons rfl (zSub_cons rfl (zSub_cons rfl (zSub_cons rfl zSub_nil)))) ?_
            exact ih (by omega) () (zFind_step i0 hv (decide_eq_false (by have hq := qg_st ok d i; grind)))
          · refine z_aload_n X dX4_helperOf_44 rfl ?_
            refine z_iconst X dX4_helperOf_45 ?_
            refine z_iload_n X dX4_helperOf_46 rfl ?_
            refine z_iload_n X dX4_helperOf_47 rfl ?_
            refine z_callVI3 X (c_X4_helps hJ σ ⟨by decide, by decide⟩ hd (by first | assumption | (unfold zB at *; omega)) (by omega) ok (by first | omega | assumption) (by omega)) kX4_55 rfl (by decide) rfl ⟨(Nat.le_of_ble_eq_true rfl), (Nat.le_of_ble_eq_true rfl)⟩ (Nat.le_of_ble_eq_true rfl) ⟨Nat.zero_le _, Nat.zero_le _⟩ dX4_helperOf_48 (fun z9 σ1 hz9 => ?_)
            obtain ⟨rfl, rfl⟩ := hz9
            refine z_ifb_eq X 56 dX4_helperOf_51 (by decide) (fun c_10 => ?_) (fun c_10 => ?_)
            · refine z_iinc X dX4_helperOf_56 rfl (by decide) ?_
              refine z_sub [(0, .ref (ad 5)), (1, vI d), (2, vI s), (3, vI (i + 1))] (zSub_cons rfl (zSub_cons rfl (zSub_cons rfl (zSub_cons rfl zSub_nil)))) ?_
              refine z_goto X 24 dX4_helperOf_59 (by decide) ?_
              refine z_sub [(0, .ref (ad 5)), (1, vI d), (2, vI s), (3, vI (i + 1))] (zSub_cons rfl (zSub_cons rfl (zSub_cons rfl (zSub_cons rfl zSub_nil)))) ?_
              exact ih (by omega) () (zFind_step i0 hv (decide_eq_false (by have hq := qg_st ok d i; grind)))
            · refine z_iload_n X dX4_helperOf_54 rfl ?_
              exact z_iret X hsz hr hlocks dX4_helperOf_55 ⟨(show zFind (fun o => decide ((o = cLead (mV N 0) d ∨ cAns (cSt (mV N 0) d o)) ∧ cCanAsk (mV N 0) d s o)) 6 = i from zFind_hit (n := 6) i0 (by omega) hv (decide_eq_true (by have hq := qg_st ok d i; grind))).symm, rfl⟩
    · refine z_iconst X dX4_helperOf_20 ?_
      exact z_iret X hsz hr hlocks dX4_helperOf_21 ⟨(show zFind (fun o => decide ((o = cLead (mV N 0) d ∨ cAns (cSt (mV N 0) d o)) ∧ cCanAsk (mV N 0) d s o)) 6 = -1 from zFind_none (fun o ho => decide_eq_false (by grind))).symm, rfl⟩

set_option maxHeartbeats 4000000 in
set_option maxRecDepth 100000 in
theorem c_X4_stuckDeals {l : Launch} {D : va_G} {G : zG} {ad : Nat → Nat} (hJ : zInj ad) (σ : zM) {N : Nat → Nat → Int}   (ok : rOk (mV N 0)) : zKI l D G ad yX4_stuckDeals cX4_stuckDeals 6 (some .int) 5 [.ref (ad 5)] (zBk σ 5 3 N) (fun z σ9 => z = cStucks (mV N 0) ∧ σ9 = (zBk σ 5 3 N)) := by
  intro sz
  refine z_open hJ (by decide +kernel) (Nat.le_of_ble_eq_true rfl) ?_
  intro p e s0 m args below meth c hsz X hr hlocks
  have hn := rk_n ok
  refine z_sub [(0, .ref (ad 5))] (zSub_cons rfl zSub_nil) ?_
  refine z_iconst X dX4_stuckDeals_0 ?_
  refine z_istore_n X dX4_stuckDeals_1 (by decide) ?_
  refine z_sub [(0, .ref (ad 5)), (1, vI 0)] (zSub_cons rfl (zSub_cons rfl zSub_nil)) ?_
  refine z_iconst X dX4_stuckDeals_2 ?_
  refine z_istore_n X dX4_stuckDeals_3 (by decide) ?_
  refine z_sub [(0, .ref (ad 5)), (1, vI 0), (2, vI 0)] (zSub_cons rfl (zSub_cons rfl (zSub_cons rfl zSub_nil))) ?_
  refine z_sub [(0, .ref (ad 5)), (1, vI 0), (2, vI 0)] (zSub_cons rfl (zSub_cons rfl (zSub_cons rfl zSub_nil))) ?_
  refine zFor (S := Int) (mV N 0 0 0) (fun i a => a = zSum (fun d => if cStuck (mV N 0) d then 1 else 0) i.toNat) (fun i a => zV p l e (zRm 5) s0 m args below meth c 6 D G ad 0 0 (zE below (zQI D G ad sz (fun z σ9 => z = cStucks (mV N 0) ∧ σ9 = (zBk σ 5 3 N))) args s0 ad) 4 [(0, .ref (ad 5)), (1, vI a), (2, vI i)] [] (zBk σ 5 3 N)) (fun i a i0 i1 hv ih => ?_) 0 (by omega) rfl
  refine z_iload_n X dX4_stuckDeals_4 rfl ?_
  refine z_aload_n X dX4_stuckDeals_5 rfl ?_
  refine y_gMod1 X fX4_7 dX4_stuckDeals_6 ?_
  refine z_iconst X dX4_stuckDeals_9 ?_
  refine y_iald X 1 (zArr_6) (by decide) (by omega) (by omega) (by decide) dX4_stuckDeals_10 ?_
  rw [fl_n0 (N := N)]
  refine z_icmp_ge X 113 dX4_stuckDeals_11 (by decide) (by first | assumption | (unfold zB at *; omega)) (zB_sm (rk_n ok)) (fun c_1 => ?_) (fun c_1 => ?_)
  · refine z_iload_n X dX4_stuckDeals_113 rfl ?_
    exact z_iret X hsz hr hlocks dX4_stuckDeals_114 ⟨(by rw [hv, show i = mV N 0 0 0 by omega]; rfl), rfl⟩
  · refine z_iconst X dX4_stuckDeals_14 ?_
    refine z_istore_n X dX4_stuckDeals_15 (by decide) ?_
    refine z_sub [(0, .ref (ad 5)), (1, vI a), (2, vI i), (3, vI 0)] (zSub_cons rfl (zSub_cons rfl (zSub_cons rfl (zSub_cons rfl zSub_nil)))) ?_
    refine z_iconst X dX4_stuckDeals_16 ?_
    refine z_istore X dX4_stuckDeals_17 (by decide) ?_
    refine z_sub [(0, .ref (ad 5)), (1, vI a), (2, vI i), (3, vI 0), (4, vI 0)] (zSub_cons rfl (zSub_cons rfl (zSub_cons rfl (zSub_cons rfl (zSub_cons rfl zSub_nil))))) ?_
    refine z_iconst X dX4_stuckDeals_19 ?_
    refine z_istore X dX4_stuckDeals_20 (by decide) ?_
    refine z_sub [(0, .ref (ad 5)), (1, vI a), (2, vI i), (3, vI 0), (4, vI 0), (5, vI 0)] (zSub_cons rfl (zSub_cons rfl (zSub_cons rfl (zSub_cons rfl (zSub_cons rfl (zSub_cons rfl zSub_nil)))))) ?_
    refine z_sub [(0, .ref (ad 5)), (1, vI a), (2, vI i), (3, vI 0), (4, vI 0), (5, vI 0)] (zSub_cons rfl (zSub_cons rfl (zSub_cons rfl (zSub_cons rfl (zSub_cons rfl (zSub_cons rfl zSub_nil)))))) ?_
    refine zFor (S := (Int × Int)) 6 (fun j q => q.1 = (if zAny (fun s => decide (cUp (mV N 0) s ∧ cSt (mV N 0) i s = 1)) j.toNat = true then 1 else 0) ∧ q.2 = (if zAny (fun s => decide (cHelp (mV N 0) i s ≠ -1)) j.toNat = true then 1 else 0)) (fun j q => zV p l e (zRm 5) s0 m args below meth c 6 D G ad 0 0 (zE below (zQI D G ad sz (fun z σ9 => z = cStucks (mV N 0) ∧ σ9 = (zBk σ 5 3 N))) args s0 ad) 22 [(0, .ref (ad 5)), (1, vI a), (2, vI i), (3, vI q.1), (4, vI q.2), (5, vI j)] [] (zBk σ 5 3 N)) (fun j q j0 j1 hvb ihb => ?_) (0, 0) (by omega) ⟨rfl, rfl⟩
    refine z_iload X dX4_stuckDeals_22 rfl ?_
    refine z_bipush X dX4_stuckDeals_24 rfl ?_
    refine z_icmp_ge X 90 dX4_stuckDeals_26 (by decide) (by first | assumption | (unfold zB at *; omega)) ⟨by decide, by decide⟩ (fun c_2 => ?_) (fun c_2 => ?_)
    · refine z_iload_n X dX4_stuckDeals_90 rfl ?_
      refine z_iload_n X dX4_stuckDeals_91 rfl ?_
      refine z_if_eq X 104 dX4_stuckDeals_92 (by decide) (by rw [hvb.1]; exact zB_ite) (fun c_3 => ?_) (fun c_3 => ?_)
      · refine z_iconst X dX4_stuckDeals_104 ?_
        refine z_iadd X dX4_stuckDeals_105 ?_
        refine z_istore_n X dX4_stuckDeals_106 (by decide) ?_
        refine z_sub [(0, .ref (ad 5)), (1, vI (a + 0)), (2, vI i), (3, vI q.1), (4, vI q.2), (5, vI j)] (zSub_cons rfl (zSub_cons rfl (zSub_cons rfl (zSub_cons rfl (zSub_cons rfl (zSub_cons rfl zSub_nil)))))) ?_
        refine z_iinc X dX4_stuckDeals_107 rfl (by decide) ?_
        refine z_sub [(0, .ref (ad 5)), (1, vI (a + 0)), (2, vI (i + 1)), (3, vI q.1), (4, vI q.2), (5, vI j)] (zSub_cons rfl (zSub_cons rfl (zSub_cons rfl (zSub_cons rfl (zSub_cons rfl (zSub_cons rfl zSub_nil)))))) ?_
        refine z_goto X 4 dX4_stuckDeals_110 (by decide) ?_
        refine z_sub [(0, .ref (ad 5)), (1, vI (a + 0)), (2, vI (i + 1))] (zSub_cons rfl (zSub_cons rfl (zSub_cons rfl zSub_nil))) ?_
        exact ih (by omega) (a + 0) (by rw [zSum_step i0, ← hv]; have e9 : j = 6 := (by omega); subst e9; have h7 : q.1 = if zAny (fun s => decide (cUp (mV N 0) s ∧ cSt (mV N 0) i s = 1)) 6 = true then 1 else 0 := hvb.1; have h8 : q.2 = if zAny (fun s => decide (cHelp (mV N 0) i s ≠ -1)) 6 = true then 1 else 0 := hvb.2; clear hvb ih; grind)
      · refine z_iload X dX4_stuckDeals_95 rfl ?_
        refine z_if_ne X 104 dX4_stuckDeals_97 (by decide) (by rw [hvb.2]; exact zB_ite) (fun c_4 => ?_) (fun c_4 => ?_)
        · refine z_iconst X dX4_stuckDeals_104 ?_
          refine z_iadd X dX4_stuckDeals_105 ?_
          refine z_istore_n X dX4_stuckDeals_106 (by decide) ?_
          refine z_sub [(0, .ref (ad 5)), (1, vI (a + 0)), (2, vI i), (3, vI q.1), (4, vI q.2), (5, vI j)] (zSub_cons rfl (zSub_cons rfl (zSub_cons rfl (zSub_cons rfl (zSub_cons rfl (zSub_cons rfl zSub_nil)))))) ?_
          refine z_iinc X dX4_stuckDeals_107 rfl (by decide) ?_
          refine z_sub [(0, .ref (ad 5)), (1, vI (a + 0)), (2, vI (i + 1)), (3, vI q.1), (4, vI q.2), (5, vI j)] (zSub_cons rfl (zSub_cons rfl (zSub_cons rfl (zSub_cons rfl (zSub_cons rfl (zSub_cons rfl zSub_nil)))))) ?_
          refine z_goto X 4 dX4_stuckDeals_110 (by decide) ?_
          refine z_sub [(0, .ref (ad 5)), (1, vI (a + 0)), (2, vI (i + 1))] (zSub_cons rfl (zSub_cons rfl (zSub_cons rfl zSub_nil))) ?_
          exact ih (by omega) (a + 0) (by rw [zSum_step i0, ← hv]; have e9 : j = 6 := (by omega); subst e9; have h7 : q.1 = if zAny (fun s => decide (cUp (mV N 0) s ∧ cSt (mV N 0) i s = 1)) 6 = true then 1 else 0 := hvb.1; have h8 : q.2 = if zAny (fun s => decide (cHelp (mV N 0) i s ≠ -1)) 6 = true then 1 else 0 := hvb.2; clear hvb ih; grind)
        · refine z_iconst X dX4_stuckDeals_100 ?_
          refine z_goto X 105 dX4_stuckDeals_101 (by decide) ?_
          refine z_iadd X dX4_stuckDeals_105 ?_
          refine z_istore_n X dX4_stuckDeals_106 (by decide) ?_
          refine z_sub [(0, .ref (ad 5)), (1, vI (a + 1)), (2, vI i), (3, vI q.1), (4, vI q.2), (5, vI j)] (zSub_cons rfl (zSub_cons rfl (zSub_cons rfl (zSub_cons rfl (zSub_cons rfl (zSub_cons rfl zSub_nil)))))) ?_
          refine z_iinc X dX4_stuckDeals_107 rfl (by decide) ?_
          refine z_sub [(0, .ref (ad 5)), (1, vI (a + 1)), (2, vI (i + 1)), (3, vI q.1), (4, vI q.2), (5, vI j)] (zSub_cons rfl (zSub_cons rfl (zSub_cons rfl (zSub_cons rfl (zSub_cons rfl (zSub_cons rfl zSub_nil)))))) ?_
          refine z_goto X 4 dX4_stuckDeals_110 (by decide) ?_
          refine z_sub [(0, .ref (ad 5)), (1, vI (a + 1)), (2, vI (i + 1))] (zSub_cons rfl (zSub_cons rfl (zSub_cons rfl zSub_nil))) ?_
          exact ih (by omega) (a + 1) (by rw [zSum_step i0, ← hv]; have e9 : j = 6 := (by omega); subst e9; have h7 : q.1 = if zAny (fun s => decide (cUp (mV N 0) s ∧ cSt (mV N 0) i s = 1)) 6 = true then 1 else 0 := hvb.1; have h8 : q.2 = if zAny (fun s => decide (cHelp (mV N 0) i s ≠ -1)) 6 = true then 1 else 0 := hvb.2; clear hvb ih; grind)
    · refine z_iload_n X dX4_stuckDeals_29 rfl ?_
      refine z_if_ne X 55 dX4_stuckDeals_30 (by decide) (by rw [hvb.1]; exact zB_ite) (fun c_5 => ?_) (fun c_5 => ?_)
      · refine z_iconst X dX4_stuckDeals_55 ?_
        refine z_goto X 60 dX4_stuckDeals_56 (by decide) ?_
        refine z_istore_n X dX4_stuckDeals_60 (by decide) ?_
        refine z_sub [(0, .ref (ad 5)), (1, vI a), (2, vI i), (3, vI 1), (4, vI q.2), (5, vI j)] (zSub_cons rfl (zSub_cons rfl (zSub_cons rfl (zSub_cons rfl (zSub_cons rfl (zSub_cons rfl zSub_nil)))))) ?_
        refine z_iload X dX4_stuckDeals_61 rfl ?_
        refine z_if_ne X 77 dX4_stuckDeals_63 (by decide) (by rw [hvb.2]; exact zB_ite) (fun c_6 => ?_) (fun c_6 => ?_)
        · refine z_iconst X dX4_stuckDeals_77 ?_
          refine z_goto X 82 dX4_stuckDeals_78 (by decide) ?_
          refine z_istore X dX4_stuckDeals_82 (by decide) ?_
          refine z_sub [(0, .ref (ad 5)), (1, vI a), (2, vI i), (3, vI 1), (4, vI 1), (5, vI j)] (zSub_cons rfl (zSub_cons rfl (zSub_cons rfl (zSub_cons rfl (zSub_cons rfl (zSub_cons rfl zSub_nil)))))) ?_
          refine z_iinc X dX4_stuckDeals_84 rfl (by decide) ?_
          refine z_sub [(0, .ref (ad 5)), (1, vI a), (2, vI i), (3, vI 1), (4, vI 1), (5, vI (j + 1))] (zSub_cons rfl (zSub_cons rfl (zSub_cons rfl (zSub_cons rfl (zSub_cons rfl (zSub_cons rfl zSub_nil)))))) ?_
          refine z_goto X 22 dX4_stuckDeals_87 (by decide) ?_
          refine z_sub [(0, .ref (ad 5)), (1, vI a), (2, vI i), (3, vI 1), (4, vI 1), (5, vI (j + 1))] (zSub_cons rfl (zSub_cons rfl (zSub_cons rfl (zSub_cons rfl (zSub_cons rfl (zSub_cons rfl zSub_nil)))))) ?_
          exact ihb (by omega) (1, 1) ⟨by rw [zAny_succ j0]; grind, by rw [zAny_succ j0]; grind⟩
        · refine z_aload_n X dX4_stuckDeals_66 rfl ?_
          refine z_iload_n X dX4_stuckDeals_67 rfl ?_
          refine z_iload X dX4_stuckDeals_68 rfl ?_
          refine z_callVI2 X (c_X4_helperOf hJ σ (by first | assumption | (unfold zB at *; omega)) (by first | assumption | (unfold zB at *; omega)) ok (by first | omega | assumption) (by omega)) kX4_134 rfl (by decide) rfl ⟨(Nat.le_of_ble_eq_true rfl), (Nat.le_of_ble_eq_true rfl)⟩ (Nat.le_of_ble_eq_true rfl) ⟨Nat.zero_le _, Nat.zero_le _⟩ dX4_stuckDeals_70 (fun z9 σ1 hz9 => ?_)
          obtain ⟨rfl, rfl⟩ := hz9
          refine z_iconst X dX4_stuckDeals_73 ?_
          refine z_icmp_eq X 81 dX4_stuckDeals_74 (by decide) (zB_sm (rg_help _ _ _)) ⟨by decide, by decide⟩ (fun c_8 => ?_) (fun c_8 => ?_)
          · refine z_iconst X dX4_stuckDeals_81 ?_
            refine z_istore X dX4_stuckDeals_82 (by decide) ?_
            refine z_sub [(0, .ref (ad 5)), (1, vI a), (2, vI i), (3, vI 1), (4, vI 0), (5, vI j)] (zSub_cons rfl (zSub_cons rfl (zSub_cons rfl (zSub_cons rfl (zSub_cons rfl (zSub_cons rfl zSub_nil)))))) ?_
            refine z_iinc X dX4_stuckDeals_84 rfl (by decide) ?_
            refine z_sub [(0, .ref (ad 5)), (1, vI a), (2, vI i), (3, vI 1), (4, vI 0), (5, vI (j + 1))] (zSub_cons rfl (zSub_cons rfl (zSub_cons rfl (zSub_cons rfl (zSub_cons rfl (zSub_cons rfl zSub_nil)))))) ?_
            refine z_goto X 22 dX4_stuckDeals_87 (by decide) ?_
            refine z_sub [(0, .ref (ad 5)), (1, vI a), (2, vI i), (3, vI 1), (4, vI 0), (5, vI (j + 1))] (zSub_cons rfl (zSub_cons rfl (zSub_cons rfl (zSub_cons rfl (zSub_cons rfl (zSub_cons rfl zSub_nil)))))) ?_
            exact ihb (by omega) (1, 0) ⟨by rw [zAny_succ j0]; grind, by rw [zAny_succ j0]; grind⟩
          · refine z_iconst X dX4_stuckDeals_77 ?_
            refine z_goto X 82 dX4_stuckDeals_78 (by decide) ?_
            refine z_istore X dX4_stuckDeals_82 (by decide) ?_
            refine z_sub [(0, .ref (ad 5)), (1, vI a), (2, vI i), (3, vI 1), (4, vI 1), (5, vI j)] (zSub_cons rfl (zSub_cons rfl (zSub_cons rfl (zSub_cons rfl (zSub_cons rfl (zSub_cons rfl zSub_nil)))))) ?_
            refine z_iinc X dX4_stuckDeals_84 rfl (by decide) ?_
            refine z_sub [(0, .ref (ad 5)), (1, vI a), (2, vI i), (3, vI 1), (4, vI 1), (5, vI (j + 1))] (zSub_cons rfl (zSub_cons rfl (zSub_cons rfl (zSub_cons rfl (zSub_cons rfl (zSub_cons rfl zSub_nil)))))) ?_
            refine z_goto X 22 dX4_stuckDeals_87 (by decide) ?_
            refine z_sub [(0, .ref (ad 5)), (1, vI a), (2, vI i), (3, vI 1), (4, vI 1), (5, vI (j + 1))] (zSub_cons rfl (zSub_cons rfl (zSub_cons rfl (zSub_cons rfl (zSub_cons rfl (zSub_cons rfl zSub_nil)))))) ?_
            exact ihb (by omega) (1, 1) ⟨by rw [zAny_succ j0]; grind, by rw [zAny_succ j0]; grind⟩
      · refine z_aload_n X dX4_stuckDeals_33 rfl ?_
        refine z_iconst X dX4_stuckDeals_34 ?_
        refine z_iload X dX4_stuckDeals_35 rfl ?_
        refine z_callVI2 X (c_X4_isUpNow hJ σ ⟨by decide, by decide⟩ (by first | assumption | (unfold zB at *; omega)) (by omega) (by omega)) kX4_58 rfl (by decide) rfl ⟨(Nat.le_of_ble_eq_true rfl), (Nat.le_of_ble_eq_true rfl)⟩ (Nat.le_of_ble_eq_true rfl) ⟨Nat.zero_le _, Nat.zero_le _⟩ dX4_stuckDeals_37 (fun z9 σ1 hz9 => ?_)
        obtain ⟨rfl, rfl⟩ := hz9
        refine z_ifb_eq X 59 dX4_stuckDeals_40 (by decide) (fun c_10 => ?_) (fun c_10 => ?_)
        · refine z_iconst X dX4_stuckDeals_59 ?_
          refine z_istore_n X dX4_stuckDeals_60 (by decide) ?_
          refine z_sub [(0, .ref (ad 5)), (1, vI a), (2, vI i), (3, vI 0), (4, vI q.2), (5, vI j)] (zSub_cons rfl (zSub_cons rfl (zSub_cons rfl (zSub_cons rfl (zSub_cons rfl (zSub_cons rfl zSub_nil)))))) ?_
          refine z_iload X dX4_stuckDeals_61 rfl ?_
          refine z_if_ne X 77 dX4_stuckDeals_63 (by decide) (by rw [hvb.2]; exact zB_ite) (fun c_11 => ?_) (fun c_11 => ?_)
          · refine z_iconst X dX4_stuckDeals_77 ?_
            refine z_goto X 82 dX4_stuckDeals_78 (by decide) ?_
            refine z_istore X dX4_stuckDeals_82 (by decide) ?_
            refine z_sub [(0, .ref (ad 5)), (1, vI a), (2, vI i), (3, vI 0), (4, vI 1), (5, vI j)] (zSub_cons rfl (zSub_cons rfl (zSub_cons rfl (zSub_cons rfl (zSub_cons rfl (zSub_cons rfl zSub_nil)))))) ?_
            refine z_iinc X dX4_stuckDeals_84 rfl (by decide) ?_
            refine z_sub [(0, .ref (ad 5)), (1, vI a), (2, vI i), (3, vI 0), (4, vI 1), (5, vI (j + 1))] (zSub_cons rfl (zSub_cons rfl (zSub_cons rfl (zSub_cons rfl (zSub_cons rfl (zSub_cons rfl zSub_nil)))))) ?_
            refine z_goto X 22 dX4_stuckDeals_87 (by decide) ?_
            refine z_sub [(0, .ref (ad 5)), (1, vI a), (2, vI i), (3, vI 0), (4, vI 1), (5, vI (j + 1))] (zSub_cons rfl (zSub_cons rfl (zSub_cons rfl (zSub_cons rfl (zSub_cons rfl (zSub_cons rfl zSub_nil)))))) ?_
            exact ihb (by omega) (0, 1) ⟨by rw [zAny_succ j0]; grind, by rw [zAny_succ j0]; grind⟩
          · refine z_aload_n X dX4_stuckDeals_66 rfl ?_
            refine z_iload_n X dX4_stuckDeals_67 rfl ?_
            refine z_iload X dX4_stuckDeals_68 rfl ?_
            refine z_callVI2 X (c_X4_helperOf hJ σ (by first | assumption | (unfold zB at *; omega)) (by first | assumption | (unfold zB at *; omega)) ok (by first | omega | assumption) (by omega)) kX4_134 rfl (by decide) rfl ⟨(Nat.le_of_ble_eq_true rfl), (Nat.le_of_ble_eq_true rfl)⟩ (Nat.le_of_ble_eq_true rfl) ⟨Nat.zero_le _, Nat.zero_le _⟩ dX4_stuckDeals_70 (fun z9 σ1 hz9 => ?_)
            obtain ⟨rfl, rfl⟩ := hz9
            refine z_iconst X dX4_stuckDeals_73 ?_
            refine z_icmp_eq X 81 dX4_stuckDeals_74 (by decide) (zB_sm (rg_help _ _ _)) ⟨by decide, by decide⟩ (fun c_13 => ?_) (fun c_13 => ?_)
            · refine z_iconst X dX4_stuckDeals_81 ?_
              refine z_istore X dX4_stuckDeals_82 (by decide) ?_
              refine z_sub [(0, .ref (ad 5)), (1, vI a), (2, vI i), (3, vI 0), (4, vI 0), (5, vI j)] (zSub_cons rfl (zSub_cons rfl (zSub_cons rfl (zSub_cons rfl (zSub_cons rfl (zSub_cons rfl zSub_nil)))))) ?_
              refine z_iinc X dX4_stuckDeals_84 rfl (by decide) ?_
              refine z_sub [(0, .ref (ad 5)), (1, vI a), (2, vI i), (3, vI 0), (4, vI 0), (5, vI (j + 1))] (zSub_cons rfl (zSub_cons rfl (zSub_cons rfl (zSub_cons rfl (zSub_cons rfl (zSub_cons rfl zSub_nil)))))) ?_
              refine z_goto X 22 dX4_stuckDeals_87 (by decide) ?_
              refine z_sub [(0, .ref (ad 5)), (1, vI a), (2, vI i), (3, vI 0), (4, vI 0), (5, vI (j + 1))] (zSub_cons rfl (zSub_cons rfl (zSub_cons rfl (zSub_cons rfl (zSub_cons rfl (zSub_cons rfl zSub_nil)))))) ?_
              exact ihb (by omega) (0, 0) ⟨by rw [zAny_succ j0]; grind, by rw [zAny_succ j0]; grind⟩
            · refine z_iconst X dX4_stuckDeals_77 ?_
              refine z_goto X 82 dX4_stuckDeals_78 (by decide) ?_
              refine z_istore X dX4_stuckDeals_82 (by decide) ?_
              refine z_sub [(0, .ref (ad 5)), (1, vI a), (2, vI i), (3, vI 0), (4, vI 1), (5, vI j)] (zSub_cons rfl (zSub_cons rfl (zSub_cons rfl (zSub_cons rfl (zSub_cons rfl (zSub_cons rfl zSub_nil)))))) ?_
              refine z_iinc X dX4_stuckDeals_84 rfl (by decide) ?_
              refine z_sub [(0, .ref (ad 5)), (1, vI a), (2, vI i), (3, vI 0), (4, vI 1), (5, vI (j + 1))] (zSub_cons rfl (zSub_cons rfl (zSub_cons rfl (zSub_cons rfl (zSub_cons rfl (zSub_cons rfl zSub_nil)))))) ?_
              refine z_goto X 22 dX4_stuckDeals_87 (by decide) ?_
              refine z_sub [(0, .ref (ad 5)), (1, vI a), (2, vI i), (3, vI 0), (4, vI 1), (5, vI (j + 1))] (zSub_cons rfl (zSub_cons rfl (zSub_cons rfl (zSub_cons rfl (zSub_cons rfl (zSub_cons rfl zSub_nil)))))) ?_
              exact ihb (by omega) (0, 1) ⟨by rw [zAny_succ j0]; grind, by rw [zAny_succ j0]; grind⟩
        · refine z_aload_n X dX4_stuckDeals_43 rfl ?_
          refine z_iconst X dX4_stuckDeals_44 ?_
          refine z_iload_n X dX4_stuckDeals_45 rfl ?_
          refine z_iload X dX4_stuckDeals_46 rfl ?_
          refine z_callVI3 X (c_X4_stateOf hJ σ ⟨by decide, by decide⟩ (by first | assumption | (unfold zB at *; omega)) (by first | assumption | (unfold zB at *; omega)) (by omega) ok (by first | omega | assumption) (by omega)) kX4_35 rfl (by decide) rfl ⟨(Nat.le_of_ble_eq_true rfl), (Nat.le_of_ble_eq_true rfl)⟩ (Nat.le_of_ble_eq_true rfl) ⟨Nat.zero_le _, Nat.zero_le _⟩ dX4_stuckDeals_48 (fun z9 σ1 hz9 => ?_)
          obtain ⟨rfl, rfl⟩ := hz9
          refine z_iconst X dX4_stuckDeals_51 ?_
          refine z_icmp_ne X 59 dX4_stuckDeals_52 (by decide) (zB_sm (qg_st ok _ _)) ⟨by decide, by decide⟩ (fun c_15 => ?_) (fun c_15 => ?_)
          · refine z_iconst X dX4_stuckDeals_59 ?_
            refine z_istore_n X dX4_stuckDeals_60 (by decide) ?_
            refine z_sub [(0, .ref (ad 5)), (1, vI a), (2, vI i), (3, vI 0), (4, vI q.2), (5, vI j)] (zSub_cons rfl (zSub_cons rfl (zSub_cons rfl (zSub_cons rfl (zSub_cons rfl (zSub_cons rfl zSub_nil)))))) ?_
            refine z_iload X dX4_stuckDeals_61 rfl ?_
            refine z_if_ne X 77 dX4_stuckDeals_63 (by decide) (by rw [hvb.2]; exact zB_ite) (fun c_16 => ?_) (fun c_16 => ?_)
            · refine z_iconst X dX4_stuckDeals_77 ?_
              refine z_goto X 82 dX4_stuckDeals_78 (by decide) ?_
              refine z_istore X dX4_stuckDeals_82 (by decide) ?_
              refine z_sub [(0, .ref (ad 5)), (1, vI a), (2, vI i), (3, vI 0), (4, vI 1), (5, vI j)] (zSub_cons rfl (zSub_cons rfl (zSub_cons rfl (zSub_cons rfl (zSub_cons rfl (zSub_cons rfl zSub_nil)))))) ?_
              refine z_iinc X dX4_stuckDeals_84 rfl (by decide) ?_
              refine z_sub [(0, .ref (ad 5)), (1, vI a), (2, vI i), (3, vI 0), (4, vI 1), (5, vI (j + 1))] (zSub_cons rfl (zSub_cons rfl (zSub_cons rfl (zSub_cons rfl (zSub_cons rfl (zSub_cons rfl zSub_nil)))))) ?_
              refine z_goto X 22 dX4_stuckDeals_87 (by decide) ?_
              refine z_sub [(0, .ref (ad 5)), (1, vI a), (2, vI i), (3, vI 0), (4, vI 1), (5, vI (j + 1))] (zSub_cons rfl (zSub_cons rfl (zSub_cons rfl (zSub_cons rfl (zSub_cons rfl (zSub_cons rfl zSub_nil)))))) ?_
              exact ihb (by omega) (0, 1) ⟨by rw [zAny_succ j0]; grind, by rw [zAny_succ j0]; grind⟩
            · refine z_aload_n X dX4_stuckDeals_66 rfl ?_
              refine z_iload_n X dX4_stuckDeals_67 rfl ?_
              refine z_iload X dX4_stuckDeals_68 rfl ?_
              refine z_callVI2 X (c_X4_helperOf hJ σ (by first | assumption | (unfold zB at *; omega)) (by first | assumption | (unfold zB at *; omega)) ok (by first | omega | assumption) (by omega)) kX4_134 rfl (by decide) rfl ⟨(Nat.le_of_ble_eq_true rfl), (Nat.le_of_ble_eq_true rfl)⟩ (Nat.le_of_ble_eq_true rfl) ⟨Nat.zero_le _, Nat.zero_le _⟩ dX4_stuckDeals_70 (fun z9 σ1 hz9 => ?_)
              obtain ⟨rfl, rfl⟩ := hz9
              refine z_iconst X dX4_stuckDeals_73 ?_
              refine z_icmp_eq X 81 dX4_stuckDeals_74 (by decide) (zB_sm (rg_help _ _ _)) ⟨by decide, by decide⟩ (fun c_18 => ?_) (fun c_18 => ?_)
              · refine z_iconst X dX4_stuckDeals_81 ?_
                refine z_istore X dX4_stuckDeals_82 (by decide) ?_
                refine z_sub [(0, .ref (ad 5)), (1, vI a), (2, vI i), (3, vI 0), (4, vI 0), (5, vI j)] (zSub_cons rfl (zSub_cons rfl (zSub_cons rfl (zSub_cons rfl (zSub_cons rfl (zSub_cons rfl zSub_nil)))))) ?_
                refine z_iinc X dX4_stuckDeals_84 rfl (by decide) ?_
                refine z_sub [(0, .ref (ad 5)), (1, vI a), (2, vI i), (3, vI 0), (4, vI 0), (5, vI (j + 1))] (zSub_cons rfl (zSub_cons rfl (zSub_cons rfl (zSub_cons rfl (zSub_cons rfl (zSub_cons rfl zSub_nil)))))) ?_
                refine z_goto X 22 dX4_stuckDeals_87 (by decide) ?_
                refine z_sub [(0, .ref (ad 5)), (1, vI a), (2, vI i), (3, vI 0), (4, vI 0), (5, vI (j + 1))] (zSub_cons rfl (zSub_cons rfl (zSub_cons rfl (zSub_cons rfl (zSub_cons rfl (zSub_cons rfl zSub_nil)))))) ?_
                exact ihb (by omega) (0, 0) ⟨by rw [zAny_succ j0]; grind, by rw [zAny_succ j0]; grind⟩
              · refine z_iconst X dX4_stuckDeals_77 ?_
                refine z_goto X 82 dX4_stuckDeals_78 (by decide) ?_
                refine z_istore X dX4_stuckDeals_82 (by decide) ?_
                refine z_sub [(0, .ref (ad 5)), (1, vI a), (2, vI i), (3, vI 0), (4, vI 1), (5, vI j)] (zSub_cons rfl (zSub_cons rfl (zSub_cons rfl (zSub_cons rfl (zSub_cons rfl (zSub_cons rfl zSub_nil)))))) ?_
                refine z_iinc X dX4_stuckDeals_84 rfl (by decide) ?_
                refine z_sub [(0, .ref (ad 5)), (1, vI a), (2, vI i), (3, vI 0), (4, vI 1), (5, vI (j + 1))] (zSub_cons rfl (zSub_cons rfl (zSub_cons rfl (zSub_cons rfl (zSub_cons rfl (zSub_cons rfl zSub_nil)))))) ?_
                refine z_goto X 22 dX4_stuckDeals_87 (by decide) ?_
                refine z_sub [(0, .ref (ad 5)), (1, vI a), (2, vI i), (3, vI 0), (4, vI 1), (5, vI (j + 1))] (zSub_cons rfl (zSub_cons rfl (zSub_cons rfl (zSub_cons rfl (zSub_cons rfl (zSub_cons rfl zSub_nil)))))) ?_
                exact ihb (by omega) (0, 1) ⟨by rw [zAny_succ j0]; grind, by rw [zAny_succ j0]; grind⟩
          · refine z_iconst X dX4_stuckDeals_55 ?_
            refine z_goto X 60 dX4_stuckDeals_56 (by decide) ?_
            refine z_istore_n X dX4_stuckDeals_60 (by decide) ?_
            refine z_sub [(0, .ref (ad 5)), (1, vI a), (2, vI i), (3, vI 1), (4, vI q.2), (5, vI j)] (zSub_cons rfl (zSub_cons rfl (zSub_cons rfl (zSub_cons rfl (zSub_cons rfl (zSub_cons rfl zSub_nil)))))) ?_
            refine z_iload X dX4_stuckDeals_61 rfl ?_
            refine z_if_ne X 77 dX4_stuckDeals_63 (by decide) (by rw [hvb.2]; exact zB_ite) (fun c_19 => ?_) (fun c_19 => ?_)
            · refine z_iconst X dX4_stuckDeals_77 ?_
              refine z_goto X 82 dX4_stuckDeals_78 (by decide) ?_
              refine z_istore X dX4_stuckDeals_82 (by decide) ?_
              refine z_sub [(0, .ref (ad 5)), (1, vI a), (2, vI i), (3, vI 1), (4, vI 1), (5, vI j)] (zSub_cons rfl (zSub_cons rfl (zSub_cons rfl (zSub_cons rfl (zSub_cons rfl (zSub_cons rfl zSub_nil)))))) ?_
              refine z_iinc X dX4_stuckDeals_84 rfl (by decide) ?_
              refine z_sub [(0, .ref (ad 5)), (1, vI a), (2, vI i), (3, vI 1), (4, vI 1), (5, vI (j + 1))] (zSub_cons rfl (zSub_cons rfl (zSub_cons rfl (zSub_cons rfl (zSub_cons rfl (zSub_cons rfl zSub_nil)))))) ?_
              refine z_goto X 22 dX4_stuckDeals_87 (by decide) ?_
              refine z_sub [(0, .ref (ad 5)), (1, vI a), (2, vI i), (3, vI 1), (4, vI 1), (5, vI (j + 1))] (zSub_cons rfl (zSub_cons rfl (zSub_cons rfl (zSub_cons rfl (zSub_cons rfl (zSub_cons rfl zSub_nil)))))) ?_
              exact ihb (by omega) (1, 1) ⟨by rw [zAny_succ j0]; grind, by rw [zAny_succ j0]; grind⟩
            · refine z_aload_n X dX4_stuckDeals_66 rfl ?_
              refine z_iload_n X dX4_stuckDeals_67 rfl ?_
              refine z_iload X dX4_stuckDeals_68 rfl ?_
              refine z_callVI2 X (c_X4_helperOf hJ σ (by first | assumption | (unfold zB at *; omega)) (by first | assumption | (unfold zB at *; omega)) ok (by first | omega | assumption) (by omega)) kX4_134 rfl (by decide) rfl ⟨(Nat.le_of_ble_eq_true rfl), (Nat.le_of_ble_eq_true rfl)⟩ (Nat.le_of_ble_eq_true rfl) ⟨Nat.zero_le _, Nat.zero_le _⟩ dX4_stuckDeals_70 (fun z9 σ1 hz9 => ?_)
              obtain ⟨rfl, rfl⟩ := hz9
              refine z_iconst X dX4_stuckDeals_73 ?_
              refine z_icmp_eq X 81 dX4_stuckDeals_74 (by decide) (zB_sm (rg_help _ _ _)) ⟨by decide, by decide⟩ (fun c_21 => ?_) (fun c_21 => ?_)
              · refine z_iconst X dX4_stuckDeals_81 ?_
                refine z_istore X dX4_stuckDeals_82 (by decide) ?_
                refine z_sub [(0, .ref (ad 5)), (1, vI a), (2, vI i), (3, vI 1), (4, vI 0), (5, vI j)] (zSub_cons rfl (zSub_cons rfl (zSub_cons rfl (zSub_cons rfl (zSub_cons rfl (zSub_cons rfl zSub_nil)))))) ?_
                refine z_iinc X dX4_stuckDeals_84 rfl (by decide) ?_
                refine z_sub [(0, .ref (ad 5)), (1, vI a), (2, vI i), (3, vI 1), (4, vI 0), (5, vI (j + 1))] (zSub_cons rfl (zSub_cons rfl (zSub_cons rfl (zSub_cons rfl (zSub_cons rfl (zSub_cons rfl zSub_nil)))))) ?_
                refine z_goto X 22 dX4_stuckDeals_87 (by decide) ?_
                refine z_sub [(0, .ref (ad 5)), (1, vI a), (2, vI i), (3, vI 1), (4, vI 0), (5, vI (j + 1))] (zSub_cons rfl (zSub_cons rfl (zSub_cons rfl (zSub_cons rfl (zSub_cons rfl (zSub_cons rfl zSub_nil)))))) ?_
                exact ihb (by omega) (1, 0) ⟨by rw [zAny_succ j0]; grind, by rw [zAny_succ j0]; grind⟩
              · refine z_iconst X dX4_stuckDeals_77 ?_
                refine z_goto X 82 dX4_stuckDeals_78 (by decide) ?_
                refine z_istore X dX4_stuckDeals_82 (by decide) ?_
                refine z_sub [(0, .ref (ad 5)), (1, vI a), (2, vI i), (3, vI 1), (4, vI 1), (5, vI j)] (zSub_cons rfl (zSub_cons rfl (zSub_cons rfl (zSub_cons rfl (zSub_cons rfl (zSub_cons rfl zSub_nil)))))) ?_
                refine z_iinc X dX4_stuckDeals_84 rfl (by decide) ?_
                refine z_sub [(0, .ref (ad 5)), (1, vI a), (2, vI i), (3, vI 1), (4, vI 1), (5, vI (j + 1))] (zSub_cons rfl (zSub_cons rfl (zSub_cons rfl (zSub_cons rfl (zSub_cons rfl (zSub_cons rfl zSub_nil)))))) ?_
                refine z_goto X 22 dX4_stuckDeals_87 (by decide) ?_
                refine z_sub [(0, .ref (ad 5)), (1, vI a), (2, vI i), (3, vI 1), (4, vI 1), (5, vI (j + 1))] (zSub_cons rfl (zSub_cons rfl (zSub_cons rfl (zSub_cons rfl (zSub_cons rfl (zSub_cons rfl zSub_nil)))))) ?_
                exact ihb (by omega) (1, 1) ⟨by rw [zAny_succ j0]; grind, by rw [zAny_succ j0]; grind⟩

set_option maxHeartbeats 4000000 in
set_option maxRecDepth 100000 in
theorem c_X4_inDoubt {l : Launch} {D : va_G} {G : zG} {ad : Nat → Nat} (hJ : zInj ad) (σ : zM) {N : Nat → Nat → Int}  {s : Int} (hs : zB s) (ok : rOk (mV N 0)) (hs6 : 0 ≤ s ∧ s < 6) : zKI l D G ad yX4_inDoubt cX4_inDoubt 4 (some .int) 3 [.ref (ad 5), vI s] (zBk σ 5 3 N) (fun z σ9 => z = cDoubts (mV N 0) s ∧ σ9 = (zBk σ 5 3 N)) := by
  intro sz
  refine z_open hJ (by decide +kernel) (Nat.le_of_ble_eq_true rfl) ?_
  intro p e s0 m args below meth c hsz X hr hlocks
  have hn := rk_n ok
  refine z_sub [(0, .ref (ad 5)), (1, vI s)] (zSub_cons rfl (zSub_cons rfl zSub_nil)) ?_
  refine z_iconst X dX4_inDoubt_0 ?_
  refine z_istore_n X dX4_inDoubt_1 (by decide) ?_
  refine z_sub [(0, .ref (ad 5)), (1, vI s), (2, vI 0)] (zSub_cons rfl (zSub_cons rfl (zSub_cons rfl zSub_nil))) ?_
  refine z_iconst X dX4_inDoubt_2 ?_
  refine z_istore_n X dX4_inDoubt_3 (by decide) ?_
  refine z_sub [(0, .ref (ad 5)), (1, vI s), (2, vI 0), (3, vI 0)] (zSub_cons rfl (zSub_cons rfl (zSub_cons rfl (zSub_cons rfl zSub_nil)))) ?_
  refine z_sub [(0, .ref (ad 5)), (1, vI s), (2, vI 0), (3, vI 0)] (zSub_cons rfl (zSub_cons rfl (zSub_cons rfl (zSub_cons rfl zSub_nil)))) ?_
  refine zFor (S := Int) (mV N 0 0 0) (fun i a => a = zSum (fun d => if cSt (mV N 0) d s = 1 then 1 else 0) i.toNat) (fun i a => zV p l e (zRm 3) s0 m args below meth c 4 D G ad 0 0 (zE below (zQI D G ad sz (fun z σ9 => z = cDoubts (mV N 0) s ∧ σ9 = (zBk σ 5 3 N))) args s0 ad) 4 [(0, .ref (ad 5)), (1, vI s), (2, vI a), (3, vI i)] [] (zBk σ 5 3 N)) (fun i a i0 i1 hv ih => ?_) 0 (by omega) rfl
  refine z_iload_n X dX4_inDoubt_4 rfl ?_
  refine z_aload_n X dX4_inDoubt_5 rfl ?_
  refine y_gMod1 X fX4_7 dX4_inDoubt_6 ?_
  refine z_iconst X dX4_inDoubt_9 ?_
  refine y_iald X 1 (zArr_6) (by decide) (by omega) (by omega) (by decide) dX4_inDoubt_10 ?_
  rw [fl_n0 (N := N)]
  refine z_icmp_ge X 39 dX4_inDoubt_11 (by decide) (by first | assumption | (unfold zB at *; omega)) (zB_sm (rk_n ok)) (fun c_1 => ?_) (fun c_1 => ?_)
  · refine z_iload_n X dX4_inDoubt_39 rfl ?_
    exact z_iret X hsz hr hlocks dX4_inDoubt_40 ⟨(by rw [hv, show i = mV N 0 0 0 by omega]; rfl), rfl⟩
  · refine z_iload_n X dX4_inDoubt_14 rfl ?_
    refine z_aload_n X dX4_inDoubt_15 rfl ?_
    refine z_iconst X dX4_inDoubt_16 ?_
    refine z_iload_n X dX4_inDoubt_17 rfl ?_
    refine z_iload_n X dX4_inDoubt_18 rfl ?_
    refine z_callVI3 X (c_X4_stateOf hJ σ ⟨by decide, by decide⟩ (by first | assumption | (unfold zB at *; omega)) hs (by omega) ok (by first | omega | assumption) (by omega)) kX4_35 rfl (by decide) rfl ⟨(Nat.le_of_ble_eq_true rfl), (Nat.le_of_ble_eq_true rfl)⟩ (Nat.le_of_ble_eq_true rfl) ⟨Nat.zero_le _, Nat.zero_le _⟩ dX4_inDoubt_19 (fun z9 σ1 hz9 => ?_)
    obtain ⟨rfl, rfl⟩ := hz9
    refine z_iconst X dX4_inDoubt_22 ?_
    refine z_icmp_ne X 30 dX4_inDoubt_23 (by decide) (zB_sm (qg_st ok _ _)) ⟨by decide, by decide⟩ (fun c_3 => ?_) (fun c_3 => ?_)
    · refine z_iconst X dX4_inDoubt_30 ?_
      refine z_iadd X dX4_inDoubt_31 ?_
      refine z_istore_n X dX4_inDoubt_32 (by decide) ?_
      refine z_sub [(0, .ref (ad 5)), (1, vI s), (2, vI (a + 0)), (3, vI i)] (zSub_cons rfl (zSub_cons rfl (zSub_cons rfl (zSub_cons rfl zSub_nil)))) ?_
      refine z_iinc X dX4_inDoubt_33 rfl (by decide) ?_
      refine z_sub [(0, .ref (ad 5)), (1, vI s), (2, vI (a + 0)), (3, vI (i + 1))] (zSub_cons rfl (zSub_cons rfl (zSub_cons rfl (zSub_cons rfl zSub_nil)))) ?_
      refine z_goto X 4 dX4_inDoubt_36 (by decide) ?_
      refine z_sub [(0, .ref (ad 5)), (1, vI s), (2, vI (a + 0)), (3, vI (i + 1))] (zSub_cons rfl (zSub_cons rfl (zSub_cons rfl (zSub_cons rfl zSub_nil)))) ?_
      exact ih (by omega) (a + 0) (by rw [zSum_step i0, ← hv]; grind)
    · refine z_iconst X dX4_inDoubt_26 ?_
      refine z_goto X 31 dX4_inDoubt_27 (by decide) ?_
      refine z_iadd X dX4_inDoubt_31 ?_
      refine z_istore_n X dX4_inDoubt_32 (by decide) ?_
      refine z_sub [(0, .ref (ad 5)), (1, vI s), (2, vI (a + 1)), (3, vI i)] (zSub_cons rfl (zSub_cons rfl (zSub_cons rfl (zSub_cons rfl zSub_nil)))) ?_
      refine z_iinc X dX4_inDoubt_33 rfl (by decide) ?_
      refine z_sub [(0, .ref (ad 5)), (1, vI s), (2, vI (a + 1)), (3, vI (i + 1))] (zSub_cons rfl (zSub_cons rfl (zSub_cons rfl (zSub_cons rfl zSub_nil)))) ?_
      refine z_goto X 4 dX4_inDoubt_36 (by decide) ?_
      refine z_sub [(0, .ref (ad 5)), (1, vI s), (2, vI (a + 1)), (3, vI (i + 1))] (zSub_cons rfl (zSub_cons rfl (zSub_cons rfl (zSub_cons rfl zSub_nil)))) ?_
      exact ih (by omega) (a + 1) (by rw [zSum_step i0, ← hv]; grind)

set_option maxHeartbeats 4000000 in
set_option maxRecDepth 100000 in
theorem c_X4_ended {l : Launch} {D : va_G} {G : zG} {ad : Nat → Nat} (hJ : zInj ad) (σ : zM) {N : Nat → Nat → Int}  {b : Int} (hb : zB b) (hb0 : 0 ≤ b ∧ b ≤ 1974) (ok : rOk (mV N b)) : zKI l D G ad yX4_ended cX4_ended 4 (some .int) 3 [.ref (ad 5), vI b] (zBk σ 5 3 N) (fun z σ9 => z = mEnded (mV N b) ∧ σ9 = (zBk σ 5 3 N)) := by
  intro sz
  refine z_open hJ (by decide +kernel) (Nat.le_of_ble_eq_true rfl) ?_
  intro p e s0 m args below meth c hsz X hr hlocks
  have hn := rk_n ok
  refine z_sub [(0, .ref (ad 5)), (1, vI b)] (zSub_cons rfl (zSub_cons rfl zSub_nil)) ?_
  refine z_iconst X dX4_ended_0 ?_
  refine z_istore_n X dX4_ended_1 (by decide) ?_
  refine z_sub [(0, .ref (ad 5)), (1, vI b), (2, vI 0)] (zSub_cons rfl (zSub_cons rfl (zSub_cons rfl zSub_nil))) ?_
  refine z_iconst X dX4_ended_2 ?_
  refine z_istore_n X dX4_ended_3 (by decide) ?_
  refine z_sub [(0, .ref (ad 5)), (1, vI b), (2, vI 0), (3, vI 0)] (zSub_cons rfl (zSub_cons rfl (zSub_cons rfl (zSub_cons rfl zSub_nil)))) ?_
  refine z_sub [(0, .ref (ad 5)), (1, vI b), (2, vI 0), (3, vI 0)] (zSub_cons rfl (zSub_cons rfl (zSub_cons rfl (zSub_cons rfl zSub_nil)))) ?_
  refine zFor (S := Int) (6 * mV N b 0 0) (fun i a => a = zSum (fun k => if 2 ≤ cSt (mV N b) (k / 6) (k % 6) then 1 else 0) i.toNat) (fun i a => zV p l e (zRm 3) s0 m args below meth c 4 D G ad 0 0 (zE below (zQI D G ad sz (fun z σ9 => z = mEnded (mV N b) ∧ σ9 = (zBk σ 5 3 N))) args s0 ad) 4 [(0, .ref (ad 5)), (1, vI b), (2, vI a), (3, vI i)] [] (zBk σ 5 3 N)) (fun i a i0 i1 hv ih => ?_) 0 (by omega) rfl
  refine z_iload_n X dX4_ended_4 rfl ?_
  refine z_bipush X dX4_ended_5 rfl ?_
  refine z_aload_n X dX4_ended_7 rfl ?_
  refine y_gMod1 X fX4_7 dX4_ended_8 ?_
  refine z_iload_n X dX4_ended_11 rfl ?_
  refine z_iconst X dX4_ended_12 ?_
  refine z_iadd X dX4_ended_13 ?_
  refine y_iald X 1 (zArr_6) (by decide) (by omega) (by omega) (by decide) dX4_ended_14 ?_
  rw [fl_n (N := N) (b := b) (by omega)]
  refine z_imul X dX4_ended_15 ?_
  refine z_icmp_ge X 50 dX4_ended_16 (by decide) (by first | assumption | (unfold zB at *; omega)) (by first | assumption | (unfold zB at *; omega)) (fun c_1 => ?_) (fun c_1 => ?_)
  · refine z_iload_n X dX4_ended_50 rfl ?_
    exact z_iret X hsz hr hlocks dX4_ended_51 ⟨(by rw [hv, show i = 6 * mV N b 0 0 by omega]; rfl), rfl⟩
  · refine z_iload_n X dX4_ended_19 rfl ?_
    refine z_aload_n X dX4_ended_20 rfl ?_
    refine z_iload_n X dX4_ended_21 rfl ?_
    refine z_iload_n X dX4_ended_22 rfl ?_
    refine z_bipush X dX4_ended_23 rfl ?_
    refine z_idiv6 X (by omega) (by omega) dX4_ended_25 ?_
    refine z_iload_n X dX4_ended_26 rfl ?_
    refine z_bipush X dX4_ended_27 rfl ?_
    refine z_irem6 X (by omega) (by omega) dX4_ended_29 ?_
    refine z_callVI3 X (c_X4_stateOf hJ σ hb (by unfold zB; omega) (by unfold zB; omega) (by omega) ok (by first | omega | assumption) (by omega)) kX4_35 rfl (by decide) rfl ⟨(Nat.le_of_ble_eq_true rfl), (Nat.le_of_ble_eq_true rfl)⟩ (Nat.le_of_ble_eq_true rfl) ⟨Nat.zero_le _, Nat.zero_le _⟩ dX4_ended_30 (fun z9 σ1 hz9 => ?_)
    obtain ⟨rfl, rfl⟩ := hz9
    refine z_iconst X dX4_ended_33 ?_
    refine z_icmp_lt X 41 dX4_ended_34 (by decide) (zB_sm (qg_st ok _ _)) ⟨by decide, by decide⟩ (fun c_3 => ?_) (fun c_3 => ?_)
    · refine z_iconst X dX4_ended_41 ?_
      refine z_iadd X dX4_ended_42 ?_
      refine z_istore_n X dX4_ended_43 (by decide) ?_
      refine z_sub [(0, .ref (ad 5)), (1, vI b), (2, vI (a + 0)), (3, vI i)] (zSub_cons rfl (zSub_cons rfl (zSub_cons rfl (zSub_cons rfl zSub_nil)))) ?_
      refine z_iinc X dX4_ended_44 rfl (by decide) ?_
      refine z_sub [(0, .ref (ad 5)), (1, vI b), (2, vI (a + 0)), (3, vI (i + 1))] (zSub_cons rfl (zSub_cons rfl (zSub_cons rfl (zSub_cons rfl zSub_nil)))) ?_
      refine z_goto X 4 dX4_ended_47 (by decide) ?_
      refine z_sub [(0, .ref (ad 5)), (1, vI b), (2, vI (a + 0)), (3, vI (i + 1))] (zSub_cons rfl (zSub_cons rfl (zSub_cons rfl (zSub_cons rfl zSub_nil)))) ?_
      exact ih (by omega) (a + 0) (by rw [zSum_step i0, ← hv]; grind)
    · refine z_iconst X dX4_ended_37 ?_
      refine z_goto X 42 dX4_ended_38 (by decide) ?_
      refine z_iadd X dX4_ended_42 ?_
      refine z_istore_n X dX4_ended_43 (by decide) ?_
      refine z_sub [(0, .ref (ad 5)), (1, vI b), (2, vI (a + 1)), (3, vI i)] (zSub_cons rfl (zSub_cons rfl (zSub_cons rfl (zSub_cons rfl zSub_nil)))) ?_
      refine z_iinc X dX4_ended_44 rfl (by decide) ?_
      refine z_sub [(0, .ref (ad 5)), (1, vI b), (2, vI (a + 1)), (3, vI (i + 1))] (zSub_cons rfl (zSub_cons rfl (zSub_cons rfl (zSub_cons rfl zSub_nil)))) ?_
      refine z_goto X 4 dX4_ended_47 (by decide) ?_
      refine z_sub [(0, .ref (ad 5)), (1, vI b), (2, vI (a + 1)), (3, vI (i + 1))] (zSub_cons rfl (zSub_cons rfl (zSub_cons rfl (zSub_cons rfl zSub_nil)))) ?_
      exact ih (by omega) (a + 1) (by rw [zSum_step i0, ← hv]; grind)

set_option maxHeartbeats 4000000 in
set_option maxRecDepth 100000 in
theorem c_X4_bits {l : Launch} {D : va_G} {G : zG} {ad : Nat → Nat} (hJ : zInj ad) (σ : zM) {x : Int} (hx : zB x)  : zKI l D G ad yX4_bits cX4_bits 3 (some .int) 0 [vI x] σ (fun z σ9 => z = mBits x 6 ∧ σ9 = σ) := by
  intro sz
  refine z_open hJ (by decide +kernel) (Nat.le_of_ble_eq_true rfl) ?_
  intro p e s0 m args below meth c hsz X hr hlocks
  refine z_sub [(0, vI x)] (zSub_cons rfl zSub_nil) ?_
  refine z_iconst X dX4_bits_0 ?_
  refine z_istore_n X dX4_bits_1 (by decide) ?_
  refine z_sub [(0, vI x), (1, vI 0)] (zSub_cons rfl (zSub_cons rfl zSub_nil)) ?_
  refine z_iconst X dX4_bits_2 ?_
  refine z_istore_n X dX4_bits_3 (by decide) ?_
  refine z_sub [(0, vI x), (1, vI 0), (2, vI 0)] (zSub_cons rfl (zSub_cons rfl (zSub_cons rfl zSub_nil))) ?_
  refine z_sub [(0, vI x), (1, vI 0), (2, vI 0)] (zSub_cons rfl (zSub_cons rfl (zSub_cons rfl zSub_nil))) ?_
  refine zFor (S := Int) 6 (fun i a => a = mBits x i.toNat) (fun i a => zV p l e (zRm 0) s0 m args below meth c 3 D G ad 0 0 (zE below (zQI D G ad sz (fun z σ9 => z = mBits x 6 ∧ σ9 = σ)) args s0 ad) 4 [(0, vI x), (1, vI a), (2, vI i)] [] σ) (fun i a i0 i1 hv ih => ?_) 0 (by omega) rfl
  refine z_iload_n X dX4_bits_4 rfl ?_
  refine z_bipush X dX4_bits_5 rfl ?_
  refine z_icmp_ge X 24 dX4_bits_7 (by decide) (by first | assumption | (unfold zB at *; omega)) ⟨by decide, by decide⟩ (fun c_1 => ?_) (fun c_1 => ?_)
  · refine z_iload_n X dX4_bits_24 rfl ?_
    exact z_iret X hsz hr hlocks dX4_bits_25 ⟨(by rw [hv, show i = 6 by omega]; rfl), rfl⟩
  · refine z_iload_n X dX4_bits_10 rfl ?_
    refine z_iload_n X dX4_bits_11 rfl ?_
    refine z_iload_n X dX4_bits_12 rfl ?_
    refine z_shr X dX4_bits_13 (zShr_eq x i) ?_
    refine z_iconst X dX4_bits_14 ?_
    refine z_and X dX4_bits_15 (zAnd_eq (zShr x i) 1) ?_
    refine z_iadd X dX4_bits_16 ?_
    refine z_istore_n X dX4_bits_17 (by decide) ?_
    refine z_sub [(0, vI x), (1, vI (a + (zAnd (zShr x i) 1))), (2, vI i)] (zSub_cons rfl (zSub_cons rfl (zSub_cons rfl zSub_nil))) ?_
    refine z_iinc X dX4_bits_18 rfl (by decide) ?_
    refine z_sub [(0, vI x), (1, vI (a + (zAnd (zShr x i) 1))), (2, vI (i + 1))] (zSub_cons rfl (zSub_cons rfl (zSub_cons rfl zSub_nil))) ?_
    refine z_goto X 4 dX4_bits_21 (by decide) ?_
    refine z_sub [(0, vI x), (1, vI (a + (zAnd (zShr x i) 1))), (2, vI (i + 1))] (zSub_cons rfl (zSub_cons rfl (zSub_cons rfl zSub_nil))) ?_
    exact ih (by omega) (a + (zAnd (zShr x i) 1)) (by rw [mBits_step i0, ← hv])
