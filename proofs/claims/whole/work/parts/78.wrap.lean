/-! THE LAW'S WRAPPERS: static methods with a table of their own -/
/-- what a wrapper leaves: x the place of the exception, 0 for none; else the answer in the law's out -/
def wPo (σ σ1 : zM) (x ans : Int) : Int → zM → Prop := fun z σ9 => z = x ∧ (x = 0 → σ9 = zSL σ1 72 0 (iI ans).toInt64) ∧ (x ≠ 0 → σ9 = σ)
section ZWR
variable {p : Program} {l : Launch} {e : Env} {R : Room} {s : State} {m : MethodId} {args : Array Value} {below : List Frame} {meth : Method} {c : Code} {cc : ByteArray} {nL : Nat} {own : String} {D : va_G} {G : zG} {ad : Nat → Nat} {cells slots : Nat} {Q : State → Prop}
variable {pc : Nat} {lv : List (Nat × Value)} {st : List Value} {σ : zM}
theorem zw_open {y : MethodName} {bytes : ByteArray} {maxL : Nat} {ret : Option FieldType} {hh : List (Nat × Nat × Nat × Nat)} {d k : Nat} {av : List Value} {sz : Nat} {Qc : Array Value → State → Outcome → State → Prop} (hi : zInj ad) (hy : plainName y.cls = true) (hav : (lg_sl av).length ≤ maxL)
    (body : ∀ (p : Program) (e : Env) (s : State) (m : MethodId) (args : Array Value) (below : List Frame) (meth : Method) (c : Code), s.heap.size = sz → zX p s m args c bytes maxL y.cls D G ad → zXf ad s.heap.size s s.heap → c.exceptionTable.toList = tableOf hh → meth.sig.returnType = ret → meth.locks = false → zV p l e (zRx d k) s m args below meth c maxL D G ad 0 0 (zWE below Qc args s ad k) 0 (lv_args 0 av) [] σ) :
    Met l y (.codeWith y bytes maxL ret hh :: zU) (zRx d k) (zPx D G ad av σ sz) Qc k (6 * k) (zA ad sz) := by
  refine va_MetW (cc := bytes) (maxL := maxL) (ret := ret) hy rfl ?_
  intro p e s m args below meth c s₁ B hml hv
  obtain ⟨rfl, hsz, hP, hK, hN, hF⟩ := hv
  have hts := atoms_spec (ws := Cond.codeWith y bytes maxL ret hh :: zU) B.pre
  have htb := vx_table (x := y) B (hts _ List.mem_cons_self)
  have hl := lv_entry av (n := maxL) hav
  rw [lg_entry_eq]
  subst hsz
  have h := body p e s m _ below meth c rfl ⟨B.exec, B.bytes, hml, findClass_of_methodNamed B.named, fun w hw => hts w (List.mem_cons_of_mem _ hw), hK, hi, hN⟩ hF htb B.returns B.notSynchronized
  exact h _ s.heap [] hl hP va_S.rf
theorem zw_iret (X : zX p s m args c cc nL own D G ad) {k : Nat} {z : Int} {Post : Int → zM → Prop} (hr : meth.sig.returnType = some .int) (hlocks : meth.locks = false) (d : decode cc pc = .ok (.ireturn, 1)) (hq : Post z σ) (hc : cells ≤ k) (hs : slots ≤ 6 * k) : zV p l e R s m args below meth c nL D G ad cells slots (zWE below (zQI D G ad s.heap.size Post) args s ad k) pc lv [vI z] σ :=
  fun ls H locs h hP hS => W.widen hc hs (W.iret X.1 X.2.1 hr (fun t ht hW => ⟨⟨iI z, σ, rfl, ⟨z, rfl, hq⟩, (ht.symm ▸ hP : va_P D vwCl (zW ad G σ) t.heap)⟩, hS.F ht⟩) hS.2.2 d hlocks)
theorem z_astore (X : zX p s m args c cc nL own D G ad) {i : Nat} {x : Nat} (d : decode cc pc = .ok (.astore i, 2)) (hn : i < nL)
    (k : zV p l e R s m args below meth c nL D G ad cells slots Q (pc + 2) (zF1 i (.ref x) lv) st σ) : zV p l e R s m args below meth c nL D G ad cells slots Q pc lv (.ref x :: st) σ :=
  fun ls H locs h hP hS => lv_astore X.1 X.2.1 d h hn rfl (fun ls' h' => k ls' H locs h' hP hS)
theorem z_lastore (X : zX p s m args c cc nL own D G ad) {x : Int64} (d : decode cc pc = .ok (.lastore, 1))
    (kk : zV p l e R s m args below meth c nL D G ad cells slots Q (pc + 1) lv st (zSL σ 72 0 x)) : zV p l e R s m args below meth c nL D G ad cells slots Q pc lv (.long x :: vI 0 :: .ref (ad 72) :: st) σ :=
  fun ls H locs h hP hS => va_last (D := D) X.1 X.2.1 X.2.2.2.2.2.1 hP (zD_here X.2.2.2.2.2.2.1) hS 72 2 (by rw [zW_get (by decide)]; rfl) rfl (iI_in (n := 1) (by decide) (by decide) (by decide)) d (fun H1 locs1 hP1 _ hS1 => kk ls H1 locs1 h (by
    rw [zW_set (σ' := zSL σ 72 0 x) (by decide) (by
      rw [zSL_row]
      refine congrArg (fun f => Sum.inl (G.2.2, 1, Sum.inr (Sum.inl f))) (funext fun j => ?_)
      rfl) (fun i hi => zSL_ne σ hi)] at hP1
    exact hP1) hS1)
theorem z_laload (X : zX p s m args c cc nL own D G ad) (d : decode cc pc = .ok (.laload, 1))
    (kk : zV p l e R s m args below meth c nL D G ad cells slots Q (pc + 1) lv (.long (σ.2 72 0) :: st) σ) : zV p l e R s m args below meth c nL D G ad cells slots Q pc lv (vI 0 :: .ref (ad 72) :: st) σ :=
  fun ls H locs h hP hS => va_lald (D := D) X.1 X.2.1 X.2.2.2.2.2.1 hP 72 2 (by rw [zW_get (by decide)]; rfl) rfl (iI_in (n := 1) (by decide) (by decide) (by decide)) d (kk ls H locs h hP hS)
end ZWR
theorem zcl_13 : Cond.classLink RL 13 zE1 ∈ zU := zU_mem 334 (by decide +kernel) (by decide +kernel)
theorem zcl_15 : Cond.classLink RL 15 zE2 ∈ zU := zU_mem 335 (by decide +kernel) (by decide +kernel)
theorem zcl_17 : Cond.classLink RL 17 zE3 ∈ zU := zU_mem 336 (by decide +kernel) (by decide +kernel)
theorem kL_7 : zLkV RL 7 RX3 yX3_begin cX3_begin 4 (some .int) 3 := zLkV_of (zU_mem 337 (by decide +kernel) (by decide +kernel)) u_iX3_begin u_vX3_begin u_iniX3 u_cX3_begin u_dX3_begin
theorem kL_19 : zLkV RL 19 RX3 yX3_vote cX3_vote 4 (some .int) 3 := zLkV_of (zU_mem 485 (by decide +kernel) (by decide +kernel)) u_iX3_vote u_vX3_vote u_iniX3 u_cX3_vote u_dX3_vote
theorem kL_23 : zLkV RL 23 RX3 yX3_decide cX3_decide 2 (some .int) 1 := zLkV_of (zU_mem 524 (by decide +kernel) (by decide +kernel)) u_iX3_decide u_vX3_decide u_iniX3 u_cX3_decide u_dX3_decide
theorem kL_27 : zLkV RL 27 RX3 yX3_tell cX3_tell 3 (some .int) 2 := zLkV_of (zU_mem 549 (by decide +kernel) (by decide +kernel)) u_iX3_tell u_vX3_tell u_iniX3 u_cX3_tell u_dX3_tell
theorem kL_31 : zLkV RL 31 RX3 yX3_ask cX3_ask 4 (some .int) 3 := zLkV_of (zU_mem 566 (by decide +kernel) (by decide +kernel)) u_iX3_ask u_vX3_ask u_iniX3 u_cX3_ask u_dX3_ask
theorem kL_34 : zLkV RL 34 RX3 yX3_fallSilent cX3_fallSilent 2 (some .int) 1 := zLkV_of (zU_mem 580 (by decide +kernel) (by decide +kernel)) u_iX3_fallSilent u_vX3_fallSilent u_iniX3 u_cX3_fallSilent u_dX3_fallSilent
theorem kL_37 : zLkV RL 37 RX3 yX3_comeBack cX3_comeBack 2 (some .int) 1 := zLkV_of (zU_mem 593 (by decide +kernel) (by decide +kernel)) u_iX3_comeBack u_vX3_comeBack u_iniX3 u_cX3_comeBack u_dX3_comeBack
theorem kL_40 : zLkV RL 40 RX3 yX3_pass cX3_pass 2 (some .int) 1 := zLkV_of (zU_mem 605 (by decide +kernel) (by decide +kernel)) u_iX3_pass u_vX3_pass u_iniX3 u_cX3_pass u_dX3_pass
theorem kL_43 : zLkV RL 43 RX3 yX3_setPatience cX3_setPatience 2 (some .int) 1 := zLkV_of (zU_mem 626 (by decide +kernel) (by decide +kernel)) u_iX3_setPatience u_vX3_setPatience u_iniX3 u_cX3_setPatience u_dX3_setPatience
theorem kL_46 : zLkV RL 46 RX3 yX3_isUp cX3_isUp 2 (some .boolean) 1 := zLkV_of (zU_mem 638 (by decide +kernel) (by decide +kernel)) u_iX3_isUp u_vX3_isUp u_iniX3 u_cX3_isUp u_dX3_isUp
theorem kL_50 : zLkV RL 50 RX3 yX3_state cX3_state 3 (some .int) 2 := zLkV_of (zU_mem 645 (by decide +kernel) (by decide +kernel)) u_iX3_state u_vX3_state u_iniX3 u_cX3_state u_dX3_state
theorem kL_53 : zLkV RL 53 RX3 yX3_decision cX3_decision 2 (some .int) 1 := zLkV_of (zU_mem 653 (by decide +kernel) (by decide +kernel)) u_iX3_decision u_vX3_decision u_iniX3 u_cX3_decision u_dX3_decision
theorem kL_56 : zLkV RL 56 RX3 yX3_leader cX3_leader 2 (some .int) 1 := zLkV_of (zU_mem 661 (by decide +kernel) (by decide +kernel)) u_iX3_leader u_vX3_leader u_iniX3 u_cX3_leader u_dX3_leader
theorem kL_59 : zLkV RL 59 RX3 yX3_patience cX3_patience 3 (some .int) 2 := zLkV_of (zU_mem 669 (by decide +kernel) (by decide +kernel)) u_iX3_patience u_vX3_patience u_iniX3 u_cX3_patience u_dX3_patience
theorem kL_62 : zLkV RL 62 RX3 yX3_logLength cX3_logLength 2 (some .int) 1 := zLkV_of (zU_mem 677 (by decide +kernel) (by decide +kernel)) u_iX3_logLength u_vX3_logLength u_iniX3 u_cX3_logLength u_dX3_logLength
theorem kL_65 : zLkV RL 65 RX3 yX3_log cX3_log 3 (some .int) 2 := zLkV_of (zU_mem 685 (by decide +kernel) (by decide +kernel)) u_iX3_log u_vX3_log u_iniX3 u_cX3_log u_dX3_log
theorem kL_68 : zLkV RL 68 RX3 yX3_held cX3_held 2 (some .int) 1 := zLkV_of (zU_mem 694 (by decide +kernel) (by decide +kernel)) u_iX3_held u_vX3_held u_iniX3 u_cX3_held u_dX3_held
theorem kL_71 : zLkV RL 71 RX3 yX3_reason cX3_reason 3 (some .int) 2 := zLkV_of (zU_mem 702 (by decide +kernel) (by decide +kernel)) u_iX3_reason u_vX3_reason u_iniX3 u_cX3_reason u_dX3_reason
theorem kL_74 : zLkV RL 74 RX3 yX3_helper cX3_helper 3 (some .int) 2 := zLkV_of (zU_mem 713 (by decide +kernel) (by decide +kernel)) u_iX3_helper u_vX3_helper u_iniX3 u_cX3_helper u_dX3_helper
theorem kL_77 : zLkV RL 77 RX3 yX3_ticksToEnd cX3_ticksToEnd 4 (some .int) 2 := zLkV_of (zU_mem 721 (by decide +kernel) (by decide +kernel)) u_iX3_ticksToEnd u_vX3_ticksToEnd u_iniX3 u_cX3_ticksToEnd u_dX3_ticksToEnd
theorem kL_80 : zLkV RL 80 RX3 yX3_append cX3_append 2 (some .int) 1 := zLkV_of (zU_mem 734 (by decide +kernel) (by decide +kernel)) u_iX3_append u_vX3_append u_iniX3 u_cX3_append u_dX3_append
theorem kL_83 : zLkV RL 83 RX3 yX3_run cX3_run 5 (some .int) 0 := zLkV_of (zU_mem 752 (by decide +kernel) (by decide +kernel)) u_iX3_run u_vX3_run u_iniX3 u_cX3_run u_dX3_run
theorem kL_87 : zLkV RL 87 RX3 yX3_undo cX3_undo 1 (some .int) 0 := zLkV_of (zU_mem 786 (by decide +kernel) (by decide +kernel)) u_iX3_undo u_vX3_undo u_iniX3 u_cX3_undo u_dX3_undo
theorem kL_99 : zLkV RL 99 RX4 yX4_begin cX4_begin 7 (some .int) 3 := zLkV_of (zU_mem 839 (by decide +kernel) (by decide +kernel)) u_iX4_begin u_vX4_begin u_iniX4 u_cX4_begin u_dX4_begin
theorem kL_100 : zLkV RL 100 RX4 yX4_thrown cX4_thrown 1 (some .int) 0 := zLkV_of (zU_mem 835 (by decide +kernel) (by decide +kernel)) u_iX4_thrown u_vX4_thrown u_iniX4 u_cX4_thrown u_dX4_thrown
theorem kL_106 : zLkV RL 106 RX4 yX4_vote cX4_vote 5 (some .int) 3 := zLkV_of (zU_mem 864 (by decide +kernel) (by decide +kernel)) u_iX4_vote u_vX4_vote u_iniX4 u_cX4_vote u_dX4_vote
theorem kL_110 : zLkV RL 110 RX4 yX4_decide cX4_decide 3 (some .int) 1 := zLkV_of (zU_mem 912 (by decide +kernel) (by decide +kernel)) u_iX4_decide u_vX4_decide u_iniX4 u_cX4_decide u_dX4_decide
theorem kL_114 : zLkV RL 114 RX4 yX4_tell cX4_tell 4 (some .int) 2 := zLkV_of (zU_mem 928 (by decide +kernel) (by decide +kernel)) u_iX4_tell u_vX4_tell u_iniX4 u_cX4_tell u_dX4_tell
theorem kL_117 : zLkV RL 117 RX4 yX4_ask cX4_ask 5 (some .int) 3 := zLkV_of (zU_mem 940 (by decide +kernel) (by decide +kernel)) u_iX4_ask u_vX4_ask u_iniX4 u_cX4_ask u_dX4_ask
theorem kL_120 : zLkV RL 120 RX4 yX4_fallSilent cX4_fallSilent 3 (some .int) 1 := zLkV_of (zU_mem 956 (by decide +kernel) (by decide +kernel)) u_iX4_fallSilent u_vX4_fallSilent u_iniX4 u_cX4_fallSilent u_dX4_fallSilent
theorem kL_123 : zLkV RL 123 RX4 yX4_comeBack cX4_comeBack 3 (some .int) 1 := zLkV_of (zU_mem 964 (by decide +kernel) (by decide +kernel)) u_iX4_comeBack u_vX4_comeBack u_iniX4 u_cX4_comeBack u_dX4_comeBack
theorem kL_126 : zLkV RL 126 RX4 yX4_pass cX4_pass 2 (some .int) 1 := zLkV_of (zU_mem 972 (by decide +kernel) (by decide +kernel)) u_iX4_pass u_vX4_pass u_iniX4 u_cX4_pass u_dX4_pass
theorem kL_129 : zLkV RL 129 RX4 yX4_setPatience cX4_setPatience 3 (some .int) 1 := zLkV_of (zU_mem 992 (by decide +kernel) (by decide +kernel)) u_iX4_setPatience u_vX4_setPatience u_iniX4 u_cX4_setPatience u_dX4_setPatience
theorem kL_130 : zLkV RL 130 RX3 yX3_deals cX3_deals 1 (some .int) 0 := zLkV_of (zU_mem 162 (by decide +kernel) (by decide +kernel)) u_iX3_deals u_vX3_deals u_iniX3 u_cX3_deals u_dX3_deals
theorem kL_133 : zLkV RL 133 RX4 yX4_deals cX4_deals 1 (some .int) 0 := zLkV_of (zU_mem 996 (by decide +kernel) (by decide +kernel)) u_iX4_deals u_vX4_deals u_iniX4 u_cX4_deals u_dX4_deals
theorem kL_136 : zLkV RL 136 RX4 yX4_isUp cX4_isUp 2 (some .boolean) 1 := zLkV_of (zU_mem 1000 (by decide +kernel) (by decide +kernel)) u_iX4_isUp u_vX4_isUp u_iniX4 u_cX4_isUp u_dX4_isUp
theorem kL_139 : zLkV RL 139 RX4 yX4_state cX4_state 3 (some .int) 2 := zLkV_of (zU_mem 1004 (by decide +kernel) (by decide +kernel)) u_iX4_state u_vX4_state u_iniX4 u_cX4_state u_dX4_state
theorem kL_142 : zLkV RL 142 RX4 yX4_decision cX4_decision 2 (some .int) 1 := zLkV_of (zU_mem 1008 (by decide +kernel) (by decide +kernel)) u_iX4_decision u_vX4_decision u_iniX4 u_cX4_decision u_dX4_decision
theorem kL_145 : zLkV RL 145 RX4 yX4_leader cX4_leader 2 (some .int) 1 := zLkV_of (zU_mem 1012 (by decide +kernel) (by decide +kernel)) u_iX4_leader u_vX4_leader u_iniX4 u_cX4_leader u_dX4_leader
theorem kL_148 : zLkV RL 148 RX4 yX4_patience cX4_patience 3 (some .int) 2 := zLkV_of (zU_mem 1016 (by decide +kernel) (by decide +kernel)) u_iX4_patience u_vX4_patience u_iniX4 u_cX4_patience u_dX4_patience
theorem kL_149 : zLkV RL 149 RX3 yX3_open cX3_open 1 (some .int) 0 := zLkV_of (zU_mem 170 (by decide +kernel) (by decide +kernel)) u_iX3_open u_vX3_open u_iniX3 u_cX3_open u_dX3_open
theorem kL_152 : zLkV RL 152 RX4 yX4_open cX4_open 1 (some .int) 0 := zLkV_of (zU_mem 1024 (by decide +kernel) (by decide +kernel)) u_iX4_open u_vX4_open u_iniX4 u_cX4_open u_dX4_open
theorem kL_153 : zLkV RL 153 RX3 yX3_stuck cX3_stuck 1 (some .int) 0 := zLkV_of (zU_mem 186 (by decide +kernel) (by decide +kernel)) u_iX3_stuck u_vX3_stuck u_iniX3 u_cX3_stuck u_dX3_stuck
theorem kL_156 : zLkV RL 156 RX4 yX4_stuck cX4_stuck 1 (some .int) 0 := zLkV_of (zU_mem 1032 (by decide +kernel) (by decide +kernel)) u_iX4_stuck u_vX4_stuck u_iniX4 u_cX4_stuck u_dX4_stuck
theorem kL_159 : zLkV RL 159 RX4 yX4_logLength cX4_logLength 2 (some .int) 1 := zLkV_of (zU_mem 1044 (by decide +kernel) (by decide +kernel)) u_iX4_logLength u_vX4_logLength u_iniX4 u_cX4_logLength u_dX4_logLength
theorem kL_162 : zLkV RL 162 RX4 yX4_log cX4_log 3 (some .int) 2 := zLkV_of (zU_mem 1048 (by decide +kernel) (by decide +kernel)) u_iX4_log u_vX4_log u_iniX4 u_cX4_log u_dX4_log
theorem kL_165 : zLkV RL 165 RX4 yX4_held cX4_held 2 (some .int) 1 := zLkV_of (zU_mem 1052 (by decide +kernel) (by decide +kernel)) u_iX4_held u_vX4_held u_iniX4 u_cX4_held u_dX4_held
theorem kL_166 : zLkV RL 166 RX3 yX3_asked cX3_asked 1 (some .int) 0 := zLkV_of (zU_mem 224 (by decide +kernel) (by decide +kernel)) u_iX3_asked u_vX3_asked u_iniX3 u_cX3_asked u_dX3_asked
theorem kL_169 : zLkV RL 169 RX4 yX4_asked cX4_asked 1 (some .int) 0 := zLkV_of (zU_mem 1056 (by decide +kernel) (by decide +kernel)) u_iX4_asked u_vX4_asked u_iniX4 u_cX4_asked u_dX4_asked
theorem kL_170 : zLkV RL 170 RX3 yX3_doubtShare cX3_doubtShare 2 (some .double) 0 := zLkV_of (zU_mem 232 (by decide +kernel) (by decide +kernel)) u_iX3_doubtShare u_vX3_doubtShare u_iniX3 u_cX3_doubtShare u_dX3_doubtShare
theorem kL_174 : zLkV RL 174 RX4 yX4_doubtShare cX4_doubtShare 4 (some .double) 0 := zLkV_of (zU_mem 1060 (by decide +kernel) (by decide +kernel)) u_iX4_doubtShare u_vX4_doubtShare u_iniX4 u_cX4_doubtShare u_dX4_doubtShare
theorem kL_177 : zLkV RL 177 RX4 yX4_reason cX4_reason 3 (some .int) 2 := zLkV_of (zU_mem 1064 (by decide +kernel) (by decide +kernel)) u_iX4_reason u_vX4_reason u_iniX4 u_cX4_reason u_dX4_reason
theorem kL_180 : zLkV RL 180 RX4 yX4_helper cX4_helper 3 (some .int) 2 := zLkV_of (zU_mem 1068 (by decide +kernel) (by decide +kernel)) u_iX4_helper u_vX4_helper u_iniX4 u_cX4_helper u_dX4_helper
theorem kL_183 : zLkV RL 183 RX4 yX4_ticksToEnd cX4_ticksToEnd 4 (some .int) 2 := zLkV_of (zU_mem 1072 (by decide +kernel) (by decide +kernel)) u_iX4_ticksToEnd u_vX4_ticksToEnd u_iniX4 u_cX4_ticksToEnd u_dX4_ticksToEnd
theorem kL_186 : zLkV RL 186 RX4 yX4_append cX4_append 2 (some .int) 1 := zLkV_of (zU_mem 1076 (by decide +kernel) (by decide +kernel)) u_iX4_append u_vX4_append u_iniX4 u_cX4_append u_dX4_append
theorem kL_187 : zLkV RL 187 RX3 yX3_clearText cX3_clearText 1 (some .int) 0 := zLkV_of (zU_mem 245 (by decide +kernel) (by decide +kernel)) u_iX3_clearText u_vX3_clearText u_iniX3 u_cX3_clearText u_dX3_clearText
theorem kL_190 : zLkV RL 190 RX4 yX4_clearText cX4_clearText 2 (some .int) 0 := zLkV_of (zU_mem 1080 (by decide +kernel) (by decide +kernel)) u_iX4_clearText u_vX4_clearText u_iniX4 u_cX4_clearText u_dX4_clearText
theorem kL_191 : zLkV RL 191 RX3 yX3_firstError cX3_firstError 1 (some .int) 0 := zLkV_of (zU_mem 253 (by decide +kernel) (by decide +kernel)) u_iX3_firstError u_vX3_firstError u_iniX3 u_cX3_firstError u_dX3_firstError
theorem kL_194 : zLkV RL 194 RX4 yX4_firstError cX4_firstError 1 (some .int) 0 := zLkV_of (zU_mem 1084 (by decide +kernel) (by decide +kernel)) u_iX4_firstError u_vX4_firstError u_iniX4 u_cX4_firstError u_dX4_firstError
theorem kL_198 : zLkV RL 198 RX4 yX4_run cX4_run 2 (some .int) 0 := zLkV_of (zU_mem 1112 (by decide +kernel) (by decide +kernel)) u_iX4_run u_vX4_run u_iniX4 u_cX4_run u_dX4_run
theorem kL_201 : zLkV RL 201 RX4 yX4_undo cX4_undo 1 (some .int) 0 := zLkV_of (zU_mem 1124 (by decide +kernel) (by decide +kernel)) u_iX4_undo u_vX4_undo u_iniX4 u_cX4_undo u_dX4_undo
theorem kL_202 : zLkV RL 202 RX3 yX3_savedStates cX3_savedStates 1 (some .int) 0 := zLkV_of (zU_mem 280 (by decide +kernel) (by decide +kernel)) u_iX3_savedStates u_vX3_savedStates u_iniX3 u_cX3_savedStates u_dX3_savedStates
theorem kL_205 : zLkV RL 205 RX4 yX4_savedStates cX4_savedStates 1 (some .int) 0 := zLkV_of (zU_mem 1128 (by decide +kernel) (by decide +kernel)) u_iX4_savedStates u_vX4_savedStates u_iniX4 u_cX4_savedStates u_dX4_savedStates
theorem kL_206 : zLkV RL 206 RX3 yX3_digest cX3_digest 1 (some .long) 0 := zLkV_of (zU_mem 288 (by decide +kernel) (by decide +kernel)) u_iX3_digest u_vX3_digest u_iniX3 u_cX3_digest u_dX3_digest
theorem kL_210 : zLkV RL 210 RX4 yX4_digest cX4_digest 3 (some .long) 0 := zLkV_of (zU_mem 1132 (by decide +kernel) (by decide +kernel)) u_iX4_digest u_vX4_digest u_iniX4 u_cX4_digest u_dX4_digest
theorem rx_begin (σ : zM) (ld : Int) (mk : Int) (it : Int) : (mX_begin (gA σ) ld mk it) = (0 : Int) ∨ (mX_begin (gA σ) ld mk it) = (1 : Int) ∨ (mX_begin (gA σ) ld mk it) = (2 : Int) ∨ (mX_begin (gA σ) ld mk it) = (3 : Int) := by
  unfold mX_begin
  (repeat' split) <;> simp
set_option maxHeartbeats 4000000 in
set_option maxRecDepth 100000 in
theorem c_L_begin {l : Launch} {D : va_G} {G : zG} {ad : Nat → Nat} (hJ : zInj ad) (hl : l.stackTraces = false) (σ : zM) (fi : fI σ) {ld : Int} (hld : zB ld) {mk : Int} (hmk : zB mk) {it : Int} (hit : zB it) : zKW l D G ad yL_begin cL_begin 6 (some .int) [(0, 12, 15, 13), (0, 12, 19, 15), (0, 12, 23, 17)] 9 4 [.ref (ad 0), vI ld, vI mk, vI it, .ref (ad 72)] σ (wPo σ (zBk (fSv σ) 8 8 (cAddN (gA σ) ld mk it)) (mX_begin (gA σ) ld mk it) (cAddR (gA σ) ld mk)) := by
  have hrx := rx_begin σ ld mk it
  intro sz
  refine zw_open hJ (by decide +kernel) (Nat.le_of_ble_eq_true rfl) ?_
  intro p e s0 m args below meth c hsz X F htb hr hlocks
  subst hsz
  refine z_sub [(0, .ref (ad 0)), (1, vI ld), (2, vI mk), (3, vI it), (4, .ref (ad 72))] (zSub_cons rfl (zSub_cons rfl (zSub_cons rfl (zSub_cons rfl (zSub_cons rfl zSub_nil))))) ?_
  refine z_aload X dL_begin_0 rfl ?_
  refine z_iconst X dL_begin_2 ?_
  refine z_aload_n X dL_begin_3 rfl ?_
  refine z_iload_n X dL_begin_4 rfl ?_
  refine z_iload_n X dL_begin_5 rfl ?_
  refine z_iload_n X dL_begin_6 rfl ?_
  refine zx_callVI3 X F (c_X3_begin hJ hl σ fi hld hmk hit) kL_7 rfl (by decide) rfl ⟨(Nat.le_of_ble_eq_true rfl), (Nat.le_of_ble_eq_true rfl)⟩ (Nat.le_of_ble_eq_true rfl) ⟨(Nat.le_of_ble_eq_true rfl), (Nat.le_of_ble_eq_true rfl)⟩ dL_begin_7 (fun E σ1 hx => ?_) (fun z σ1 hz => ?_)
  · obtain ⟨e9, hx0, hE⟩ := hx
    rw [e9]
    rcases hrx with hv | hv | hv | hv
    · exact absurd hv hx0
    · have hE : E = zE1 := hE.trans (by rw [hv]; rfl)
      subst hE
      refine zx_catch X F (name := zE1) [] ⟨0, 12, 15, 13⟩ [⟨0, 12, 19, 15⟩, ⟨0, 12, 23, 17⟩] (htb.trans rfl) (fun z hz => absurd hz List.not_mem_nil) rfl (by decide) zcl_13 (by decide) rfl zca_1 (tgt := 15) rfl (fun q => ?_)
      refine z_astore X dL_begin_15 (by decide) ?_
      refine z_iconst X dL_begin_17 ?_
      exact zw_iret X hr hlocks dL_begin_18 ⟨hv.symm, fun h => absurd h hx0, fun _ => rfl⟩ (Nat.le_of_ble_eq_true rfl) (Nat.le_of_ble_eq_true rfl)
    · have hE : E = zE2 := hE.trans (by rw [hv]; rfl)
      subst hE
      refine zx_catch X F (name := zE2) [⟨0, 12, 15, 13⟩] ⟨0, 12, 19, 15⟩ [⟨0, 12, 23, 17⟩] (htb.trans rfl) (fun z hz => by rcases List.mem_singleton.mp hz with rfl; exact ⟨by decide, zE1, zcl_13, by decide, by decide⟩) rfl (by decide) zcl_15 (by decide) rfl zca_2 (tgt := 19) rfl (fun q => ?_)
      refine z_astore X dL_begin_19 (by decide) ?_
      refine z_iconst X dL_begin_21 ?_
      exact zw_iret X hr hlocks dL_begin_22 ⟨hv.symm, fun h => absurd h hx0, fun _ => rfl⟩ (Nat.le_of_ble_eq_true rfl) (Nat.le_of_ble_eq_true rfl)
    · have hE : E = zE3 := hE.trans (by rw [hv]; rfl)
      subst hE
      refine zx_catch X F (name := zE3) [⟨0, 12, 15, 13⟩, ⟨0, 12, 19, 15⟩] ⟨0, 12, 23, 17⟩ [] (htb.trans rfl) (fun z hz => by rcases List.mem_cons.mp hz with rfl | hz; exact ⟨by decide, zE1, zcl_13, by decide, by decide⟩; rcases List.mem_singleton.mp hz with rfl; exact ⟨by decide, zE2, zcl_15, by decide, by decide⟩) rfl (by decide) zcl_17 (by decide) rfl zca_3 (tgt := 23) rfl (fun q => ?_)
      refine z_astore X dL_begin_23 (by decide) ?_
      refine z_iconst X dL_begin_25 ?_
      exact zw_iret X hr hlocks dL_begin_26 ⟨hv.symm, fun h => absurd h hx0, fun _ => rfl⟩ (Nat.le_of_ble_eq_true rfl) (Nat.le_of_ble_eq_true rfl)
  · obtain ⟨rfl, e9, hx0⟩ := hz
    rw [e9]
    refine z_i2l X dL_begin_10 ?_
    refine z_lastore X dL_begin_11 ?_
    refine z_goto X 27 dL_begin_12 (by decide) ?_
    refine z_iconst X dL_begin_27 ?_
    exact zw_iret X hr hlocks dL_begin_28 ⟨hx0.symm, fun _ => rfl, fun h => absurd hx0 h⟩ (Nat.le_of_ble_eq_true rfl) (Nat.le_of_ble_eq_true rfl)

theorem rx_vote (σ : zM) (d : Int) (s : Int) (y : Int) : (mX_vote (gA σ) d s y) = (0 : Int) ∨ (mX_vote (gA σ) d s y) = (1 : Int) ∨ (mX_vote (gA σ) d s y) = (2 : Int) := by
  unfold mX_vote
  (repeat' split) <;> simp
set_option maxHeartbeats 4000000 in
set_option maxRecDepth 100000 in
theorem c_L_vote {l : Launch} {D : va_G} {G : zG} {ad : Nat → Nat} (hJ : zInj ad) (hl : l.stackTraces = false) (σ : zM) (fi : fI σ) {d : Int} (hd : zB d) {s : Int} (hs : zB s) {y : Int} (hy : zB y) : zKW l D G ad yL_vote cL_vote 6 (some .int) [(0, 12, 15, 13), (0, 12, 19, 17)] 9 4 [.ref (ad 0), vI d, vI s, vI y, .ref (ad 72)] σ (wPo σ (zBk (fSv σ) 8 8 (cVoteN (gA σ) d s y)) (mX_vote (gA σ) d s y) (cVoteR (gA σ) d s y)) := by
  have hrx := rx_vote σ d s y
  intro sz
  refine zw_open hJ (by decide +kernel) (Nat.le_of_ble_eq_true rfl) ?_
  intro p e s0 m args below meth c hsz X F htb hr hlocks
  subst hsz
  refine z_sub [(0, .ref (ad 0)), (1, vI d), (2, vI s), (3, vI y), (4, .ref (ad 72))] (zSub_cons rfl (zSub_cons rfl (zSub_cons rfl (zSub_cons rfl (zSub_cons rfl zSub_nil))))) ?_
  refine z_aload X dL_vote_0 rfl ?_
  refine z_iconst X dL_vote_2 ?_
  refine z_aload_n X dL_vote_3 rfl ?_
  refine z_iload_n X dL_vote_4 rfl ?_
  refine z_iload_n X dL_vote_5 rfl ?_
  refine z_iload_n X dL_vote_6 rfl ?_
  refine zx_callVI3 X F (c_X3_vote hJ hl σ fi hd hs hy) kL_19 rfl (by decide) rfl ⟨(Nat.le_of_ble_eq_true rfl), (Nat.le_of_ble_eq_true rfl)⟩ (Nat.le_of_ble_eq_true rfl) ⟨(Nat.le_of_ble_eq_true rfl), (Nat.le_of_ble_eq_true rfl)⟩ dL_vote_7 (fun E σ1 hx => ?_) (fun z σ1 hz => ?_)
  · obtain ⟨e9, hx0, hE⟩ := hx
    rw [e9]
    rcases hrx with hv | hv | hv
    · exact absurd hv hx0
    · have hE : E = zE1 := hE.trans (by rw [hv]; rfl)
      subst hE
      refine zx_catch X F (name := zE1) [] ⟨0, 12, 15, 13⟩ [⟨0, 12, 19, 17⟩] (htb.trans rfl) (fun z hz => absurd hz List.not_mem_nil) rfl (by decide) zcl_13 (by decide) rfl zca_1 (tgt := 15) rfl (fun q => ?_)
      refine z_astore X dL_vote_15 (by decide) ?_
      refine z_iconst X dL_vote_17 ?_
      exact zw_iret X hr hlocks dL_vote_18 ⟨hv.symm, fun h => absurd h hx0, fun _ => rfl⟩ (Nat.le_of_ble_eq_true rfl) (Nat.le_of_ble_eq_true rfl)
    · have hE : E = zE3 := hE.trans (by rw [hv]; rfl)
      subst hE
      refine zx_catch X F (name := zE3) [⟨0, 12, 15, 13⟩] ⟨0, 12, 19, 17⟩ [] (htb.trans rfl) (fun z hz => by rcases List.mem_singleton.mp hz with rfl; exact ⟨by decide, zE1, zcl_13, by decide, by decide⟩) rfl (by decide) zcl_17 (by decide) rfl zca_3 (tgt := 19) rfl (fun q => ?_)
      refine z_astore X dL_vote_19 (by decide) ?_
      refine z_iconst X dL_vote_21 ?_
      exact zw_iret X hr hlocks dL_vote_22 ⟨hv.symm, fun h => absurd h hx0, fun _ => rfl⟩ (Nat.le_of_ble_eq_true rfl) (Nat.le_of_ble_eq_true rfl)
  · obtain ⟨rfl, e9, hx0⟩ := hz
    rw [e9]
    refine z_i2l X dL_vote_10 ?_
    refine z_lastore X dL_vote_11 ?_
    refine z_goto X 23 dL_vote_12 (by decide) ?_
    refine z_iconst X dL_vote_23 ?_
    exact zw_iret X hr hlocks dL_vote_24 ⟨hx0.symm, fun _ => rfl, fun h => absurd hx0 h⟩ (Nat.le_of_ble_eq_true rfl) (Nat.le_of_ble_eq_true rfl)

theorem rx_decide (σ : zM) (d : Int) : (mX_decide (gA σ) d) = (0 : Int) ∨ (mX_decide (gA σ) d) = (1 : Int) ∨ (mX_decide (gA σ) d) = (2 : Int) := by
  unfold mX_decide
  (repeat' split) <;> simp
set_option maxHeartbeats 4000000 in
set_option maxRecDepth 100000 in
theorem c_L_decide {l : Launch} {D : va_G} {G : zG} {ad : Nat → Nat} (hJ : zInj ad) (hl : l.stackTraces = false) (σ : zM) (fi : fI σ) {d : Int} (hd : zB d) : zKW l D G ad yL_decide cL_decide 4 (some .int) [(0, 9, 12, 13), (0, 9, 15, 17)] 9 4 [.ref (ad 0), vI d, .ref (ad 72)] σ (wPo σ (zBk (fSv σ) 8 8 (cDecideN (gA σ) d)) (mX_decide (gA σ) d) (cDecideR (gA σ) d)) := by
  have hrx := rx_decide σ d
  intro sz
  refine zw_open hJ (by decide +kernel) (Nat.le_of_ble_eq_true rfl) ?_
  intro p e s0 m args below meth c hsz X F htb hr hlocks
  subst hsz
  refine z_sub [(0, .ref (ad 0)), (1, vI d), (2, .ref (ad 72))] (zSub_cons rfl (zSub_cons rfl (zSub_cons rfl zSub_nil))) ?_
  refine z_aload_n X dL_decide_0 rfl ?_
  refine z_iconst X dL_decide_1 ?_
  refine z_aload_n X dL_decide_2 rfl ?_
  refine z_iload_n X dL_decide_3 rfl ?_
  refine zx_callVI1 X F (c_X3_decide hJ hl σ fi hd) kL_23 rfl (by decide) rfl ⟨(Nat.le_of_ble_eq_true rfl), (Nat.le_of_ble_eq_true rfl)⟩ (Nat.le_of_ble_eq_true rfl) ⟨(Nat.le_of_ble_eq_true rfl), (Nat.le_of_ble_eq_true rfl)⟩ dL_decide_4 (fun E σ1 hx => ?_) (fun z σ1 hz => ?_)
  · obtain ⟨e9, hx0, hE⟩ := hx
    rw [e9]
    rcases hrx with hv | hv | hv
    · exact absurd hv hx0
    · have hE : E = zE1 := hE.trans (by rw [hv]; rfl)
      subst hE
      refine zx_catch X F (name := zE1) [] ⟨0, 9, 12, 13⟩ [⟨0, 9, 15, 17⟩] (htb.trans rfl) (fun z hz => absurd hz List.not_mem_nil) rfl (by decide) zcl_13 (by decide) rfl zca_1 (tgt := 12) rfl (fun q => ?_)
      refine z_astore_n X dL_decide_12 (by decide) ?_
      refine z_iconst X dL_decide_13 ?_
      exact zw_iret X hr hlocks dL_decide_14 ⟨hv.symm, fun h => absurd h hx0, fun _ => rfl⟩ (Nat.le_of_ble_eq_true rfl) (Nat.le_of_ble_eq_true rfl)
    · have hE : E = zE3 := hE.trans (by rw [hv]; rfl)
      subst hE
      refine zx_catch X F (name := zE3) [⟨0, 9, 12, 13⟩] ⟨0, 9, 15, 17⟩ [] (htb.trans rfl) (fun z hz => by rcases List.mem_singleton.mp hz with rfl; exact ⟨by decide, zE1, zcl_13, by decide, by decide⟩) rfl (by decide) zcl_17 (by decide) rfl zca_3 (tgt := 15) rfl (fun q => ?_)
      refine z_astore_n X dL_decide_15 (by decide) ?_
      refine z_iconst X dL_decide_16 ?_
      exact zw_iret X hr hlocks dL_decide_17 ⟨hv.symm, fun h => absurd h hx0, fun _ => rfl⟩ (Nat.le_of_ble_eq_true rfl) (Nat.le_of_ble_eq_true rfl)
  · obtain ⟨rfl, e9, hx0⟩ := hz
    rw [e9]
    refine z_i2l X dL_decide_7 ?_
    refine z_lastore X dL_decide_8 ?_
    refine z_goto X 18 dL_decide_9 (by decide) ?_
    refine z_iconst X dL_decide_18 ?_
    exact zw_iret X hr hlocks dL_decide_19 ⟨hx0.symm, fun _ => rfl, fun h => absurd hx0 h⟩ (Nat.le_of_ble_eq_true rfl) (Nat.le_of_ble_eq_true rfl)

theorem rx_tell (σ : zM) (d : Int) (s : Int) : (mX_tell (gA σ) d s) = (0 : Int) ∨ (mX_tell (gA σ) d s) = (1 : Int) ∨ (mX_tell (gA σ) d s) = (2 : Int) := by
  unfold mX_tell
  (repeat' split) <;> simp
set_option maxHeartbeats 4000000 in
set_option maxRecDepth 100000 in
theorem c_L_tell {l : Launch} {D : va_G} {G : zG} {ad : Nat → Nat} (hJ : zInj ad) (hl : l.stackTraces = false) (σ : zM) (fi : fI σ) {d : Int} (hd : zB d) {s : Int} (hs : zB s) : zKW l D G ad yL_tell cL_tell 5 (some .int) [(0, 10, 13, 13), (0, 10, 17, 17)] 9 4 [.ref (ad 0), vI d, vI s, .ref (ad 72)] σ (wPo σ (zBk (fSv σ) 8 8 (cTellN (gA σ) d s)) (mX_tell (gA σ) d s) (cTellR (gA σ) d s)) := by
  have hrx := rx_tell σ d s
  intro sz
  refine zw_open hJ (by decide +kernel) (Nat.le_of_ble_eq_true rfl) ?_
  intro p e s0 m args below meth c hsz X F htb hr hlocks
  subst hsz
  refine z_sub [(0, .ref (ad 0)), (1, vI d), (2, vI s), (3, .ref (ad 72))] (zSub_cons rfl (zSub_cons rfl (zSub_cons rfl (zSub_cons rfl zSub_nil)))) ?_
  refine z_aload_n X dL_tell_0 rfl ?_
  refine z_iconst X dL_tell_1 ?_
  refine z_aload_n X dL_tell_2 rfl ?_
  refine z_iload_n X dL_tell_3 rfl ?_
  refine z_iload_n X dL_tell_4 rfl ?_
  refine zx_callVI2 X F (c_X3_tell hJ hl σ fi hd hs) kL_27 rfl (by decide) rfl ⟨(Nat.le_of_ble_eq_true rfl), (Nat.le_of_ble_eq_true rfl)⟩ (Nat.le_of_ble_eq_true rfl) ⟨(Nat.le_of_ble_eq_true rfl), (Nat.le_of_ble_eq_true rfl)⟩ dL_tell_5 (fun E σ1 hx => ?_) (fun z σ1 hz => ?_)
  · obtain ⟨e9, hx0, hE⟩ := hx
    rw [e9]
    rcases hrx with hv | hv | hv
    · exact absurd hv hx0
    · have hE : E = zE1 := hE.trans (by rw [hv]; rfl)
      subst hE
      refine zx_catch X F (name := zE1) [] ⟨0, 10, 13, 13⟩ [⟨0, 10, 17, 17⟩] (htb.trans rfl) (fun z hz => absurd hz List.not_mem_nil) rfl (by decide) zcl_13 (by decide) rfl zca_1 (tgt := 13) rfl (fun q => ?_)
      refine z_astore X dL_tell_13 (by decide) ?_
      refine z_iconst X dL_tell_15 ?_
      exact zw_iret X hr hlocks dL_tell_16 ⟨hv.symm, fun h => absurd h hx0, fun _ => rfl⟩ (Nat.le_of_ble_eq_true rfl) (Nat.le_of_ble_eq_true rfl)
    · have hE : E = zE3 := hE.trans (by rw [hv]; rfl)
      subst hE
      refine zx_catch X F (name := zE3) [⟨0, 10, 13, 13⟩] ⟨0, 10, 17, 17⟩ [] (htb.trans rfl) (fun z hz => by rcases List.mem_singleton.mp hz with rfl; exact ⟨by decide, zE1, zcl_13, by decide, by decide⟩) rfl (by decide) zcl_17 (by decide) rfl zca_3 (tgt := 17) rfl (fun q => ?_)
      refine z_astore X dL_tell_17 (by decide) ?_
      refine z_iconst X dL_tell_19 ?_
      exact zw_iret X hr hlocks dL_tell_20 ⟨hv.symm, fun h => absurd h hx0, fun _ => rfl⟩ (Nat.le_of_ble_eq_true rfl) (Nat.le_of_ble_eq_true rfl)
  · obtain ⟨rfl, e9, hx0⟩ := hz
    rw [e9]
    refine z_i2l X dL_tell_8 ?_
    refine z_lastore X dL_tell_9 ?_
    refine z_goto X 21 dL_tell_10 (by decide) ?_
    refine z_iconst X dL_tell_21 ?_
    exact zw_iret X hr hlocks dL_tell_22 ⟨hx0.symm, fun _ => rfl, fun h => absurd hx0 h⟩ (Nat.le_of_ble_eq_true rfl) (Nat.le_of_ble_eq_true rfl)

theorem rx_ask (σ : zM) (d : Int) (s : Int) (o : Int) : (mX_ask (gA σ) d s o) = (0 : Int) ∨ (mX_ask (gA σ) d s o) = (1 : Int) ∨ (mX_ask (gA σ) d s o) = (2 : Int) ∨ (mX_ask (gA σ) d s o) = (3 : Int) := by
  unfold mX_ask
  (repeat' split) <;> simp
set_option maxHeartbeats 4000000 in
set_option maxRecDepth 100000 in
theorem c_L_ask {l : Launch} {D : va_G} {G : zG} {ad : Nat → Nat} (hJ : zInj ad) (hl : l.stackTraces = false) (σ : zM) (fi : fI σ) {d : Int} (hd : zB d) {s : Int} (hs : zB s) {o : Int} (ho : zB o) : zKW l D G ad yL_ask cL_ask 6 (some .int) [(0, 12, 15, 13), (0, 12, 19, 15), (0, 12, 23, 17)] 9 4 [.ref (ad 0), vI d, vI s, vI o, .ref (ad 72)] σ (wPo σ (zBk (fSv σ) 8 8 (cAskN (gA σ) d s o)) (mX_ask (gA σ) d s o) (cAskR (gA σ) d s o)) := by
  have hrx := rx_ask σ d s o
  intro sz
  refine zw_open hJ (by decide +kernel) (Nat.le_of_ble_eq_true rfl) ?_
  intro p e s0 m args below meth c hsz X F htb hr hlocks
  subst hsz
  refine z_sub [(0, .ref (ad 0)), (1, vI d), (2, vI s), (3, vI o), (4, .ref (ad 72))] (zSub_cons rfl (zSub_cons rfl (zSub_cons rfl (zSub_cons rfl (zSub_cons rfl zSub_nil))))) ?_
  refine z_aload X dL_ask_0 rfl ?_
  refine z_iconst X dL_ask_2 ?_
  refine z_aload_n X dL_ask_3 rfl ?_
  refine z_iload_n X dL_ask_4 rfl ?_
  refine z_iload_n X dL_ask_5 rfl ?_
  refine z_iload_n X dL_ask_6 rfl ?_
  refine zx_callVI3 X F (c_X3_ask hJ hl σ fi hd hs ho) kL_31 rfl (by decide) rfl ⟨(Nat.le_of_ble_eq_true rfl), (Nat.le_of_ble_eq_true rfl)⟩ (Nat.le_of_ble_eq_true rfl) ⟨(Nat.le_of_ble_eq_true rfl), (Nat.le_of_ble_eq_true rfl)⟩ dL_ask_7 (fun E σ1 hx => ?_) (fun z σ1 hz => ?_)
  · obtain ⟨e9, hx0, hE⟩ := hx
    rw [e9]
    rcases hrx with hv | hv | hv | hv
    · exact absurd hv hx0
    · have hE : E = zE1 := hE.trans (by rw [hv]; rfl)
      subst hE
      refine zx_catch X F (name := zE1) [] ⟨0, 12, 15, 13⟩ [⟨0, 12, 19, 15⟩, ⟨0, 12, 23, 17⟩] (htb.trans rfl) (fun z hz => absurd hz List.not_mem_nil) rfl (by decide) zcl_13 (by decide) rfl zca_1 (tgt := 15) rfl (fun q => ?_)
      refine z_astore X dL_ask_15 (by decide) ?_
      refine z_iconst X dL_ask_17 ?_
      exact zw_iret X hr hlocks dL_ask_18 ⟨hv.symm, fun h => absurd h hx0, fun _ => rfl⟩ (Nat.le_of_ble_eq_true rfl) (Nat.le_of_ble_eq_true rfl)
    · have hE : E = zE2 := hE.trans (by rw [hv]; rfl)
      subst hE
      refine zx_catch X F (name := zE2) [⟨0, 12, 15, 13⟩] ⟨0, 12, 19, 15⟩ [⟨0, 12, 23, 17⟩] (htb.trans rfl) (fun z hz => by rcases List.mem_singleton.mp hz with rfl; exact ⟨by decide, zE1, zcl_13, by decide, by decide⟩) rfl (by decide) zcl_15 (by decide) rfl zca_2 (tgt := 19) rfl (fun q => ?_)
      refine z_astore X dL_ask_19 (by decide) ?_
      refine z_iconst X dL_ask_21 ?_
      exact zw_iret X hr hlocks dL_ask_22 ⟨hv.symm, fun h => absurd h hx0, fun _ => rfl⟩ (Nat.le_of_ble_eq_true rfl) (Nat.le_of_ble_eq_true rfl)
    · have hE : E = zE3 := hE.trans (by rw [hv]; rfl)
      subst hE
      refine zx_catch X F (name := zE3) [⟨0, 12, 15, 13⟩, ⟨0, 12, 19, 15⟩] ⟨0, 12, 23, 17⟩ [] (htb.trans rfl) (fun z hz => by rcases List.mem_cons.mp hz with rfl | hz; exact ⟨by decide, zE1, zcl_13, by decide, by decide⟩; rcases List.mem_singleton.mp hz with rfl; exact ⟨by decide, zE2, zcl_15, by decide, by decide⟩) rfl (by decide) zcl_17 (by decide) rfl zca_3 (tgt := 23) rfl (fun q => ?_)
      refine z_astore X dL_ask_23 (by decide) ?_
      refine z_iconst X dL_ask_25 ?_
      exact zw_iret X hr hlocks dL_ask_26 ⟨hv.symm, fun h => absurd h hx0, fun _ => rfl⟩ (Nat.le_of_ble_eq_true rfl) (Nat.le_of_ble_eq_true rfl)
  · obtain ⟨rfl, e9, hx0⟩ := hz
    rw [e9]
    refine z_i2l X dL_ask_10 ?_
    refine z_lastore X dL_ask_11 ?_
    refine z_goto X 27 dL_ask_12 (by decide) ?_
    refine z_iconst X dL_ask_27 ?_
    exact zw_iret X hr hlocks dL_ask_28 ⟨hx0.symm, fun _ => rfl, fun h => absurd hx0 h⟩ (Nat.le_of_ble_eq_true rfl) (Nat.le_of_ble_eq_true rfl)

theorem rx_fallSilent (σ : zM) (s : Int) : (mX_fallSilent (gA σ) s) = (0 : Int) ∨ (mX_fallSilent (gA σ) s) = (1 : Int) ∨ (mX_fallSilent (gA σ) s) = (2 : Int) := by
  unfold mX_fallSilent
  (repeat' split) <;> simp
set_option maxHeartbeats 4000000 in
set_option maxRecDepth 100000 in
theorem c_L_fallSilent {l : Launch} {D : va_G} {G : zG} {ad : Nat → Nat} (hJ : zInj ad) (hl : l.stackTraces = false) (σ : zM) (fi : fI σ) {s : Int} (hs : zB s) : zKW l D G ad yL_fallSilent cL_fallSilent 4 (some .int) [(0, 9, 12, 13), (0, 9, 15, 17)] 9 4 [.ref (ad 0), vI s, .ref (ad 72)] σ (wPo σ (zBk (fSv σ) 8 8 (cSilN (gA σ) s)) (mX_fallSilent (gA σ) s) (cSilR (gA σ) s)) := by
  have hrx := rx_fallSilent σ s
  intro sz
  refine zw_open hJ (by decide +kernel) (Nat.le_of_ble_eq_true rfl) ?_
  intro p e s0 m args below meth c hsz X F htb hr hlocks
  subst hsz
  refine z_sub [(0, .ref (ad 0)), (1, vI s), (2, .ref (ad 72))] (zSub_cons rfl (zSub_cons rfl (zSub_cons rfl zSub_nil))) ?_
  refine z_aload_n X dL_fallSilent_0 rfl ?_
  refine z_iconst X dL_fallSilent_1 ?_
  refine z_aload_n X dL_fallSilent_2 rfl ?_
  refine z_iload_n X dL_fallSilent_3 rfl ?_
  refine zx_callVI1 X F (c_X3_fallSilent hJ hl σ fi hs) kL_34 rfl (by decide) rfl ⟨(Nat.le_of_ble_eq_true rfl), (Nat.le_of_ble_eq_true rfl)⟩ (Nat.le_of_ble_eq_true rfl) ⟨(Nat.le_of_ble_eq_true rfl), (Nat.le_of_ble_eq_true rfl)⟩ dL_fallSilent_4 (fun E σ1 hx => ?_) (fun z σ1 hz => ?_)
  · obtain ⟨e9, hx0, hE⟩ := hx
    rw [e9]
    rcases hrx with hv | hv | hv
    · exact absurd hv hx0
    · have hE : E = zE1 := hE.trans (by rw [hv]; rfl)
      subst hE
      refine zx_catch X F (name := zE1) [] ⟨0, 9, 12, 13⟩ [⟨0, 9, 15, 17⟩] (htb.trans rfl) (fun z hz => absurd hz List.not_mem_nil) rfl (by decide) zcl_13 (by decide) rfl zca_1 (tgt := 12) rfl (fun q => ?_)
      refine z_astore_n X dL_fallSilent_12 (by decide) ?_
      refine z_iconst X dL_fallSilent_13 ?_
      exact zw_iret X hr hlocks dL_fallSilent_14 ⟨hv.symm, fun h => absurd h hx0, fun _ => rfl⟩ (Nat.le_of_ble_eq_true rfl) (Nat.le_of_ble_eq_true rfl)
    · have hE : E = zE3 := hE.trans (by rw [hv]; rfl)
      subst hE
      refine zx_catch X F (name := zE3) [⟨0, 9, 12, 13⟩] ⟨0, 9, 15, 17⟩ [] (htb.trans rfl) (fun z hz => by rcases List.mem_singleton.mp hz with rfl; exact ⟨by decide, zE1, zcl_13, by decide, by decide⟩) rfl (by decide) zcl_17 (by decide) rfl zca_3 (tgt := 15) rfl (fun q => ?_)
      refine z_astore_n X dL_fallSilent_15 (by decide) ?_
      refine z_iconst X dL_fallSilent_16 ?_
      exact zw_iret X hr hlocks dL_fallSilent_17 ⟨hv.symm, fun h => absurd h hx0, fun _ => rfl⟩ (Nat.le_of_ble_eq_true rfl) (Nat.le_of_ble_eq_true rfl)
  · obtain ⟨rfl, e9, hx0⟩ := hz
    rw [e9]
    refine z_i2l X dL_fallSilent_7 ?_
    refine z_lastore X dL_fallSilent_8 ?_
    refine z_goto X 18 dL_fallSilent_9 (by decide) ?_
    refine z_iconst X dL_fallSilent_18 ?_
    exact zw_iret X hr hlocks dL_fallSilent_19 ⟨hx0.symm, fun _ => rfl, fun h => absurd hx0 h⟩ (Nat.le_of_ble_eq_true rfl) (Nat.le_of_ble_eq_true rfl)

theorem rx_comeBack (σ : zM) (s : Int) : (mX_comeBack (gA σ) s) = (0 : Int) ∨ (mX_comeBack (gA σ) s) = (1 : Int) ∨ (mX_comeBack (gA σ) s) = (2 : Int) := by
  unfold mX_comeBack
  (repeat' split) <;> simp
set_option maxHeartbeats 4000000 in
set_option maxRecDepth 100000 in
theorem c_L_comeBack {l : Launch} {D : va_G} {G : zG} {ad : Nat → Nat} (hJ : zInj ad) (hl : l.stackTraces = false) (σ : zM) (fi : fI σ) {s : Int} (hs : zB s) : zKW l D G ad yL_comeBack cL_comeBack 4 (some .int) [(0, 9, 12, 13), (0, 9, 15, 17)] 9 4 [.ref (ad 0), vI s, .ref (ad 72)] σ (wPo σ (zBk (fSv σ) 8 8 (cWkN (gA σ) s)) (mX_comeBack (gA σ) s) (cWkR (gA σ) s)) := by
  have hrx := rx_comeBack σ s
  intro sz
  refine zw_open hJ (by decide +kernel) (Nat.le_of_ble_eq_true rfl) ?_
  intro p e s0 m args below meth c hsz X F htb hr hlocks
  subst hsz
  refine z_sub [(0, .ref (ad 0)), (1, vI s), (2, .ref (ad 72))] (zSub_cons rfl (zSub_cons rfl (zSub_cons rfl zSub_nil))) ?_
  refine z_aload_n X dL_comeBack_0 rfl ?_
  refine z_iconst X dL_comeBack_1 ?_
  refine z_aload_n X dL_comeBack_2 rfl ?_
  refine z_iload_n X dL_comeBack_3 rfl ?_
  refine zx_callVI1 X F (c_X3_comeBack hJ hl σ fi hs) kL_37 rfl (by decide) rfl ⟨(Nat.le_of_ble_eq_true rfl), (Nat.le_of_ble_eq_true rfl)⟩ (Nat.le_of_ble_eq_true rfl) ⟨(Nat.le_of_ble_eq_true rfl), (Nat.le_of_ble_eq_true rfl)⟩ dL_comeBack_4 (fun E σ1 hx => ?_) (fun z σ1 hz => ?_)
  · obtain ⟨e9, hx0, hE⟩ := hx
    rw [e9]
    rcases hrx with hv | hv | hv
    · exact absurd hv hx0
    · have hE : E = zE1 := hE.trans (by rw [hv]; rfl)
      subst hE
      refine zx_catch X F (name := zE1) [] ⟨0, 9, 12, 13⟩ [⟨0, 9, 15, 17⟩] (htb.trans rfl) (fun z hz => absurd hz List.not_mem_nil) rfl (by decide) zcl_13 (by decide) rfl zca_1 (tgt := 12) rfl (fun q => ?_)
      refine z_astore_n X dL_comeBack_12 (by decide) ?_
      refine z_iconst X dL_comeBack_13 ?_
      exact zw_iret X hr hlocks dL_comeBack_14 ⟨hv.symm, fun h => absurd h hx0, fun _ => rfl⟩ (Nat.le_of_ble_eq_true rfl) (Nat.le_of_ble_eq_true rfl)
    · have hE : E = zE3 := hE.trans (by rw [hv]; rfl)
      subst hE
      refine zx_catch X F (name := zE3) [⟨0, 9, 12, 13⟩] ⟨0, 9, 15, 17⟩ [] (htb.trans rfl) (fun z hz => by rcases List.mem_singleton.mp hz with rfl; exact ⟨by decide, zE1, zcl_13, by decide, by decide⟩) rfl (by decide) zcl_17 (by decide) rfl zca_3 (tgt := 15) rfl (fun q => ?_)
      refine z_astore_n X dL_comeBack_15 (by decide) ?_
      refine z_iconst X dL_comeBack_16 ?_
      exact zw_iret X hr hlocks dL_comeBack_17 ⟨hv.symm, fun h => absurd h hx0, fun _ => rfl⟩ (Nat.le_of_ble_eq_true rfl) (Nat.le_of_ble_eq_true rfl)
  · obtain ⟨rfl, e9, hx0⟩ := hz
    rw [e9]
    refine z_i2l X dL_comeBack_7 ?_
    refine z_lastore X dL_comeBack_8 ?_
    refine z_goto X 18 dL_comeBack_9 (by decide) ?_
    refine z_iconst X dL_comeBack_18 ?_
    exact zw_iret X hr hlocks dL_comeBack_19 ⟨hx0.symm, fun _ => rfl, fun h => absurd hx0 h⟩ (Nat.le_of_ble_eq_true rfl) (Nat.le_of_ble_eq_true rfl)

theorem rx_pass (σ : zM) (t : Int) : (mX_pass (gA σ) t) = (0 : Int) ∨ (mX_pass (gA σ) t) = (1 : Int) := by
  unfold mX_pass
  (repeat' split) <;> simp
set_option maxHeartbeats 4000000 in
set_option maxRecDepth 100000 in
theorem c_L_pass {l : Launch} {D : va_G} {G : zG} {ad : Nat → Nat} (hJ : zInj ad) (hl : l.stackTraces = false) (σ : zM) (fi : fI σ) {t : Int} (ht : zB t) : zKW l D G ad yL_pass cL_pass 4 (some .int) [(0, 9, 12, 15)] 9 4 [.ref (ad 0), vI t, .ref (ad 72)] σ (wPo σ (zBk (fSv σ) 8 8 (cPassN (gA σ) t)) (mX_pass (gA σ) t) (cPassR (gA σ) t)) := by
  have hrx := rx_pass σ t
  intro sz
  refine zw_open hJ (by decide +kernel) (Nat.le_of_ble_eq_true rfl) ?_
  intro p e s0 m args below meth c hsz X F htb hr hlocks
  subst hsz
  refine z_sub [(0, .ref (ad 0)), (1, vI t), (2, .ref (ad 72))] (zSub_cons rfl (zSub_cons rfl (zSub_cons rfl zSub_nil))) ?_
  refine z_aload_n X dL_pass_0 rfl ?_
  refine z_iconst X dL_pass_1 ?_
  refine z_aload_n X dL_pass_2 rfl ?_
  refine z_iload_n X dL_pass_3 rfl ?_
  refine zx_callVI1 X F (c_X3_pass hJ hl σ fi ht) kL_40 rfl (by decide) rfl ⟨(Nat.le_of_ble_eq_true rfl), (Nat.le_of_ble_eq_true rfl)⟩ (Nat.le_of_ble_eq_true rfl) ⟨(Nat.le_of_ble_eq_true rfl), (Nat.le_of_ble_eq_true rfl)⟩ dL_pass_4 (fun E σ1 hx => ?_) (fun z σ1 hz => ?_)
  · obtain ⟨e9, hx0, hE⟩ := hx
    rw [e9]
    rcases hrx with hv | hv
    · exact absurd hv hx0
    · have hE : E = zE2 := hE.trans (by rw [hv]; rfl)
      subst hE
      refine zx_catch X F (name := zE2) [] ⟨0, 9, 12, 15⟩ [] (htb.trans rfl) (fun z hz => absurd hz List.not_mem_nil) rfl (by decide) zcl_15 (by decide) rfl zca_2 (tgt := 12) rfl (fun q => ?_)
      refine z_astore_n X dL_pass_12 (by decide) ?_
      refine z_iconst X dL_pass_13 ?_
      exact zw_iret X hr hlocks dL_pass_14 ⟨hv.symm, fun h => absurd h hx0, fun _ => rfl⟩ (Nat.le_of_ble_eq_true rfl) (Nat.le_of_ble_eq_true rfl)
  · obtain ⟨rfl, e9, hx0⟩ := hz
    rw [e9]
    refine z_i2l X dL_pass_7 ?_
    refine z_lastore X dL_pass_8 ?_
    refine z_goto X 15 dL_pass_9 (by decide) ?_
    refine z_iconst X dL_pass_15 ?_
    exact zw_iret X hr hlocks dL_pass_16 ⟨hx0.symm, fun _ => rfl, fun h => absurd hx0 h⟩ (Nat.le_of_ble_eq_true rfl) (Nat.le_of_ble_eq_true rfl)

theorem rx_setPatience (σ : zM) (pt : Int) : (mX_setPatience (gA σ) pt) = (0 : Int) ∨ (mX_setPatience (gA σ) pt) = (1 : Int) := by
  unfold mX_setPatience
  (repeat' split) <;> simp
set_option maxHeartbeats 4000000 in
set_option maxRecDepth 100000 in
theorem c_L_setPatience {l : Launch} {D : va_G} {G : zG} {ad : Nat → Nat} (hJ : zInj ad) (hl : l.stackTraces = false) (σ : zM) (fi : fI σ) {pt : Int} (hpt : zB pt) : zKW l D G ad yL_setPatience cL_setPatience 4 (some .int) [(0, 9, 12, 15)] 9 4 [.ref (ad 0), vI pt, .ref (ad 72)] σ (wPo σ (zBk (fSv σ) 8 8 (up2 (gA σ) 0 3 pt)) (mX_setPatience (gA σ) pt) ((gA σ) 0 3)) := by
  have hrx := rx_setPatience σ pt
  intro sz
  refine zw_open hJ (by decide +kernel) (Nat.le_of_ble_eq_true rfl) ?_
  intro p e s0 m args below meth c hsz X F htb hr hlocks
  subst hsz
  refine z_sub [(0, .ref (ad 0)), (1, vI pt), (2, .ref (ad 72))] (zSub_cons rfl (zSub_cons rfl (zSub_cons rfl zSub_nil))) ?_
  refine z_aload_n X dL_setPatience_0 rfl ?_
  refine z_iconst X dL_setPatience_1 ?_
  refine z_aload_n X dL_setPatience_2 rfl ?_
  refine z_iload_n X dL_setPatience_3 rfl ?_
  refine zx_callVI1 X F (c_X3_setPatience hJ hl σ fi hpt) kL_43 rfl (by decide) rfl ⟨(Nat.le_of_ble_eq_true rfl), (Nat.le_of_ble_eq_true rfl)⟩ (Nat.le_of_ble_eq_true rfl) ⟨(Nat.le_of_ble_eq_true rfl), (Nat.le_of_ble_eq_true rfl)⟩ dL_setPatience_4 (fun E σ1 hx => ?_) (fun z σ1 hz => ?_)
  · obtain ⟨e9, hx0, hE⟩ := hx
    rw [e9]
    rcases hrx with hv | hv
    · exact absurd hv hx0
    · have hE : E = zE2 := hE.trans (by rw [hv]; rfl)
      subst hE
      refine zx_catch X F (name := zE2) [] ⟨0, 9, 12, 15⟩ [] (htb.trans rfl) (fun z hz => absurd hz List.not_mem_nil) rfl (by decide) zcl_15 (by decide) rfl zca_2 (tgt := 12) rfl (fun q => ?_)
      refine z_astore_n X dL_setPatience_12 (by decide) ?_
      refine z_iconst X dL_setPatience_13 ?_
      exact zw_iret X hr hlocks dL_setPatience_14 ⟨hv.symm, fun h => absurd h hx0, fun _ => rfl⟩ (Nat.le_of_ble_eq_true rfl) (Nat.le_of_ble_eq_true rfl)
  · obtain ⟨rfl, e9, hx0⟩ := hz
    rw [e9]
    refine z_i2l X dL_setPatience_7 ?_
    refine z_lastore X dL_setPatience_8 ?_
    refine z_goto X 15 dL_setPatience_9 (by decide) ?_
    refine z_iconst X dL_setPatience_15 ?_
    exact zw_iret X hr hlocks dL_setPatience_16 ⟨hx0.symm, fun _ => rfl, fun h => absurd hx0 h⟩ (Nat.le_of_ble_eq_true rfl) (Nat.le_of_ble_eq_true rfl)

theorem rx_isUp (σ : zM) (s : Int) : ((if 0 ≤ s ∧ s ≤ 5 then 0 else 1)) = (0 : Int) ∨ ((if 0 ≤ s ∧ s ≤ 5 then 0 else 1)) = (1 : Int) := by
  split <;> simp
set_option maxHeartbeats 4000000 in
set_option maxRecDepth 100000 in
theorem c_L_isUp {l : Launch} {D : va_G} {G : zG} {ad : Nat → Nat} (hJ : zInj ad) (hl : l.stackTraces = false) (σ : zM) (fi : fI σ) {s : Int} (hs : zB s) : zKW l D G ad yL_isUp cL_isUp 4 (some .int) [(0, 16, 19, 13)] 9 4 [.ref (ad 0), vI s, .ref (ad 72)] σ (wPo σ (σ) ((if 0 ≤ s ∧ s ≤ 5 then 0 else 1)) (if cUp (gA σ) s then 1 else 0)) := by
  have hrx := rx_isUp σ s
  intro sz
  refine zw_open hJ (by decide +kernel) (Nat.le_of_ble_eq_true rfl) ?_
  intro p e s0 m args below meth c hsz X F htb hr hlocks
  subst hsz
  refine z_sub [(0, .ref (ad 0)), (1, vI s), (2, .ref (ad 72))] (zSub_cons rfl (zSub_cons rfl (zSub_cons rfl zSub_nil))) ?_
  refine z_aload_n X dL_isUp_0 rfl ?_
  refine z_iconst X dL_isUp_1 ?_
  refine z_aload_n X dL_isUp_2 rfl ?_
  refine z_iload_n X dL_isUp_3 rfl ?_
  refine zx_callVI1 X F (c_X3_isUp hJ hl σ fi hs) kL_46 rfl (by decide) rfl ⟨(Nat.le_of_ble_eq_true rfl), (Nat.le_of_ble_eq_true rfl)⟩ (Nat.le_of_ble_eq_true rfl) ⟨(Nat.le_of_ble_eq_true rfl), (Nat.le_of_ble_eq_true rfl)⟩ dL_isUp_4 (fun E σ1 hx => ?_) (fun z σ1 hz => ?_)
  · obtain ⟨e9, hx0, hE⟩ := hx
    rw [e9]
    rcases hrx with hv | hv
    · exact absurd hv hx0
    · have hE : E = zE1 := hE.trans (by rw [hv]; rfl)
      subst hE
      refine zx_catch X F (name := zE1) [] ⟨0, 16, 19, 13⟩ [] (htb.trans rfl) (fun z hz => absurd hz List.not_mem_nil) rfl (by decide) zcl_13 (by decide) rfl zca_1 (tgt := 19) rfl (fun q => ?_)
      refine z_astore_n X dL_isUp_19 (by decide) ?_
      refine z_iconst X dL_isUp_20 ?_
      exact zw_iret X hr hlocks dL_isUp_21 ⟨hv.symm, fun h => absurd h hx0, fun _ => rfl⟩ (Nat.le_of_ble_eq_true rfl) (Nat.le_of_ble_eq_true rfl)
  · obtain ⟨rfl, e9, hx0⟩ := hz
    rw [e9]
    refine z_ifb_eq X 14 dL_isUp_7 (by decide) (fun hu => ?_) (fun hu => ?_)
    · refine z_lconst X 0 dL_isUp_14 rfl ?_
      refine z_lastore X dL_isUp_15 ?_
      refine z_goto X 22 dL_isUp_16 (by decide) ?_
      refine z_iconst X dL_isUp_22 ?_
      exact zw_iret X hr hlocks dL_isUp_23 ⟨hx0.symm, fun _ => (by rw [if_neg hu]; rfl), fun h => absurd hx0 h⟩ (Nat.le_of_ble_eq_true rfl) (Nat.le_of_ble_eq_true rfl)
    · refine z_lconst X 1 dL_isUp_10 rfl ?_
      refine z_goto X 15 dL_isUp_11 (by decide) ?_
      refine z_lastore X dL_isUp_15 ?_
      refine z_goto X 22 dL_isUp_16 (by decide) ?_
      refine z_iconst X dL_isUp_22 ?_
      exact zw_iret X hr hlocks dL_isUp_23 ⟨hx0.symm, fun _ => (by rw [if_pos hu]; rfl), fun h => absurd hx0 h⟩ (Nat.le_of_ble_eq_true rfl) (Nat.le_of_ble_eq_true rfl)

theorem rx_state (σ : zM) (d : Int) (s : Int) : ((if cHas (gA σ) d ∧ (0 ≤ s ∧ s ≤ 5) then 0 else 1)) = (0 : Int) ∨ ((if cHas (gA σ) d ∧ (0 ≤ s ∧ s ≤ 5) then 0 else 1)) = (1 : Int) := by
  split <;> simp
set_option maxHeartbeats 4000000 in
set_option maxRecDepth 100000 in
theorem c_L_state {l : Launch} {D : va_G} {G : zG} {ad : Nat → Nat} (hJ : zInj ad) (hl : l.stackTraces = false) (σ : zM) (fi : fI σ) {d : Int} (hd : zB d) {s : Int} (hs : zB s) : zKW l D G ad yL_state cL_state 5 (some .int) [(0, 10, 13, 13)] 9 4 [.ref (ad 0), vI d, vI s, .ref (ad 72)] σ (wPo σ (σ) ((if cHas (gA σ) d ∧ (0 ≤ s ∧ s ≤ 5) then 0 else 1)) (cSt (gA σ) d s)) := by
  have hrx := rx_state σ d s
  intro sz
  refine zw_open hJ (by decide +kernel) (Nat.le_of_ble_eq_true rfl) ?_
  intro p e s0 m args below meth c hsz X F htb hr hlocks
  subst hsz
  refine z_sub [(0, .ref (ad 0)), (1, vI d), (2, vI s), (3, .ref (ad 72))] (zSub_cons rfl (zSub_cons rfl (zSub_cons rfl (zSub_cons rfl zSub_nil)))) ?_
  refine z_aload_n X dL_state_0 rfl ?_
  refine z_iconst X dL_state_1 ?_
  refine z_aload_n X dL_state_2 rfl ?_
  refine z_iload_n X dL_state_3 rfl ?_
  refine z_iload_n X dL_state_4 rfl ?_
  refine zx_callVI2 X F (c_X3_state hJ hl σ fi hd hs) kL_50 rfl (by decide) rfl ⟨(Nat.le_of_ble_eq_true rfl), (Nat.le_of_ble_eq_true rfl)⟩ (Nat.le_of_ble_eq_true rfl) ⟨(Nat.le_of_ble_eq_true rfl), (Nat.le_of_ble_eq_true rfl)⟩ dL_state_5 (fun E σ1 hx => ?_) (fun z σ1 hz => ?_)
  · obtain ⟨e9, hx0, hE⟩ := hx
    rw [e9]
    rcases hrx with hv | hv
    · exact absurd hv hx0
    · have hE : E = zE1 := hE.trans (by rw [hv]; rfl)
      subst hE
      refine zx_catch X F (name := zE1) [] ⟨0, 10, 13, 13⟩ [] (htb.trans rfl) (fun z hz => absurd hz List.not_mem_nil) rfl (by decide) zcl_13 (by decide) rfl zca_1 (tgt := 13) rfl (fun q => ?_)
      refine z_astore X dL_state_13 (by decide) ?_
      refine z_iconst X dL_state_15 ?_
      exact zw_iret X hr hlocks dL_state_16 ⟨hv.symm, fun h => absurd h hx0, fun _ => rfl⟩ (Nat.le_of_ble_eq_true rfl) (Nat.le_of_ble_eq_true rfl)
  · obtain ⟨rfl, e9, hx0⟩ := hz
    rw [e9]
    refine z_i2l X dL_state_8 ?_
    refine z_lastore X dL_state_9 ?_
    refine z_goto X 17 dL_state_10 (by decide) ?_
    refine z_iconst X dL_state_17 ?_
    exact zw_iret X hr hlocks dL_state_18 ⟨hx0.symm, fun _ => rfl, fun h => absurd hx0 h⟩ (Nat.le_of_ble_eq_true rfl) (Nat.le_of_ble_eq_true rfl)

theorem rx_decision (σ : zM) (d : Int) : ((if cHas (gA σ) d then 0 else 1)) = (0 : Int) ∨ ((if cHas (gA σ) d then 0 else 1)) = (1 : Int) := by
  split <;> simp
set_option maxHeartbeats 4000000 in
set_option maxRecDepth 100000 in
theorem c_L_decision {l : Launch} {D : va_G} {G : zG} {ad : Nat → Nat} (hJ : zInj ad) (hl : l.stackTraces = false) (σ : zM) (fi : fI σ) {d : Int} (hd : zB d) : zKW l D G ad yL_decision cL_decision 4 (some .int) [(0, 9, 12, 13)] 9 4 [.ref (ad 0), vI d, .ref (ad 72)] σ (wPo σ (σ) ((if cHas (gA σ) d then 0 else 1)) (cDec (gA σ) d)) := by
  have hrx := rx_decision σ d
  intro sz
  refine zw_open hJ (by decide +kernel) (Nat.le_of_ble_eq_true rfl) ?_
  intro p e s0 m args below meth c hsz X F htb hr hlocks
  subst hsz
  refine z_sub [(0, .ref (ad 0)), (1, vI d), (2, .ref (ad 72))] (zSub_cons rfl (zSub_cons rfl (zSub_cons rfl zSub_nil))) ?_
  refine z_aload_n X dL_decision_0 rfl ?_
  refine z_iconst X dL_decision_1 ?_
  refine z_aload_n X dL_decision_2 rfl ?_
  refine z_iload_n X dL_decision_3 rfl ?_
  refine zx_callVI1 X F (c_X3_decision hJ hl σ fi hd) kL_53 rfl (by decide) rfl ⟨(Nat.le_of_ble_eq_true rfl), (Nat.le_of_ble_eq_true rfl)⟩ (Nat.le_of_ble_eq_true rfl) ⟨(Nat.le_of_ble_eq_true rfl), (Nat.le_of_ble_eq_true rfl)⟩ dL_decision_4 (fun E σ1 hx => ?_) (fun z σ1 hz => ?_)
  · obtain ⟨e9, hx0, hE⟩ := hx
    rw [e9]
    rcases hrx with hv | hv
    · exact absurd hv hx0
    · have hE : E = zE1 := hE.trans (by rw [hv]; rfl)
      subst hE
      refine zx_catch X F (name := zE1) [] ⟨0, 9, 12, 13⟩ [] (htb.trans rfl) (fun z hz => absurd hz List.not_mem_nil) rfl (by decide) zcl_13 (by decide) rfl zca_1 (tgt := 12) rfl (fun q => ?_)
      refine z_astore_n X dL_decision_12 (by decide) ?_
      refine z_iconst X dL_decision_13 ?_
      exact zw_iret X hr hlocks dL_decision_14 ⟨hv.symm, fun h => absurd h hx0, fun _ => rfl⟩ (Nat.le_of_ble_eq_true rfl) (Nat.le_of_ble_eq_true rfl)
  · obtain ⟨rfl, e9, hx0⟩ := hz
    rw [e9]
    refine z_i2l X dL_decision_7 ?_
    refine z_lastore X dL_decision_8 ?_
    refine z_goto X 15 dL_decision_9 (by decide) ?_
    refine z_iconst X dL_decision_15 ?_
    exact zw_iret X hr hlocks dL_decision_16 ⟨hx0.symm, fun _ => rfl, fun h => absurd hx0 h⟩ (Nat.le_of_ble_eq_true rfl) (Nat.le_of_ble_eq_true rfl)

theorem rx_leader (σ : zM) (d : Int) : ((if cHas (gA σ) d then 0 else 1)) = (0 : Int) ∨ ((if cHas (gA σ) d then 0 else 1)) = (1 : Int) := by
  split <;> simp
set_option maxHeartbeats 4000000 in
set_option maxRecDepth 100000 in
theorem c_L_leader {l : Launch} {D : va_G} {G : zG} {ad : Nat → Nat} (hJ : zInj ad) (hl : l.stackTraces = false) (σ : zM) (fi : fI σ) {d : Int} (hd : zB d) : zKW l D G ad yL_leader cL_leader 4 (some .int) [(0, 9, 12, 13)] 9 4 [.ref (ad 0), vI d, .ref (ad 72)] σ (wPo σ (σ) ((if cHas (gA σ) d then 0 else 1)) (cLead (gA σ) d)) := by
  have hrx := rx_leader σ d
  intro sz
  refine zw_open hJ (by decide +kernel) (Nat.le_of_ble_eq_true rfl) ?_
  intro p e s0 m args below meth c hsz X F htb hr hlocks
  subst hsz
  refine z_sub [(0, .ref (ad 0)), (1, vI d), (2, .ref (ad 72))] (zSub_cons rfl (zSub_cons rfl (zSub_cons rfl zSub_nil))) ?_
  refine z_aload_n X dL_leader_0 rfl ?_
  refine z_iconst X dL_leader_1 ?_
  refine z_aload_n X dL_leader_2 rfl ?_
  refine z_iload_n X dL_leader_3 rfl ?_
  refine zx_callVI1 X F (c_X3_leader hJ hl σ fi hd) kL_56 rfl (by decide) rfl ⟨(Nat.le_of_ble_eq_true rfl), (Nat.le_of_ble_eq_true rfl)⟩ (Nat.le_of_ble_eq_true rfl) ⟨(Nat.le_of_ble_eq_true rfl), (Nat.le_of_ble_eq_true rfl)⟩ dL_leader_4 (fun E σ1 hx => ?_) (fun z σ1 hz => ?_)
  · obtain ⟨e9, hx0, hE⟩ := hx
    rw [e9]
    rcases hrx with hv | hv
    · exact absurd hv hx0
    · have hE : E = zE1 := hE.trans (by rw [hv]; rfl)
      subst hE
      refine zx_catch X F (name := zE1) [] ⟨0, 9, 12, 13⟩ [] (htb.trans rfl) (fun z hz => absurd hz List.not_mem_nil) rfl (by decide) zcl_13 (by decide) rfl zca_1 (tgt := 12) rfl (fun q => ?_)
      refine z_astore_n X dL_leader_12 (by decide) ?_
      refine z_iconst X dL_leader_13 ?_
      exact zw_iret X hr hlocks dL_leader_14 ⟨hv.symm, fun h => absurd h hx0, fun _ => rfl⟩ (Nat.le_of_ble_eq_true rfl) (Nat.le_of_ble_eq_true rfl)
  · obtain ⟨rfl, e9, hx0⟩ := hz
    rw [e9]
    refine z_i2l X dL_leader_7 ?_
    refine z_lastore X dL_leader_8 ?_
    refine z_goto X 15 dL_leader_9 (by decide) ?_
    refine z_iconst X dL_leader_15 ?_
    exact zw_iret X hr hlocks dL_leader_16 ⟨hx0.symm, fun _ => rfl, fun h => absurd hx0 h⟩ (Nat.le_of_ble_eq_true rfl) (Nat.le_of_ble_eq_true rfl)

theorem rx_patience (σ : zM) (d : Int) (s : Int) : ((if cHas (gA σ) d ∧ (0 ≤ s ∧ s ≤ 5) then 0 else 1)) = (0 : Int) ∨ ((if cHas (gA σ) d ∧ (0 ≤ s ∧ s ≤ 5) then 0 else 1)) = (1 : Int) := by
  split <;> simp
set_option maxHeartbeats 4000000 in
set_option maxRecDepth 100000 in
theorem c_L_patience {l : Launch} {D : va_G} {G : zG} {ad : Nat → Nat} (hJ : zInj ad) (hl : l.stackTraces = false) (σ : zM) (fi : fI σ) {d : Int} (hd : zB d) {s : Int} (hs : zB s) : zKW l D G ad yL_patience cL_patience 5 (some .int) [(0, 10, 13, 13)] 9 4 [.ref (ad 0), vI d, vI s, .ref (ad 72)] σ (wPo σ (σ) ((if cHas (gA σ) d ∧ (0 ≤ s ∧ s ≤ 5) then 0 else 1)) (cPat (gA σ) d s)) := by
  have hrx := rx_patience σ d s
  intro sz
  refine zw_open hJ (by decide +kernel) (Nat.le_of_ble_eq_true rfl) ?_
  intro p e s0 m args below meth c hsz X F htb hr hlocks
  subst hsz
  refine z_sub [(0, .ref (ad 0)), (1, vI d), (2, vI s), (3, .ref (ad 72))] (zSub_cons rfl (zSub_cons rfl (zSub_cons rfl (zSub_cons rfl zSub_nil)))) ?_
  refine z_aload_n X dL_patience_0 rfl ?_
  refine z_iconst X dL_patience_1 ?_
  refine z_aload_n X dL_patience_2 rfl ?_
  refine z_iload_n X dL_patience_3 rfl ?_
  refine z_iload_n X dL_patience_4 rfl ?_
  refine zx_callVI2 X F (c_X3_patience hJ hl σ fi hd hs) kL_59 rfl (by decide) rfl ⟨(Nat.le_of_ble_eq_true rfl), (Nat.le_of_ble_eq_true rfl)⟩ (Nat.le_of_ble_eq_true rfl) ⟨(Nat.le_of_ble_eq_true rfl), (Nat.le_of_ble_eq_true rfl)⟩ dL_patience_5 (fun E σ1 hx => ?_) (fun z σ1 hz => ?_)
  · obtain ⟨e9, hx0, hE⟩ := hx
    rw [e9]
    rcases hrx with hv | hv
    · exact absurd hv hx0
    · have hE : E = zE1 := hE.trans (by rw [hv]; rfl)
      subst hE
      refine zx_catch X F (name := zE1) [] ⟨0, 10, 13, 13⟩ [] (htb.trans rfl) (fun z hz => absurd hz List.not_mem_nil) rfl (by decide) zcl_13 (by decide) rfl zca_1 (tgt := 13) rfl (fun q => ?_)
      refine z_astore X dL_patience_13 (by decide) ?_
      refine z_iconst X dL_patience_15 ?_
      exact zw_iret X hr hlocks dL_patience_16 ⟨hv.symm, fun h => absurd h hx0, fun _ => rfl⟩ (Nat.le_of_ble_eq_true rfl) (Nat.le_of_ble_eq_true rfl)
  · obtain ⟨rfl, e9, hx0⟩ := hz
    rw [e9]
    refine z_i2l X dL_patience_8 ?_
    refine z_lastore X dL_patience_9 ?_
    refine z_goto X 17 dL_patience_10 (by decide) ?_
    refine z_iconst X dL_patience_17 ?_
    exact zw_iret X hr hlocks dL_patience_18 ⟨hx0.symm, fun _ => rfl, fun h => absurd hx0 h⟩ (Nat.le_of_ble_eq_true rfl) (Nat.le_of_ble_eq_true rfl)

theorem rx_logLength (σ : zM) (s : Int) : ((if 0 ≤ s ∧ s ≤ 5 then 0 else 1)) = (0 : Int) ∨ ((if 0 ≤ s ∧ s ≤ 5 then 0 else 1)) = (1 : Int) := by
  split <;> simp
set_option maxHeartbeats 4000000 in
set_option maxRecDepth 100000 in
theorem c_L_logLength {l : Launch} {D : va_G} {G : zG} {ad : Nat → Nat} (hJ : zInj ad) (hl : l.stackTraces = false) (σ : zM) (fi : fI σ) {s : Int} (hs : zB s) : zKW l D G ad yL_logLength cL_logLength 4 (some .int) [(0, 9, 12, 13)] 9 4 [.ref (ad 0), vI s, .ref (ad 72)] σ (wPo σ (σ) ((if 0 ≤ s ∧ s ≤ 5 then 0 else 1)) (cEnt (gA σ) s)) := by
  have hrx := rx_logLength σ s
  intro sz
  refine zw_open hJ (by decide +kernel) (Nat.le_of_ble_eq_true rfl) ?_
  intro p e s0 m args below meth c hsz X F htb hr hlocks
  subst hsz
  refine z_sub [(0, .ref (ad 0)), (1, vI s), (2, .ref (ad 72))] (zSub_cons rfl (zSub_cons rfl (zSub_cons rfl zSub_nil))) ?_
  refine z_aload_n X dL_logLength_0 rfl ?_
  refine z_iconst X dL_logLength_1 ?_
  refine z_aload_n X dL_logLength_2 rfl ?_
  refine z_iload_n X dL_logLength_3 rfl ?_
  refine zx_callVI1 X F (c_X3_logLength hJ hl σ fi hs) kL_62 rfl (by decide) rfl ⟨(Nat.le_of_ble_eq_true rfl), (Nat.le_of_ble_eq_true rfl)⟩ (Nat.le_of_ble_eq_true rfl) ⟨(Nat.le_of_ble_eq_true rfl), (Nat.le_of_ble_eq_true rfl)⟩ dL_logLength_4 (fun E σ1 hx => ?_) (fun z σ1 hz => ?_)
  · obtain ⟨e9, hx0, hE⟩ := hx
    rw [e9]
    rcases hrx with hv | hv
    · exact absurd hv hx0
    · have hE : E = zE1 := hE.trans (by rw [hv]; rfl)
      subst hE
      refine zx_catch X F (name := zE1) [] ⟨0, 9, 12, 13⟩ [] (htb.trans rfl) (fun z hz => absurd hz List.not_mem_nil) rfl (by decide) zcl_13 (by decide) rfl zca_1 (tgt := 12) rfl (fun q => ?_)
      refine z_astore_n X dL_logLength_12 (by decide) ?_
      refine z_iconst X dL_logLength_13 ?_
      exact zw_iret X hr hlocks dL_logLength_14 ⟨hv.symm, fun h => absurd h hx0, fun _ => rfl⟩ (Nat.le_of_ble_eq_true rfl) (Nat.le_of_ble_eq_true rfl)
  · obtain ⟨rfl, e9, hx0⟩ := hz
    rw [e9]
    refine z_i2l X dL_logLength_7 ?_
    refine z_lastore X dL_logLength_8 ?_
    refine z_goto X 15 dL_logLength_9 (by decide) ?_
    refine z_iconst X dL_logLength_15 ?_
    exact zw_iret X hr hlocks dL_logLength_16 ⟨hx0.symm, fun _ => rfl, fun h => absurd hx0 h⟩ (Nat.le_of_ble_eq_true rfl) (Nat.le_of_ble_eq_true rfl)

theorem rx_log (σ : zM) (s : Int) (i : Int) : ((if (0 ≤ s ∧ s ≤ 5) ∧ 0 ≤ i then 0 else 1)) = (0 : Int) ∨ ((if (0 ≤ s ∧ s ≤ 5) ∧ 0 ≤ i then 0 else 1)) = (1 : Int) := by
  split <;> simp
set_option maxHeartbeats 4000000 in
set_option maxRecDepth 100000 in
theorem c_L_log {l : Launch} {D : va_G} {G : zG} {ad : Nat → Nat} (hJ : zInj ad) (hl : l.stackTraces = false) (σ : zM) (fi : fI σ) {s : Int} (hs : zB s) {i : Int} (hi : zB i) : zKW l D G ad yL_log cL_log 5 (some .int) [(0, 10, 13, 13)] 9 4 [.ref (ad 0), vI s, vI i, .ref (ad 72)] σ (wPo σ (σ) ((if (0 ≤ s ∧ s ≤ 5) ∧ 0 ≤ i then 0 else 1)) (cEntry (gA σ) s i)) := by
  have hrx := rx_log σ s i
  intro sz
  refine zw_open hJ (by decide +kernel) (Nat.le_of_ble_eq_true rfl) ?_
  intro p e s0 m args below meth c hsz X F htb hr hlocks
  subst hsz
  refine z_sub [(0, .ref (ad 0)), (1, vI s), (2, vI i), (3, .ref (ad 72))] (zSub_cons rfl (zSub_cons rfl (zSub_cons rfl (zSub_cons rfl zSub_nil)))) ?_
  refine z_aload_n X dL_log_0 rfl ?_
  refine z_iconst X dL_log_1 ?_
  refine z_aload_n X dL_log_2 rfl ?_
  refine z_iload_n X dL_log_3 rfl ?_
  refine z_iload_n X dL_log_4 rfl ?_
  refine zx_callVI2 X F (c_X3_log hJ hl σ fi hs hi) kL_65 rfl (by decide) rfl ⟨(Nat.le_of_ble_eq_true rfl), (Nat.le_of_ble_eq_true rfl)⟩ (Nat.le_of_ble_eq_true rfl) ⟨(Nat.le_of_ble_eq_true rfl), (Nat.le_of_ble_eq_true rfl)⟩ dL_log_5 (fun E σ1 hx => ?_) (fun z σ1 hz => ?_)
  · obtain ⟨e9, hx0, hE⟩ := hx
    rw [e9]
    rcases hrx with hv | hv
    · exact absurd hv hx0
    · have hE : E = zE1 := hE.trans (by rw [hv]; rfl)
      subst hE
      refine zx_catch X F (name := zE1) [] ⟨0, 10, 13, 13⟩ [] (htb.trans rfl) (fun z hz => absurd hz List.not_mem_nil) rfl (by decide) zcl_13 (by decide) rfl zca_1 (tgt := 13) rfl (fun q => ?_)
      refine z_astore X dL_log_13 (by decide) ?_
      refine z_iconst X dL_log_15 ?_
      exact zw_iret X hr hlocks dL_log_16 ⟨hv.symm, fun h => absurd h hx0, fun _ => rfl⟩ (Nat.le_of_ble_eq_true rfl) (Nat.le_of_ble_eq_true rfl)
  · obtain ⟨rfl, e9, hx0⟩ := hz
    rw [e9]
    refine z_i2l X dL_log_8 ?_
    refine z_lastore X dL_log_9 ?_
    refine z_goto X 17 dL_log_10 (by decide) ?_
    refine z_iconst X dL_log_17 ?_
    exact zw_iret X hr hlocks dL_log_18 ⟨hx0.symm, fun _ => rfl, fun h => absurd hx0 h⟩ (Nat.le_of_ble_eq_true rfl) (Nat.le_of_ble_eq_true rfl)

theorem rx_held (σ : zM) (s : Int) : ((if 0 ≤ s ∧ s ≤ 5 then 0 else 1)) = (0 : Int) ∨ ((if 0 ≤ s ∧ s ≤ 5 then 0 else 1)) = (1 : Int) := by
  split <;> simp
set_option maxHeartbeats 4000000 in
set_option maxRecDepth 100000 in
theorem c_L_held {l : Launch} {D : va_G} {G : zG} {ad : Nat → Nat} (hJ : zInj ad) (hl : l.stackTraces = false) (σ : zM) (fi : fI σ) {s : Int} (hs : zB s) : zKW l D G ad yL_held cL_held 4 (some .int) [(0, 9, 12, 13)] 9 4 [.ref (ad 0), vI s, .ref (ad 72)] σ (wPo σ (σ) ((if 0 ≤ s ∧ s ≤ 5 then 0 else 1)) (cHeld (gA σ) s ((gA σ) 0 0).toNat)) := by
  have hrx := rx_held σ s
  intro sz
  refine zw_open hJ (by decide +kernel) (Nat.le_of_ble_eq_true rfl) ?_
  intro p e s0 m args below meth c hsz X F htb hr hlocks
  subst hsz
  refine z_sub [(0, .ref (ad 0)), (1, vI s), (2, .ref (ad 72))] (zSub_cons rfl (zSub_cons rfl (zSub_cons rfl zSub_nil))) ?_
  refine z_aload_n X dL_held_0 rfl ?_
  refine z_iconst X dL_held_1 ?_
  refine z_aload_n X dL_held_2 rfl ?_
  refine z_iload_n X dL_held_3 rfl ?_
  refine zx_callVI1 X F (c_X3_held hJ hl σ fi hs) kL_68 rfl (by decide) rfl ⟨(Nat.le_of_ble_eq_true rfl), (Nat.le_of_ble_eq_true rfl)⟩ (Nat.le_of_ble_eq_true rfl) ⟨(Nat.le_of_ble_eq_true rfl), (Nat.le_of_ble_eq_true rfl)⟩ dL_held_4 (fun E σ1 hx => ?_) (fun z σ1 hz => ?_)
  · obtain ⟨e9, hx0, hE⟩ := hx
    rw [e9]
    rcases hrx with hv | hv
    · exact absurd hv hx0
    · have hE : E = zE1 := hE.trans (by rw [hv]; rfl)
      subst hE
      refine zx_catch X F (name := zE1) [] ⟨0, 9, 12, 13⟩ [] (htb.trans rfl) (fun z hz => absurd hz List.not_mem_nil) rfl (by decide) zcl_13 (by decide) rfl zca_1 (tgt := 12) rfl (fun q => ?_)
      refine z_astore_n X dL_held_12 (by decide) ?_
      refine z_iconst X dL_held_13 ?_
      exact zw_iret X hr hlocks dL_held_14 ⟨hv.symm, fun h => absurd h hx0, fun _ => rfl⟩ (Nat.le_of_ble_eq_true rfl) (Nat.le_of_ble_eq_true rfl)
  · obtain ⟨rfl, e9, hx0⟩ := hz
    rw [e9]
    refine z_i2l X dL_held_7 ?_
    refine z_lastore X dL_held_8 ?_
    refine z_goto X 15 dL_held_9 (by decide) ?_
    refine z_iconst X dL_held_15 ?_
    exact zw_iret X hr hlocks dL_held_16 ⟨hx0.symm, fun _ => rfl, fun h => absurd hx0 h⟩ (Nat.le_of_ble_eq_true rfl) (Nat.le_of_ble_eq_true rfl)

theorem rx_reason (σ : zM) (d : Int) (s : Int) : ((if cHas (gA σ) d ∧ (0 ≤ s ∧ s ≤ 5) then 0 else 1)) = (0 : Int) ∨ ((if cHas (gA σ) d ∧ (0 ≤ s ∧ s ≤ 5) then 0 else 1)) = (1 : Int) := by
  split <;> simp
set_option maxHeartbeats 4000000 in
set_option maxRecDepth 100000 in
theorem c_L_reason {l : Launch} {D : va_G} {G : zG} {ad : Nat → Nat} (hJ : zInj ad) (hl : l.stackTraces = false) (σ : zM) (fi : fI σ) {d : Int} (hd : zB d) {s : Int} (hs : zB s) : zKW l D G ad yL_reason cL_reason 5 (some .int) [(0, 10, 13, 13)] 9 4 [.ref (ad 0), vI d, vI s, .ref (ad 72)] σ (wPo σ (σ) ((if cHas (gA σ) d ∧ (0 ≤ s ∧ s ≤ 5) then 0 else 1)) (cReas (gA σ) d s)) := by
  have hrx := rx_reason σ d s
  intro sz
  refine zw_open hJ (by decide +kernel) (Nat.le_of_ble_eq_true rfl) ?_
  intro p e s0 m args below meth c hsz X F htb hr hlocks
  subst hsz
  refine z_sub [(0, .ref (ad 0)), (1, vI d), (2, vI s), (3, .ref (ad 72))] (zSub_cons rfl (zSub_cons rfl (zSub_cons rfl (zSub_cons rfl zSub_nil)))) ?_
  refine z_aload_n X dL_reason_0 rfl ?_
  refine z_iconst X dL_reason_1 ?_
  refine z_aload_n X dL_reason_2 rfl ?_
  refine z_iload_n X dL_reason_3 rfl ?_
  refine z_iload_n X dL_reason_4 rfl ?_
  refine zx_callVI2 X F (c_X3_reason hJ hl σ fi hd hs) kL_71 rfl (by decide) rfl ⟨(Nat.le_of_ble_eq_true rfl), (Nat.le_of_ble_eq_true rfl)⟩ (Nat.le_of_ble_eq_true rfl) ⟨(Nat.le_of_ble_eq_true rfl), (Nat.le_of_ble_eq_true rfl)⟩ dL_reason_5 (fun E σ1 hx => ?_) (fun z σ1 hz => ?_)
  · obtain ⟨e9, hx0, hE⟩ := hx
    rw [e9]
    rcases hrx with hv | hv
    · exact absurd hv hx0
    · have hE : E = zE1 := hE.trans (by rw [hv]; rfl)
      subst hE
      refine zx_catch X F (name := zE1) [] ⟨0, 10, 13, 13⟩ [] (htb.trans rfl) (fun z hz => absurd hz List.not_mem_nil) rfl (by decide) zcl_13 (by decide) rfl zca_1 (tgt := 13) rfl (fun q => ?_)
      refine z_astore X dL_reason_13 (by decide) ?_
      refine z_iconst X dL_reason_15 ?_
      exact zw_iret X hr hlocks dL_reason_16 ⟨hv.symm, fun h => absurd h hx0, fun _ => rfl⟩ (Nat.le_of_ble_eq_true rfl) (Nat.le_of_ble_eq_true rfl)
  · obtain ⟨rfl, e9, hx0⟩ := hz
    rw [e9]
    refine z_i2l X dL_reason_8 ?_
    refine z_lastore X dL_reason_9 ?_
    refine z_goto X 17 dL_reason_10 (by decide) ?_
    refine z_iconst X dL_reason_17 ?_
    exact zw_iret X hr hlocks dL_reason_18 ⟨hx0.symm, fun _ => rfl, fun h => absurd hx0 h⟩ (Nat.le_of_ble_eq_true rfl) (Nat.le_of_ble_eq_true rfl)

theorem rx_helper (σ : zM) (d : Int) (s : Int) : ((if cHas (gA σ) d ∧ (0 ≤ s ∧ s ≤ 5) then 0 else 1)) = (0 : Int) ∨ ((if cHas (gA σ) d ∧ (0 ≤ s ∧ s ≤ 5) then 0 else 1)) = (1 : Int) := by
  split <;> simp
set_option maxHeartbeats 4000000 in
set_option maxRecDepth 100000 in
theorem c_L_helper {l : Launch} {D : va_G} {G : zG} {ad : Nat → Nat} (hJ : zInj ad) (hl : l.stackTraces = false) (σ : zM) (fi : fI σ) {d : Int} (hd : zB d) {s : Int} (hs : zB s) : zKW l D G ad yL_helper cL_helper 5 (some .int) [(0, 10, 13, 13)] 9 4 [.ref (ad 0), vI d, vI s, .ref (ad 72)] σ (wPo σ (σ) ((if cHas (gA σ) d ∧ (0 ≤ s ∧ s ≤ 5) then 0 else 1)) (cHelp (gA σ) d s)) := by
  have hrx := rx_helper σ d s
  intro sz
  refine zw_open hJ (by decide +kernel) (Nat.le_of_ble_eq_true rfl) ?_
  intro p e s0 m args below meth c hsz X F htb hr hlocks
  subst hsz
  refine z_sub [(0, .ref (ad 0)), (1, vI d), (2, vI s), (3, .ref (ad 72))] (zSub_cons rfl (zSub_cons rfl (zSub_cons rfl (zSub_cons rfl zSub_nil)))) ?_
  refine z_aload_n X dL_helper_0 rfl ?_
  refine z_iconst X dL_helper_1 ?_
  refine z_aload_n X dL_helper_2 rfl ?_
  refine z_iload_n X dL_helper_3 rfl ?_
  refine z_iload_n X dL_helper_4 rfl ?_
  refine zx_callVI2 X F (c_X3_helper hJ hl σ fi hd hs) kL_74 rfl (by decide) rfl ⟨(Nat.le_of_ble_eq_true rfl), (Nat.le_of_ble_eq_true rfl)⟩ (Nat.le_of_ble_eq_true rfl) ⟨(Nat.le_of_ble_eq_true rfl), (Nat.le_of_ble_eq_true rfl)⟩ dL_helper_5 (fun E σ1 hx => ?_) (fun z σ1 hz => ?_)
  · obtain ⟨e9, hx0, hE⟩ := hx
    rw [e9]
    rcases hrx with hv | hv
    · exact absurd hv hx0
    · have hE : E = zE1 := hE.trans (by rw [hv]; rfl)
      subst hE
      refine zx_catch X F (name := zE1) [] ⟨0, 10, 13, 13⟩ [] (htb.trans rfl) (fun z hz => absurd hz List.not_mem_nil) rfl (by decide) zcl_13 (by decide) rfl zca_1 (tgt := 13) rfl (fun q => ?_)
      refine z_astore X dL_helper_13 (by decide) ?_
      refine z_iconst X dL_helper_15 ?_
      exact zw_iret X hr hlocks dL_helper_16 ⟨hv.symm, fun h => absurd h hx0, fun _ => rfl⟩ (Nat.le_of_ble_eq_true rfl) (Nat.le_of_ble_eq_true rfl)
  · obtain ⟨rfl, e9, hx0⟩ := hz
    rw [e9]
    refine z_i2l X dL_helper_8 ?_
    refine z_lastore X dL_helper_9 ?_
    refine z_goto X 17 dL_helper_10 (by decide) ?_
    refine z_iconst X dL_helper_17 ?_
    exact zw_iret X hr hlocks dL_helper_18 ⟨hx0.symm, fun _ => rfl, fun h => absurd hx0 h⟩ (Nat.le_of_ble_eq_true rfl) (Nat.le_of_ble_eq_true rfl)

theorem rx_ticksToEnd (σ : zM) (d : Int) (s : Int) : ((if cHas (gA σ) d ∧ (0 ≤ s ∧ s ≤ 5) then 0 else 1)) = (0 : Int) ∨ ((if cHas (gA σ) d ∧ (0 ≤ s ∧ s ≤ 5) then 0 else 1)) = (1 : Int) := by
  split <;> simp
set_option maxHeartbeats 4000000 in
set_option maxRecDepth 100000 in
theorem c_L_ticksToEnd {l : Launch} {D : va_G} {G : zG} {ad : Nat → Nat} (hJ : zInj ad) (hl : l.stackTraces = false) (σ : zM) (fi : fI σ) {d : Int} (hd : zB d) {s : Int} (hs : zB s) : zKW l D G ad yL_ticksToEnd cL_ticksToEnd 5 (some .int) [(0, 10, 13, 13)] 9 4 [.ref (ad 0), vI d, vI s, .ref (ad 72)] σ (fun z σ9 => z = ((if cHas (gA σ) d ∧ (0 ≤ s ∧ s ≤ 5) then 0 else 1)) ∧ (((if cHas (gA σ) d ∧ (0 ≤ s ∧ s ≤ 5) then 0 else 1)) = (0 : Int) → ∃ W, σ9 = zSL (zBk σ 16 8 W) 72 0 (iI (cTte (gA σ) d s)).toInt64) ∧ (((if cHas (gA σ) d ∧ (0 ≤ s ∧ s ≤ 5) then 0 else 1)) ≠ (0 : Int) → σ9 = σ)) := by
  have hrx := rx_ticksToEnd σ d s
  intro sz
  refine zw_open hJ (by decide +kernel) (Nat.le_of_ble_eq_true rfl) ?_
  intro p e s0 m args below meth c hsz X F htb hr hlocks
  subst hsz
  refine z_sub [(0, .ref (ad 0)), (1, vI d), (2, vI s), (3, .ref (ad 72))] (zSub_cons rfl (zSub_cons rfl (zSub_cons rfl (zSub_cons rfl zSub_nil)))) ?_
  refine z_aload_n X dL_ticksToEnd_0 rfl ?_
  refine z_iconst X dL_ticksToEnd_1 ?_
  refine z_aload_n X dL_ticksToEnd_2 rfl ?_
  refine z_iload_n X dL_ticksToEnd_3 rfl ?_
  refine z_iload_n X dL_ticksToEnd_4 rfl ?_
  refine zx_callVI2 X F (c_X3_ticksToEnd hJ hl σ fi hd hs) kL_77 rfl (by decide) rfl ⟨(Nat.le_of_ble_eq_true rfl), (Nat.le_of_ble_eq_true rfl)⟩ (Nat.le_of_ble_eq_true rfl) ⟨(Nat.le_of_ble_eq_true rfl), (Nat.le_of_ble_eq_true rfl)⟩ dL_ticksToEnd_5 (fun E σ1 hx => ?_) (fun z σ1 hz => ?_)
  · obtain ⟨e9, hx0, hE⟩ := hx
    rw [e9]
    rcases hrx with hv | hv
    · exact absurd hv hx0
    · have hE : E = zE1 := hE.trans (by rw [hv]; rfl)
      subst hE
      refine zx_catch X F (name := zE1) [] ⟨0, 10, 13, 13⟩ [] (htb.trans rfl) (fun z hz => absurd hz List.not_mem_nil) rfl (by decide) zcl_13 (by decide) rfl zca_1 (tgt := 13) rfl (fun q => ?_)
      refine z_astore X dL_ticksToEnd_13 (by decide) ?_
      refine z_iconst X dL_ticksToEnd_15 ?_
      exact zw_iret X hr hlocks dL_ticksToEnd_16 ⟨hv.symm, fun h => absurd h hx0, fun _ => rfl⟩ (Nat.le_of_ble_eq_true rfl) (Nat.le_of_ble_eq_true rfl)
  · obtain ⟨rfl, ⟨W, e9⟩, hx0⟩ := hz
    rw [e9]
    refine z_i2l X dL_ticksToEnd_8 ?_
    refine z_lastore X dL_ticksToEnd_9 ?_
    refine z_goto X 17 dL_ticksToEnd_10 (by decide) ?_
    refine z_iconst X dL_ticksToEnd_17 ?_
    exact zw_iret X hr hlocks dL_ticksToEnd_18 ⟨hx0.symm, fun _ => ⟨W, rfl⟩, fun h => absurd hx0 h⟩ (Nat.le_of_ble_eq_true rfl) (Nat.le_of_ble_eq_true rfl)

theorem rx_append (σ : zM) (x : Int) : (tX_app (gT σ) x) = (0 : Int) ∨ (tX_app (gT σ) x) = (1 : Int) ∨ (tX_app (gT σ) x) = (2 : Int) := by
  unfold tX_app
  (repeat' split) <;> simp
set_option maxHeartbeats 4000000 in
set_option maxRecDepth 100000 in
theorem c_L_append {l : Launch} {D : va_G} {G : zG} {ad : Nat → Nat} (hJ : zInj ad) (hl : l.stackTraces = false) (σ : zM) (fi : fI σ) {x : Int} (hx : zB x) : zKW l D G ad yL_append cL_append 4 (some .int) [(0, 9, 12, 15), (0, 9, 15, 17)] 9 4 [.ref (ad 0), vI x, .ref (ad 72)] σ (wPo σ (zBk σ 3 2 (tAddN (gT σ) x)) (tX_app (gT σ) x) ((tAddN (gT σ) x) 0 1)) := by
  have hrx := rx_append σ x
  intro sz
  refine zw_open hJ (by decide +kernel) (Nat.le_of_ble_eq_true rfl) ?_
  intro p e s0 m args below meth c hsz X F htb hr hlocks
  subst hsz
  refine z_sub [(0, .ref (ad 0)), (1, vI x), (2, .ref (ad 72))] (zSub_cons rfl (zSub_cons rfl (zSub_cons rfl zSub_nil))) ?_
  refine z_aload_n X dL_append_0 rfl ?_
  refine z_iconst X dL_append_1 ?_
  refine z_aload_n X dL_append_2 rfl ?_
  refine z_iload_n X dL_append_3 rfl ?_
  refine zx_callVI1 X F (c_X3_append hJ hl σ fi hx) kL_80 rfl (by decide) rfl ⟨(Nat.le_of_ble_eq_true rfl), (Nat.le_of_ble_eq_true rfl)⟩ (Nat.le_of_ble_eq_true rfl) ⟨(Nat.le_of_ble_eq_true rfl), (Nat.le_of_ble_eq_true rfl)⟩ dL_append_4 (fun E σ1 hx => ?_) (fun z σ1 hz => ?_)
  · obtain ⟨e9, hx0, hE⟩ := hx
    rw [e9]
    rcases hrx with hv | hv | hv
    · exact absurd hv hx0
    · have hE : E = zE2 := hE.trans (by rw [hv]; rfl)
      subst hE
      refine zx_catch X F (name := zE2) [] ⟨0, 9, 12, 15⟩ [⟨0, 9, 15, 17⟩] (htb.trans rfl) (fun z hz => absurd hz List.not_mem_nil) rfl (by decide) zcl_15 (by decide) rfl zca_2 (tgt := 12) rfl (fun q => ?_)
      refine z_astore_n X dL_append_12 (by decide) ?_
      refine z_iconst X dL_append_13 ?_
      exact zw_iret X hr hlocks dL_append_14 ⟨hv.symm, fun h => absurd h hx0, fun _ => rfl⟩ (Nat.le_of_ble_eq_true rfl) (Nat.le_of_ble_eq_true rfl)
    · have hE : E = zE3 := hE.trans (by rw [hv]; rfl)
      subst hE
      refine zx_catch X F (name := zE3) [⟨0, 9, 12, 15⟩] ⟨0, 9, 15, 17⟩ [] (htb.trans rfl) (fun z hz => by rcases List.mem_singleton.mp hz with rfl; exact ⟨by decide, zE2, zcl_15, by decide, by decide⟩) rfl (by decide) zcl_17 (by decide) rfl zca_3 (tgt := 15) rfl (fun q => ?_)
      refine z_astore_n X dL_append_15 (by decide) ?_
      refine z_iconst X dL_append_16 ?_
      exact zw_iret X hr hlocks dL_append_17 ⟨hv.symm, fun h => absurd h hx0, fun _ => rfl⟩ (Nat.le_of_ble_eq_true rfl) (Nat.le_of_ble_eq_true rfl)
  · obtain ⟨rfl, e9, hx0⟩ := hz
    rw [e9]
    refine z_i2l X dL_append_7 ?_
    refine z_lastore X dL_append_8 ?_
    refine z_goto X 18 dL_append_9 (by decide) ?_
    refine z_iconst X dL_append_18 ?_
    exact zw_iret X hr hlocks dL_append_19 ⟨hx0.symm, fun _ => rfl, fun h => absurd hx0 h⟩ (Nat.le_of_ble_eq_true rfl) (Nat.le_of_ble_eq_true rfl)

theorem rx_run (σ : zM)  : (if tCom (gT σ) then 0 else 1) = (0 : Int) ∨ (if tCom (gT σ) then 0 else 1) = (1 : Int) := by
  split <;> simp
set_option maxHeartbeats 4000000 in
set_option maxRecDepth 100000 in
theorem c_L_run {l : Launch} {D : va_G} {G : zG} {ad : Nat → Nat} (hJ : zInj ad) (hl : l.stackTraces = false) (σ : zM) (fi : fI σ)  : zKW l D G ad yL_run cL_run 3 (some .int) [(0, 8, 11, 15)] 9 4 [.ref (ad 0), .ref (ad 72)] σ (wPo σ (zBk (zBk (fSv σ) 8 8 ((cRl (gT σ) (gT σ 0 1 + 1).toNat 0 0 (gA σ)).2)) 3 2 (up2 (gT σ) 0 1 0)) (if tCom (gT σ) then 0 else 1) ((cRl (gT σ) (gT σ 0 1 + 1).toNat 0 0 (gA σ)).1)) := by
  have hrx := rx_run σ 
  intro sz
  refine zw_open hJ (by decide +kernel) (Nat.le_of_ble_eq_true rfl) ?_
  intro p e s0 m args below meth c hsz X F htb hr hlocks
  subst hsz
  refine z_sub [(0, .ref (ad 0)), (1, .ref (ad 72))] (zSub_cons rfl (zSub_cons rfl zSub_nil)) ?_
  refine z_aload_n X dL_run_0 rfl ?_
  refine z_iconst X dL_run_1 ?_
  refine z_aload_n X dL_run_2 rfl ?_
  refine zx_callVI0 X F (c_X3_run hJ hl σ fi ) kL_83 rfl (by decide) rfl ⟨(Nat.le_of_ble_eq_true rfl), (Nat.le_of_ble_eq_true rfl)⟩ (Nat.le_of_ble_eq_true rfl) ⟨(Nat.le_of_ble_eq_true rfl), (Nat.le_of_ble_eq_true rfl)⟩ dL_run_3 (fun E σ1 hx => ?_) (fun z σ1 hz => ?_)
  · obtain ⟨e9, hx0, hE⟩ := hx
    rw [e9]
    rcases hrx with hv | hv
    · exact absurd hv hx0
    · have hE : E = zE2 := hE.trans (by rw [hv]; rfl)
      subst hE
      refine zx_catch X F (name := zE2) [] ⟨0, 8, 11, 15⟩ [] (htb.trans rfl) (fun z hz => absurd hz List.not_mem_nil) rfl (by decide) zcl_15 (by decide) rfl zca_2 (tgt := 11) rfl (fun q => ?_)
      refine z_astore_n X dL_run_11 (by decide) ?_
      refine z_iconst X dL_run_12 ?_
      exact zw_iret X hr hlocks dL_run_13 ⟨hv.symm, fun h => absurd h hx0, fun _ => rfl⟩ (Nat.le_of_ble_eq_true rfl) (Nat.le_of_ble_eq_true rfl)
  · obtain ⟨rfl, e9, hx0⟩ := hz
    rw [e9]
    refine z_i2l X dL_run_6 ?_
    refine z_lastore X dL_run_7 ?_
    refine z_goto X 14 dL_run_8 (by decide) ?_
    refine z_iconst X dL_run_14 ?_
    exact zw_iret X hr hlocks dL_run_15 ⟨hx0.symm, fun _ => rfl, fun h => absurd hx0 h⟩ (Nat.le_of_ble_eq_true rfl) (Nat.le_of_ble_eq_true rfl)

theorem rx_undo (σ : zM)  : (if (gH σ) 0 1 = 0 then 1 else 0) = (0 : Int) ∨ (if (gH σ) 0 1 = 0 then 1 else 0) = (1 : Int) := by
  split <;> simp
set_option maxHeartbeats 4000000 in
set_option maxRecDepth 100000 in
theorem c_L_undo {l : Launch} {D : va_G} {G : zG} {ad : Nat → Nat} (hJ : zInj ad) (hl : l.stackTraces = false) (σ : zM) (fi : fI σ)  : zKW l D G ad yL_undo cL_undo 3 (some .int) [(0, 8, 11, 17)] 9 4 [.ref (ad 0), .ref (ad 72)] σ (wPo σ (zBk (zBk σ 8 8 (zRd σ ((gH σ) 1 ((gH σ) 0 1 - 1).toNat).toNat)) 1 2 (up2 (gH σ) 0 1 ((gH σ) 0 1 - 1))) (if (gH σ) 0 1 = 0 then 1 else 0) ((gH σ) 0 1 - 1)) := by
  have hrx := rx_undo σ 
  intro sz
  refine zw_open hJ (by decide +kernel) (Nat.le_of_ble_eq_true rfl) ?_
  intro p e s0 m args below meth c hsz X F htb hr hlocks
  subst hsz
  refine z_sub [(0, .ref (ad 0)), (1, .ref (ad 72))] (zSub_cons rfl (zSub_cons rfl zSub_nil)) ?_
  refine z_aload_n X dL_undo_0 rfl ?_
  refine z_iconst X dL_undo_1 ?_
  refine z_aload_n X dL_undo_2 rfl ?_
  refine zx_callVI0 X F (c_X3_undo hJ hl σ fi ) kL_87 rfl (by decide) rfl ⟨(Nat.le_of_ble_eq_true rfl), (Nat.le_of_ble_eq_true rfl)⟩ (Nat.le_of_ble_eq_true rfl) ⟨(Nat.le_of_ble_eq_true rfl), (Nat.le_of_ble_eq_true rfl)⟩ dL_undo_3 (fun E σ1 hx => ?_) (fun z σ1 hz => ?_)
  · obtain ⟨e9, hx0, hE⟩ := hx
    rw [e9]
    rcases hrx with hv | hv
    · exact absurd hv hx0
    · have hE : E = zE3 := hE.trans (by rw [hv]; rfl)
      subst hE
      refine zx_catch X F (name := zE3) [] ⟨0, 8, 11, 17⟩ [] (htb.trans rfl) (fun z hz => absurd hz List.not_mem_nil) rfl (by decide) zcl_17 (by decide) rfl zca_3 (tgt := 11) rfl (fun q => ?_)
      refine z_astore_n X dL_undo_11 (by decide) ?_
      refine z_iconst X dL_undo_12 ?_
      exact zw_iret X hr hlocks dL_undo_13 ⟨hv.symm, fun h => absurd h hx0, fun _ => rfl⟩ (Nat.le_of_ble_eq_true rfl) (Nat.le_of_ble_eq_true rfl)
  · obtain ⟨rfl, e9, hx0⟩ := hz
    rw [e9]
    refine z_i2l X dL_undo_6 ?_
    refine z_lastore X dL_undo_7 ?_
    refine z_goto X 14 dL_undo_8 (by decide) ?_
    refine z_iconst X dL_undo_14 ?_
    exact zw_iret X hr hlocks dL_undo_15 ⟨hx0.symm, fun _ => rfl, fun h => absurd hx0 h⟩ (Nat.le_of_ble_eq_true rfl) (Nat.le_of_ble_eq_true rfl)
