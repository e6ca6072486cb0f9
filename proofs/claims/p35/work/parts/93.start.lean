/-! THE START: from the law's entry to its loop -/
theorem st_nil {D : va_G} {H : Heap} : va_P D vwCl [] H := fun k q hk => by cases hk
theorem st_nilD {A : Nat → Prop} : va_D A [] := ⟨fun i j p q hi _ _ => (by cases hi), fun k q hk => (by cases hk)⟩
theorem st_K {s : State} {args : Array Value} (hts : ∀ w ∈ lw_tbl, w.before args s = true) : ∃ (D : va_G) (G : zG), va_K D vwCl (zT G) s := by
  have hz : ∀ w ∈ zU, w.before args s = true := fun w hw => hts w (List.mem_filter.mp hw).1
  obtain ⟨c0, i0, k0⟩ := u_known hz zwu_X0 (hz _ w_X0)
  obtain ⟨c1, i1, k1⟩ := u_known hz zwu_X1 (hz _ w_X1)
  obtain ⟨c2, i2, k2⟩ := u_known hz zwu_X2 (hz _ w_X2)
  obtain ⟨c3, i3, k3⟩ := u_known hz zwu_X3 (hz _ w_X3)
  obtain ⟨cA, kA, comp, f1, f2, f3⟩ := Cond.arrayClass_spec (hz _ u_Ai)
  obtain ⟨comO, cO, kO, o1, o2, o3, o4, o5⟩ := Cond.arrayOver_spec (hts (.arrayOver (.object RX2)) (List.mem_of_getElem? (i := 84) (by decide +kernel)))
  refine ⟨(fun k => match k with | 0 => c0 | 1 => c1 | 2 => c2 | _ => c3, fun k => match k with | 0 => i0 | 1 => i1 | 2 => i2 | _ => i3), (cA, cO, cA), fun k q hk => ?_, fun k q hk => ?_⟩
  · match k, hk with
    | 0, hk => cases hk; exact k0
    | 1, hk => cases hk; exact k1
    | 2, hk => cases hk; exact k2
    | 3, hk => cases hk; exact k3
  · match k, hk with
    | 0, hk => cases hk; exact ⟨fun n z => ⟨fun k h => (by cases h), kA, f2, comp, f3⟩, f1⟩
    | 1, hk => cases hk; exact ⟨fun n z => ⟨fun k h => (by cases h), kO, o3, comO, o4⟩, kO, comO, o3, o4, o1, o5⟩
theorem st_N {s : State} {args : Array Value} (hts : ∀ w ∈ lw_tbl, w.before args s = true) : iN s ∧ zNst s :=
  ⟨⟨hts (.methodLinkNest RX3 11 yX2_init RX3) (List.mem_of_getElem? (i := 38) (by decide +kernel)), hts (.methodLinkNest RX1 21 yX2_init RX3) (List.mem_of_getElem? (i := 85) (by decide +kernel)), hts (.methodLinkNest RX3 28 yX0_init RX3) (List.mem_of_getElem? (i := 95) (by decide +kernel)), va_AO.of (hts (.arrayOver (.object RX2)) (List.mem_of_getElem? (i := 84) (by decide +kernel)))⟩, hts (.methodLinkNest RX2 72 yX3_isSite RX3) (List.mem_of_getElem? (i := 292) (by decide +kernel))⟩
set_option maxHeartbeats 4000000 in
set_option maxRecDepth 100000 in
theorem lw_begin {p : Program} {en : Env} {s : State} {m : MethodId} {below : List Frame} {meth : Method} {c : Code} (l : Launch) {b L : Nat} {xs : Nat → Int32} (hL : L ≤ 260) (hx : p.tables.exec = Jvm.exec) (hb : c.code = code) (hml : c.maxLocals = 15) (hown : s.vm.findClass RL = some m.cls) (hts : ∀ w ∈ lw_tbl, w.before #[Value.ref b] s = true) (hX : va_X b L xs s s.heap) (hbl : b < s.heap.size) {Q : State → Prop} (hend : ∀ (H : Heap) (ls : Array Slot), W p l en room_1 s m #[Value.ref b] below meth c H [] 600130 7301080 Q (F0 m 284 ls [.int 1])) : W p l en room_1 s m #[Value.ref b] below meth c s.heap [] 0 0 Q (entryFrame m ([Value.ref b] : List Value).toArray 15) := by
  obtain ⟨D, G, hK⟩ := st_K hts
  have hNN := st_N hts
  have hz : ∀ w ∈ zU, w.before #[Value.ref b] s = true := fun w hw => hts w (List.mem_filter.mp hw).1
  have X0 : iX p s m #[Value.ref b] c code 15 RL D G (fun q => s.heap.size ≤ q) := ⟨hx, hb, hml, hown, hz, hK, fun q h => h, hNN.1⟩
  have h0 := lv_entry [.ref b] (n := 15) (Nat.le_of_ble_eq_true rfl)
  rw [lg_entry_eq]
  have start : iV p l en room_1 s m #[Value.ref b] below meth c 15 D (fun q => s.heap.size ≤ q) 0 0 Q 0 (lv_args 0 [.ref b]) [] [] := by
    refine i_mk X0 ci_X3 zwu_X3 tyX3_ok (zU_mem 28 (by decide +kernel) (by decide +kernel)) w_X3 u_iniX3 rfl w_fX3 ⟨Or.inl (zU_mem 30 (by decide +kernel) (by decide +kernel)), rfl, w_cX3, w_iX3⟩ rfl w_dX3 ⟨(Nat.le_of_ble_eq_true rfl), (Nat.le_of_ble_eq_true rfl)⟩ (Nat.le_of_ble_eq_true rfl) ⟨(Nat.le_of_ble_eq_true rfl), (Nat.le_of_ble_eq_true rfl)⟩ dL_law_0 dL_law_3 dL_law_4 (fun w0 u0 => ?_)
    refine i_astore_n X0 dL_law_7 (by decide) ?_
    refine i_bipush X0 dL_law_8 (by decide) ?_
    refine i_newa X0 (N := 48) u_Ai (by decide) (by decide) (Nat.le_of_ble_eq_true rfl) (Nat.le_of_ble_eq_true rfl) (Nat.le_of_ble_eq_true rfl) dL_law_10 (fun w5 => ?_)
    refine i_astore_n X0 dL_law_12 (by decide) ?_
    refine i_bipush X0 dL_law_13 (by decide) ?_
    refine i_newa X0 (N := 8) u_Ai (by decide) (by decide) (Nat.le_of_ble_eq_true rfl) (Nat.le_of_ble_eq_true rfl) (Nat.le_of_ble_eq_true rfl) dL_law_15 (fun w6 => ?_)
    refine i_astore_n X0 dL_law_17 (by decide) ?_
    intro ls H locs h hP hD hS
    have hP : va_P D vwCl (wsT G w0 u0 w5 w6) H := hP
    have hD : va_D (fun q => s.heap.size ≤ q) (wsT G w0 u0 w5 w6) := hD
    obtain ⟨hJ, hA⟩ := sw_J hD
    have hPz := sw_P hP
    obtain ⟨ad, had⟩ : ∃ ad, ad = adF w0 u0 w5 w6 := ⟨_, rfl⟩
    have e0 : ad 0 = w0 := by rw [had]; rfl
    have e5 : ad 5 = w5 := by rw [had]; rfl
    have e6 : ad 6 = w6 := by rw [had]; rfl
    rw [← had] at hJ hA hPz
    have X : zX p s m #[Value.ref b] c cL_law 15 RL D G ad := ⟨hx, hb, hml, hown, hz, hK, hJ, hNN.2⟩
    have hnA : ¬ zA ad s.heap.size b := fun q => by
      rcases q with ⟨k, hk, e⟩ | q
      · have := hA k hk; omega
      · omega
    have hS1 : va_S (zA ad s.heap.size) s.heap H locs := ⟨hS.1, fun q h1 h2 => hS.2.1 q h1 (fun z => h2 (Or.inr z)), fun q hq => Or.inr (hS.2.2 q hq)⟩
    have fin : ∀ (σ : zM) (k n : Nat), k ≤ 600130 → n ≤ 7301080 → zV p l en room_1 s m #[Value.ref b] below meth c 15 D G ad k n Q 284 [] [vI 1] σ := fun σ k n hk hn ls H locs h hP hS => by
      refine va_forget (fun q hq => ?_) (W.widen hk hn (hend H ls))
      rcases hS.2.2 q hq with ⟨k, hk, e⟩ | z
      · rw [e]; exact hA k hk
      · exact z
    have lp : zV p l en room_1 s m #[Value.ref b] below meth c 15 D G ad (0 + 1 + 68 + 1 + 1) (0 + 4 + 2318 + 48 + 8) Q 18 [(0, .ref b), (1, .ref (ad 0)), (2, .ref (ad 5)), (3, .ref (ad 6))] [] sg0 := by
      refine z_aload_n X dL_law_18 rfl ?_
      refine z_callSC X (c_L_holds hJ sg0 g0_fI g0_jN) kL_107 rfl rfl ⟨(Nat.le_of_ble_eq_true rfl), (Nat.le_of_ble_eq_true rfl)⟩ (Nat.le_of_ble_eq_true rfl) ⟨(Nat.le_of_ble_eq_true rfl), (Nat.le_of_ble_eq_true rfl)⟩ dL_law_19 (fun z9 σ1 hz9 => ?_)
      obtain ⟨rfl, rfl⟩ := hz9
      refine z_istore X dL_law_22 (by decide) ?_
      refine z_sub [(0, .ref b), (1, .ref (ad 0)), (2, .ref (ad 5)), (3, .ref (ad 6)), (4, vI 1)] (zSub_cons rfl (zSub_cons rfl (zSub_cons rfl (zSub_cons rfl (zSub_cons rfl zSub_nil))))) ?_
      refine z_iconst X dL_law_24 ?_
      refine z_istore X dL_law_25 (by decide) ?_
      refine z_sub [(0, .ref b), (1, .ref (ad 0)), (2, .ref (ad 5)), (3, .ref (ad 6)), (4, vI 1), (5, vI 0)] (zSub_cons rfl (zSub_cons rfl (zSub_cons rfl (zSub_cons rfl (zSub_cons rfl (zSub_cons rfl zSub_nil)))))) ?_
      exact lw_loop X hJ hX hbl hnA hL fin sg0 lI_0
    refine z_sub [(0, .ref b), (1, .ref (ad 0)), (2, .ref (ad 5)), (3, .ref (ad 6))] (zSub_cons rfl (zSub_cons ?_ (zSub_cons ?_ (zSub_cons ?_ zSub_nil)))) lp ls H locs h hPz hS1
    · rw [e0]; rfl
    · rw [e5]; rfl
    · rw [e6]; rfl
  exact start _ s.heap [] h0 st_nil st_nilD va_S.rf
