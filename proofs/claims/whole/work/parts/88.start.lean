/-! THE START: from the law's entry to its loop -/
theorem st_str : ∀ q ∈ zStrs, Cond.stringRef RX3 q.1 q.2 ∈ lw_tbl := by decide +kernel
theorem st_ex : ∀ q ∈ zStrs, Cond.exactly (.string RX3 q.1) "java/lang/String" ∈ flatC (Jvm.Cond.and given_1 narrow_1) := by decide +kernel
theorem st_nc : ∀ x ∈ zEs, ∀ y ∈ zEs, x ≠ y → Cond.not (.castable x y) ∈ flatC (Jvm.Cond.and given_1 narrow_1) := by decide +kernel
theorem st_sU : Cond.isRef (.static Bundle.tN "UNASSIGNED_STACK" Bundle.steD) ∈ flatC (Jvm.Cond.and given_1 narrow_1) := by decide +kernel
theorem st_sS : Cond.isRef (.static Bundle.tN "SUPPRESSED_SENTINEL" Bundle.listD) ∈ flatC (Jvm.Cond.and given_1 narrow_1) := by decide +kernel
theorem st_nil {D : va_G} {H : Heap} : va_P D vwCl [] H := fun k q hk => by cases hk
theorem st_nilD {A : Nat → Prop} : va_D A [] := ⟨fun i j p q hi _ _ => (by cases hi), fun k q hk => (by cases hk)⟩
theorem st_K {s : State} {args : Array Value} (hts : ∀ w ∈ lw_tbl, w.before args s = true) : ∃ (D : va_G) (G : zG), va_K D vwCl (zT G) s := by
  have hz : ∀ w ∈ zU, w.before args s = true := fun w hw => hts w (List.mem_filter.mp hw).1
  obtain ⟨c0, i0, k0⟩ := u_known hz zwu_X0 (hz _ w_X0)
  obtain ⟨c1, i1, k1⟩ := u_known hz zwu_X1 (hz _ w_X1)
  obtain ⟨c2, i2, k2⟩ := u_known hz zwu_X2 (hz _ w_X2)
  obtain ⟨c3, i3, k3⟩ := u_known hz zwu_X3 (hz _ w_X3)
  obtain ⟨c4, i4, k4⟩ := u_known hz zwu_X4 (hz _ w_X4)
  obtain ⟨cA, kA, comp, f1, f2, f3⟩ := Cond.arrayClass_spec (hz _ u_Ai)
  obtain ⟨cL, kL, comL, l1, l2, l3⟩ := Cond.arrayClass_spec (hz _ u_Al)
  obtain ⟨comO, cO, kO, o1, o2, o3, o4, o5⟩ := Cond.arrayOver_spec (hts (.arrayOver (.object RX2)) (List.mem_of_getElem? (i := 127) (by decide +kernel)))
  refine ⟨(fun k => match k with | 0 => c0 | 1 => c1 | 2 => c2 | 3 => c3 | _ => c4, fun k => match k with | 0 => i0 | 1 => i1 | 2 => i2 | 3 => i3 | _ => i4), (cA, cO, cL), fun k q hk => ?_, fun k q hk => ?_⟩
  · match k, hk with
    | 0, hk => cases hk; exact k0
    | 1, hk => cases hk; exact k1
    | 2, hk => cases hk; exact k2
    | 3, hk => cases hk; exact k3
    | 4, hk => cases hk; exact k4
  · match k, hk with
    | 0, hk => cases hk; exact ⟨fun n z => ⟨fun k h => (by cases h), kA, f2, comp, f3⟩, f1⟩
    | 1, hk => cases hk; exact ⟨fun n z => ⟨fun k h => (by cases h), kO, o3, comO, o4⟩, kO, comO, o3, o4, o1, o5⟩
    | 2, hk => cases hk; exact ⟨fun n z => ⟨fun k h => (by cases h), kL, l2, comL, l3⟩, l1⟩
theorem st_N {s : State} {args : Array Value} (hts : ∀ w ∈ lw_tbl, w.before args s = true) : iN s ∧ zNst s :=
  ⟨⟨hts (.methodLinkNest RX3 11 yX2_init RX3) (List.mem_of_getElem? (i := 81) (by decide +kernel)), hts (.methodLinkNest RX1 21 yX2_init RX3) (List.mem_of_getElem? (i := 128) (by decide +kernel)), hts (.methodLinkNest RX3 28 yX0_init RX3) (List.mem_of_getElem? (i := 138) (by decide +kernel)), va_AO.of (hts (.arrayOver (.object RX2)) (List.mem_of_getElem? (i := 127) (by decide +kernel)))⟩, hts (.methodLinkNest RX2 72 yX3_isSite RX3) (List.mem_of_getElem? (i := 312) (by decide +kernel))⟩
theorem st_X {s : State} {args : Array Value} {ad : Nat → Nat} (hts : ∀ w ∈ lw_tbl, w.before args s = true) (hgv : (Jvm.Cond.and given_1 narrow_1).before args s = true) (hA : ∀ k, k < 73 → s.heap.size ≤ ad k) : zXf ad s.heap.size s s.heap := by
  have hs := flat_of_before _ hgv
  have hn : ∀ a : Nat, a < s.heap.size → ¬ zA ad s.heap.size a := fun a ha h => by
    rcases h with ⟨k, hk, e⟩ | h
    · have := hA k hk; omega
    · omega
  refine ⟨⟨vx_Zqof (hts (.laysStatic Bundle.tN "UNASSIGNED_STACK" Bundle.steD) (List.mem_of_getElem? (i := 372) (by decide +kernel))) (hts (.initialized Bundle.tN) (List.mem_of_getElem? (i := 62) (by decide +kernel))) (hs _ st_sU) hn, vx_Zqof (hts (.laysStatic Bundle.tN "SUPPRESSED_SENTINEL" Bundle.listD) (List.mem_of_getElem? (i := 374) (by decide +kernel))) (hts (.initialized Bundle.tN) (List.mem_of_getElem? (i := 62) (by decide +kernel))) (hs _ st_sS) hn⟩, fun q hq => ?_, fun x hx y hy hxy => va_Nc.of (hs _ (st_nc x hx y hy hxy)), fun w hw hc => ?_⟩
  · obtain ⟨a, _, _, _, h1, -⟩ := Cond.exactly_spec (hs _ (st_ex q hq))
    exact ⟨a, vk_R.of (hts _ (st_str q hq)) h1⟩
  · cases w <;> first | exact hts _ hw | (simp [zCD] at hc; done)
set_option maxHeartbeats 4000000 in
set_option maxRecDepth 100000 in
theorem lw_begin {p : Program} {en : Env} {s : State} {m : MethodId} {below : List Frame} {meth : Method} {c : Code} (l : Launch) (hflags : l.flags = flags0) {b L : Nat} {xs : Nat → Int32} (hL : L ≤ 2048) (hx : p.tables.exec = Jvm.exec) (hb : c.code = code) (hml : c.maxLocals = 9) (hown : s.vm.findClass RL = some m.cls) (hts : ∀ w ∈ lw_tbl, w.before #[Value.ref b] s = true) (hX : va_X b L xs s s.heap) (hbl : b < s.heap.size) (hgv : (Jvm.Cond.and given_1 narrow_1).before #[Value.ref b] s = true) {Q : State → Prop} (hend : ∀ (H : Heap) (ls : Array Slot), W p l en room_1 s m #[Value.ref b] below meth c H [] 601024 7293034 Q (F0 m 1776 ls [.int 1])) : W p l en room_1 s m #[Value.ref b] below meth c s.heap [] 0 0 Q (entryFrame m ([Value.ref b] : List Value).toArray 9) := by
  have hl : l.stackTraces = false := by unfold Launch.stackTraces; rw [hflags]; decide
  obtain ⟨D, G, hK⟩ := st_K hts
  have hNN := st_N hts
  have hz : ∀ w ∈ zU, w.before #[Value.ref b] s = true := fun w hw => hts w (List.mem_filter.mp hw).1
  have X0 : iX p s m #[Value.ref b] c code 9 RL D G (fun q => s.heap.size ≤ q) := ⟨hx, hb, hml, hown, hz, hK, fun q h => h, hNN.1⟩
  have h0 := lv_entry [.ref b] (n := 9) (Nat.le_of_ble_eq_true rfl)
  rw [lg_entry_eq]
  have start : iV p l en room_1 s m #[Value.ref b] below meth c 9 D (fun q => s.heap.size ≤ q) 0 0 Q 0 (lv_args 0 [.ref b]) [] [] := by
    refine i_mk X0 ci_X3 zwu_X3 tyX3_ok (zU_mem 71 (by decide +kernel) (by decide +kernel)) w_X3 u_iniX3 rfl w_fX3 ⟨Or.inl (zU_mem 73 (by decide +kernel) (by decide +kernel)), rfl, w_cX3, w_iX3⟩ rfl w_dX3 ⟨(Nat.le_of_ble_eq_true rfl), (Nat.le_of_ble_eq_true rfl)⟩ (Nat.le_of_ble_eq_true rfl) ⟨(Nat.le_of_ble_eq_true rfl), (Nat.le_of_ble_eq_true rfl)⟩ dL_law_0 dL_law_3 dL_law_4 (fun w0 u0 => ?_)
    refine i_astore_n X0 dL_law_7 (by decide) ?_
    refine i_mk X0 ci_X4 zwu_X4 tyX4_ok (zU_mem 795 (by decide +kernel) (by decide +kernel)) w_X4 u_iniX4 rfl w_fX4 ⟨Or.inl (zU_mem 797 (by decide +kernel) (by decide +kernel)), rfl, w_cX4, w_iX4⟩ rfl w_dX4 ⟨(Nat.le_of_ble_eq_true rfl), (Nat.le_of_ble_eq_true rfl)⟩ (Nat.le_of_ble_eq_true rfl) ⟨(Nat.le_of_ble_eq_true rfl), (Nat.le_of_ble_eq_true rfl)⟩ dL_law_8 dL_law_11 dL_law_12 (fun w5 u5 => ?_)
    refine i_astore_n X0 dL_law_15 (by decide) ?_
    refine i_iconst X0 dL_law_16 ?_
    refine i_newl X0 u_Al (Nat.le_of_ble_eq_true rfl) (Nat.le_of_ble_eq_true rfl) dL_law_17 (fun w72 => ?_)
    refine i_astore_n X0 dL_law_19 (by decide) ?_
    refine i_iconst X0 dL_law_20 ?_
    intro ls H locs h hP hD hS
    refine lv_istore hx hb dL_law_21 h (by decide) rfl (fun ls' h' => ?_)
    have hP : va_P D vwCl (wsT G w0 u0 w5 u5 w72) H := hP
    have hD : va_D (fun q => s.heap.size ≤ q) (wsT G w0 u0 w5 u5 w72) := hD
    obtain ⟨hJ, hA⟩ := sw_J hD
    have hPz := sw_P hP
    obtain ⟨ad, had⟩ : ∃ ad, ad = adF w0 u0 w5 u5 w72 := ⟨_, rfl⟩
    have hlv : ∀ (i : Nat) (v : Value), zL (zF1 4 (vI 0) (zF1 3 (.ref w72) (zF1 2 (.ref w5) (zF1 1 (.ref w0) (lv_args 0 [.ref b]))))) i = some v → zL (zF1 4 (vI 0) (zF1 3 (.ref w72) (zF1 2 (.ref w5) (zF1 1 (.ref w0) (lv_args 0 [.ref b]))))) i = some v := fun _ _ h => h
    have e0 : ad 0 = w0 := by rw [had]; rfl
    have e5 : ad 5 = w5 := by rw [had]; rfl
    have e72 : ad 72 = w72 := by rw [had]; rfl
    rw [← had] at hJ hA hPz
    have X : zX p s m #[Value.ref b] c cL_law 9 RL D G ad := ⟨hx, hb, hml, hown, hz, hK, hJ, hNN.2⟩
    have hnA : ¬ zA ad s.heap.size b := fun q => by
      rcases q with ⟨k, hk, e⟩ | q
      · have := hA k hk; omega
      · omega
    have Wl : zLw p s m b c D G ad L xs := ⟨X, st_X hts hgv hA, hX, hbl, hnA, hL⟩
    have hS1 : va_S (zA ad s.heap.size) s.heap H locs := ⟨hS.1, fun q h1 h2 => hS.2.1 q h1 (fun z => h2 (Or.inr z)), fun q hq => Or.inr (hS.2.2 q hq)⟩
    have lp := lw_loop (l := l) (en := en) (below := below) (meth := meth) (Q := Q) Wl hJ hl (fun i σ2 c2 s2 hc hs ls H locs h hP hS => ?_) 512 sg0 0 (0 + 1 + 68 + 1 + 2 + 1) (0 + 4 + 2318 + 11 + 2316 + 1) gI_0 (by omega) (by omega) ⟨(Nat.le_of_ble_eq_true rfl), (Nat.le_of_ble_eq_true rfl)⟩
    · refine z_sub (lwL b ad 0) (lwSub ?_ ?_ ?_ ?_ ?_) lp ls' H locs h' hPz hS1
      · rfl
      · rw [e0]; rfl
      · rw [e5]; rfl
      · rw [e72]; rfl
      · rfl
    · refine z_iconst X dL_law_1775 (fun ls H locs h hP hS => ?_) ls H locs h hP hS
      refine va_forget (fun q hq => ?_) (W.widen hc hs (hend H ls))
      rcases hS.2.2 q hq with ⟨k, hk, e⟩ | z
      · rw [e]; exact hA k hk
      · exact z
  exact start _ s.heap [] h0 st_nil st_nilD va_S.rf
