theorem cEnt_in {N : zNt} {s i : Int} (ok : cOk N) (h0 : 0 ≤ i) (h1 : i < cEnt N s) : 0 ≤ s ∧ s < 6 ∧ i < 24 := by
  have h := rg_ent ok s
  unfold cEnt at h h1
  split at h1
  · rename_i q; exact ⟨q.1, q.2, by rw [if_pos q] at h; omega⟩
  · omega
set_option maxHeartbeats 4000000 in
set_option maxRecDepth 100000 in
theorem c_X3_isSite {l : Launch} {D : va_G} {G : zG} {ad : Nat → Nat} (hJ : zInj ad) (σ : zM) {s : Int} (hs : zB s)  : zKI l D G ad yX3_isSite cX3_isSite 1 (some .boolean) 0 [vI s] σ (fun z σ9 => z = (if 0 ≤ s ∧ s < 6 then 1 else 0) ∧ σ9 = σ) := by
  intro sz
  refine z_open hJ (by decide +kernel) (Nat.le_of_ble_eq_true rfl) ?_
  intro p e s0 m args below meth c hsz X hr hlocks
  refine z_sub [(0, vI s)] (zSub_cons rfl zSub_nil) ?_
  refine z_iload_n X dX3_isSite_0 rfl ?_
  refine z_if_lt X 14 dX3_isSite_1 (by decide) hs (fun c_1 => ?_) (fun c_1 => ?_)
  · refine z_iconst X dX3_isSite_14 ?_
    exact z_zret X hsz hr hlocks dX3_isSite_15 (Or.inl rfl) ⟨(by first | rfl | ((try simp only [cEnd]); split <;> first | rfl | omega | (exfalso; omega)) | (simp [cEnd, c_1]; done) | (simp_all [cEnd]; done)), rfl⟩
  · refine z_iload_n X dX3_isSite_4 rfl ?_
    refine z_bipush X dX3_isSite_5 rfl ?_
    refine z_icmp_ge X 14 dX3_isSite_7 (by decide) hs ⟨by decide, by decide⟩ (fun c_2 => ?_) (fun c_2 => ?_)
    · refine z_iconst X dX3_isSite_14 ?_
      exact z_zret X hsz hr hlocks dX3_isSite_15 (Or.inl rfl) ⟨(by first | rfl | ((try simp only [cEnd]); split <;> first | rfl | omega | (exfalso; omega)) | (simp [cEnd, c_1, c_2]; done) | (simp_all [cEnd]; done)), rfl⟩
    · refine z_iconst X dX3_isSite_10 ?_
      refine z_goto X 15 dX3_isSite_11 (by decide) ?_
      exact z_zret X hsz hr hlocks dX3_isSite_15 (Or.inr rfl) ⟨(by first | rfl | ((try simp only [cEnd]); split <;> first | rfl | omega | (exfalso; omega)) | (simp [cEnd, c_1, c_2]; done) | (simp_all [cEnd]; done)), rfl⟩

set_option maxHeartbeats 4000000 in
set_option maxRecDepth 100000 in
theorem c_X2_isEnd {l : Launch} {D : va_G} {G : zG} {ad : Nat → Nat} (hJ : zInj ad) (σ : zM) {v : Int} (hv : zB v)  : zKI l D G ad yX2_isEnd cX2_isEnd 1 (some .boolean) 0 [vI v] σ (fun z σ9 => z = (if cEnd v then 1 else 0) ∧ σ9 = σ) := by
  intro sz
  refine z_open hJ (by decide +kernel) (Nat.le_of_ble_eq_true rfl) ?_
  intro p e s0 m args below meth c hsz X hr hlocks
  refine z_sub [(0, vI v)] (zSub_cons rfl zSub_nil) ?_
  refine z_iload_n X dX2_isEnd_0 rfl ?_
  refine z_iconst X dX2_isEnd_1 ?_
  refine z_icmp_eq X 10 dX2_isEnd_2 (by decide) hv ⟨by decide, by decide⟩ (fun c_1 => ?_) (fun c_1 => ?_)
  · refine z_iconst X dX2_isEnd_10 ?_
    refine z_goto X 15 dX2_isEnd_11 (by decide) ?_
    exact z_zret X hsz hr hlocks dX2_isEnd_15 (Or.inr rfl) ⟨(by first | rfl | ((try simp only [cEnd]); split <;> first | rfl | omega | (exfalso; omega)) | (simp [cEnd, c_1]; done) | (simp_all [cEnd]; done)), rfl⟩
  · refine z_iload_n X dX2_isEnd_5 rfl ?_
    refine z_iconst X dX2_isEnd_6 ?_
    refine z_icmp_ne X 14 dX2_isEnd_7 (by decide) hv ⟨by decide, by decide⟩ (fun c_2 => ?_) (fun c_2 => ?_)
    · refine z_iconst X dX2_isEnd_14 ?_
      exact z_zret X hsz hr hlocks dX2_isEnd_15 (Or.inl rfl) ⟨(by first | rfl | ((try simp only [cEnd]); split <;> first | rfl | omega | (exfalso; omega)) | (simp [cEnd, c_1, c_2]; done) | (simp_all [cEnd]; done)), rfl⟩
    · refine z_iconst X dX2_isEnd_10 ?_
      refine z_goto X 15 dX2_isEnd_11 (by decide) ?_
      exact z_zret X hsz hr hlocks dX2_isEnd_15 (Or.inr rfl) ⟨(by first | rfl | ((try simp only [cEnd]); split <;> first | rfl | omega | (exfalso; omega)) | (simp [cEnd, c_1, c_2]; done) | (simp_all [cEnd]; done)), rfl⟩

set_option maxHeartbeats 4000000 in
set_option maxRecDepth 100000 in
theorem c_X2_isAnswer {l : Launch} {D : va_G} {G : zG} {ad : Nat → Nat} (hJ : zInj ad) (σ : zM) {v : Int} (hv : zB v)  : zKI l D G ad yX2_isAnswer cX2_isAnswer 1 (some .boolean) 1 [vI v] σ (fun z σ9 => z = (if cAns v then 1 else 0) ∧ σ9 = σ) := by
  intro sz
  refine z_open hJ (by decide +kernel) (Nat.le_of_ble_eq_true rfl) ?_
  intro p e s0 m args below meth c hsz X hr hlocks
  refine z_sub [(0, vI v)] (zSub_cons rfl zSub_nil) ?_
  refine z_iload_n X dX2_isAnswer_0 rfl ?_
  refine z_if_eq X 11 dX2_isAnswer_1 (by decide) hv (fun c_1 => ?_) (fun c_1 => ?_)
  · refine z_iconst X dX2_isAnswer_11 ?_
    refine z_goto X 16 dX2_isAnswer_12 (by decide) ?_
    exact z_zret X hsz hr hlocks dX2_isAnswer_16 (Or.inr rfl) ⟨(by first | rfl | ((try simp only [cAns]); split <;> first | rfl | omega | (exfalso; omega)) | (simp [cAns, c_1]; done) | (simp_all [cAns]; done)), rfl⟩
  · refine z_iload_n X dX2_isAnswer_4 rfl ?_
    refine z_callSI1 X (c_X2_isEnd hJ _ hv) kX2_69 ⟨(Nat.le_of_ble_eq_true rfl), (Nat.le_of_ble_eq_true rfl)⟩ (Nat.le_of_ble_eq_true rfl) ⟨Nat.zero_le _, Nat.zero_le _⟩ dX2_isAnswer_5 (fun z9 σ1 hz9 => ?_)
    obtain ⟨rfl, rfl⟩ := hz9
    refine z_ifb_eq X 15 dX2_isAnswer_8 (by decide) (fun c_3 => ?_) (fun c_3 => ?_)
    · refine z_iconst X dX2_isAnswer_15 ?_
      exact z_zret X hsz hr hlocks dX2_isAnswer_16 (Or.inl rfl) ⟨(by first | rfl | ((try simp only [cAns]); split <;> first | rfl | omega | (exfalso; omega)) | (simp [cAns, c_1, c_3]; done) | (simp_all [cAns]; done)), rfl⟩
    · refine z_iconst X dX2_isAnswer_11 ?_
      refine z_goto X 16 dX2_isAnswer_12 (by decide) ?_
      exact z_zret X hsz hr hlocks dX2_isAnswer_16 (Or.inr rfl) ⟨(by first | rfl | ((try simp only [cAns]); split <;> first | rfl | omega | (exfalso; omega)) | (simp [cAns, c_1, c_3]; done) | (simp_all [cAns]; done)), rfl⟩

set_option maxHeartbeats 4000000 in
set_option maxRecDepth 100000 in
theorem c_X2_dealCount {l : Launch} {D : va_G} {G : zG} {ad : Nat → Nat} (hJ : zInj ad) {k : Nat} (hk : zNet k) (σ : zM) {N : Nat → Nat → Int}    : zKI l D G ad yX2_dealCount cX2_dealCount 1 (some .int) 0 [.ref (ad k)] (zBk σ k 8 N) (fun z σ9 => z = N 0 0 ∧ σ9 = (zBk σ k 8 N)) := by
  intro sz
  refine z_open hJ (by decide +kernel) (Nat.le_of_ble_eq_true rfl) ?_
  intro p e s0 m args below meth c hsz X hr hlocks
  refine z_sub [(0, .ref (ad k))] (zSub_cons rfl zSub_nil) ?_
  refine z_aload_n X dX2_dealCount_0 rfl ?_
  refine y_gNet0 X hk fX2_9 dX2_dealCount_1 ?_
  exact z_iret X hsz hr hlocks dX2_dealCount_4 ⟨(by first | rfl | ((try simp only [cEnd]); split <;> first | rfl | omega | (exfalso; omega)) | (simp [cEnd]; done) | (simp_all [cEnd]; done)), rfl⟩


set_option maxHeartbeats 4000000 in
set_option maxRecDepth 100000 in
theorem c_X2_hasDeal {l : Launch} {D : va_G} {G : zG} {ad : Nat → Nat} (hJ : zInj ad) {k : Nat} (hk : zNet k) (σ : zM) {N : Nat → Nat → Int} (ok : cOk N) {d : Int} (hd : zB d)  : zKI l D G ad yX2_hasDeal cX2_hasDeal 2 (some .boolean) 0 [.ref (ad k), vI d] (zBk σ k 8 N) (fun z σ9 => z = (if cHas N d then 1 else 0) ∧ σ9 = (zBk σ k 8 N)) := by
  intro sz
  refine z_open hJ (by decide +kernel) (Nat.le_of_ble_eq_true rfl) ?_
  intro p e s0 m args below meth c hsz X hr hlocks
  have hn := ok_n ok
  refine z_sub [(0, .ref (ad k)), (1, vI d)] (zSub_cons rfl (zSub_cons rfl zSub_nil)) ?_
  refine z_iload_n X dX2_hasDeal_0 rfl ?_
  refine z_if_lt X 16 dX2_hasDeal_1 (by decide) hd (fun c_1 => ?_) (fun c_1 => ?_)
  · refine z_iconst X dX2_hasDeal_16 ?_
    exact z_zret X hsz hr hlocks dX2_hasDeal_17 (Or.inl rfl) ⟨(by first | rfl | ((try simp only [cHas]); split <;> first | rfl | omega | (exfalso; omega)) | (simp [cHas, c_1]; done) | (simp_all [cHas]; done)), rfl⟩
  · refine z_iload_n X dX2_hasDeal_4 rfl ?_
    refine z_aload_n X dX2_hasDeal_5 rfl ?_
    refine y_gNet0 X hk fX2_9 dX2_hasDeal_6 ?_
    refine z_icmp_ge X 16 dX2_hasDeal_9 (by decide) hd (zB_sm (ok_n ok)) (fun c_2 => ?_) (fun c_2 => ?_)
    · refine z_iconst X dX2_hasDeal_16 ?_
      exact z_zret X hsz hr hlocks dX2_hasDeal_17 (Or.inl rfl) ⟨(by first | rfl | ((try simp only [cHas]); split <;> first | rfl | omega | (exfalso; omega)) | (simp [cHas, c_1, c_2]; done) | (simp_all [cHas]; done)), rfl⟩
    · refine z_iconst X dX2_hasDeal_12 ?_
      refine z_goto X 17 dX2_hasDeal_13 (by decide) ?_
      exact z_zret X hsz hr hlocks dX2_hasDeal_17 (Or.inr rfl) ⟨(by first | rfl | ((try simp only [cHas]); split <;> first | rfl | omega | (exfalso; omega)) | (simp [cHas, c_1, c_2]; done) | (simp_all [cHas]; done)), rfl⟩

set_option maxHeartbeats 4000000 in
set_option maxRecDepth 100000 in
theorem c_X2_isAwake {l : Launch} {D : va_G} {G : zG} {ad : Nat → Nat} (hJ : zInj ad) {k : Nat} (hk : zNet k) (σ : zM) {N : Nat → Nat → Int} (ok : cOk N) {s : Int} (hs : zB s)  : zKI l D G ad yX2_isAwake cX2_isAwake 2 (some .boolean) 0 [.ref (ad k), vI s] (zBk σ k 8 N) (fun z σ9 => z = (if cUp N s then 1 else 0) ∧ σ9 = (zBk σ k 8 N)) := by
  intro sz
  refine z_open hJ (by decide +kernel) (Nat.le_of_ble_eq_true rfl) ?_
  intro p e s0 m args below meth c hsz X hr hlocks
  have hn := ok_n ok
  refine z_sub [(0, .ref (ad k)), (1, vI s)] (zSub_cons rfl (zSub_cons rfl zSub_nil)) ?_
  refine z_iload_n X dX2_isAwake_0 rfl ?_
  refine z_if_lt X 25 dX2_isAwake_1 (by decide) hs (fun c_1 => ?_) (fun c_1 => ?_)
  · refine z_iconst X dX2_isAwake_25 ?_
    exact z_zret X hsz hr hlocks dX2_isAwake_26 (Or.inl rfl) ⟨(by first | rfl | ((try simp only [cUp]); split <;> first | rfl | omega | (exfalso; omega)) | (simp [cUp, c_1]; done) | (simp_all [cUp]; done)), rfl⟩
  · refine z_iload_n X dX2_isAwake_4 rfl ?_
    refine z_bipush X dX2_isAwake_5 rfl ?_
    refine z_icmp_ge X 25 dX2_isAwake_7 (by decide) hs ⟨by decide, by decide⟩ (fun c_2 => ?_) (fun c_2 => ?_)
    · refine z_iconst X dX2_isAwake_25 ?_
      exact z_zret X hsz hr hlocks dX2_isAwake_26 (Or.inl rfl) ⟨(by first | rfl | ((try simp only [cUp]); split <;> first | rfl | omega | (exfalso; omega)) | (simp [cUp, c_1, c_2]; done) | (simp_all [cUp]; done)), rfl⟩
    · refine z_aload_n X dX2_isAwake_10 rfl ?_
      refine y_gNet1 X hk fX2_15 dX2_isAwake_11 ?_
      refine z_iload_n X dX2_isAwake_14 rfl ?_
      refine z_shr X dX2_isAwake_15 (zShr_eq (N 0 1) s) ?_
      refine z_iconst X dX2_isAwake_16 ?_
      refine z_and X dX2_isAwake_17 (zAnd_eq (zShr (N 0 1) s) 1) ?_
      refine z_if_eq X 25 dX2_isAwake_18 (by decide) (zB_toInt _) (fun c_3 => ?_) (fun c_3 => ?_)
      · refine z_iconst X dX2_isAwake_25 ?_
        exact z_zret X hsz hr hlocks dX2_isAwake_26 (Or.inl rfl) ⟨(by first | rfl | ((try simp only [cUp]); split <;> first | rfl | omega | (exfalso; omega)) | (simp [cUp, c_1, c_2, c_3]; done) | (simp_all [cUp]; done)), rfl⟩
      · refine z_iconst X dX2_isAwake_21 ?_
        refine z_goto X 26 dX2_isAwake_22 (by decide) ?_
        exact z_zret X hsz hr hlocks dX2_isAwake_26 (Or.inr rfl) ⟨(by first | rfl | ((try simp only [cUp]); split <;> first | rfl | omega | (exfalso; omega)) | (simp [cUp, c_1, c_2, c_3]; done) | (simp_all [cUp]; done)), rfl⟩

set_option maxHeartbeats 4000000 in
set_option maxRecDepth 100000 in
theorem c_X2_leaderOf {l : Launch} {D : va_G} {G : zG} {ad : Nat → Nat} (hJ : zInj ad) {k : Nat} (hk : zNet k) (σ : zM) {N : Nat → Nat → Int} (ok : cOk N) {d : Int} (hd : zB d)  : zKI l D G ad yX2_leaderOf cX2_leaderOf 2 (some .int) 1 [.ref (ad k), vI d] (zBk σ k 8 N) (fun z σ9 => z = cLead N d ∧ σ9 = (zBk σ k 8 N)) := by
  intro sz
  refine z_open hJ (by decide +kernel) (Nat.le_of_ble_eq_true rfl) ?_
  intro p e s0 m args below meth c hsz X hr hlocks
  have hn := ok_n ok
  refine z_sub [(0, .ref (ad k)), (1, vI d)] (zSub_cons rfl (zSub_cons rfl zSub_nil)) ?_
  refine z_aload_n X dX2_leaderOf_0 rfl ?_
  refine z_iload_n X dX2_leaderOf_1 rfl ?_
  refine z_callVI1 X (c_X2_hasDeal hJ hk σ ok hd) kX2_62 rfl (zNet_lt hk) (zNet_obj hk ad G _ _) ⟨(Nat.le_of_ble_eq_true rfl), (Nat.le_of_ble_eq_true rfl)⟩ (Nat.le_of_ble_eq_true rfl) ⟨Nat.zero_le _, Nat.zero_le _⟩ dX2_leaderOf_2 (fun z9 σ1 hz9 => ?_)
  obtain ⟨rfl, rfl⟩ := hz9
  refine z_ifb_eq X 17 dX2_leaderOf_5 (by decide) (fun c_2 => ?_) (fun c_2 => ?_)
  · refine z_iconst X dX2_leaderOf_17 ?_
    exact z_iret X hsz hr hlocks dX2_leaderOf_18 ⟨(by first | rfl | ((try simp only [cLead]); split <;> first | rfl | omega | (exfalso; omega)) | (simp [cLead, c_2]; done) | (simp_all [cLead]; done)), rfl⟩
  · refine z_aload_n X dX2_leaderOf_8 rfl ?_
    refine y_gNet4 X hk fX2_24 dX2_leaderOf_9 ?_
    refine z_iload_n X dX2_leaderOf_12 rfl ?_
    refine y_iald X 1 (zNA1 hk) (by decide) (by omega) (by omega) (by decide) dX2_leaderOf_13 ?_
    refine z_goto X 18 dX2_leaderOf_14 (by decide) ?_
    exact z_iret X hsz hr hlocks dX2_leaderOf_18 ⟨(by first | rfl | ((try simp only [cLead]); split <;> first | rfl | omega | (exfalso; omega)) | (simp [cLead, c_2]; done) | (simp_all [cLead]; done)), rfl⟩

set_option maxHeartbeats 4000000 in
set_option maxRecDepth 100000 in
theorem c_X2_decisionOf {l : Launch} {D : va_G} {G : zG} {ad : Nat → Nat} (hJ : zInj ad) {k : Nat} (hk : zNet k) (σ : zM) {N : Nat → Nat → Int} (ok : cOk N) {d : Int} (hd : zB d)  : zKI l D G ad yX2_decisionOf cX2_decisionOf 2 (some .int) 1 [.ref (ad k), vI d] (zBk σ k 8 N) (fun z σ9 => z = cDec N d ∧ σ9 = (zBk σ k 8 N)) := by
  intro sz
  refine z_open hJ (by decide +kernel) (Nat.le_of_ble_eq_true rfl) ?_
  intro p e s0 m args below meth c hsz X hr hlocks
  have hn := ok_n ok
  refine z_sub [(0, .ref (ad k)), (1, vI d)] (zSub_cons rfl (zSub_cons rfl zSub_nil)) ?_
  refine z_aload_n X dX2_decisionOf_0 rfl ?_
  refine z_iload_n X dX2_decisionOf_1 rfl ?_
  refine z_callVI1 X (c_X2_hasDeal hJ hk σ ok hd) kX2_62 rfl (zNet_lt hk) (zNet_obj hk ad G _ _) ⟨(Nat.le_of_ble_eq_true rfl), (Nat.le_of_ble_eq_true rfl)⟩ (Nat.le_of_ble_eq_true rfl) ⟨Nat.zero_le _, Nat.zero_le _⟩ dX2_decisionOf_2 (fun z9 σ1 hz9 => ?_)
  obtain ⟨rfl, rfl⟩ := hz9
  refine z_ifb_eq X 17 dX2_decisionOf_5 (by decide) (fun c_2 => ?_) (fun c_2 => ?_)
  · refine z_iconst X dX2_decisionOf_17 ?_
    exact z_iret X hsz hr hlocks dX2_decisionOf_18 ⟨(by first | rfl | ((try simp only [cDec]); split <;> first | rfl | omega | (exfalso; omega)) | (simp [cDec, c_2]; done) | (simp_all [cDec]; done)), rfl⟩
  · refine z_aload_n X dX2_decisionOf_8 rfl ?_
    refine y_gNet6 X hk fX2_31 dX2_decisionOf_9 ?_
    refine z_iload_n X dX2_decisionOf_12 rfl ?_
    refine y_iald X 3 (zNA3 hk) (by decide) (by omega) (by omega) (by decide) dX2_decisionOf_13 ?_
    refine z_goto X 18 dX2_decisionOf_14 (by decide) ?_
    exact z_iret X hsz hr hlocks dX2_decisionOf_18 ⟨(by first | rfl | ((try simp only [cDec]); split <;> first | rfl | omega | (exfalso; omega)) | (simp [cDec, c_2]; done) | (simp_all [cDec]; done)), rfl⟩

set_option maxHeartbeats 4000000 in
set_option maxRecDepth 100000 in
theorem c_X2_stateOf {l : Launch} {D : va_G} {G : zG} {ad : Nat → Nat} (hJ : zInj ad) {k : Nat} (hk : zNet k) (σ : zM) {N : Nat → Nat → Int} (ok : cOk N) {d : Int} (hd : zB d) {s : Int} (hs : zB s)  : zKI l D G ad yX2_stateOf cX2_stateOf 4 (some .int) 0 [.ref (ad k), vI d, vI s] (zBk σ k 8 N) (fun z σ9 => z = cSt N d s ∧ σ9 = (zBk σ k 8 N)) := by
  intro sz
  refine z_open hJ (by decide +kernel) (Nat.le_of_ble_eq_true rfl) ?_
  intro p e s0 m args below meth c hsz X hr hlocks
  have hn := ok_n ok
  refine z_sub [(0, .ref (ad k)), (1, vI d), (2, vI s)] (zSub_cons rfl (zSub_cons rfl (zSub_cons rfl zSub_nil))) ?_
  refine z_iload_n X dX2_stateOf_0 rfl ?_
  refine z_if_lt X 26 dX2_stateOf_1 (by decide) hd (fun c_1 => ?_) (fun c_1 => ?_)
  · refine z_iconst X dX2_stateOf_26 ?_
    refine z_istore_n X dX2_stateOf_27 (by decide) ?_
    refine z_sub [(0, .ref (ad k)), (1, vI d), (2, vI s), (3, vI 0)] (zSub_cons rfl (zSub_cons rfl (zSub_cons rfl (zSub_cons rfl zSub_nil)))) ?_
    refine z_iload_n X dX2_stateOf_28 rfl ?_
    refine z_if_eq X 46 dX2_stateOf_29 (by decide) ⟨by decide, by decide⟩ (fun _ => ?_) (fun h9 => absurd h9 (by decide))
    refine z_iconst X dX2_stateOf_46 ?_
    exact z_iret X hsz hr hlocks dX2_stateOf_47 ⟨(by first | rfl | ((try simp only [cSt]); split <;> first | rfl | omega | (exfalso; omega)) | (simp [cSt, c_1]; done) | (simp_all [cSt]; done)), rfl⟩
  · refine z_iload_n X dX2_stateOf_4 rfl ?_
    refine z_aload_n X dX2_stateOf_5 rfl ?_
    refine y_gNet0 X hk fX2_9 dX2_stateOf_6 ?_
    refine z_icmp_ge X 26 dX2_stateOf_9 (by decide) hd (zB_sm (ok_n ok)) (fun c_2 => ?_) (fun c_2 => ?_)
    · refine z_iconst X dX2_stateOf_26 ?_
      refine z_istore_n X dX2_stateOf_27 (by decide) ?_
      refine z_sub [(0, .ref (ad k)), (1, vI d), (2, vI s), (3, vI 0)] (zSub_cons rfl (zSub_cons rfl (zSub_cons rfl (zSub_cons rfl zSub_nil)))) ?_
      refine z_iload_n X dX2_stateOf_28 rfl ?_
      refine z_if_eq X 46 dX2_stateOf_29 (by decide) ⟨by decide, by decide⟩ (fun _ => ?_) (fun h9 => absurd h9 (by decide))
      refine z_iconst X dX2_stateOf_46 ?_
      exact z_iret X hsz hr hlocks dX2_stateOf_47 ⟨(by first | rfl | ((try simp only [cSt]); split <;> first | rfl | omega | (exfalso; omega)) | (simp [cSt, c_1, c_2]; done) | (simp_all [cSt]; done)), rfl⟩
    · refine z_iload_n X dX2_stateOf_12 rfl ?_
      refine z_if_lt X 26 dX2_stateOf_13 (by decide) hs (fun c_3 => ?_) (fun c_3 => ?_)
      · refine z_iconst X dX2_stateOf_26 ?_
        refine z_istore_n X dX2_stateOf_27 (by decide) ?_
        refine z_sub [(0, .ref (ad k)), (1, vI d), (2, vI s), (3, vI 0)] (zSub_cons rfl (zSub_cons rfl (zSub_cons rfl (zSub_cons rfl zSub_nil)))) ?_
        refine z_iload_n X dX2_stateOf_28 rfl ?_
        refine z_if_eq X 46 dX2_stateOf_29 (by decide) ⟨by decide, by decide⟩ (fun _ => ?_) (fun h9 => absurd h9 (by decide))
        refine z_iconst X dX2_stateOf_46 ?_
        exact z_iret X hsz hr hlocks dX2_stateOf_47 ⟨(by first | rfl | ((try simp only [cSt]); split <;> first | rfl | omega | (exfalso; omega)) | (simp [cSt, c_1, c_2, c_3]; done) | (simp_all [cSt]; done)), rfl⟩
      · refine z_iload_n X dX2_stateOf_16 rfl ?_
        refine z_bipush X dX2_stateOf_17 rfl ?_
        refine z_icmp_ge X 26 dX2_stateOf_19 (by decide) hs ⟨by decide, by decide⟩ (fun c_4 => ?_) (fun c_4 => ?_)
        · refine z_iconst X dX2_stateOf_26 ?_
          refine z_istore_n X dX2_stateOf_27 (by decide) ?_
          refine z_sub [(0, .ref (ad k)), (1, vI d), (2, vI s), (3, vI 0)] (zSub_cons rfl (zSub_cons rfl (zSub_cons rfl (zSub_cons rfl zSub_nil)))) ?_
          refine z_iload_n X dX2_stateOf_28 rfl ?_
          refine z_if_eq X 46 dX2_stateOf_29 (by decide) ⟨by decide, by decide⟩ (fun _ => ?_) (fun h9 => absurd h9 (by decide))
          refine z_iconst X dX2_stateOf_46 ?_
          exact z_iret X hsz hr hlocks dX2_stateOf_47 ⟨(by first | rfl | ((try simp only [cSt]); split <;> first | rfl | omega | (exfalso; omega)) | (simp [cSt, c_1, c_2, c_3, c_4]; done) | (simp_all [cSt]; done)), rfl⟩
        · refine z_iconst X dX2_stateOf_22 ?_
          refine z_goto X 27 dX2_stateOf_23 (by decide) ?_
          refine z_istore_n X dX2_stateOf_27 (by decide) ?_
          refine z_sub [(0, .ref (ad k)), (1, vI d), (2, vI s), (3, vI 1)] (zSub_cons rfl (zSub_cons rfl (zSub_cons rfl (zSub_cons rfl zSub_nil)))) ?_
          refine z_iload_n X dX2_stateOf_28 rfl ?_
          refine z_if_eq X 46 dX2_stateOf_29 (by decide) ⟨by decide, by decide⟩ (fun h9 => absurd h9 (by decide)) (fun _ => ?_)
          refine z_aload_n X dX2_stateOf_32 rfl ?_
          refine y_gNet7 X hk fX2_34 dX2_stateOf_33 ?_
          refine z_iload_n X dX2_stateOf_36 rfl ?_
          refine z_bipush X dX2_stateOf_37 rfl ?_
          refine z_imul X dX2_stateOf_39 ?_
          refine z_iload_n X dX2_stateOf_40 rfl ?_
          refine z_iadd X dX2_stateOf_41 ?_
          refine y_iald X 4 (zNA4 hk) (by decide) (by omega) (by omega) (by decide) dX2_stateOf_42 ?_
          refine z_goto X 47 dX2_stateOf_43 (by decide) ?_
          exact z_iret X hsz hr hlocks dX2_stateOf_47 ⟨(by first | rfl | ((try simp only [cSt]); split <;> first | rfl | omega | (exfalso; omega)) | (simp [cSt, c_1, c_2, c_3, c_4]; done) | (simp_all [cSt]; done)), rfl⟩

set_option maxHeartbeats 4000000 in
set_option maxRecDepth 100000 in
theorem c_X2_patienceOf {l : Launch} {D : va_G} {G : zG} {ad : Nat → Nat} (hJ : zInj ad) {k : Nat} (hk : zNet k) (σ : zM) {N : Nat → Nat → Int} (ok : cOk N) {d : Int} (hd : zB d) {s : Int} (hs : zB s)  : zKI l D G ad yX2_patienceOf cX2_patienceOf 3 (some .int) 1 [.ref (ad k), vI d, vI s] (zBk σ k 8 N) (fun z σ9 => z = cPat N d s ∧ σ9 = (zBk σ k 8 N)) := by
  intro sz
  refine z_open hJ (by decide +kernel) (Nat.le_of_ble_eq_true rfl) ?_
  intro p e s0 m args below meth c hsz X hr hlocks
  have hn := ok_n ok
  refine z_sub [(0, .ref (ad k)), (1, vI d), (2, vI s)] (zSub_cons rfl (zSub_cons rfl (zSub_cons rfl zSub_nil))) ?_
  refine z_aload_n X dX2_patienceOf_0 rfl ?_
  refine z_iload_n X dX2_patienceOf_1 rfl ?_
  refine z_iload_n X dX2_patienceOf_2 rfl ?_
  refine z_callVI2 X (c_X2_stateOf hJ hk σ ok hd hs) kX2_66 rfl (zNet_lt hk) (zNet_obj hk ad G _ _) ⟨(Nat.le_of_ble_eq_true rfl), (Nat.le_of_ble_eq_true rfl)⟩ (Nat.le_of_ble_eq_true rfl) ⟨Nat.zero_le _, Nat.zero_le _⟩ dX2_patienceOf_3 (fun z9 σ1 hz9 => ?_)
  obtain ⟨rfl, rfl⟩ := hz9
  refine z_iconst X dX2_patienceOf_6 ?_
  refine z_icmp_ne X 24 dX2_patienceOf_7 (by decide) (zB_sm (rg_st ok _ _)) ⟨by decide, by decide⟩ (fun c_2 => ?_) (fun c_2 => ?_)
  · refine z_iconst X dX2_patienceOf_24 ?_
    exact z_iret X hsz hr hlocks dX2_patienceOf_25 ⟨(by first | rfl | ((try simp only [cPat]); split <;> first | rfl | omega | (exfalso; omega)) | (simp [cPat, c_2]; done) | (simp_all [cPat]; done)), rfl⟩
  · have hin := cSt_in (N := N) (d := d) (s := s) (by omega)
    refine z_aload_n X dX2_patienceOf_10 rfl ?_
    refine y_gNet8 X hk fX2_37 dX2_patienceOf_11 ?_
    refine z_iload_n X dX2_patienceOf_14 rfl ?_
    refine z_bipush X dX2_patienceOf_15 rfl ?_
    refine z_imul X dX2_patienceOf_17 ?_
    refine z_iload_n X dX2_patienceOf_18 rfl ?_
    refine z_iadd X dX2_patienceOf_19 ?_
    refine y_iald X 5 (zNA5 hk) (by decide) (by omega) (by omega) (by decide) dX2_patienceOf_20 ?_
    refine z_goto X 25 dX2_patienceOf_21 (by decide) ?_
    exact z_iret X hsz hr hlocks dX2_patienceOf_25 ⟨(by first | rfl | ((try simp only [cPat]); split <;> first | rfl | omega | (exfalso; omega)) | (simp [cPat, c_2]; done) | (simp_all [cPat]; done)), rfl⟩

set_option maxHeartbeats 4000000 in
set_option maxRecDepth 100000 in
theorem c_X2_hasEnded {l : Launch} {D : va_G} {G : zG} {ad : Nat → Nat} (hJ : zInj ad) {k : Nat} (hk : zNet k) (σ : zM) {N : Nat → Nat → Int} (ok : cOk N) {d : Int} (hd : zB d) {s : Int} (hs : zB s)  : zKI l D G ad yX2_hasEnded cX2_hasEnded 3 (some .boolean) 1 [.ref (ad k), vI d, vI s] (zBk σ k 8 N) (fun z σ9 => z = (if cEnd (cSt N d s) then 1 else 0) ∧ σ9 = (zBk σ k 8 N)) := by
  intro sz
  refine z_open hJ (by decide +kernel) (Nat.le_of_ble_eq_true rfl) ?_
  intro p e s0 m args below meth c hsz X hr hlocks
  have hn := ok_n ok
  refine z_sub [(0, .ref (ad k)), (1, vI d), (2, vI s)] (zSub_cons rfl (zSub_cons rfl (zSub_cons rfl zSub_nil))) ?_
  refine z_aload_n X dX2_hasEnded_0 rfl ?_
  refine z_iload_n X dX2_hasEnded_1 rfl ?_
  refine z_iload_n X dX2_hasEnded_2 rfl ?_
  refine z_callVI2 X (c_X2_stateOf hJ hk σ ok hd hs) kX2_66 rfl (zNet_lt hk) (zNet_obj hk ad G _ _) ⟨(Nat.le_of_ble_eq_true rfl), (Nat.le_of_ble_eq_true rfl)⟩ (Nat.le_of_ble_eq_true rfl) ⟨Nat.zero_le _, Nat.zero_le _⟩ dX2_hasEnded_3 (fun z9 σ1 hz9 => ?_)
  obtain ⟨rfl, rfl⟩ := hz9
  refine z_callSI1 X (c_X2_isEnd hJ _ (zB_sm (rg_st ok _ _))) kX2_69 ⟨(Nat.le_of_ble_eq_true rfl), (Nat.le_of_ble_eq_true rfl)⟩ (Nat.le_of_ble_eq_true rfl) ⟨Nat.zero_le _, Nat.zero_le _⟩ dX2_hasEnded_6 (fun z9 σ1 hz9 => ?_)
  obtain ⟨rfl, rfl⟩ := hz9
  exact z_zret X hsz hr hlocks dX2_hasEnded_9 zB01 ⟨(by first | rfl | ((try simp only [cEnd]); split <;> first | rfl | omega | (exfalso; omega)) | (simp [cEnd]; done) | (simp_all [cEnd]; done)), rfl⟩

set_option maxHeartbeats 4000000 in
set_option maxRecDepth 100000 in
theorem c_X2_entriesOf {l : Launch} {D : va_G} {G : zG} {ad : Nat → Nat} (hJ : zInj ad) {k : Nat} (hk : zNet k) (σ : zM) {N : Nat → Nat → Int} (ok : cOk N) {s : Int} (hs : zB s)  : zKI l D G ad yX2_entriesOf cX2_entriesOf 2 (some .int) 1 [.ref (ad k), vI s] (zBk σ k 8 N) (fun z σ9 => z = cEnt N s ∧ σ9 = (zBk σ k 8 N)) := by
  intro sz
  refine z_open hJ (by decide +kernel) (Nat.le_of_ble_eq_true rfl) ?_
  intro p e s0 m args below meth c hsz X hr hlocks
  have hn := ok_n ok
  refine z_sub [(0, .ref (ad k)), (1, vI s)] (zSub_cons rfl (zSub_cons rfl zSub_nil)) ?_
  refine z_iload_n X dX2_entriesOf_0 rfl ?_
  refine z_callNI1 X (c_X3_isSite hJ _ hs) kX2_72 ⟨(Nat.le_of_ble_eq_true rfl), (Nat.le_of_ble_eq_true rfl)⟩ (Nat.le_of_ble_eq_true rfl) ⟨Nat.zero_le _, Nat.zero_le _⟩ dX2_entriesOf_1 (fun z9 σ1 hz9 => ?_)
  obtain ⟨rfl, rfl⟩ := hz9
  refine z_ifb_eq X 16 dX2_entriesOf_4 (by decide) (fun c_2 => ?_) (fun c_2 => ?_)
  · refine z_iconst X dX2_entriesOf_16 ?_
    exact z_iret X hsz hr hlocks dX2_entriesOf_17 ⟨(by first | rfl | ((try simp only [cEnt]); split <;> first | rfl | omega | (exfalso; omega)) | (simp [cEnt, c_2]; done) | (simp_all [cEnt]; done)), rfl⟩
  · refine z_aload_n X dX2_entriesOf_7 rfl ?_
    refine y_gNet9 X hk fX2_40 dX2_entriesOf_8 ?_
    refine z_iload_n X dX2_entriesOf_11 rfl ?_
    refine y_iald X 6 (zNA6 hk) (by decide) (by omega) (by omega) (by decide) dX2_entriesOf_12 ?_
    refine z_goto X 17 dX2_entriesOf_13 (by decide) ?_
    exact z_iret X hsz hr hlocks dX2_entriesOf_17 ⟨(by first | rfl | ((try simp only [cEnt]); split <;> first | rfl | omega | (exfalso; omega)) | (simp [cEnt, c_2]; done) | (simp_all [cEnt]; done)), rfl⟩

set_option maxHeartbeats 4000000 in
set_option maxRecDepth 100000 in
theorem c_X2_entryAt {l : Launch} {D : va_G} {G : zG} {ad : Nat → Nat} (hJ : zInj ad) {k : Nat} (hk : zNet k) (σ : zM) {N : Nat → Nat → Int} (ok : cOk N) {s : Int} (hs : zB s) {i : Int} (hi : zB i)  : zKI l D G ad yX2_entryAt cX2_entryAt 3 (some .int) 2 [.ref (ad k), vI s, vI i] (zBk σ k 8 N) (fun z σ9 => z = cEntry N s i ∧ σ9 = (zBk σ k 8 N)) := by
  intro sz
  refine z_open hJ (by decide +kernel) (Nat.le_of_ble_eq_true rfl) ?_
  intro p e s0 m args below meth c hsz X hr hlocks
  have hn := ok_n ok
  refine z_sub [(0, .ref (ad k)), (1, vI s), (2, vI i)] (zSub_cons rfl (zSub_cons rfl (zSub_cons rfl zSub_nil))) ?_
  refine z_iload_n X dX2_entryAt_0 rfl ?_
  refine z_if_lt X 27 dX2_entryAt_1 (by decide) hi (fun c_1 => ?_) (fun c_1 => ?_)
  · refine z_iconst X dX2_entryAt_27 ?_
    exact z_iret X hsz hr hlocks dX2_entryAt_28 ⟨(by first | rfl | ((try simp only [cEntry]); split <;> first | rfl | omega | (exfalso; omega)) | (simp [cEntry, c_1]; done) | (simp_all [cEntry]; done)), rfl⟩
  · refine z_iload_n X dX2_entryAt_4 rfl ?_
    refine z_aload_n X dX2_entryAt_5 rfl ?_
    refine z_iload_n X dX2_entryAt_6 rfl ?_
    refine z_callVI1 X (c_X2_entriesOf hJ hk σ ok hs) kX2_75 rfl (zNet_lt hk) (zNet_obj hk ad G _ _) ⟨(Nat.le_of_ble_eq_true rfl), (Nat.le_of_ble_eq_true rfl)⟩ (Nat.le_of_ble_eq_true rfl) ⟨Nat.zero_le _, Nat.zero_le _⟩ dX2_entryAt_7 (fun z9 σ1 hz9 => ?_)
    obtain ⟨rfl, rfl⟩ := hz9
    refine z_icmp_ge X 27 dX2_entryAt_10 (by decide) hi (zB_sm (rg_ent ok _)) (fun c_3 => ?_) (fun c_3 => ?_)
    · refine z_iconst X dX2_entryAt_27 ?_
      exact z_iret X hsz hr hlocks dX2_entryAt_28 ⟨(by first | rfl | ((try simp only [cEntry]); split <;> first | rfl | omega | (exfalso; omega)) | (simp [cEntry, c_1, c_3]; done) | (simp_all [cEntry]; done)), rfl⟩
    · have hin := cEnt_in (N := N) (s := s) (i := i) ok (by omega) (by omega)
      refine z_aload_n X dX2_entryAt_13 rfl ?_
      refine y_gNet10 X hk fX2_43 dX2_entryAt_14 ?_
      refine z_iload_n X dX2_entryAt_17 rfl ?_
      refine z_bipush X dX2_entryAt_18 rfl ?_
      refine z_imul X dX2_entryAt_20 ?_
      refine z_iload_n X dX2_entryAt_21 rfl ?_
      refine z_iadd X dX2_entryAt_22 ?_
      refine y_iald X 7 (zNA7 hk) (by decide) (by omega) (by omega) (by decide) dX2_entryAt_23 ?_
      refine z_goto X 28 dX2_entryAt_24 (by decide) ?_
      exact z_iret X hsz hr hlocks dX2_entryAt_28 ⟨(by first | rfl | ((try simp only [cEntry]); split <;> first | rfl | omega | (exfalso; omega)) | (simp [cEntry, c_1, c_3]; done) | (simp_all [cEntry]; done)), rfl⟩

set_option maxHeartbeats 4000000 in
set_option maxRecDepth 100000 in
theorem c_X2_canBegin {l : Launch} {D : va_G} {G : zG} {ad : Nat → Nat} (hJ : zInj ad) {k : Nat} (hk : zNet k) (σ : zM) {N : Nat → Nat → Int} (ok : cOk N) {ld : Int} (hld : zB ld) {mk : Int} (hmk : zB mk)  : zKI l D G ad yX2_canBegin cX2_canBegin 4 (some .boolean) 0 [.ref (ad k), vI ld, vI mk] (zBk σ k 8 N) (fun z σ9 => z = (if cCanBegin N ld mk then 1 else 0) ∧ σ9 = (zBk σ k 8 N)) := by
  intro sz
  refine z_open hJ (by decide +kernel) (Nat.le_of_ble_eq_true rfl) ?_
  intro p e s0 m args below meth c hsz X hr hlocks
  have hn := ok_n ok
  refine z_sub [(0, .ref (ad k)), (1, vI ld), (2, vI mk)] (zSub_cons rfl (zSub_cons rfl (zSub_cons rfl zSub_nil))) ?_
  refine z_iload_n X dX2_canBegin_0 rfl ?_
  refine z_iconst X dX2_canBegin_1 ?_
  refine z_iload_n X dX2_canBegin_2 rfl ?_
  refine z_shl X dX2_canBegin_3 (zShl_eq 1 ld) ?_
  refine z_or X dX2_canBegin_4 (zOr_eq mk (zShl 1 ld)) ?_
  refine z_istore_n X dX2_canBegin_5 (by decide) ?_
  refine z_sub [(0, .ref (ad k)), (1, vI ld), (2, vI mk), (3, vI (zOr mk (zShl 1 ld)))] (zSub_cons rfl (zSub_cons rfl (zSub_cons rfl (zSub_cons rfl zSub_nil)))) ?_
  refine z_aload_n X dX2_canBegin_6 rfl ?_
  refine y_gNet0 X hk fX2_9 dX2_canBegin_7 ?_
  refine z_bipush X dX2_canBegin_10 rfl ?_
  refine z_icmp_ge X 29 dX2_canBegin_12 (by decide) (zB_sm (ok_n ok)) ⟨by decide, by decide⟩ (fun c_1 => ?_) (fun c_1 => ?_)
  · refine z_iconst X dX2_canBegin_29 ?_
    exact z_zret X hsz hr hlocks dX2_canBegin_30 (Or.inl rfl) ⟨(by first | rfl | ((try simp only [cCanBegin]); split <;> first | rfl | omega | (exfalso; omega)) | (simp [cCanBegin, c_1]; done) | (simp_all [cCanBegin]; done)), rfl⟩
  · refine z_aload_n X dX2_canBegin_15 rfl ?_
    refine y_gNet1 X hk fX2_15 dX2_canBegin_16 ?_
    refine z_iload_n X dX2_canBegin_19 rfl ?_
    refine z_and X dX2_canBegin_20 (zAnd_eq (N 0 1) (zOr mk (zShl 1 ld))) ?_
    refine z_iload_n X dX2_canBegin_21 rfl ?_
    refine z_icmp_ne X 29 dX2_canBegin_22 (by decide) (zB_toInt _) (zB_toInt _) (fun c_2 => ?_) (fun c_2 => ?_)
    · refine z_iconst X dX2_canBegin_29 ?_
      exact z_zret X hsz hr hlocks dX2_canBegin_30 (Or.inl rfl) ⟨(by first | rfl | ((try simp only [cCanBegin]); split <;> first | rfl | omega | (exfalso; omega)) | (simp [cCanBegin, c_1, c_2]; done) | (simp_all [cCanBegin]; done)), rfl⟩
    · refine z_iconst X dX2_canBegin_25 ?_
      refine z_goto X 30 dX2_canBegin_26 (by decide) ?_
      exact z_zret X hsz hr hlocks dX2_canBegin_30 (Or.inr rfl) ⟨(by first | rfl | ((try simp only [cCanBegin]); split <;> first | rfl | omega | (exfalso; omega)) | (simp [cCanBegin, c_1, c_2]; done) | (simp_all [cCanBegin]; done)), rfl⟩

set_option maxHeartbeats 4000000 in
set_option maxRecDepth 100000 in
theorem c_X2_canVote {l : Launch} {D : va_G} {G : zG} {ad : Nat → Nat} (hJ : zInj ad) {k : Nat} (hk : zNet k) (σ : zM) {N : Nat → Nat → Int} (ok : cOk N) {d : Int} (hd : zB d) {s : Int} (hs : zB s)  : zKI l D G ad yX2_canVote cX2_canVote 3 (some .boolean) 1 [.ref (ad k), vI d, vI s] (zBk σ k 8 N) (fun z σ9 => z = (if cCanVote N d s then 1 else 0) ∧ σ9 = (zBk σ k 8 N)) := by
  intro sz
  refine z_open hJ (by decide +kernel) (Nat.le_of_ble_eq_true rfl) ?_
  intro p e s0 m args below meth c hsz X hr hlocks
  have hn := ok_n ok
  refine z_sub [(0, .ref (ad k)), (1, vI d), (2, vI s)] (zSub_cons rfl (zSub_cons rfl (zSub_cons rfl zSub_nil))) ?_
  refine z_aload_n X dX2_canVote_0 rfl ?_
  refine z_iload_n X dX2_canVote_1 rfl ?_
  refine z_callVI1 X (c_X2_isAwake hJ hk σ ok hs) kX2_79 rfl (zNet_lt hk) (zNet_obj hk ad G _ _) ⟨(Nat.le_of_ble_eq_true rfl), (Nat.le_of_ble_eq_true rfl)⟩ (Nat.le_of_ble_eq_true rfl) ⟨Nat.zero_le _, Nat.zero_le _⟩ dX2_canVote_2 (fun z9 σ1 hz9 => ?_)
  obtain ⟨rfl, rfl⟩ := hz9
  refine z_ifb_eq X 21 dX2_canVote_5 (by decide) (fun c_2 => ?_) (fun c_2 => ?_)
  · refine z_iconst X dX2_canVote_21 ?_
    exact z_zret X hsz hr hlocks dX2_canVote_22 (Or.inl rfl) ⟨(by first | rfl | ((try simp only [cCanVote]); split <;> first | rfl | omega | (exfalso; omega)) | (simp [cCanVote, c_2]; done) | (simp_all [cCanVote]; done)), rfl⟩
  · refine z_aload_n X dX2_canVote_8 rfl ?_
    refine z_iload_n X dX2_canVote_9 rfl ?_
    refine z_iload_n X dX2_canVote_10 rfl ?_
    refine z_callVI2 X (c_X2_stateOf hJ hk σ ok hd hs) kX2_66 rfl (zNet_lt hk) (zNet_obj hk ad G _ _) ⟨(Nat.le_of_ble_eq_true rfl), (Nat.le_of_ble_eq_true rfl)⟩ (Nat.le_of_ble_eq_true rfl) ⟨Nat.zero_le _, Nat.zero_le _⟩ dX2_canVote_11 (fun z9 σ1 hz9 => ?_)
    obtain ⟨rfl, rfl⟩ := hz9
    refine z_if_ne X 21 dX2_canVote_14 (by decide) (zB_sm (rg_st ok _ _)) (fun c_4 => ?_) (fun c_4 => ?_)
    · refine z_iconst X dX2_canVote_21 ?_
      exact z_zret X hsz hr hlocks dX2_canVote_22 (Or.inl rfl) ⟨(by first | rfl | ((try simp only [cCanVote]); split <;> first | rfl | omega | (exfalso; omega)) | (simp [cCanVote, c_2, c_4]; done) | (simp_all [cCanVote]; done)), rfl⟩
    · refine z_iconst X dX2_canVote_17 ?_
      refine z_goto X 22 dX2_canVote_18 (by decide) ?_
      exact z_zret X hsz hr hlocks dX2_canVote_22 (Or.inr rfl) ⟨(by first | rfl | ((try simp only [cCanVote]); split <;> first | rfl | omega | (exfalso; omega)) | (simp [cCanVote, c_2, c_4]; done) | (simp_all [cCanVote]; done)), rfl⟩

set_option maxHeartbeats 4000000 in
set_option maxRecDepth 100000 in
theorem c_X2_canDecide {l : Launch} {D : va_G} {G : zG} {ad : Nat → Nat} (hJ : zInj ad) {k : Nat} (hk : zNet k) (σ : zM) {N : Nat → Nat → Int} (ok : cOk N) {d : Int} (hd : zB d)  : zKI l D G ad yX2_canDecide cX2_canDecide 2 (some .boolean) 2 [.ref (ad k), vI d] (zBk σ k 8 N) (fun z σ9 => z = (if cCanDecide N d then 1 else 0) ∧ σ9 = (zBk σ k 8 N)) := by
  intro sz
  refine z_open hJ (by decide +kernel) (Nat.le_of_ble_eq_true rfl) ?_
  intro p e s0 m args below meth c hsz X hr hlocks
  have hn := ok_n ok
  refine z_sub [(0, .ref (ad k)), (1, vI d)] (zSub_cons rfl (zSub_cons rfl zSub_nil)) ?_
  refine z_aload_n X dX2_canDecide_0 rfl ?_
  refine z_aload_n X dX2_canDecide_1 rfl ?_
  refine z_iload_n X dX2_canDecide_2 rfl ?_
  refine z_callVI1 X (c_X2_leaderOf hJ hk σ ok hd) kX2_82 rfl (zNet_lt hk) (zNet_obj hk ad G _ _) ⟨(Nat.le_of_ble_eq_true rfl), (Nat.le_of_ble_eq_true rfl)⟩ (Nat.le_of_ble_eq_true rfl) ⟨Nat.zero_le _, Nat.zero_le _⟩ dX2_canDecide_3 (fun z9 σ1 hz9 => ?_)
  obtain ⟨rfl, rfl⟩ := hz9
  refine z_callVI1 X (c_X2_isAwake hJ hk σ ok (zB_sm (rg_ld ok _))) kX2_79 rfl (zNet_lt hk) (zNet_obj hk ad G _ _) ⟨(Nat.le_of_ble_eq_true rfl), (Nat.le_of_ble_eq_true rfl)⟩ (Nat.le_of_ble_eq_true rfl) ⟨Nat.zero_le _, Nat.zero_le _⟩ dX2_canDecide_6 (fun z9 σ1 hz9 => ?_)
  obtain ⟨rfl, rfl⟩ := hz9
  refine z_ifb_eq X 24 dX2_canDecide_9 (by decide) (fun c_3 => ?_) (fun c_3 => ?_)
  · refine z_iconst X dX2_canDecide_24 ?_
    exact z_zret X hsz hr hlocks dX2_canDecide_25 (Or.inl rfl) ⟨(by first | rfl | ((try simp only [cCanDecide]); split <;> first | rfl | omega | (exfalso; omega)) | (simp [cCanDecide, c_3]; done) | (simp_all [cCanDecide]; done)), rfl⟩
  · refine z_aload_n X dX2_canDecide_12 rfl ?_
    refine z_iload_n X dX2_canDecide_13 rfl ?_
    refine z_callVI1 X (c_X2_decisionOf hJ hk σ ok hd) kX2_85 rfl (zNet_lt hk) (zNet_obj hk ad G _ _) ⟨(Nat.le_of_ble_eq_true rfl), (Nat.le_of_ble_eq_true rfl)⟩ (Nat.le_of_ble_eq_true rfl) ⟨Nat.zero_le _, Nat.zero_le _⟩ dX2_canDecide_14 (fun z9 σ1 hz9 => ?_)
    obtain ⟨rfl, rfl⟩ := hz9
    refine z_if_ne X 24 dX2_canDecide_17 (by decide) (zB_sm (rg_dc ok _)) (fun c_5 => ?_) (fun c_5 => ?_)
    · refine z_iconst X dX2_canDecide_24 ?_
      exact z_zret X hsz hr hlocks dX2_canDecide_25 (Or.inl rfl) ⟨(by first | rfl | ((try simp only [cCanDecide]); split <;> first | rfl | omega | (exfalso; omega)) | (simp [cCanDecide, c_3, c_5]; done) | (simp_all [cCanDecide]; done)), rfl⟩
    · refine z_iconst X dX2_canDecide_20 ?_
      refine z_goto X 25 dX2_canDecide_21 (by decide) ?_
      exact z_zret X hsz hr hlocks dX2_canDecide_25 (Or.inr rfl) ⟨(by first | rfl | ((try simp only [cCanDecide]); split <;> first | rfl | omega | (exfalso; omega)) | (simp [cCanDecide, c_3, c_5]; done) | (simp_all [cCanDecide]; done)), rfl⟩

set_option maxHeartbeats 4000000 in
set_option maxRecDepth 100000 in
theorem c_X2_canTell {l : Launch} {D : va_G} {G : zG} {ad : Nat → Nat} (hJ : zInj ad) {k : Nat} (hk : zNet k) (σ : zM) {N : Nat → Nat → Int} (ok : cOk N) {d : Int} (hd : zB d) {s : Int} (hs : zB s)  : zKI l D G ad yX2_canTell cX2_canTell 4 (some .boolean) 2 [.ref (ad k), vI d, vI s] (zBk σ k 8 N) (fun z σ9 => z = (if cCanTell N d s then 1 else 0) ∧ σ9 = (zBk σ k 8 N)) := by
  intro sz
  refine z_open hJ (by decide +kernel) (Nat.le_of_ble_eq_true rfl) ?_
  intro p e s0 m args below meth c hsz X hr hlocks
  have hn := ok_n ok
  refine z_sub [(0, .ref (ad k)), (1, vI d), (2, vI s)] (zSub_cons rfl (zSub_cons rfl (zSub_cons rfl zSub_nil))) ?_
  refine z_aload_n X dX2_canTell_0 rfl ?_
  refine z_iload_n X dX2_canTell_1 rfl ?_
  refine z_callVI1 X (c_X2_isAwake hJ hk σ ok hs) kX2_79 rfl (zNet_lt hk) (zNet_obj hk ad G _ _) ⟨(Nat.le_of_ble_eq_true rfl), (Nat.le_of_ble_eq_true rfl)⟩ (Nat.le_of_ble_eq_true rfl) ⟨Nat.zero_le _, Nat.zero_le _⟩ dX2_canTell_2 (fun z9 σ1 hz9 => ?_)
  obtain ⟨rfl, rfl⟩ := hz9
  refine z_ifb_eq X 24 dX2_canTell_5 (by decide) (fun c_2 => ?_) (fun c_2 => ?_)
  · refine z_iconst X dX2_canTell_24 ?_
    refine z_istore_n X dX2_canTell_25 (by decide) ?_
    refine z_sub [(0, .ref (ad k)), (1, vI d), (2, vI s), (3, vI 0)] (zSub_cons rfl (zSub_cons rfl (zSub_cons rfl (zSub_cons rfl zSub_nil)))) ?_
    refine z_iload_n X dX2_canTell_26 rfl ?_
    refine z_if_eq X 55 dX2_canTell_27 (by decide) ⟨by decide, by decide⟩ (fun _ => ?_) (fun h9 => absurd h9 (by decide))
    refine z_iconst X dX2_canTell_55 ?_
    exact z_zret X hsz hr hlocks dX2_canTell_56 (Or.inl rfl) ⟨(by first | rfl | ((try simp only [cCanTell]); split <;> first | rfl | omega | (exfalso; omega)) | (simp [cCanTell, c_2]; done) | (simp_all [cCanTell]; done)), rfl⟩
  · refine z_aload_n X dX2_canTell_8 rfl ?_
    refine z_aload_n X dX2_canTell_9 rfl ?_
    refine z_iload_n X dX2_canTell_10 rfl ?_
    refine z_callVI1 X (c_X2_leaderOf hJ hk σ ok hd) kX2_82 rfl (zNet_lt hk) (zNet_obj hk ad G _ _) ⟨(Nat.le_of_ble_eq_true rfl), (Nat.le_of_ble_eq_true rfl)⟩ (Nat.le_of_ble_eq_true rfl) ⟨Nat.zero_le _, Nat.zero_le _⟩ dX2_canTell_11 (fun z9 σ1 hz9 => ?_)
    obtain ⟨rfl, rfl⟩ := hz9
    refine z_callVI1 X (c_X2_isAwake hJ hk σ ok (zB_sm (rg_ld ok _))) kX2_79 rfl (zNet_lt hk) (zNet_obj hk ad G _ _) ⟨(Nat.le_of_ble_eq_true rfl), (Nat.le_of_ble_eq_true rfl)⟩ (Nat.le_of_ble_eq_true rfl) ⟨Nat.zero_le _, Nat.zero_le _⟩ dX2_canTell_14 (fun z9 σ1 hz9 => ?_)
    obtain ⟨rfl, rfl⟩ := hz9
    refine z_ifb_eq X 24 dX2_canTell_17 (by decide) (fun c_5 => ?_) (fun c_5 => ?_)
    · refine z_iconst X dX2_canTell_24 ?_
      refine z_istore_n X dX2_canTell_25 (by decide) ?_
      refine z_sub [(0, .ref (ad k)), (1, vI d), (2, vI s), (3, vI 0)] (zSub_cons rfl (zSub_cons rfl (zSub_cons rfl (zSub_cons rfl zSub_nil)))) ?_
      refine z_iload_n X dX2_canTell_26 rfl ?_
      refine z_if_eq X 55 dX2_canTell_27 (by decide) ⟨by decide, by decide⟩ (fun _ => ?_) (fun h9 => absurd h9 (by decide))
      refine z_iconst X dX2_canTell_55 ?_
      exact z_zret X hsz hr hlocks dX2_canTell_56 (Or.inl rfl) ⟨(by first | rfl | ((try simp only [cCanTell]); split <;> first | rfl | omega | (exfalso; omega)) | (simp [cCanTell, c_2, c_5]; done) | (simp_all [cCanTell]; done)), rfl⟩
    · refine z_iconst X dX2_canTell_20 ?_
      refine z_goto X 25 dX2_canTell_21 (by decide) ?_
      refine z_istore_n X dX2_canTell_25 (by decide) ?_
      refine z_sub [(0, .ref (ad k)), (1, vI d), (2, vI s), (3, vI 1)] (zSub_cons rfl (zSub_cons rfl (zSub_cons rfl (zSub_cons rfl zSub_nil)))) ?_
      refine z_iload_n X dX2_canTell_26 rfl ?_
      refine z_if_eq X 55 dX2_canTell_27 (by decide) ⟨by decide, by decide⟩ (fun h9 => absurd h9 (by decide)) (fun _ => ?_)
      refine z_aload_n X dX2_canTell_30 rfl ?_
      refine z_iload_n X dX2_canTell_31 rfl ?_
      refine z_iload_n X dX2_canTell_32 rfl ?_
      refine z_callVI2 X (c_X2_stateOf hJ hk σ ok hd hs) kX2_66 rfl (zNet_lt hk) (zNet_obj hk ad G _ _) ⟨(Nat.le_of_ble_eq_true rfl), (Nat.le_of_ble_eq_true rfl)⟩ (Nat.le_of_ble_eq_true rfl) ⟨Nat.zero_le _, Nat.zero_le _⟩ dX2_canTell_33 (fun z9 σ1 hz9 => ?_)
      obtain ⟨rfl, rfl⟩ := hz9
      refine z_iconst X dX2_canTell_36 ?_
      refine z_icmp_eq X 55 dX2_canTell_37 (by decide) (zB_sm (rg_st ok _ _)) ⟨by decide, by decide⟩ (fun c_7 => ?_) (fun c_7 => ?_)
      · refine z_iconst X dX2_canTell_55 ?_
        exact z_zret X hsz hr hlocks dX2_canTell_56 (Or.inl rfl) ⟨(by first | rfl | ((try simp only [cCanTell]); split <;> first | rfl | omega | (exfalso; omega)) | (simp [cCanTell, c_2, c_5, c_7]; done) | (simp_all [cCanTell]; done)), rfl⟩
      · refine z_aload_n X dX2_canTell_40 rfl ?_
        refine z_iload_n X dX2_canTell_41 rfl ?_
        refine z_callVI1 X (c_X2_decisionOf hJ hk σ ok hd) kX2_85 rfl (zNet_lt hk) (zNet_obj hk ad G _ _) ⟨(Nat.le_of_ble_eq_true rfl), (Nat.le_of_ble_eq_true rfl)⟩ (Nat.le_of_ble_eq_true rfl) ⟨Nat.zero_le _, Nat.zero_le _⟩ dX2_canTell_42 (fun z9 σ1 hz9 => ?_)
        obtain ⟨rfl, rfl⟩ := hz9
        refine z_callSI1 X (c_X2_isEnd hJ _ (zB_sm (rg_dc ok _))) kX2_69 ⟨(Nat.le_of_ble_eq_true rfl), (Nat.le_of_ble_eq_true rfl)⟩ (Nat.le_of_ble_eq_true rfl) ⟨Nat.zero_le _, Nat.zero_le _⟩ dX2_canTell_45 (fun z9 σ1 hz9 => ?_)
        obtain ⟨rfl, rfl⟩ := hz9
        refine z_ifb_eq X 55 dX2_canTell_48 (by decide) (fun c_10 => ?_) (fun c_10 => ?_)
        · refine z_iconst X dX2_canTell_55 ?_
          exact z_zret X hsz hr hlocks dX2_canTell_56 (Or.inl rfl) ⟨(by first | rfl | ((try simp only [cCanTell]); split <;> first | rfl | omega | (exfalso; omega)) | (simp [cCanTell, c_2, c_5, c_7, c_10]; done) | (simp_all [cCanTell]; done)), rfl⟩
        · refine z_iconst X dX2_canTell_51 ?_
          refine z_goto X 56 dX2_canTell_52 (by decide) ?_
          exact z_zret X hsz hr hlocks dX2_canTell_56 (Or.inr rfl) ⟨(by first | rfl | ((try simp only [cCanTell]); split <;> first | rfl | omega | (exfalso; omega)) | (simp [cCanTell, c_2, c_5, c_7, c_10]; done) | (simp_all [cCanTell]; done)), rfl⟩

set_option maxHeartbeats 4000000 in
set_option maxRecDepth 100000 in
theorem c_X2_canAsk {l : Launch} {D : va_G} {G : zG} {ad : Nat → Nat} (hJ : zInj ad) {k : Nat} (hk : zNet k) (σ : zM) {N : Nat → Nat → Int} (ok : cOk N) {d : Int} (hd : zB d) {s : Int} (hs : zB s) {o : Int} (ho : zB o)  : zKI l D G ad yX2_canAsk cX2_canAsk 4 (some .boolean) 1 [.ref (ad k), vI d, vI s, vI o] (zBk σ k 8 N) (fun z σ9 => z = (if cCanAsk N d s o then 1 else 0) ∧ σ9 = (zBk σ k 8 N)) := by
  intro sz
  refine z_open hJ (by decide +kernel) (Nat.le_of_ble_eq_true rfl) ?_
  intro p e s0 m args below meth c hsz X hr hlocks
  have hn := ok_n ok
  refine z_sub [(0, .ref (ad k)), (1, vI d), (2, vI s), (3, vI o)] (zSub_cons rfl (zSub_cons rfl (zSub_cons rfl (zSub_cons rfl zSub_nil)))) ?_
  refine z_iload_n X dX2_canAsk_0 rfl ?_
  refine z_iload_n X dX2_canAsk_1 rfl ?_
  refine z_icmp_eq X 35 dX2_canAsk_2 (by decide) hs ho (fun c_1 => ?_) (fun c_1 => ?_)
  · refine z_iconst X dX2_canAsk_35 ?_
    exact z_zret X hsz hr hlocks dX2_canAsk_36 (Or.inl rfl) ⟨(by first | rfl | ((try simp only [cCanAsk]); split <;> first | rfl | omega | (exfalso; omega)) | (simp [cCanAsk, c_1]; done) | (simp_all [cCanAsk]; done)), rfl⟩
  · refine z_aload_n X dX2_canAsk_5 rfl ?_
    refine z_iload_n X dX2_canAsk_6 rfl ?_
    refine z_callVI1 X (c_X2_isAwake hJ hk σ ok hs) kX2_79 rfl (zNet_lt hk) (zNet_obj hk ad G _ _) ⟨(Nat.le_of_ble_eq_true rfl), (Nat.le_of_ble_eq_true rfl)⟩ (Nat.le_of_ble_eq_true rfl) ⟨Nat.zero_le _, Nat.zero_le _⟩ dX2_canAsk_7 (fun z9 σ1 hz9 => ?_)
    obtain ⟨rfl, rfl⟩ := hz9
    refine z_ifb_eq X 35 dX2_canAsk_10 (by decide) (fun c_3 => ?_) (fun c_3 => ?_)
    · refine z_iconst X dX2_canAsk_35 ?_
      exact z_zret X hsz hr hlocks dX2_canAsk_36 (Or.inl rfl) ⟨(by first | rfl | ((try simp only [cCanAsk]); split <;> first | rfl | omega | (exfalso; omega)) | (simp [cCanAsk, c_1, c_3]; done) | (simp_all [cCanAsk]; done)), rfl⟩
    · refine z_aload_n X dX2_canAsk_13 rfl ?_
      refine z_iload_n X dX2_canAsk_14 rfl ?_
      refine z_callVI1 X (c_X2_isAwake hJ hk σ ok ho) kX2_79 rfl (zNet_lt hk) (zNet_obj hk ad G _ _) ⟨(Nat.le_of_ble_eq_true rfl), (Nat.le_of_ble_eq_true rfl)⟩ (Nat.le_of_ble_eq_true rfl) ⟨Nat.zero_le _, Nat.zero_le _⟩ dX2_canAsk_15 (fun z9 σ1 hz9 => ?_)
      obtain ⟨rfl, rfl⟩ := hz9
      refine z_ifb_eq X 35 dX2_canAsk_18 (by decide) (fun c_5 => ?_) (fun c_5 => ?_)
      · refine z_iconst X dX2_canAsk_35 ?_
        exact z_zret X hsz hr hlocks dX2_canAsk_36 (Or.inl rfl) ⟨(by first | rfl | ((try simp only [cCanAsk]); split <;> first | rfl | omega | (exfalso; omega)) | (simp [cCanAsk, c_1, c_3, c_5]; done) | (simp_all [cCanAsk]; done)), rfl⟩
      · refine z_aload_n X dX2_canAsk_21 rfl ?_
        refine z_iload_n X dX2_canAsk_22 rfl ?_
        refine z_iload_n X dX2_canAsk_23 rfl ?_
        refine z_callVI2 X (c_X2_stateOf hJ hk σ ok hd hs) kX2_66 rfl (zNet_lt hk) (zNet_obj hk ad G _ _) ⟨(Nat.le_of_ble_eq_true rfl), (Nat.le_of_ble_eq_true rfl)⟩ (Nat.le_of_ble_eq_true rfl) ⟨Nat.zero_le _, Nat.zero_le _⟩ dX2_canAsk_24 (fun z9 σ1 hz9 => ?_)
        obtain ⟨rfl, rfl⟩ := hz9
        refine z_iconst X dX2_canAsk_27 ?_
        refine z_icmp_ne X 35 dX2_canAsk_28 (by decide) (zB_sm (rg_st ok _ _)) ⟨by decide, by decide⟩ (fun c_7 => ?_) (fun c_7 => ?_)
        · refine z_iconst X dX2_canAsk_35 ?_
          exact z_zret X hsz hr hlocks dX2_canAsk_36 (Or.inl rfl) ⟨(by first | rfl | ((try simp only [cCanAsk]); split <;> first | rfl | omega | (exfalso; omega)) | (simp [cCanAsk, c_1, c_3, c_5, c_7]; done) | (simp_all [cCanAsk]; done)), rfl⟩
        · refine z_iconst X dX2_canAsk_31 ?_
          refine z_goto X 36 dX2_canAsk_32 (by decide) ?_
          exact z_zret X hsz hr hlocks dX2_canAsk_36 (Or.inr rfl) ⟨(by first | rfl | ((try simp only [cCanAsk]); split <;> first | rfl | omega | (exfalso; omega)) | (simp [cCanAsk, c_1, c_3, c_5, c_7]; done) | (simp_all [cCanAsk]; done)), rfl⟩
