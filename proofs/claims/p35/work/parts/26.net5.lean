theorem zBk_same {ad : Nat → Nat} {G : zG} {σ : zM} {k : Nat} (hk : zNet k) {N N' : zNt} (h0 : ∀ f, f < 4 → N 0 f = N' 0 f) (h1 : ∀ r, 1 ≤ r → r < 8 → N r = N' r) : zW ad G (zBk σ k 8 N) = zW ad G (zBk σ k 8 N') := by
  refine zW_same fun i hi => ?_
  by_cases h : k ≤ i ∧ i < k + 8
  · rcases Nat.eq_or_lt_of_le h.1 with e | e
    · subst e
      rw [zNet_obj hk, zNet_obj hk, zBk_row0 (by decide), zBk_row0 (by decide), h0 0 (by decide), h0 1 (by decide), h0 2 (by decide), h0 3 (by decide)]
    · have e2 : (zBk σ k 8 N).1 i = (zBk σ k 8 N').1 i := by
        obtain ⟨r, rfl⟩ : ∃ r, i = k + r := ⟨i - k, by omega⟩
        rw [zBk_row (by omega), zBk_row (by omega), h1 r (by omega) (by omega)]
      rw [e2]; rfl
  · rw [zBk_out h, zBk_out h]; rfl
theorem zCp_bk {σ : zM} {k k2 r : Nat} {N : zNt} (hr : r < 8) (ho : ¬ (k ≤ k2 + r ∧ k2 + r < k + 8)) : zCp (zBk σ k 8 N) (k2 + r) (k + r) = zBk σ k 8 (fun a b => if a = r then zRd σ k2 r b else N a b) := by
  unfold zCp
  refine congrArg (fun z => (z, σ.2)) (funext fun a => funext fun b => ?_)
  show (if a = k + r then (zBk σ k 8 N).1 (k2 + r) b else (zBk σ k 8 N).1 a b) = (if k ≤ a ∧ a < k + 8 then (if a - k = r then zRd σ k2 r b else N (a - k) b) else σ.1 a b)
  rw [zBk_out ho]
  by_cases h1 : a = k + r
  · rw [if_pos h1, if_pos ⟨by omega, by omega⟩, if_pos (by omega)]; rfl
  · rw [if_neg h1]
    show (if k ≤ a ∧ a < k + 8 then N (a - k) b else σ.1 a b) = _
    by_cases h2 : k ≤ a ∧ a < k + 8
    · rw [if_pos h2, if_pos h2, if_neg (by omega)]
    · rw [if_neg h2, if_neg h2]
set_option maxHeartbeats 4000000 in
set_option maxRecDepth 100000 in
theorem c_X2_copyFrom {l : Launch} {D : va_G} {G : zG} {ad : Nat → Nat} (hJ : zInj ad) {k k2 : Nat} (hk : zNet k) (h2 : zNet k2) (hne : k ≠ k2) (σ : zM) : zKV l D G ad yX2_copyFrom cX2_copyFrom 2 none 2 [.ref (ad k), .ref (ad k2)] σ (fun σ9 => σ9 = zBk σ k 8 (zRd σ k2)) := by
  intro sz
  refine z_open hJ (by decide +kernel) (Nat.le_of_ble_eq_true rfl) ?_
  intro p e s0 m args below meth c hsz X hr hlocks
  refine z_sub [(0, .ref (ad k)), (1, .ref (ad k2))] (zSub_cons rfl (zSub_cons rfl zSub_nil)) ?_
  obtain ⟨N, hN⟩ : ∃ N : zNt, N = zRd σ k := ⟨_, rfl⟩
  have ho : ∀ r, r < 8 → ¬ (k ≤ k2 + r ∧ k2 + r < k + 8) := fun r hr => by
    have a1 := hk.2.2
    have a2 := h2.2.2
    omega
  have ho0 : ¬ (k ≤ k2 ∧ k2 < k + 8) := ho 0 (by decide)
  rw [← zBk_rd σ k 8, ← hN]
  refine z_aload_n X dX2_copyFrom_0 rfl ?_
  refine z_aload_n X dX2_copyFrom_1 rfl ?_
  refine z_get X (v := vI (σ.1 k2 0)) fX2_9 (zNet_lt h2) (zNet_obj h2 ad G _ _) (by rw [zBk_out ho0]; rfl) dX2_copyFrom_2 ?_
  refine y_pNet0 X hk fX2_9 dX2_copyFrom_5 ?_
  refine z_aload_n X dX2_copyFrom_8 rfl ?_
  refine z_aload_n X dX2_copyFrom_9 rfl ?_
  refine z_get X (v := vI (σ.1 k2 1)) fX2_15 (zNet_lt h2) (zNet_obj h2 ad G _ _) (by rw [zBk_out ho0]; rfl) dX2_copyFrom_10 ?_
  refine y_pNet1 X hk fX2_15 dX2_copyFrom_13 ?_
  refine z_aload_n X dX2_copyFrom_16 rfl ?_
  refine z_aload_n X dX2_copyFrom_17 rfl ?_
  refine z_get X (v := vI (σ.1 k2 2)) fX2_18 (zNet_lt h2) (zNet_obj h2 ad G _ _) (by rw [zBk_out ho0]; rfl) dX2_copyFrom_18 ?_
  refine y_pNet2 X hk fX2_18 dX2_copyFrom_21 ?_
  refine z_aload_n X dX2_copyFrom_24 rfl ?_
  refine z_aload_n X dX2_copyFrom_25 rfl ?_
  refine z_get X (v := vI (σ.1 k2 3)) fX2_21 (zNet_lt h2) (zNet_obj h2 ad G _ _) (by rw [zBk_out ho0]; rfl) dX2_copyFrom_26 ?_
  refine y_pNet3 X hk fX2_21 dX2_copyFrom_29 ?_
  refine z_aload_n X dX2_copyFrom_32 rfl ?_
  refine y_gNet4 X h2 fX2_24 dX2_copyFrom_33 ?_
  refine z_aload_n X dX2_copyFrom_36 rfl ?_
  refine y_gNet4 X hk fX2_24 dX2_copyFrom_37 ?_
  refine z_callSV2 X (c_X2_copyRow hJ _ (zNA1 h2) (zNA1 hk) (by decide)) kX2_46 ⟨(Nat.le_of_ble_eq_true rfl), (Nat.le_of_ble_eq_true rfl)⟩ (Nat.le_of_ble_eq_true rfl) ⟨Nat.zero_le _, Nat.zero_le _⟩ dX2_copyFrom_40 (fun σ1 hz9 => ?_)
  obtain rfl := hz9
  rw [zCp_bk (by decide) (ho 1 (by decide))]
  refine z_aload_n X dX2_copyFrom_43 rfl ?_
  refine y_gNet5 X h2 fX2_28 dX2_copyFrom_44 ?_
  refine z_aload_n X dX2_copyFrom_47 rfl ?_
  refine y_gNet5 X hk fX2_28 dX2_copyFrom_48 ?_
  refine z_callSV2 X (c_X2_copyRow hJ _ (zNA2 h2) (zNA2 hk) (by decide)) kX2_46 ⟨(Nat.le_of_ble_eq_true rfl), (Nat.le_of_ble_eq_true rfl)⟩ (Nat.le_of_ble_eq_true rfl) ⟨Nat.zero_le _, Nat.zero_le _⟩ dX2_copyFrom_51 (fun σ1 hz9 => ?_)
  obtain rfl := hz9
  rw [zCp_bk (by decide) (ho 2 (by decide))]
  refine z_aload_n X dX2_copyFrom_54 rfl ?_
  refine y_gNet6 X h2 fX2_31 dX2_copyFrom_55 ?_
  refine z_aload_n X dX2_copyFrom_58 rfl ?_
  refine y_gNet6 X hk fX2_31 dX2_copyFrom_59 ?_
  refine z_callSV2 X (c_X2_copyRow hJ _ (zNA3 h2) (zNA3 hk) (by decide)) kX2_46 ⟨(Nat.le_of_ble_eq_true rfl), (Nat.le_of_ble_eq_true rfl)⟩ (Nat.le_of_ble_eq_true rfl) ⟨Nat.zero_le _, Nat.zero_le _⟩ dX2_copyFrom_62 (fun σ1 hz9 => ?_)
  obtain rfl := hz9
  rw [zCp_bk (by decide) (ho 3 (by decide))]
  refine z_aload_n X dX2_copyFrom_65 rfl ?_
  refine y_gNet7 X h2 fX2_34 dX2_copyFrom_66 ?_
  refine z_aload_n X dX2_copyFrom_69 rfl ?_
  refine y_gNet7 X hk fX2_34 dX2_copyFrom_70 ?_
  refine z_callSV2 X (c_X2_copyRow hJ _ (zNA4 h2) (zNA4 hk) (by decide)) kX2_46 ⟨(Nat.le_of_ble_eq_true rfl), (Nat.le_of_ble_eq_true rfl)⟩ (Nat.le_of_ble_eq_true rfl) ⟨Nat.zero_le _, Nat.zero_le _⟩ dX2_copyFrom_73 (fun σ1 hz9 => ?_)
  obtain rfl := hz9
  rw [zCp_bk (by decide) (ho 4 (by decide))]
  refine z_aload_n X dX2_copyFrom_76 rfl ?_
  refine y_gNet8 X h2 fX2_37 dX2_copyFrom_77 ?_
  refine z_aload_n X dX2_copyFrom_80 rfl ?_
  refine y_gNet8 X hk fX2_37 dX2_copyFrom_81 ?_
  refine z_callSV2 X (c_X2_copyRow hJ _ (zNA5 h2) (zNA5 hk) (by decide)) kX2_46 ⟨(Nat.le_of_ble_eq_true rfl), (Nat.le_of_ble_eq_true rfl)⟩ (Nat.le_of_ble_eq_true rfl) ⟨Nat.zero_le _, Nat.zero_le _⟩ dX2_copyFrom_84 (fun σ1 hz9 => ?_)
  obtain rfl := hz9
  rw [zCp_bk (by decide) (ho 5 (by decide))]
  refine z_aload_n X dX2_copyFrom_87 rfl ?_
  refine y_gNet9 X h2 fX2_40 dX2_copyFrom_88 ?_
  refine z_aload_n X dX2_copyFrom_91 rfl ?_
  refine y_gNet9 X hk fX2_40 dX2_copyFrom_92 ?_
  refine z_callSV2 X (c_X2_copyRow hJ _ (zNA6 h2) (zNA6 hk) (by decide)) kX2_46 ⟨(Nat.le_of_ble_eq_true rfl), (Nat.le_of_ble_eq_true rfl)⟩ (Nat.le_of_ble_eq_true rfl) ⟨Nat.zero_le _, Nat.zero_le _⟩ dX2_copyFrom_95 (fun σ1 hz9 => ?_)
  obtain rfl := hz9
  rw [zCp_bk (by decide) (ho 6 (by decide))]
  refine z_aload_n X dX2_copyFrom_98 rfl ?_
  refine y_gNet10 X h2 fX2_43 dX2_copyFrom_99 ?_
  refine z_aload_n X dX2_copyFrom_102 rfl ?_
  refine y_gNet10 X hk fX2_43 dX2_copyFrom_103 ?_
  refine z_callSV2 X (c_X2_copyRow hJ _ (zNA7 h2) (zNA7 hk) (by decide)) kX2_46 ⟨(Nat.le_of_ble_eq_true rfl), (Nat.le_of_ble_eq_true rfl)⟩ (Nat.le_of_ble_eq_true rfl) ⟨Nat.zero_le _, Nat.zero_le _⟩ dX2_copyFrom_106 (fun σ1 hz9 => ?_)
  obtain rfl := hz9
  rw [zCp_bk (by decide) (ho 7 (by decide))]
  refine z_same (zBk_same (N' := zRd σ k2) hk (fun f hf => ?_) (fun r h8 h9 => ?_)) ?_
  · rcases (show f = 0 ∨ f = 1 ∨ f = 2 ∨ f = 3 by omega) with rfl | rfl | rfl | rfl <;> rfl
  · rcases (show r = 1 ∨ r = 2 ∨ r = 3 ∨ r = 4 ∨ r = 5 ∨ r = 6 ∨ r = 7 by omega) with rfl | rfl | rfl | rfl | rfl | rfl | rfl <;> rfl
  · exact z_vret X hsz hr hlocks dX2_copyFrom_109 (by rw [hN, zBk_rd])
