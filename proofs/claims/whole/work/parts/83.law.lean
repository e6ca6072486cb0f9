/-! THE LAW'S BODY: its cases -/
theorem zKD_at {l : Launch} {D : va_G} {G : zG} {ad : Nat → Nat} {y : MethodName} {b : ByteArray} {mL : Nat} {r : Option FieldType} {d : Nat} {av : List Value} {S S' : zM} {Post : UInt64 → zM → Prop} (e : S' = S) (h : zKD l D G ad y b mL r d av S' Post) : zKD l D G ad y b mL r d av S Post := by subst e; exact h
theorem zB_01 {P : Prop} [Decidable P] : zB (if P then 0 else 1) := by split <;> exact ⟨by decide, by decide⟩
theorem zB_10 {P : Prop} [Decidable P] : zB (if P then 1 else 0) := by split <;> exact ⟨by decide, by decide⟩
theorem gC_app {σ σa : zM} {x z : Int} (hw : wPo σ (zBk σ 3 2 (tAddN (gT σ) x)) (tX_app (gT σ) x) ((tAddN (gT σ) x) 0 1) z σa) : gC σ σa := gC_M hw (fun a a1 a2 => zBk_out (by omega))
theorem gC_undo {σ σa : zM} {z : Int} (hw : wPo σ (zBk (zBk σ 8 8 (zRd σ ((gH σ) 1 ((gH σ) 0 1 - 1).toNat).toNat)) 1 2 (up2 (gH σ) 0 1 ((gH σ) 0 1 - 1))) (if (gH σ) 0 1 = 0 then 1 else 0) ((gH σ) 0 1 - 1) z σa) : gC σ σa := gC_M hw (fun a a1 a2 => by rw [zBk_out (by omega), zBk_out (by omega)])
theorem gC_run {σ σa : zM} {z : Int} (g : gI σ) (hw : wPo σ (zBk (zBk (fSv σ) 8 8 ((cRl (gT σ) (gT σ 0 1 + 1).toNat 0 0 (gA σ)).2)) 3 2 (up2 (gT σ) 0 1 0)) (if tCom (gT σ) then 0 else 1) ((cRl (gT σ) (gT σ 0 1 + 1).toNat 0 0 (gA σ)).1) z σa) : gC σ σa := gC_M hw (fun a a1 a2 => by rw [zBk_out (by omega), zBk_out (by omega)]; exact fSv_t g.2.1 (by omega))
theorem gC_tte {σ σa : zM} {d s z : Int} (hw : z = ((if cHas (gA σ) d ∧ (0 ≤ s ∧ s ≤ 5) then 0 else 1)) ∧ (((if cHas (gA σ) d ∧ (0 ≤ s ∧ s ≤ 5) then 0 else 1)) = (0 : Int) → ∃ W, σa = zSL (zBk σ 16 8 W) 72 0 (iI (cTte (gA σ) d s)).toInt64) ∧ (((if cHas (gA σ) d ∧ (0 ≤ s ∧ s ≤ 5) then 0 else 1)) ≠ (0 : Int) → σa = σ)) : gC σ σa := gC_of (fun a a1 a2 => by
  by_cases q : ((if cHas (gA σ) d ∧ (0 ≤ s ∧ s ≤ 5) then 0 else 1)) = (0 : Int)
  · obtain ⟨W, e⟩ := hw.2.1 q
    rw [e]
    show (zBk σ 16 8 W).1 a = σ.1 a
    exact zBk_out (by omega)
  · rw [hw.2.2 q])
def zLw (p : Program) (s : State) (m : MethodId) (b : Nat) (c : Code) (D : va_G) (G : zG) (ad : Nat → Nat) (L : Nat) (xs : Nat → Int32) : Prop := zX p s m #[.ref b] c cL_law 9 RL D G ad ∧ zXf ad s.heap.size s s.heap ∧ (va_X b L xs s s.heap ∧ b < s.heap.size ∧ ¬ zA ad s.heap.size b ∧ L ≤ 2048)
theorem lwSub {b : Nat} {ad : Nat → Nat} {i : Int} {lv : List (Nat × Value)} (h0 : zL lv 0 = some (.ref b)) (h1 : zL lv 1 = some (.ref (ad 0))) (h2 : zL lv 2 = some (.ref (ad 5))) (h3 : zL lv 3 = some (.ref (ad 72))) (h4 : zL lv 4 = some (vI i)) : zSub lv (lwL b ad i) := zSub_cons h0 (zSub_cons h1 (zSub_cons h2 (zSub_cons h3 (zSub_cons h4 zSub_nil))))
theorem kW_94 : zLkW RL 94 yL_begin cL_begin 6 (some .int) [(0, 12, 15, 13), (0, 12, 19, 15), (0, 12, 23, 17)] 5 := ⟨zAllc (zU_mem 331 (by decide +kernel) (by decide +kernel)) (zAllc (zU_mem 332 (by decide +kernel) (by decide +kernel)) (zAllc (zU_mem 56 (by decide +kernel) (by decide +kernel)) (zAll1 (zU_mem 333 (by decide +kernel) (by decide +kernel))))), by decide +kernel, by decide +kernel, by decide +kernel⟩
theorem kW_103 : zLkW RL 103 yL_vote cL_vote 6 (some .int) [(0, 12, 15, 13), (0, 12, 19, 17)] 5 := ⟨zAllc (zU_mem 482 (by decide +kernel) (by decide +kernel)) (zAllc (zU_mem 483 (by decide +kernel) (by decide +kernel)) (zAllc (zU_mem 56 (by decide +kernel) (by decide +kernel)) (zAll1 (zU_mem 484 (by decide +kernel) (by decide +kernel))))), by decide +kernel, by decide +kernel, by decide +kernel⟩
theorem kW_107 : zLkW RL 107 yL_decide cL_decide 4 (some .int) [(0, 9, 12, 13), (0, 9, 15, 17)] 3 := ⟨zAllc (zU_mem 521 (by decide +kernel) (by decide +kernel)) (zAllc (zU_mem 522 (by decide +kernel) (by decide +kernel)) (zAllc (zU_mem 56 (by decide +kernel) (by decide +kernel)) (zAll1 (zU_mem 523 (by decide +kernel) (by decide +kernel))))), by decide +kernel, by decide +kernel, by decide +kernel⟩
theorem kW_111 : zLkW RL 111 yL_tell cL_tell 5 (some .int) [(0, 10, 13, 13), (0, 10, 17, 17)] 4 := ⟨zAllc (zU_mem 546 (by decide +kernel) (by decide +kernel)) (zAllc (zU_mem 547 (by decide +kernel) (by decide +kernel)) (zAllc (zU_mem 56 (by decide +kernel) (by decide +kernel)) (zAll1 (zU_mem 548 (by decide +kernel) (by decide +kernel))))), by decide +kernel, by decide +kernel, by decide +kernel⟩
theorem kW_115 : zLkW RL 115 yL_ask cL_ask 6 (some .int) [(0, 12, 15, 13), (0, 12, 19, 15), (0, 12, 23, 17)] 5 := ⟨zAllc (zU_mem 563 (by decide +kernel) (by decide +kernel)) (zAllc (zU_mem 564 (by decide +kernel) (by decide +kernel)) (zAllc (zU_mem 56 (by decide +kernel) (by decide +kernel)) (zAll1 (zU_mem 565 (by decide +kernel) (by decide +kernel))))), by decide +kernel, by decide +kernel, by decide +kernel⟩
theorem kW_118 : zLkW RL 118 yL_fallSilent cL_fallSilent 4 (some .int) [(0, 9, 12, 13), (0, 9, 15, 17)] 3 := ⟨zAllc (zU_mem 577 (by decide +kernel) (by decide +kernel)) (zAllc (zU_mem 578 (by decide +kernel) (by decide +kernel)) (zAllc (zU_mem 56 (by decide +kernel) (by decide +kernel)) (zAll1 (zU_mem 579 (by decide +kernel) (by decide +kernel))))), by decide +kernel, by decide +kernel, by decide +kernel⟩
theorem kW_121 : zLkW RL 121 yL_comeBack cL_comeBack 4 (some .int) [(0, 9, 12, 13), (0, 9, 15, 17)] 3 := ⟨zAllc (zU_mem 590 (by decide +kernel) (by decide +kernel)) (zAllc (zU_mem 591 (by decide +kernel) (by decide +kernel)) (zAllc (zU_mem 56 (by decide +kernel) (by decide +kernel)) (zAll1 (zU_mem 592 (by decide +kernel) (by decide +kernel))))), by decide +kernel, by decide +kernel, by decide +kernel⟩
theorem kW_124 : zLkW RL 124 yL_pass cL_pass 4 (some .int) [(0, 9, 12, 15)] 3 := ⟨zAllc (zU_mem 602 (by decide +kernel) (by decide +kernel)) (zAllc (zU_mem 603 (by decide +kernel) (by decide +kernel)) (zAllc (zU_mem 56 (by decide +kernel) (by decide +kernel)) (zAll1 (zU_mem 604 (by decide +kernel) (by decide +kernel))))), by decide +kernel, by decide +kernel, by decide +kernel⟩
theorem kW_127 : zLkW RL 127 yL_setPatience cL_setPatience 4 (some .int) [(0, 9, 12, 15)] 3 := ⟨zAllc (zU_mem 623 (by decide +kernel) (by decide +kernel)) (zAllc (zU_mem 624 (by decide +kernel) (by decide +kernel)) (zAllc (zU_mem 56 (by decide +kernel) (by decide +kernel)) (zAll1 (zU_mem 625 (by decide +kernel) (by decide +kernel))))), by decide +kernel, by decide +kernel, by decide +kernel⟩
theorem kW_134 : zLkW RL 134 yL_isUp cL_isUp 4 (some .int) [(0, 16, 19, 13)] 3 := ⟨zAllc (zU_mem 635 (by decide +kernel) (by decide +kernel)) (zAllc (zU_mem 636 (by decide +kernel) (by decide +kernel)) (zAllc (zU_mem 56 (by decide +kernel) (by decide +kernel)) (zAll1 (zU_mem 637 (by decide +kernel) (by decide +kernel))))), by decide +kernel, by decide +kernel, by decide +kernel⟩
theorem kW_137 : zLkW RL 137 yL_state cL_state 5 (some .int) [(0, 10, 13, 13)] 4 := ⟨zAllc (zU_mem 642 (by decide +kernel) (by decide +kernel)) (zAllc (zU_mem 643 (by decide +kernel) (by decide +kernel)) (zAllc (zU_mem 56 (by decide +kernel) (by decide +kernel)) (zAll1 (zU_mem 644 (by decide +kernel) (by decide +kernel))))), by decide +kernel, by decide +kernel, by decide +kernel⟩
theorem kW_140 : zLkW RL 140 yL_decision cL_decision 4 (some .int) [(0, 9, 12, 13)] 3 := ⟨zAllc (zU_mem 650 (by decide +kernel) (by decide +kernel)) (zAllc (zU_mem 651 (by decide +kernel) (by decide +kernel)) (zAllc (zU_mem 56 (by decide +kernel) (by decide +kernel)) (zAll1 (zU_mem 652 (by decide +kernel) (by decide +kernel))))), by decide +kernel, by decide +kernel, by decide +kernel⟩
theorem kW_143 : zLkW RL 143 yL_leader cL_leader 4 (some .int) [(0, 9, 12, 13)] 3 := ⟨zAllc (zU_mem 658 (by decide +kernel) (by decide +kernel)) (zAllc (zU_mem 659 (by decide +kernel) (by decide +kernel)) (zAllc (zU_mem 56 (by decide +kernel) (by decide +kernel)) (zAll1 (zU_mem 660 (by decide +kernel) (by decide +kernel))))), by decide +kernel, by decide +kernel, by decide +kernel⟩
theorem kW_146 : zLkW RL 146 yL_patience cL_patience 5 (some .int) [(0, 10, 13, 13)] 4 := ⟨zAllc (zU_mem 666 (by decide +kernel) (by decide +kernel)) (zAllc (zU_mem 667 (by decide +kernel) (by decide +kernel)) (zAllc (zU_mem 56 (by decide +kernel) (by decide +kernel)) (zAll1 (zU_mem 668 (by decide +kernel) (by decide +kernel))))), by decide +kernel, by decide +kernel, by decide +kernel⟩
theorem kW_157 : zLkW RL 157 yL_logLength cL_logLength 4 (some .int) [(0, 9, 12, 13)] 3 := ⟨zAllc (zU_mem 674 (by decide +kernel) (by decide +kernel)) (zAllc (zU_mem 675 (by decide +kernel) (by decide +kernel)) (zAllc (zU_mem 56 (by decide +kernel) (by decide +kernel)) (zAll1 (zU_mem 676 (by decide +kernel) (by decide +kernel))))), by decide +kernel, by decide +kernel, by decide +kernel⟩
theorem kW_160 : zLkW RL 160 yL_log cL_log 5 (some .int) [(0, 10, 13, 13)] 4 := ⟨zAllc (zU_mem 682 (by decide +kernel) (by decide +kernel)) (zAllc (zU_mem 683 (by decide +kernel) (by decide +kernel)) (zAllc (zU_mem 56 (by decide +kernel) (by decide +kernel)) (zAll1 (zU_mem 684 (by decide +kernel) (by decide +kernel))))), by decide +kernel, by decide +kernel, by decide +kernel⟩
theorem kW_163 : zLkW RL 163 yL_held cL_held 4 (some .int) [(0, 9, 12, 13)] 3 := ⟨zAllc (zU_mem 691 (by decide +kernel) (by decide +kernel)) (zAllc (zU_mem 692 (by decide +kernel) (by decide +kernel)) (zAllc (zU_mem 56 (by decide +kernel) (by decide +kernel)) (zAll1 (zU_mem 693 (by decide +kernel) (by decide +kernel))))), by decide +kernel, by decide +kernel, by decide +kernel⟩
theorem kW_175 : zLkW RL 175 yL_reason cL_reason 5 (some .int) [(0, 10, 13, 13)] 4 := ⟨zAllc (zU_mem 699 (by decide +kernel) (by decide +kernel)) (zAllc (zU_mem 700 (by decide +kernel) (by decide +kernel)) (zAllc (zU_mem 56 (by decide +kernel) (by decide +kernel)) (zAll1 (zU_mem 701 (by decide +kernel) (by decide +kernel))))), by decide +kernel, by decide +kernel, by decide +kernel⟩
theorem kW_178 : zLkW RL 178 yL_helper cL_helper 5 (some .int) [(0, 10, 13, 13)] 4 := ⟨zAllc (zU_mem 710 (by decide +kernel) (by decide +kernel)) (zAllc (zU_mem 711 (by decide +kernel) (by decide +kernel)) (zAllc (zU_mem 56 (by decide +kernel) (by decide +kernel)) (zAll1 (zU_mem 712 (by decide +kernel) (by decide +kernel))))), by decide +kernel, by decide +kernel, by decide +kernel⟩
theorem kW_181 : zLkW RL 181 yL_ticksToEnd cL_ticksToEnd 5 (some .int) [(0, 10, 13, 13)] 4 := ⟨zAllc (zU_mem 718 (by decide +kernel) (by decide +kernel)) (zAllc (zU_mem 719 (by decide +kernel) (by decide +kernel)) (zAllc (zU_mem 56 (by decide +kernel) (by decide +kernel)) (zAll1 (zU_mem 720 (by decide +kernel) (by decide +kernel))))), by decide +kernel, by decide +kernel, by decide +kernel⟩
theorem kW_184 : zLkW RL 184 yL_append cL_append 4 (some .int) [(0, 9, 12, 15), (0, 9, 15, 17)] 3 := ⟨zAllc (zU_mem 731 (by decide +kernel) (by decide +kernel)) (zAllc (zU_mem 732 (by decide +kernel) (by decide +kernel)) (zAllc (zU_mem 56 (by decide +kernel) (by decide +kernel)) (zAll1 (zU_mem 733 (by decide +kernel) (by decide +kernel))))), by decide +kernel, by decide +kernel, by decide +kernel⟩
theorem kW_195 : zLkW RL 195 yL_run cL_run 3 (some .int) [(0, 8, 11, 15)] 2 := ⟨zAllc (zU_mem 749 (by decide +kernel) (by decide +kernel)) (zAllc (zU_mem 750 (by decide +kernel) (by decide +kernel)) (zAllc (zU_mem 56 (by decide +kernel) (by decide +kernel)) (zAll1 (zU_mem 751 (by decide +kernel) (by decide +kernel))))), by decide +kernel, by decide +kernel, by decide +kernel⟩
theorem kW_199 : zLkW RL 199 yL_undo cL_undo 3 (some .int) [(0, 8, 11, 17)] 2 := ⟨zAllc (zU_mem 783 (by decide +kernel) (by decide +kernel)) (zAllc (zU_mem 784 (by decide +kernel) (by decide +kernel)) (zAllc (zU_mem 56 (by decide +kernel) (by decide +kernel)) (zAll1 (zU_mem 785 (by decide +kernel) (by decide +kernel))))), by decide +kernel, by decide +kernel, by decide +kernel⟩
section LW
variable {p : Program} {l : Launch} {en : Env} {s : State} {m : MethodId} {below : List Frame} {meth : Method} {c : Code} {D : va_G} {G : zG} {ad : Nat → Nat} {cells slots : Nat} {Q : State → Prop}
variable {σ : zM} {b L : Nat} {xs : Nat → Int32} {i : Int}
set_option maxHeartbeats 4000000 in
set_option maxRecDepth 100000 in
theorem lc_begin (W : zLw p s m b c D G ad L xs) (hJ : zInj ad) (hl : l.stackTraces = false) (g : gI σ) (hi : 0 ≤ i ∧ i + 4 ≤ L) (hr : cells + 4 ≤ room_1.cells ∧ slots + 6 * 4 ≤ room_1.slots) (k : ∀ σ2, gI σ2 → zV p l en room_1 s m #[.ref b] below meth c 9 D G ad (cells + 4) (slots + 6 * 4) Q 1769 (lwL b ad i) [] σ2) : zV p l en room_1 s m #[.ref b] below meth c 9 D G ad cells slots Q 180 (lwL b ad i) [] σ := by
  have X := W.1
  have F := W.2.1
  have fi := gI_f g
  refine z_aload_n X dL_law_180 rfl ?_
  refine lw_arg X W.2.2 (by omega) rfl rfl dL_law_181 dL_law_182 dL_law_184 dL_law_185 dL_law_186 ?_
  refine lw_arg X W.2.2 (by omega) rfl rfl dL_law_187 dL_law_188 dL_law_190 dL_law_191 dL_law_192 ?_
  refine lw_arg X W.2.2 (by omega) rfl rfl dL_law_193 dL_law_194 dL_law_196 dL_law_197 dL_law_198 ?_
  refine z_aload_n X dL_law_199 rfl ?_
  refine z_callW X F (As := [.ref (ad 0), vI (lwA xs i 1), vI (lwA xs i 2), vI (lwA xs i 3), .ref (ad 72)]) (st := []) (c_L_begin hJ hl σ fi (lwA_B _ _ _) (lwA_B _ _ _) (lwA_B _ _ _)) kW_94 rfl rfl ⟨(Nat.le_of_ble_eq_true rfl), (Nat.le_of_ble_eq_true rfl)⟩ (Nat.le_of_ble_eq_true rfl) hr dL_law_200 (fun z σa hw => ?_)
  have pr := gI_pre g (gC_S g hw)
  have hz : zB z := by
    rw [hw.1]; rcases rx_begin σ (lwA xs i 1) (lwA xs i 2) (lwA xs i 3) with h | h | h | h <;> rw [h] <;> exact ⟨by decide, by decide⟩
  refine z_istore X dL_law_203 (by decide) ?_
  refine z_sub [(0, .ref b), (1, .ref (ad 0)), (2, .ref (ad 5)), (3, .ref (ad 72)), (4, vI i), (5, vI z)] (zSub_cons rfl (zSub_cons rfl (zSub_cons rfl (zSub_cons rfl (zSub_cons rfl (zSub_cons rfl zSub_nil)))))) ?_
  refine z_aload_n X dL_law_205 rfl ?_
  refine lw_arg X W.2.2 (by omega) rfl rfl dL_law_206 dL_law_207 dL_law_209 dL_law_210 dL_law_211 ?_
  refine lw_arg X W.2.2 (by omega) rfl rfl dL_law_212 dL_law_213 dL_law_215 dL_law_216 dL_law_217 ?_
  refine lw_arg X W.2.2 (by omega) rfl rfl dL_law_218 dL_law_219 dL_law_221 dL_law_222 dL_law_223 ?_
  refine z_callVI3 X (zKI_at (gM_bk σa) (c_X4_begin hJ σa (N := gM σa) (lwA_B _ _ _) (lwA_B _ _ _) (lwA_B _ _ _) pr.1.1 pr.1.2.1 pr.1.2.2 pr.2.1)) kL_99 (ci := 4) rfl (by decide) rfl ⟨(Nat.le_of_ble_eq_true rfl), (Nat.le_of_ble_eq_true rfl)⟩ (Nat.le_of_ble_eq_true rfl) hr dL_law_224 (fun z' σ2 hz2 => ?_)
  have w := cs_begin g hw hz2
  refine z_istore X dL_law_227 (by decide) ?_
  refine z_sub [(0, .ref b), (1, .ref (ad 0)), (2, .ref (ad 5)), (3, .ref (ad 72)), (4, vI i), (5, vI z), (6, vI z')] (zSub_cons rfl (zSub_cons rfl (zSub_cons rfl (zSub_cons rfl (zSub_cons rfl (zSub_cons rfl (zSub_cons rfl zSub_nil))))))) ?_
  exact lw_tail X hJ w hz hr ⟨(Nat.le_of_ble_eq_true rfl), (Nat.le_of_ble_eq_true rfl)⟩ rfl rfl rfl rfl dL_law_229 dL_law_230 dL_law_233 dL_law_235 dL_law_240 dL_law_242 dL_law_245 dL_law_246 dL_law_247 dL_law_248 dL_law_250 dL_law_251 dL_law_252 dL_law_257 ⟨rfl, rfl, rfl, by decide⟩ (z_sub (lwL b ad i) (lwSub rfl rfl rfl rfl rfl) (k σ2 w.2.2)) rfl
set_option maxHeartbeats 4000000 in
set_option maxRecDepth 100000 in
theorem lc_vote (W : zLw p s m b c D G ad L xs) (hJ : zInj ad) (hl : l.stackTraces = false) (g : gI σ) (hi : 0 ≤ i ∧ i + 4 ≤ L) (hr : cells + 4 ≤ room_1.cells ∧ slots + 6 * 4 ≤ room_1.slots) (k : ∀ σ2, gI σ2 → zV p l en room_1 s m #[.ref b] below meth c 9 D G ad (cells + 4) (slots + 6 * 4) Q 1769 (lwL b ad i) [] σ2) : zV p l en room_1 s m #[.ref b] below meth c 9 D G ad cells slots Q 260 (lwL b ad i) [] σ := by
  have X := W.1
  have F := W.2.1
  have fi := gI_f g
  refine z_aload_n X dL_law_260 rfl ?_
  refine lw_arg X W.2.2 (by omega) rfl rfl dL_law_261 dL_law_262 dL_law_264 dL_law_265 dL_law_266 ?_
  refine lw_arg X W.2.2 (by omega) rfl rfl dL_law_267 dL_law_268 dL_law_270 dL_law_271 dL_law_272 ?_
  refine lw_arg X W.2.2 (by omega) rfl rfl dL_law_273 dL_law_274 dL_law_276 dL_law_277 dL_law_278 ?_
  refine lw_bool X (lwA_B _ _ _) dL_law_279 dL_law_282 dL_law_283 dL_law_286 rfl rfl ?_
  refine z_aload_n X dL_law_287 rfl ?_
  refine z_callW X F (As := [.ref (ad 0), vI (lwA xs i 1), vI (lwA xs i 2), vI (if (lwA xs i 3) = 0 then 0 else 1), .ref (ad 72)]) (st := []) (c_L_vote hJ hl σ fi (lwA_B _ _ _) (lwA_B _ _ _) zB_01) kW_103 rfl rfl ⟨(Nat.le_of_ble_eq_true rfl), (Nat.le_of_ble_eq_true rfl)⟩ (Nat.le_of_ble_eq_true rfl) hr dL_law_288 (fun z σa hw => ?_)
  have pr := gI_pre g (gC_S g hw)
  have hz : zB z := by
    rw [hw.1]; rcases rx_vote σ (lwA xs i 1) (lwA xs i 2) (if (lwA xs i 3) = 0 then 0 else 1) with h | h | h <;> rw [h] <;> exact ⟨by decide, by decide⟩
  refine z_istore X dL_law_291 (by decide) ?_
  refine z_sub [(0, .ref b), (1, .ref (ad 0)), (2, .ref (ad 5)), (3, .ref (ad 72)), (4, vI i), (5, vI z)] (zSub_cons rfl (zSub_cons rfl (zSub_cons rfl (zSub_cons rfl (zSub_cons rfl (zSub_cons rfl zSub_nil)))))) ?_
  refine z_aload_n X dL_law_293 rfl ?_
  refine lw_arg X W.2.2 (by omega) rfl rfl dL_law_294 dL_law_295 dL_law_297 dL_law_298 dL_law_299 ?_
  refine lw_arg X W.2.2 (by omega) rfl rfl dL_law_300 dL_law_301 dL_law_303 dL_law_304 dL_law_305 ?_
  refine lw_arg X W.2.2 (by omega) rfl rfl dL_law_306 dL_law_307 dL_law_309 dL_law_310 dL_law_311 ?_
  refine lw_bool X (lwA_B _ _ _) dL_law_312 dL_law_315 dL_law_316 dL_law_319 rfl rfl ?_
  refine z_callVI3 X (zKI_at (gM_bk σa) (c_X4_vote hJ σa (N := gM σa) (lwA_B _ _ _) (lwA_B _ _ _) zB_01 pr.1.1 pr.1.2.1 pr.1.2.2 pr.2.1)) kL_106 (ci := 4) rfl (by decide) rfl ⟨(Nat.le_of_ble_eq_true rfl), (Nat.le_of_ble_eq_true rfl)⟩ (Nat.le_of_ble_eq_true rfl) hr dL_law_320 (fun z' σ2 hz2 => ?_)
  have w := cs_vote g hw hz2
  refine z_istore X dL_law_323 (by decide) ?_
  refine z_sub [(0, .ref b), (1, .ref (ad 0)), (2, .ref (ad 5)), (3, .ref (ad 72)), (4, vI i), (5, vI z), (6, vI z')] (zSub_cons rfl (zSub_cons rfl (zSub_cons rfl (zSub_cons rfl (zSub_cons rfl (zSub_cons rfl (zSub_cons rfl zSub_nil))))))) ?_
  exact lw_tail X hJ w hz hr ⟨(Nat.le_of_ble_eq_true rfl), (Nat.le_of_ble_eq_true rfl)⟩ rfl rfl rfl rfl dL_law_325 dL_law_326 dL_law_329 dL_law_331 dL_law_336 dL_law_338 dL_law_341 dL_law_342 dL_law_343 dL_law_344 dL_law_346 dL_law_347 dL_law_348 dL_law_353 ⟨rfl, rfl, rfl, by decide⟩ (z_sub (lwL b ad i) (lwSub rfl rfl rfl rfl rfl) (k σ2 w.2.2)) rfl
set_option maxHeartbeats 4000000 in
set_option maxRecDepth 100000 in
theorem lc_decide (W : zLw p s m b c D G ad L xs) (hJ : zInj ad) (hl : l.stackTraces = false) (g : gI σ) (hi : 0 ≤ i ∧ i + 4 ≤ L) (hr : cells + 4 ≤ room_1.cells ∧ slots + 6 * 4 ≤ room_1.slots) (k : ∀ σ2, gI σ2 → zV p l en room_1 s m #[.ref b] below meth c 9 D G ad (cells + 4) (slots + 6 * 4) Q 1769 (lwL b ad i) [] σ2) : zV p l en room_1 s m #[.ref b] below meth c 9 D G ad cells slots Q 356 (lwL b ad i) [] σ := by
  have X := W.1
  have F := W.2.1
  have fi := gI_f g
  refine z_aload_n X dL_law_356 rfl ?_
  refine lw_arg X W.2.2 (by omega) rfl rfl dL_law_357 dL_law_358 dL_law_360 dL_law_361 dL_law_362 ?_
  refine z_aload_n X dL_law_363 rfl ?_
  refine z_callW X F (As := [.ref (ad 0), vI (lwA xs i 1), .ref (ad 72)]) (st := []) (c_L_decide hJ hl σ fi (lwA_B _ _ _)) kW_107 rfl rfl ⟨(Nat.le_of_ble_eq_true rfl), (Nat.le_of_ble_eq_true rfl)⟩ (Nat.le_of_ble_eq_true rfl) hr dL_law_364 (fun z σa hw => ?_)
  have pr := gI_pre g (gC_S g hw)
  have hz : zB z := by
    rw [hw.1]; rcases rx_decide σ (lwA xs i 1) with h | h | h <;> rw [h] <;> exact ⟨by decide, by decide⟩
  refine z_istore X dL_law_367 (by decide) ?_
  refine z_sub [(0, .ref b), (1, .ref (ad 0)), (2, .ref (ad 5)), (3, .ref (ad 72)), (4, vI i), (5, vI z)] (zSub_cons rfl (zSub_cons rfl (zSub_cons rfl (zSub_cons rfl (zSub_cons rfl (zSub_cons rfl zSub_nil)))))) ?_
  refine z_aload_n X dL_law_369 rfl ?_
  refine lw_arg X W.2.2 (by omega) rfl rfl dL_law_370 dL_law_371 dL_law_373 dL_law_374 dL_law_375 ?_
  refine z_callVI1 X (zKI_at (gM_bk σa) (c_X4_decide hJ σa (N := gM σa) (lwA_B _ _ _) pr.1.1 pr.1.2.1 pr.1.2.2 pr.2.1)) kL_110 (ci := 4) rfl (by decide) rfl ⟨(Nat.le_of_ble_eq_true rfl), (Nat.le_of_ble_eq_true rfl)⟩ (Nat.le_of_ble_eq_true rfl) hr dL_law_376 (fun z' σ2 hz2 => ?_)
  have w := cs_decide g hw hz2
  refine z_istore X dL_law_379 (by decide) ?_
  refine z_sub [(0, .ref b), (1, .ref (ad 0)), (2, .ref (ad 5)), (3, .ref (ad 72)), (4, vI i), (5, vI z), (6, vI z')] (zSub_cons rfl (zSub_cons rfl (zSub_cons rfl (zSub_cons rfl (zSub_cons rfl (zSub_cons rfl (zSub_cons rfl zSub_nil))))))) ?_
  exact lw_tail X hJ w hz hr ⟨(Nat.le_of_ble_eq_true rfl), (Nat.le_of_ble_eq_true rfl)⟩ rfl rfl rfl rfl dL_law_381 dL_law_382 dL_law_385 dL_law_387 dL_law_392 dL_law_394 dL_law_397 dL_law_398 dL_law_399 dL_law_400 dL_law_402 dL_law_403 dL_law_404 dL_law_409 ⟨rfl, rfl, rfl, by decide⟩ (z_sub (lwL b ad i) (lwSub rfl rfl rfl rfl rfl) (k σ2 w.2.2)) rfl
set_option maxHeartbeats 4000000 in
set_option maxRecDepth 100000 in
theorem lc_tell (W : zLw p s m b c D G ad L xs) (hJ : zInj ad) (hl : l.stackTraces = false) (g : gI σ) (hi : 0 ≤ i ∧ i + 4 ≤ L) (hr : cells + 4 ≤ room_1.cells ∧ slots + 6 * 4 ≤ room_1.slots) (k : ∀ σ2, gI σ2 → zV p l en room_1 s m #[.ref b] below meth c 9 D G ad (cells + 4) (slots + 6 * 4) Q 1769 (lwL b ad i) [] σ2) : zV p l en room_1 s m #[.ref b] below meth c 9 D G ad cells slots Q 412 (lwL b ad i) [] σ := by
  have X := W.1
  have F := W.2.1
  have fi := gI_f g
  refine z_aload_n X dL_law_412 rfl ?_
  refine lw_arg X W.2.2 (by omega) rfl rfl dL_law_413 dL_law_414 dL_law_416 dL_law_417 dL_law_418 ?_
  refine lw_arg X W.2.2 (by omega) rfl rfl dL_law_419 dL_law_420 dL_law_422 dL_law_423 dL_law_424 ?_
  refine z_aload_n X dL_law_425 rfl ?_
  refine z_callW X F (As := [.ref (ad 0), vI (lwA xs i 1), vI (lwA xs i 2), .ref (ad 72)]) (st := []) (c_L_tell hJ hl σ fi (lwA_B _ _ _) (lwA_B _ _ _)) kW_111 rfl rfl ⟨(Nat.le_of_ble_eq_true rfl), (Nat.le_of_ble_eq_true rfl)⟩ (Nat.le_of_ble_eq_true rfl) hr dL_law_426 (fun z σa hw => ?_)
  have pr := gI_pre g (gC_S g hw)
  have hz : zB z := by
    rw [hw.1]; rcases rx_tell σ (lwA xs i 1) (lwA xs i 2) with h | h | h <;> rw [h] <;> exact ⟨by decide, by decide⟩
  refine z_istore X dL_law_429 (by decide) ?_
  refine z_sub [(0, .ref b), (1, .ref (ad 0)), (2, .ref (ad 5)), (3, .ref (ad 72)), (4, vI i), (5, vI z)] (zSub_cons rfl (zSub_cons rfl (zSub_cons rfl (zSub_cons rfl (zSub_cons rfl (zSub_cons rfl zSub_nil)))))) ?_
  refine z_aload_n X dL_law_431 rfl ?_
  refine lw_arg X W.2.2 (by omega) rfl rfl dL_law_432 dL_law_433 dL_law_435 dL_law_436 dL_law_437 ?_
  refine lw_arg X W.2.2 (by omega) rfl rfl dL_law_438 dL_law_439 dL_law_441 dL_law_442 dL_law_443 ?_
  refine z_callVI2 X (zKI_at (gM_bk σa) (c_X4_tell hJ σa (N := gM σa) (lwA_B _ _ _) (lwA_B _ _ _) pr.1.1 pr.1.2.1 pr.1.2.2 pr.2.1)) kL_114 (ci := 4) rfl (by decide) rfl ⟨(Nat.le_of_ble_eq_true rfl), (Nat.le_of_ble_eq_true rfl)⟩ (Nat.le_of_ble_eq_true rfl) hr dL_law_444 (fun z' σ2 hz2 => ?_)
  have w := cs_tell g hw hz2
  refine z_istore X dL_law_447 (by decide) ?_
  refine z_sub [(0, .ref b), (1, .ref (ad 0)), (2, .ref (ad 5)), (3, .ref (ad 72)), (4, vI i), (5, vI z), (6, vI z')] (zSub_cons rfl (zSub_cons rfl (zSub_cons rfl (zSub_cons rfl (zSub_cons rfl (zSub_cons rfl (zSub_cons rfl zSub_nil))))))) ?_
  exact lw_tail X hJ w hz hr ⟨(Nat.le_of_ble_eq_true rfl), (Nat.le_of_ble_eq_true rfl)⟩ rfl rfl rfl rfl dL_law_449 dL_law_450 dL_law_453 dL_law_455 dL_law_460 dL_law_462 dL_law_465 dL_law_466 dL_law_467 dL_law_468 dL_law_470 dL_law_471 dL_law_472 dL_law_477 ⟨rfl, rfl, rfl, by decide⟩ (z_sub (lwL b ad i) (lwSub rfl rfl rfl rfl rfl) (k σ2 w.2.2)) rfl
set_option maxHeartbeats 4000000 in
set_option maxRecDepth 100000 in
theorem lc_ask (W : zLw p s m b c D G ad L xs) (hJ : zInj ad) (hl : l.stackTraces = false) (g : gI σ) (hi : 0 ≤ i ∧ i + 4 ≤ L) (hr : cells + 4 ≤ room_1.cells ∧ slots + 6 * 4 ≤ room_1.slots) (k : ∀ σ2, gI σ2 → zV p l en room_1 s m #[.ref b] below meth c 9 D G ad (cells + 4) (slots + 6 * 4) Q 1769 (lwL b ad i) [] σ2) : zV p l en room_1 s m #[.ref b] below meth c 9 D G ad cells slots Q 480 (lwL b ad i) [] σ := by
  have X := W.1
  have F := W.2.1
  have fi := gI_f g
  refine z_aload_n X dL_law_480 rfl ?_
  refine lw_arg X W.2.2 (by omega) rfl rfl dL_law_481 dL_law_482 dL_law_484 dL_law_485 dL_law_486 ?_
  refine lw_arg X W.2.2 (by omega) rfl rfl dL_law_487 dL_law_488 dL_law_490 dL_law_491 dL_law_492 ?_
  refine lw_arg X W.2.2 (by omega) rfl rfl dL_law_493 dL_law_494 dL_law_496 dL_law_497 dL_law_498 ?_
  refine z_aload_n X dL_law_499 rfl ?_
  refine z_callW X F (As := [.ref (ad 0), vI (lwA xs i 1), vI (lwA xs i 2), vI (lwA xs i 3), .ref (ad 72)]) (st := []) (c_L_ask hJ hl σ fi (lwA_B _ _ _) (lwA_B _ _ _) (lwA_B _ _ _)) kW_115 rfl rfl ⟨(Nat.le_of_ble_eq_true rfl), (Nat.le_of_ble_eq_true rfl)⟩ (Nat.le_of_ble_eq_true rfl) hr dL_law_500 (fun z σa hw => ?_)
  have pr := gI_pre g (gC_S g hw)
  have hz : zB z := by
    rw [hw.1]; rcases rx_ask σ (lwA xs i 1) (lwA xs i 2) (lwA xs i 3) with h | h | h | h <;> rw [h] <;> exact ⟨by decide, by decide⟩
  refine z_istore X dL_law_503 (by decide) ?_
  refine z_sub [(0, .ref b), (1, .ref (ad 0)), (2, .ref (ad 5)), (3, .ref (ad 72)), (4, vI i), (5, vI z)] (zSub_cons rfl (zSub_cons rfl (zSub_cons rfl (zSub_cons rfl (zSub_cons rfl (zSub_cons rfl zSub_nil)))))) ?_
  refine z_aload_n X dL_law_505 rfl ?_
  refine lw_arg X W.2.2 (by omega) rfl rfl dL_law_506 dL_law_507 dL_law_509 dL_law_510 dL_law_511 ?_
  refine lw_arg X W.2.2 (by omega) rfl rfl dL_law_512 dL_law_513 dL_law_515 dL_law_516 dL_law_517 ?_
  refine lw_arg X W.2.2 (by omega) rfl rfl dL_law_518 dL_law_519 dL_law_521 dL_law_522 dL_law_523 ?_
  refine z_callVI3 X (zKI_at (gM_bk σa) (c_X4_ask hJ σa (N := gM σa) (lwA_B _ _ _) (lwA_B _ _ _) (lwA_B _ _ _) pr.1.1 pr.1.2.1 pr.1.2.2 pr.2.1)) kL_117 (ci := 4) rfl (by decide) rfl ⟨(Nat.le_of_ble_eq_true rfl), (Nat.le_of_ble_eq_true rfl)⟩ (Nat.le_of_ble_eq_true rfl) hr dL_law_524 (fun z' σ2 hz2 => ?_)
  have w := cs_ask g hw hz2
  refine z_istore X dL_law_527 (by decide) ?_
  refine z_sub [(0, .ref b), (1, .ref (ad 0)), (2, .ref (ad 5)), (3, .ref (ad 72)), (4, vI i), (5, vI z), (6, vI z')] (zSub_cons rfl (zSub_cons rfl (zSub_cons rfl (zSub_cons rfl (zSub_cons rfl (zSub_cons rfl (zSub_cons rfl zSub_nil))))))) ?_
  exact lw_tail X hJ w hz hr ⟨(Nat.le_of_ble_eq_true rfl), (Nat.le_of_ble_eq_true rfl)⟩ rfl rfl rfl rfl dL_law_529 dL_law_530 dL_law_533 dL_law_535 dL_law_540 dL_law_542 dL_law_545 dL_law_546 dL_law_547 dL_law_548 dL_law_550 dL_law_551 dL_law_552 dL_law_557 ⟨rfl, rfl, rfl, by decide⟩ (z_sub (lwL b ad i) (lwSub rfl rfl rfl rfl rfl) (k σ2 w.2.2)) rfl
set_option maxHeartbeats 4000000 in
set_option maxRecDepth 100000 in
theorem lc_fallSilent (W : zLw p s m b c D G ad L xs) (hJ : zInj ad) (hl : l.stackTraces = false) (g : gI σ) (hi : 0 ≤ i ∧ i + 4 ≤ L) (hr : cells + 4 ≤ room_1.cells ∧ slots + 6 * 4 ≤ room_1.slots) (k : ∀ σ2, gI σ2 → zV p l en room_1 s m #[.ref b] below meth c 9 D G ad (cells + 4) (slots + 6 * 4) Q 1769 (lwL b ad i) [] σ2) : zV p l en room_1 s m #[.ref b] below meth c 9 D G ad cells slots Q 560 (lwL b ad i) [] σ := by
  have X := W.1
  have F := W.2.1
  have fi := gI_f g
  refine z_aload_n X dL_law_560 rfl ?_
  refine lw_arg X W.2.2 (by omega) rfl rfl dL_law_561 dL_law_562 dL_law_564 dL_law_565 dL_law_566 ?_
  refine z_aload_n X dL_law_567 rfl ?_
  refine z_callW X F (As := [.ref (ad 0), vI (lwA xs i 1), .ref (ad 72)]) (st := []) (c_L_fallSilent hJ hl σ fi (lwA_B _ _ _)) kW_118 rfl rfl ⟨(Nat.le_of_ble_eq_true rfl), (Nat.le_of_ble_eq_true rfl)⟩ (Nat.le_of_ble_eq_true rfl) hr dL_law_568 (fun z σa hw => ?_)
  have pr := gI_pre g (gC_S g hw)
  have hz : zB z := by
    rw [hw.1]; rcases rx_fallSilent σ (lwA xs i 1) with h | h | h <;> rw [h] <;> exact ⟨by decide, by decide⟩
  refine z_istore X dL_law_571 (by decide) ?_
  refine z_sub [(0, .ref b), (1, .ref (ad 0)), (2, .ref (ad 5)), (3, .ref (ad 72)), (4, vI i), (5, vI z)] (zSub_cons rfl (zSub_cons rfl (zSub_cons rfl (zSub_cons rfl (zSub_cons rfl (zSub_cons rfl zSub_nil)))))) ?_
  refine z_aload_n X dL_law_573 rfl ?_
  refine lw_arg X W.2.2 (by omega) rfl rfl dL_law_574 dL_law_575 dL_law_577 dL_law_578 dL_law_579 ?_
  refine z_callVI1 X (zKI_at (gM_bk σa) (c_X4_fallSilent hJ σa (N := gM σa) (lwA_B _ _ _) pr.1.1 pr.1.2.1 pr.1.2.2 pr.2.1)) kL_120 (ci := 4) rfl (by decide) rfl ⟨(Nat.le_of_ble_eq_true rfl), (Nat.le_of_ble_eq_true rfl)⟩ (Nat.le_of_ble_eq_true rfl) hr dL_law_580 (fun z' σ2 hz2 => ?_)
  have w := cs_fallSilent g hw hz2
  refine z_istore X dL_law_583 (by decide) ?_
  refine z_sub [(0, .ref b), (1, .ref (ad 0)), (2, .ref (ad 5)), (3, .ref (ad 72)), (4, vI i), (5, vI z), (6, vI z')] (zSub_cons rfl (zSub_cons rfl (zSub_cons rfl (zSub_cons rfl (zSub_cons rfl (zSub_cons rfl (zSub_cons rfl zSub_nil))))))) ?_
  exact lw_tail X hJ w hz hr ⟨(Nat.le_of_ble_eq_true rfl), (Nat.le_of_ble_eq_true rfl)⟩ rfl rfl rfl rfl dL_law_585 dL_law_586 dL_law_589 dL_law_591 dL_law_596 dL_law_598 dL_law_601 dL_law_602 dL_law_603 dL_law_604 dL_law_606 dL_law_607 dL_law_608 dL_law_613 ⟨rfl, rfl, rfl, by decide⟩ (z_sub (lwL b ad i) (lwSub rfl rfl rfl rfl rfl) (k σ2 w.2.2)) rfl
set_option maxHeartbeats 4000000 in
set_option maxRecDepth 100000 in
theorem lc_comeBack (W : zLw p s m b c D G ad L xs) (hJ : zInj ad) (hl : l.stackTraces = false) (g : gI σ) (hi : 0 ≤ i ∧ i + 4 ≤ L) (hr : cells + 4 ≤ room_1.cells ∧ slots + 6 * 4 ≤ room_1.slots) (k : ∀ σ2, gI σ2 → zV p l en room_1 s m #[.ref b] below meth c 9 D G ad (cells + 4) (slots + 6 * 4) Q 1769 (lwL b ad i) [] σ2) : zV p l en room_1 s m #[.ref b] below meth c 9 D G ad cells slots Q 616 (lwL b ad i) [] σ := by
  have X := W.1
  have F := W.2.1
  have fi := gI_f g
  refine z_aload_n X dL_law_616 rfl ?_
  refine lw_arg X W.2.2 (by omega) rfl rfl dL_law_617 dL_law_618 dL_law_620 dL_law_621 dL_law_622 ?_
  refine z_aload_n X dL_law_623 rfl ?_
  refine z_callW X F (As := [.ref (ad 0), vI (lwA xs i 1), .ref (ad 72)]) (st := []) (c_L_comeBack hJ hl σ fi (lwA_B _ _ _)) kW_121 rfl rfl ⟨(Nat.le_of_ble_eq_true rfl), (Nat.le_of_ble_eq_true rfl)⟩ (Nat.le_of_ble_eq_true rfl) hr dL_law_624 (fun z σa hw => ?_)
  have pr := gI_pre g (gC_S g hw)
  have hz : zB z := by
    rw [hw.1]; rcases rx_comeBack σ (lwA xs i 1) with h | h | h <;> rw [h] <;> exact ⟨by decide, by decide⟩
  refine z_istore X dL_law_627 (by decide) ?_
  refine z_sub [(0, .ref b), (1, .ref (ad 0)), (2, .ref (ad 5)), (3, .ref (ad 72)), (4, vI i), (5, vI z)] (zSub_cons rfl (zSub_cons rfl (zSub_cons rfl (zSub_cons rfl (zSub_cons rfl (zSub_cons rfl zSub_nil)))))) ?_
  refine z_aload_n X dL_law_629 rfl ?_
  refine lw_arg X W.2.2 (by omega) rfl rfl dL_law_630 dL_law_631 dL_law_633 dL_law_634 dL_law_635 ?_
  refine z_callVI1 X (zKI_at (gM_bk σa) (c_X4_comeBack hJ σa (N := gM σa) (lwA_B _ _ _) pr.1.1 pr.1.2.1 pr.1.2.2 pr.2.1)) kL_123 (ci := 4) rfl (by decide) rfl ⟨(Nat.le_of_ble_eq_true rfl), (Nat.le_of_ble_eq_true rfl)⟩ (Nat.le_of_ble_eq_true rfl) hr dL_law_636 (fun z' σ2 hz2 => ?_)
  have w := cs_comeBack g hw hz2
  refine z_istore X dL_law_639 (by decide) ?_
  refine z_sub [(0, .ref b), (1, .ref (ad 0)), (2, .ref (ad 5)), (3, .ref (ad 72)), (4, vI i), (5, vI z), (6, vI z')] (zSub_cons rfl (zSub_cons rfl (zSub_cons rfl (zSub_cons rfl (zSub_cons rfl (zSub_cons rfl (zSub_cons rfl zSub_nil))))))) ?_
  exact lw_tail X hJ w hz hr ⟨(Nat.le_of_ble_eq_true rfl), (Nat.le_of_ble_eq_true rfl)⟩ rfl rfl rfl rfl dL_law_641 dL_law_642 dL_law_645 dL_law_647 dL_law_652 dL_law_654 dL_law_657 dL_law_658 dL_law_659 dL_law_660 dL_law_662 dL_law_663 dL_law_664 dL_law_669 ⟨rfl, rfl, rfl, by decide⟩ (z_sub (lwL b ad i) (lwSub rfl rfl rfl rfl rfl) (k σ2 w.2.2)) rfl
set_option maxHeartbeats 4000000 in
set_option maxRecDepth 100000 in
theorem lc_pass (W : zLw p s m b c D G ad L xs) (hJ : zInj ad) (hl : l.stackTraces = false) (g : gI σ) (hi : 0 ≤ i ∧ i + 4 ≤ L) (hr : cells + 4 ≤ room_1.cells ∧ slots + 6 * 4 ≤ room_1.slots) (k : ∀ σ2, gI σ2 → zV p l en room_1 s m #[.ref b] below meth c 9 D G ad (cells + 4) (slots + 6 * 4) Q 1769 (lwL b ad i) [] σ2) : zV p l en room_1 s m #[.ref b] below meth c 9 D G ad cells slots Q 672 (lwL b ad i) [] σ := by
  have X := W.1
  have F := W.2.1
  have fi := gI_f g
  refine z_aload_n X dL_law_672 rfl ?_
  refine lw_arg X W.2.2 (by omega) rfl rfl dL_law_673 dL_law_674 dL_law_676 dL_law_677 dL_law_678 ?_
  refine z_aload_n X dL_law_679 rfl ?_
  refine z_callW X F (As := [.ref (ad 0), vI (lwA xs i 1), .ref (ad 72)]) (st := []) (c_L_pass hJ hl σ fi (lwA_B _ _ _)) kW_124 rfl rfl ⟨(Nat.le_of_ble_eq_true rfl), (Nat.le_of_ble_eq_true rfl)⟩ (Nat.le_of_ble_eq_true rfl) hr dL_law_680 (fun z σa hw => ?_)
  have pr := gI_pre g (gC_S g hw)
  have hz : zB z := by
    rw [hw.1]; rcases rx_pass σ (lwA xs i 1) with h | h <;> rw [h] <;> exact ⟨by decide, by decide⟩
  refine z_istore X dL_law_683 (by decide) ?_
  refine z_sub [(0, .ref b), (1, .ref (ad 0)), (2, .ref (ad 5)), (3, .ref (ad 72)), (4, vI i), (5, vI z)] (zSub_cons rfl (zSub_cons rfl (zSub_cons rfl (zSub_cons rfl (zSub_cons rfl (zSub_cons rfl zSub_nil)))))) ?_
  refine z_aload_n X dL_law_685 rfl ?_
  refine lw_arg X W.2.2 (by omega) rfl rfl dL_law_686 dL_law_687 dL_law_689 dL_law_690 dL_law_691 ?_
  refine z_callVI1 X (zKI_at (gM_bk σa) (c_X4_pass hJ σa (N := gM σa) (lwA_B _ _ _) pr.1.1 pr.1.2.1 pr.1.2.2 pr.2.1)) kL_126 (ci := 4) rfl (by decide) rfl ⟨(Nat.le_of_ble_eq_true rfl), (Nat.le_of_ble_eq_true rfl)⟩ (Nat.le_of_ble_eq_true rfl) hr dL_law_692 (fun z' σ2 hz2 => ?_)
  have w := cs_pass g hw hz2
  refine z_istore X dL_law_695 (by decide) ?_
  refine z_sub [(0, .ref b), (1, .ref (ad 0)), (2, .ref (ad 5)), (3, .ref (ad 72)), (4, vI i), (5, vI z), (6, vI z')] (zSub_cons rfl (zSub_cons rfl (zSub_cons rfl (zSub_cons rfl (zSub_cons rfl (zSub_cons rfl (zSub_cons rfl zSub_nil))))))) ?_
  exact lw_tail X hJ w hz hr ⟨(Nat.le_of_ble_eq_true rfl), (Nat.le_of_ble_eq_true rfl)⟩ rfl rfl rfl rfl dL_law_697 dL_law_698 dL_law_701 dL_law_703 dL_law_708 dL_law_710 dL_law_713 dL_law_714 dL_law_715 dL_law_716 dL_law_718 dL_law_719 dL_law_720 dL_law_725 ⟨rfl, rfl, rfl, by decide⟩ (z_sub (lwL b ad i) (lwSub rfl rfl rfl rfl rfl) (k σ2 w.2.2)) rfl
set_option maxHeartbeats 4000000 in
set_option maxRecDepth 100000 in
theorem lc_setPatience (W : zLw p s m b c D G ad L xs) (hJ : zInj ad) (hl : l.stackTraces = false) (g : gI σ) (hi : 0 ≤ i ∧ i + 4 ≤ L) (hr : cells + 4 ≤ room_1.cells ∧ slots + 6 * 4 ≤ room_1.slots) (k : ∀ σ2, gI σ2 → zV p l en room_1 s m #[.ref b] below meth c 9 D G ad (cells + 4) (slots + 6 * 4) Q 1769 (lwL b ad i) [] σ2) : zV p l en room_1 s m #[.ref b] below meth c 9 D G ad cells slots Q 728 (lwL b ad i) [] σ := by
  have X := W.1
  have F := W.2.1
  have fi := gI_f g
  refine z_aload_n X dL_law_728 rfl ?_
  refine lw_arg X W.2.2 (by omega) rfl rfl dL_law_729 dL_law_730 dL_law_732 dL_law_733 dL_law_734 ?_
  refine z_aload_n X dL_law_735 rfl ?_
  refine z_callW X F (As := [.ref (ad 0), vI (lwA xs i 1), .ref (ad 72)]) (st := []) (c_L_setPatience hJ hl σ fi (lwA_B _ _ _)) kW_127 rfl rfl ⟨(Nat.le_of_ble_eq_true rfl), (Nat.le_of_ble_eq_true rfl)⟩ (Nat.le_of_ble_eq_true rfl) hr dL_law_736 (fun z σa hw => ?_)
  have pr := gI_pre g (gC_S g hw)
  have hz : zB z := by
    rw [hw.1]; rcases rx_setPatience σ (lwA xs i 1) with h | h <;> rw [h] <;> exact ⟨by decide, by decide⟩
  refine z_istore X dL_law_739 (by decide) ?_
  refine z_sub [(0, .ref b), (1, .ref (ad 0)), (2, .ref (ad 5)), (3, .ref (ad 72)), (4, vI i), (5, vI z)] (zSub_cons rfl (zSub_cons rfl (zSub_cons rfl (zSub_cons rfl (zSub_cons rfl (zSub_cons rfl zSub_nil)))))) ?_
  refine z_aload_n X dL_law_741 rfl ?_
  refine lw_arg X W.2.2 (by omega) rfl rfl dL_law_742 dL_law_743 dL_law_745 dL_law_746 dL_law_747 ?_
  refine z_callVI1 X (zKI_at (gM_bk σa) (c_X4_setPatience hJ σa (N := gM σa) (lwA_B _ _ _) pr.1.1 pr.1.2.1 pr.1.2.2 pr.2.1)) kL_129 (ci := 4) rfl (by decide) rfl ⟨(Nat.le_of_ble_eq_true rfl), (Nat.le_of_ble_eq_true rfl)⟩ (Nat.le_of_ble_eq_true rfl) hr dL_law_748 (fun z' σ2 hz2 => ?_)
  have w := cs_setPatience g hw hz2
  refine z_istore X dL_law_751 (by decide) ?_
  refine z_sub [(0, .ref b), (1, .ref (ad 0)), (2, .ref (ad 5)), (3, .ref (ad 72)), (4, vI i), (5, vI z), (6, vI z')] (zSub_cons rfl (zSub_cons rfl (zSub_cons rfl (zSub_cons rfl (zSub_cons rfl (zSub_cons rfl (zSub_cons rfl zSub_nil))))))) ?_
  exact lw_tail X hJ w hz hr ⟨(Nat.le_of_ble_eq_true rfl), (Nat.le_of_ble_eq_true rfl)⟩ rfl rfl rfl rfl dL_law_753 dL_law_754 dL_law_757 dL_law_759 dL_law_764 dL_law_766 dL_law_769 dL_law_770 dL_law_771 dL_law_772 dL_law_774 dL_law_775 dL_law_776 dL_law_781 ⟨rfl, rfl, rfl, by decide⟩ (z_sub (lwL b ad i) (lwSub rfl rfl rfl rfl rfl) (k σ2 w.2.2)) rfl
set_option maxHeartbeats 4000000 in
set_option maxRecDepth 100000 in
theorem lc_deals (W : zLw p s m b c D G ad L xs) (hJ : zInj ad) (hl : l.stackTraces = false) (g : gI σ) (hi : 0 ≤ i ∧ i + 4 ≤ L) (hr : cells + 4 ≤ room_1.cells ∧ slots + 6 * 4 ≤ room_1.slots) (k : ∀ σ2, gI σ2 → zV p l en room_1 s m #[.ref b] below meth c 9 D G ad (cells + 4) (slots + 6 * 4) Q 1769 (lwL b ad i) [] σ2) : zV p l en room_1 s m #[.ref b] below meth c 9 D G ad cells slots Q 784 (lwL b ad i) [] σ := by
  have X := W.1
  have F := W.2.1
  have fi := gI_f g
  refine z_aload_n X dL_law_784 rfl ?_
  have hc := (⟨Nat.le_trans (Nat.le_add_right _ _) hr.1, Nat.le_trans (Nat.le_add_right _ _) hr.2⟩ : cells ≤ room_1.cells ∧ slots ≤ room_1.slots)
  refine z_callVI0 X (c_X3_deals hJ σ fi) kL_130 (ci := 3) rfl (by decide) rfl ⟨(Nat.le_of_ble_eq_true rfl), (Nat.le_of_ble_eq_true rfl)⟩ (Nat.le_of_ble_eq_true rfl) hc dL_law_785 (fun z σa hw => ?_)
  obtain ⟨ez, ea⟩ := hw
  refine z_aload_n X dL_law_788 rfl ?_
  rw [ea]
  have pr := gI_pre g (gC_of (σa := σ) (fun a a1 a2 => rfl))
  refine z_callVI0 X (zKI_at (gM_bk σ) (c_X4_deals hJ σ (N := gM σ) pr.1.1)) kL_133 (ci := 4) rfl (by decide) rfl ⟨(Nat.le_of_ble_eq_true rfl), (Nat.le_of_ble_eq_true rfl)⟩ (Nat.le_of_ble_eq_true rfl) hc dL_law_789 (fun z' σ2 hw2 => ?_)
  obtain ⟨ez2, ea2⟩ := hw2
  refine z_icmp_same X 1769 dL_law_792 (by decide) (by rw [ez, ez2]; exact (cs_deals g)) ?_
  exact z_wid (Nat.le_add_right _ _) (Nat.le_add_right _ _) (k σ2 (cs_plain g ea2))
set_option maxHeartbeats 4000000 in
set_option maxRecDepth 100000 in
theorem lc_isUp (W : zLw p s m b c D G ad L xs) (hJ : zInj ad) (hl : l.stackTraces = false) (g : gI σ) (hi : 0 ≤ i ∧ i + 4 ≤ L) (hr : cells + 4 ≤ room_1.cells ∧ slots + 6 * 4 ≤ room_1.slots) (k : ∀ σ2, gI σ2 → zV p l en room_1 s m #[.ref b] below meth c 9 D G ad (cells + 4) (slots + 6 * 4) Q 1769 (lwL b ad i) [] σ2) : zV p l en room_1 s m #[.ref b] below meth c 9 D G ad cells slots Q 797 (lwL b ad i) [] σ := by
  have X := W.1
  have F := W.2.1
  have fi := gI_f g
  refine z_aload_n X dL_law_797 rfl ?_
  refine lw_arg X W.2.2 (by omega) rfl rfl dL_law_798 dL_law_799 dL_law_801 dL_law_802 dL_law_803 ?_
  refine z_aload_n X dL_law_804 rfl ?_
  refine z_callW X F (As := [.ref (ad 0), vI (lwA xs i 1), .ref (ad 72)]) (st := []) (c_L_isUp hJ hl σ fi (lwA_B _ _ _)) kW_134 rfl rfl ⟨(Nat.le_of_ble_eq_true rfl), (Nat.le_of_ble_eq_true rfl)⟩ (Nat.le_of_ble_eq_true rfl) hr dL_law_805 (fun z σa hw => ?_)
  have pr := gI_pre g (gC_Q hw)
  have hz : zB z := by
    rw [hw.1]; rcases rx_isUp σ (lwA xs i 1) with h | h <;> rw [h] <;> exact ⟨by decide, by decide⟩
  refine z_istore X dL_law_808 (by decide) ?_
  refine z_sub [(0, .ref b), (1, .ref (ad 0)), (2, .ref (ad 5)), (3, .ref (ad 72)), (4, vI i), (5, vI z)] (zSub_cons rfl (zSub_cons rfl (zSub_cons rfl (zSub_cons rfl (zSub_cons rfl (zSub_cons rfl zSub_nil)))))) ?_
  refine z_aload_n X dL_law_810 rfl ?_
  refine lw_arg X W.2.2 (by omega) rfl rfl dL_law_811 dL_law_812 dL_law_814 dL_law_815 dL_law_816 ?_
  refine z_callVI1 X (zKI_at (gM_bk σa) (c_X4_isUp hJ σa (N := gM σa) (lwA_B _ _ _) pr.1.1)) kL_136 (ci := 4) rfl (by decide) rfl ⟨(Nat.le_of_ble_eq_true rfl), (Nat.le_of_ble_eq_true rfl)⟩ (Nat.le_of_ble_eq_true rfl) hr dL_law_817 (fun z' σ2 hz2 => ?_)
  have w := cs_isUp g hw hz2
  refine z_istore X dL_law_820 (by decide) ?_
  refine z_sub [(0, .ref b), (1, .ref (ad 0)), (2, .ref (ad 5)), (3, .ref (ad 72)), (4, vI i), (5, vI z), (6, vI z')] (zSub_cons rfl (zSub_cons rfl (zSub_cons rfl (zSub_cons rfl (zSub_cons rfl (zSub_cons rfl (zSub_cons rfl zSub_nil))))))) ?_
  have kT : zKI l D G ad yX4_thrown cX4_thrown 1 (some .int) 0 [.ref (ad 5)] σ2 (fun z9 σ9 => z9 = gM σ2 0 0 ∧ σ9 = zBk σ2 5 3 (gM σ2)) := zKI_at (gM_bk σ2) (c_X4_thrown hJ σ2 (N := gM σ2))
  have kE := z_sub (lv := [(0, .ref b), (1, .ref (ad 0)), (2, .ref (ad 5)), (3, .ref (ad 72)), (4, vI i), (5, vI z), (6, vI z')]) (lwL b ad i) (lwSub rfl rfl rfl rfl rfl) (k σ2 w.2.2)
  refine z_aload_n X dL_law_822 rfl ?_
  refine z_callVI0 X kT kL_100 (ci := 4) rfl (by decide) rfl ⟨(Nat.le_of_ble_eq_true rfl), (Nat.le_of_ble_eq_true rfl)⟩ (Nat.le_of_ble_eq_true rfl) hr dL_law_823 (fun z9 σ9 hz9 => ?_)
  obtain ⟨e9, eσ⟩ := hz9
  rw [gM_bk] at eσ
  rw [eσ, e9, w.1]
  refine z_iload X dL_law_826 rfl ?_
  refine z_icmp_same X 833 dL_law_828 (by decide) rfl ?_
  refine z_iload X dL_law_833 rfl ?_
  refine z_if_ne X 857 dL_law_835 (by decide) hz (fun _ => ?_) (fun q => ?_)
  · exact z_goto X 1769 dL_law_857 (by decide) kE
  · refine z_aload_n X dL_law_838 rfl ?_
    refine z_iconst X dL_law_839 ?_
    refine z_laload X dL_law_840 ?_
    have w2 := w.2.1 q
    rw [hz2.1] at w2
    refine z_iload X dL_law_841 rfl ?_
    rw [hz2.1] at kE ⊢
    refine z_ifb_eq X 850 dL_law_843 (by decide) (fun hu => ?_) (fun hu => ?_)
    · rw [if_neg hu] at w2 kE ⊢
      refine z_lconst X 0 dL_law_850 rfl ?_
      refine z_lcmp_same X dL_law_851 w2 ?_
      refine z_if_eq X 857 dL_law_852 (by decide) ⟨by decide, by decide⟩ (fun _ => ?_) (fun q => absurd rfl q)
      exact z_goto X 1769 dL_law_857 (by decide) kE
    · rw [if_pos hu] at w2 kE ⊢
      refine z_lconst X 1 dL_law_846 rfl ?_
      refine z_goto X 851 dL_law_847 (by decide) ?_
      refine z_lcmp_same X dL_law_851 w2 ?_
      refine z_if_eq X 857 dL_law_852 (by decide) ⟨by decide, by decide⟩ (fun _ => ?_) (fun q => absurd rfl q)
      exact z_goto X 1769 dL_law_857 (by decide) kE
set_option maxHeartbeats 4000000 in
set_option maxRecDepth 100000 in
theorem lc_state (W : zLw p s m b c D G ad L xs) (hJ : zInj ad) (hl : l.stackTraces = false) (g : gI σ) (hi : 0 ≤ i ∧ i + 4 ≤ L) (hr : cells + 4 ≤ room_1.cells ∧ slots + 6 * 4 ≤ room_1.slots) (k : ∀ σ2, gI σ2 → zV p l en room_1 s m #[.ref b] below meth c 9 D G ad (cells + 4) (slots + 6 * 4) Q 1769 (lwL b ad i) [] σ2) : zV p l en room_1 s m #[.ref b] below meth c 9 D G ad cells slots Q 860 (lwL b ad i) [] σ := by
  have X := W.1
  have F := W.2.1
  have fi := gI_f g
  refine z_aload_n X dL_law_860 rfl ?_
  refine lw_arg X W.2.2 (by omega) rfl rfl dL_law_861 dL_law_862 dL_law_864 dL_law_865 dL_law_866 ?_
  refine lw_arg X W.2.2 (by omega) rfl rfl dL_law_867 dL_law_868 dL_law_870 dL_law_871 dL_law_872 ?_
  refine z_aload_n X dL_law_873 rfl ?_
  refine z_callW X F (As := [.ref (ad 0), vI (lwA xs i 1), vI (lwA xs i 2), .ref (ad 72)]) (st := []) (c_L_state hJ hl σ fi (lwA_B _ _ _) (lwA_B _ _ _)) kW_137 rfl rfl ⟨(Nat.le_of_ble_eq_true rfl), (Nat.le_of_ble_eq_true rfl)⟩ (Nat.le_of_ble_eq_true rfl) hr dL_law_874 (fun z σa hw => ?_)
  have pr := gI_pre g (gC_Q hw)
  have hz : zB z := by
    rw [hw.1]; rcases rx_state σ (lwA xs i 1) (lwA xs i 2) with h | h <;> rw [h] <;> exact ⟨by decide, by decide⟩
  refine z_istore X dL_law_877 (by decide) ?_
  refine z_sub [(0, .ref b), (1, .ref (ad 0)), (2, .ref (ad 5)), (3, .ref (ad 72)), (4, vI i), (5, vI z)] (zSub_cons rfl (zSub_cons rfl (zSub_cons rfl (zSub_cons rfl (zSub_cons rfl (zSub_cons rfl zSub_nil)))))) ?_
  refine z_aload_n X dL_law_879 rfl ?_
  refine lw_arg X W.2.2 (by omega) rfl rfl dL_law_880 dL_law_881 dL_law_883 dL_law_884 dL_law_885 ?_
  refine lw_arg X W.2.2 (by omega) rfl rfl dL_law_886 dL_law_887 dL_law_889 dL_law_890 dL_law_891 ?_
  refine z_callVI2 X (zKI_at (gM_bk σa) (c_X4_state hJ σa (N := gM σa) (lwA_B _ _ _) (lwA_B _ _ _) pr.1.1)) kL_139 (ci := 4) rfl (by decide) rfl ⟨(Nat.le_of_ble_eq_true rfl), (Nat.le_of_ble_eq_true rfl)⟩ (Nat.le_of_ble_eq_true rfl) hr dL_law_892 (fun z' σ2 hz2 => ?_)
  have w := cs_state g hw hz2
  refine z_istore X dL_law_895 (by decide) ?_
  refine z_sub [(0, .ref b), (1, .ref (ad 0)), (2, .ref (ad 5)), (3, .ref (ad 72)), (4, vI i), (5, vI z), (6, vI z')] (zSub_cons rfl (zSub_cons rfl (zSub_cons rfl (zSub_cons rfl (zSub_cons rfl (zSub_cons rfl (zSub_cons rfl zSub_nil))))))) ?_
  exact lw_tail X hJ w hz hr ⟨(Nat.le_of_ble_eq_true rfl), (Nat.le_of_ble_eq_true rfl)⟩ rfl rfl rfl rfl dL_law_897 dL_law_898 dL_law_901 dL_law_903 dL_law_908 dL_law_910 dL_law_913 dL_law_914 dL_law_915 dL_law_916 dL_law_918 dL_law_919 dL_law_920 dL_law_925 ⟨rfl, rfl, rfl, by decide⟩ (z_sub (lwL b ad i) (lwSub rfl rfl rfl rfl rfl) (k σ2 w.2.2)) rfl
set_option maxHeartbeats 4000000 in
set_option maxRecDepth 100000 in
theorem lc_decision (W : zLw p s m b c D G ad L xs) (hJ : zInj ad) (hl : l.stackTraces = false) (g : gI σ) (hi : 0 ≤ i ∧ i + 4 ≤ L) (hr : cells + 4 ≤ room_1.cells ∧ slots + 6 * 4 ≤ room_1.slots) (k : ∀ σ2, gI σ2 → zV p l en room_1 s m #[.ref b] below meth c 9 D G ad (cells + 4) (slots + 6 * 4) Q 1769 (lwL b ad i) [] σ2) : zV p l en room_1 s m #[.ref b] below meth c 9 D G ad cells slots Q 928 (lwL b ad i) [] σ := by
  have X := W.1
  have F := W.2.1
  have fi := gI_f g
  refine z_aload_n X dL_law_928 rfl ?_
  refine lw_arg X W.2.2 (by omega) rfl rfl dL_law_929 dL_law_930 dL_law_932 dL_law_933 dL_law_934 ?_
  refine z_aload_n X dL_law_935 rfl ?_
  refine z_callW X F (As := [.ref (ad 0), vI (lwA xs i 1), .ref (ad 72)]) (st := []) (c_L_decision hJ hl σ fi (lwA_B _ _ _)) kW_140 rfl rfl ⟨(Nat.le_of_ble_eq_true rfl), (Nat.le_of_ble_eq_true rfl)⟩ (Nat.le_of_ble_eq_true rfl) hr dL_law_936 (fun z σa hw => ?_)
  have pr := gI_pre g (gC_Q hw)
  have hz : zB z := by
    rw [hw.1]; rcases rx_decision σ (lwA xs i 1) with h | h <;> rw [h] <;> exact ⟨by decide, by decide⟩
  refine z_istore X dL_law_939 (by decide) ?_
  refine z_sub [(0, .ref b), (1, .ref (ad 0)), (2, .ref (ad 5)), (3, .ref (ad 72)), (4, vI i), (5, vI z)] (zSub_cons rfl (zSub_cons rfl (zSub_cons rfl (zSub_cons rfl (zSub_cons rfl (zSub_cons rfl zSub_nil)))))) ?_
  refine z_aload_n X dL_law_941 rfl ?_
  refine lw_arg X W.2.2 (by omega) rfl rfl dL_law_942 dL_law_943 dL_law_945 dL_law_946 dL_law_947 ?_
  refine z_callVI1 X (zKI_at (gM_bk σa) (c_X4_decision hJ σa (N := gM σa) (lwA_B _ _ _) pr.1.1)) kL_142 (ci := 4) rfl (by decide) rfl ⟨(Nat.le_of_ble_eq_true rfl), (Nat.le_of_ble_eq_true rfl)⟩ (Nat.le_of_ble_eq_true rfl) hr dL_law_948 (fun z' σ2 hz2 => ?_)
  have w := cs_decision g hw hz2
  refine z_istore X dL_law_951 (by decide) ?_
  refine z_sub [(0, .ref b), (1, .ref (ad 0)), (2, .ref (ad 5)), (3, .ref (ad 72)), (4, vI i), (5, vI z), (6, vI z')] (zSub_cons rfl (zSub_cons rfl (zSub_cons rfl (zSub_cons rfl (zSub_cons rfl (zSub_cons rfl (zSub_cons rfl zSub_nil))))))) ?_
  exact lw_tail X hJ w hz hr ⟨(Nat.le_of_ble_eq_true rfl), (Nat.le_of_ble_eq_true rfl)⟩ rfl rfl rfl rfl dL_law_953 dL_law_954 dL_law_957 dL_law_959 dL_law_964 dL_law_966 dL_law_969 dL_law_970 dL_law_971 dL_law_972 dL_law_974 dL_law_975 dL_law_976 dL_law_981 ⟨rfl, rfl, rfl, by decide⟩ (z_sub (lwL b ad i) (lwSub rfl rfl rfl rfl rfl) (k σ2 w.2.2)) rfl
set_option maxHeartbeats 4000000 in
set_option maxRecDepth 100000 in
theorem lc_leader (W : zLw p s m b c D G ad L xs) (hJ : zInj ad) (hl : l.stackTraces = false) (g : gI σ) (hi : 0 ≤ i ∧ i + 4 ≤ L) (hr : cells + 4 ≤ room_1.cells ∧ slots + 6 * 4 ≤ room_1.slots) (k : ∀ σ2, gI σ2 → zV p l en room_1 s m #[.ref b] below meth c 9 D G ad (cells + 4) (slots + 6 * 4) Q 1769 (lwL b ad i) [] σ2) : zV p l en room_1 s m #[.ref b] below meth c 9 D G ad cells slots Q 984 (lwL b ad i) [] σ := by
  have X := W.1
  have F := W.2.1
  have fi := gI_f g
  refine z_aload_n X dL_law_984 rfl ?_
  refine lw_arg X W.2.2 (by omega) rfl rfl dL_law_985 dL_law_986 dL_law_988 dL_law_989 dL_law_990 ?_
  refine z_aload_n X dL_law_991 rfl ?_
  refine z_callW X F (As := [.ref (ad 0), vI (lwA xs i 1), .ref (ad 72)]) (st := []) (c_L_leader hJ hl σ fi (lwA_B _ _ _)) kW_143 rfl rfl ⟨(Nat.le_of_ble_eq_true rfl), (Nat.le_of_ble_eq_true rfl)⟩ (Nat.le_of_ble_eq_true rfl) hr dL_law_992 (fun z σa hw => ?_)
  have pr := gI_pre g (gC_Q hw)
  have hz : zB z := by
    rw [hw.1]; rcases rx_leader σ (lwA xs i 1) with h | h <;> rw [h] <;> exact ⟨by decide, by decide⟩
  refine z_istore X dL_law_995 (by decide) ?_
  refine z_sub [(0, .ref b), (1, .ref (ad 0)), (2, .ref (ad 5)), (3, .ref (ad 72)), (4, vI i), (5, vI z)] (zSub_cons rfl (zSub_cons rfl (zSub_cons rfl (zSub_cons rfl (zSub_cons rfl (zSub_cons rfl zSub_nil)))))) ?_
  refine z_aload_n X dL_law_997 rfl ?_
  refine lw_arg X W.2.2 (by omega) rfl rfl dL_law_998 dL_law_999 dL_law_1001 dL_law_1002 dL_law_1003 ?_
  refine z_callVI1 X (zKI_at (gM_bk σa) (c_X4_leader hJ σa (N := gM σa) (lwA_B _ _ _) pr.1.1)) kL_145 (ci := 4) rfl (by decide) rfl ⟨(Nat.le_of_ble_eq_true rfl), (Nat.le_of_ble_eq_true rfl)⟩ (Nat.le_of_ble_eq_true rfl) hr dL_law_1004 (fun z' σ2 hz2 => ?_)
  have w := cs_leader g hw hz2
  refine z_istore X dL_law_1007 (by decide) ?_
  refine z_sub [(0, .ref b), (1, .ref (ad 0)), (2, .ref (ad 5)), (3, .ref (ad 72)), (4, vI i), (5, vI z), (6, vI z')] (zSub_cons rfl (zSub_cons rfl (zSub_cons rfl (zSub_cons rfl (zSub_cons rfl (zSub_cons rfl (zSub_cons rfl zSub_nil))))))) ?_
  exact lw_tail X hJ w hz hr ⟨(Nat.le_of_ble_eq_true rfl), (Nat.le_of_ble_eq_true rfl)⟩ rfl rfl rfl rfl dL_law_1009 dL_law_1010 dL_law_1013 dL_law_1015 dL_law_1020 dL_law_1022 dL_law_1025 dL_law_1026 dL_law_1027 dL_law_1028 dL_law_1030 dL_law_1031 dL_law_1032 dL_law_1037 ⟨rfl, rfl, rfl, by decide⟩ (z_sub (lwL b ad i) (lwSub rfl rfl rfl rfl rfl) (k σ2 w.2.2)) rfl
set_option maxHeartbeats 4000000 in
set_option maxRecDepth 100000 in
theorem lc_patience (W : zLw p s m b c D G ad L xs) (hJ : zInj ad) (hl : l.stackTraces = false) (g : gI σ) (hi : 0 ≤ i ∧ i + 4 ≤ L) (hr : cells + 4 ≤ room_1.cells ∧ slots + 6 * 4 ≤ room_1.slots) (k : ∀ σ2, gI σ2 → zV p l en room_1 s m #[.ref b] below meth c 9 D G ad (cells + 4) (slots + 6 * 4) Q 1769 (lwL b ad i) [] σ2) : zV p l en room_1 s m #[.ref b] below meth c 9 D G ad cells slots Q 1040 (lwL b ad i) [] σ := by
  have X := W.1
  have F := W.2.1
  have fi := gI_f g
  refine z_aload_n X dL_law_1040 rfl ?_
  refine lw_arg X W.2.2 (by omega) rfl rfl dL_law_1041 dL_law_1042 dL_law_1044 dL_law_1045 dL_law_1046 ?_
  refine lw_arg X W.2.2 (by omega) rfl rfl dL_law_1047 dL_law_1048 dL_law_1050 dL_law_1051 dL_law_1052 ?_
  refine z_aload_n X dL_law_1053 rfl ?_
  refine z_callW X F (As := [.ref (ad 0), vI (lwA xs i 1), vI (lwA xs i 2), .ref (ad 72)]) (st := []) (c_L_patience hJ hl σ fi (lwA_B _ _ _) (lwA_B _ _ _)) kW_146 rfl rfl ⟨(Nat.le_of_ble_eq_true rfl), (Nat.le_of_ble_eq_true rfl)⟩ (Nat.le_of_ble_eq_true rfl) hr dL_law_1054 (fun z σa hw => ?_)
  have pr := gI_pre g (gC_Q hw)
  have hz : zB z := by
    rw [hw.1]; rcases rx_patience σ (lwA xs i 1) (lwA xs i 2) with h | h <;> rw [h] <;> exact ⟨by decide, by decide⟩
  refine z_istore X dL_law_1057 (by decide) ?_
  refine z_sub [(0, .ref b), (1, .ref (ad 0)), (2, .ref (ad 5)), (3, .ref (ad 72)), (4, vI i), (5, vI z)] (zSub_cons rfl (zSub_cons rfl (zSub_cons rfl (zSub_cons rfl (zSub_cons rfl (zSub_cons rfl zSub_nil)))))) ?_
  refine z_aload_n X dL_law_1059 rfl ?_
  refine lw_arg X W.2.2 (by omega) rfl rfl dL_law_1060 dL_law_1061 dL_law_1063 dL_law_1064 dL_law_1065 ?_
  refine lw_arg X W.2.2 (by omega) rfl rfl dL_law_1066 dL_law_1067 dL_law_1069 dL_law_1070 dL_law_1071 ?_
  refine z_callVI2 X (zKI_at (gM_bk σa) (c_X4_patience hJ σa (N := gM σa) (lwA_B _ _ _) (lwA_B _ _ _) pr.1.1)) kL_148 (ci := 4) rfl (by decide) rfl ⟨(Nat.le_of_ble_eq_true rfl), (Nat.le_of_ble_eq_true rfl)⟩ (Nat.le_of_ble_eq_true rfl) hr dL_law_1072 (fun z' σ2 hz2 => ?_)
  have w := cs_patience g hw hz2
  refine z_istore X dL_law_1075 (by decide) ?_
  refine z_sub [(0, .ref b), (1, .ref (ad 0)), (2, .ref (ad 5)), (3, .ref (ad 72)), (4, vI i), (5, vI z), (6, vI z')] (zSub_cons rfl (zSub_cons rfl (zSub_cons rfl (zSub_cons rfl (zSub_cons rfl (zSub_cons rfl (zSub_cons rfl zSub_nil))))))) ?_
  exact lw_tail X hJ w hz hr ⟨(Nat.le_of_ble_eq_true rfl), (Nat.le_of_ble_eq_true rfl)⟩ rfl rfl rfl rfl dL_law_1077 dL_law_1078 dL_law_1081 dL_law_1083 dL_law_1088 dL_law_1090 dL_law_1093 dL_law_1094 dL_law_1095 dL_law_1096 dL_law_1098 dL_law_1099 dL_law_1100 dL_law_1105 ⟨rfl, rfl, rfl, by decide⟩ (z_sub (lwL b ad i) (lwSub rfl rfl rfl rfl rfl) (k σ2 w.2.2)) rfl
set_option maxHeartbeats 4000000 in
set_option maxRecDepth 100000 in
theorem lc_open (W : zLw p s m b c D G ad L xs) (hJ : zInj ad) (hl : l.stackTraces = false) (g : gI σ) (hi : 0 ≤ i ∧ i + 4 ≤ L) (hr : cells + 4 ≤ room_1.cells ∧ slots + 6 * 4 ≤ room_1.slots) (k : ∀ σ2, gI σ2 → zV p l en room_1 s m #[.ref b] below meth c 9 D G ad (cells + 4) (slots + 6 * 4) Q 1769 (lwL b ad i) [] σ2) : zV p l en room_1 s m #[.ref b] below meth c 9 D G ad cells slots Q 1108 (lwL b ad i) [] σ := by
  have X := W.1
  have F := W.2.1
  have fi := gI_f g
  refine z_aload_n X dL_law_1108 rfl ?_
  have hc := (⟨Nat.le_trans (Nat.le_add_right _ _) hr.1, Nat.le_trans (Nat.le_add_right _ _) hr.2⟩ : cells ≤ room_1.cells ∧ slots ≤ room_1.slots)
  refine z_callVI0 X (c_X3_open hJ σ fi) kL_149 (ci := 3) rfl (by decide) rfl ⟨(Nat.le_of_ble_eq_true rfl), (Nat.le_of_ble_eq_true rfl)⟩ (Nat.le_of_ble_eq_true rfl) hc dL_law_1109 (fun z σa hw => ?_)
  obtain ⟨ez, ea⟩ := hw
  refine z_aload_n X dL_law_1112 rfl ?_
  rw [ea]
  have pr := gI_pre g (gC_of (σa := σ) (fun a a1 a2 => rfl))
  refine z_callVI0 X (zKI_at (gM_bk σ) (c_X4_open hJ σ (N := gM σ) pr.1.1)) kL_152 (ci := 4) rfl (by decide) rfl ⟨(Nat.le_of_ble_eq_true rfl), (Nat.le_of_ble_eq_true rfl)⟩ (Nat.le_of_ble_eq_true rfl) hc dL_law_1113 (fun z' σ2 hw2 => ?_)
  obtain ⟨ez2, ea2⟩ := hw2
  refine z_icmp_same X 1769 dL_law_1116 (by decide) (by rw [ez, ez2]; exact (cs_open g)) ?_
  exact z_wid (Nat.le_add_right _ _) (Nat.le_add_right _ _) (k σ2 (cs_plain g ea2))
set_option maxHeartbeats 4000000 in
set_option maxRecDepth 100000 in
theorem lc_stuck (W : zLw p s m b c D G ad L xs) (hJ : zInj ad) (hl : l.stackTraces = false) (g : gI σ) (hi : 0 ≤ i ∧ i + 4 ≤ L) (hr : cells + 4 ≤ room_1.cells ∧ slots + 6 * 4 ≤ room_1.slots) (k : ∀ σ2, gI σ2 → zV p l en room_1 s m #[.ref b] below meth c 9 D G ad (cells + 4) (slots + 6 * 4) Q 1769 (lwL b ad i) [] σ2) : zV p l en room_1 s m #[.ref b] below meth c 9 D G ad cells slots Q 1121 (lwL b ad i) [] σ := by
  have X := W.1
  have F := W.2.1
  have fi := gI_f g
  refine z_aload_n X dL_law_1121 rfl ?_
  have hc := (⟨Nat.le_trans (Nat.le_add_right _ _) hr.1, Nat.le_trans (Nat.le_add_right _ _) hr.2⟩ : cells ≤ room_1.cells ∧ slots ≤ room_1.slots)
  refine z_callVI0 X (c_X3_stuck hJ σ fi) kL_153 (ci := 3) rfl (by decide) rfl ⟨(Nat.le_of_ble_eq_true rfl), (Nat.le_of_ble_eq_true rfl)⟩ (Nat.le_of_ble_eq_true rfl) hc dL_law_1122 (fun z σa hw => ?_)
  obtain ⟨ez, ea⟩ := hw
  refine z_aload_n X dL_law_1125 rfl ?_
  rw [ea]
  have pr := gI_pre g (gC_of (σa := σ) (fun a a1 a2 => rfl))
  refine z_callVI0 X (zKI_at (gM_bk σ) (c_X4_stuck hJ σ (N := gM σ) pr.1.1)) kL_156 (ci := 4) rfl (by decide) rfl ⟨(Nat.le_of_ble_eq_true rfl), (Nat.le_of_ble_eq_true rfl)⟩ (Nat.le_of_ble_eq_true rfl) hc dL_law_1126 (fun z' σ2 hw2 => ?_)
  obtain ⟨ez2, ea2⟩ := hw2
  refine z_icmp_same X 1769 dL_law_1129 (by decide) (by rw [ez, ez2]; exact (cs_stuck g)) ?_
  exact z_wid (Nat.le_add_right _ _) (Nat.le_add_right _ _) (k σ2 (cs_plain g ea2))
set_option maxHeartbeats 4000000 in
set_option maxRecDepth 100000 in
theorem lc_logLength (W : zLw p s m b c D G ad L xs) (hJ : zInj ad) (hl : l.stackTraces = false) (g : gI σ) (hi : 0 ≤ i ∧ i + 4 ≤ L) (hr : cells + 4 ≤ room_1.cells ∧ slots + 6 * 4 ≤ room_1.slots) (k : ∀ σ2, gI σ2 → zV p l en room_1 s m #[.ref b] below meth c 9 D G ad (cells + 4) (slots + 6 * 4) Q 1769 (lwL b ad i) [] σ2) : zV p l en room_1 s m #[.ref b] below meth c 9 D G ad cells slots Q 1134 (lwL b ad i) [] σ := by
  have X := W.1
  have F := W.2.1
  have fi := gI_f g
  refine z_aload_n X dL_law_1134 rfl ?_
  refine lw_arg X W.2.2 (by omega) rfl rfl dL_law_1135 dL_law_1136 dL_law_1138 dL_law_1139 dL_law_1140 ?_
  refine z_aload_n X dL_law_1141 rfl ?_
  refine z_callW X F (As := [.ref (ad 0), vI (lwA xs i 1), .ref (ad 72)]) (st := []) (c_L_logLength hJ hl σ fi (lwA_B _ _ _)) kW_157 rfl rfl ⟨(Nat.le_of_ble_eq_true rfl), (Nat.le_of_ble_eq_true rfl)⟩ (Nat.le_of_ble_eq_true rfl) hr dL_law_1142 (fun z σa hw => ?_)
  have pr := gI_pre g (gC_Q hw)
  have hz : zB z := by
    rw [hw.1]; rcases rx_logLength σ (lwA xs i 1) with h | h <;> rw [h] <;> exact ⟨by decide, by decide⟩
  refine z_istore X dL_law_1145 (by decide) ?_
  refine z_sub [(0, .ref b), (1, .ref (ad 0)), (2, .ref (ad 5)), (3, .ref (ad 72)), (4, vI i), (5, vI z)] (zSub_cons rfl (zSub_cons rfl (zSub_cons rfl (zSub_cons rfl (zSub_cons rfl (zSub_cons rfl zSub_nil)))))) ?_
  refine z_aload_n X dL_law_1147 rfl ?_
  refine lw_arg X W.2.2 (by omega) rfl rfl dL_law_1148 dL_law_1149 dL_law_1151 dL_law_1152 dL_law_1153 ?_
  refine z_callVI1 X (zKI_at (gM_bk σa) (c_X4_logLength hJ σa (N := gM σa) (lwA_B _ _ _) pr.1.1)) kL_159 (ci := 4) rfl (by decide) rfl ⟨(Nat.le_of_ble_eq_true rfl), (Nat.le_of_ble_eq_true rfl)⟩ (Nat.le_of_ble_eq_true rfl) hr dL_law_1154 (fun z' σ2 hz2 => ?_)
  have w := cs_logLength g hw hz2
  refine z_istore X dL_law_1157 (by decide) ?_
  refine z_sub [(0, .ref b), (1, .ref (ad 0)), (2, .ref (ad 5)), (3, .ref (ad 72)), (4, vI i), (5, vI z), (6, vI z')] (zSub_cons rfl (zSub_cons rfl (zSub_cons rfl (zSub_cons rfl (zSub_cons rfl (zSub_cons rfl (zSub_cons rfl zSub_nil))))))) ?_
  exact lw_tail X hJ w hz hr ⟨(Nat.le_of_ble_eq_true rfl), (Nat.le_of_ble_eq_true rfl)⟩ rfl rfl rfl rfl dL_law_1159 dL_law_1160 dL_law_1163 dL_law_1165 dL_law_1170 dL_law_1172 dL_law_1175 dL_law_1176 dL_law_1177 dL_law_1178 dL_law_1180 dL_law_1181 dL_law_1182 dL_law_1187 ⟨rfl, rfl, rfl, by decide⟩ (z_sub (lwL b ad i) (lwSub rfl rfl rfl rfl rfl) (k σ2 w.2.2)) rfl
set_option maxHeartbeats 4000000 in
set_option maxRecDepth 100000 in
theorem lc_log (W : zLw p s m b c D G ad L xs) (hJ : zInj ad) (hl : l.stackTraces = false) (g : gI σ) (hi : 0 ≤ i ∧ i + 4 ≤ L) (hr : cells + 4 ≤ room_1.cells ∧ slots + 6 * 4 ≤ room_1.slots) (k : ∀ σ2, gI σ2 → zV p l en room_1 s m #[.ref b] below meth c 9 D G ad (cells + 4) (slots + 6 * 4) Q 1769 (lwL b ad i) [] σ2) : zV p l en room_1 s m #[.ref b] below meth c 9 D G ad cells slots Q 1190 (lwL b ad i) [] σ := by
  have X := W.1
  have F := W.2.1
  have fi := gI_f g
  refine z_aload_n X dL_law_1190 rfl ?_
  refine lw_arg X W.2.2 (by omega) rfl rfl dL_law_1191 dL_law_1192 dL_law_1194 dL_law_1195 dL_law_1196 ?_
  refine lw_arg X W.2.2 (by omega) rfl rfl dL_law_1197 dL_law_1198 dL_law_1200 dL_law_1201 dL_law_1202 ?_
  refine z_aload_n X dL_law_1203 rfl ?_
  refine z_callW X F (As := [.ref (ad 0), vI (lwA xs i 1), vI (lwA xs i 2), .ref (ad 72)]) (st := []) (c_L_log hJ hl σ fi (lwA_B _ _ _) (lwA_B _ _ _)) kW_160 rfl rfl ⟨(Nat.le_of_ble_eq_true rfl), (Nat.le_of_ble_eq_true rfl)⟩ (Nat.le_of_ble_eq_true rfl) hr dL_law_1204 (fun z σa hw => ?_)
  have pr := gI_pre g (gC_Q hw)
  have hz : zB z := by
    rw [hw.1]; rcases rx_log σ (lwA xs i 1) (lwA xs i 2) with h | h <;> rw [h] <;> exact ⟨by decide, by decide⟩
  refine z_istore X dL_law_1207 (by decide) ?_
  refine z_sub [(0, .ref b), (1, .ref (ad 0)), (2, .ref (ad 5)), (3, .ref (ad 72)), (4, vI i), (5, vI z)] (zSub_cons rfl (zSub_cons rfl (zSub_cons rfl (zSub_cons rfl (zSub_cons rfl (zSub_cons rfl zSub_nil)))))) ?_
  refine z_aload_n X dL_law_1209 rfl ?_
  refine lw_arg X W.2.2 (by omega) rfl rfl dL_law_1210 dL_law_1211 dL_law_1213 dL_law_1214 dL_law_1215 ?_
  refine lw_arg X W.2.2 (by omega) rfl rfl dL_law_1216 dL_law_1217 dL_law_1219 dL_law_1220 dL_law_1221 ?_
  refine z_callVI2 X (zKI_at (gM_bk σa) (c_X4_log hJ σa (N := gM σa) (lwA_B _ _ _) (lwA_B _ _ _) pr.1.1)) kL_162 (ci := 4) rfl (by decide) rfl ⟨(Nat.le_of_ble_eq_true rfl), (Nat.le_of_ble_eq_true rfl)⟩ (Nat.le_of_ble_eq_true rfl) hr dL_law_1222 (fun z' σ2 hz2 => ?_)
  have w := cs_log g hw hz2
  refine z_istore X dL_law_1225 (by decide) ?_
  refine z_sub [(0, .ref b), (1, .ref (ad 0)), (2, .ref (ad 5)), (3, .ref (ad 72)), (4, vI i), (5, vI z), (6, vI z')] (zSub_cons rfl (zSub_cons rfl (zSub_cons rfl (zSub_cons rfl (zSub_cons rfl (zSub_cons rfl (zSub_cons rfl zSub_nil))))))) ?_
  exact lw_tail X hJ w hz hr ⟨(Nat.le_of_ble_eq_true rfl), (Nat.le_of_ble_eq_true rfl)⟩ rfl rfl rfl rfl dL_law_1227 dL_law_1228 dL_law_1231 dL_law_1233 dL_law_1238 dL_law_1240 dL_law_1243 dL_law_1244 dL_law_1245 dL_law_1246 dL_law_1248 dL_law_1249 dL_law_1250 dL_law_1255 ⟨rfl, rfl, rfl, by decide⟩ (z_sub (lwL b ad i) (lwSub rfl rfl rfl rfl rfl) (k σ2 w.2.2)) rfl
set_option maxHeartbeats 4000000 in
set_option maxRecDepth 100000 in
theorem lc_held (W : zLw p s m b c D G ad L xs) (hJ : zInj ad) (hl : l.stackTraces = false) (g : gI σ) (hi : 0 ≤ i ∧ i + 4 ≤ L) (hr : cells + 4 ≤ room_1.cells ∧ slots + 6 * 4 ≤ room_1.slots) (k : ∀ σ2, gI σ2 → zV p l en room_1 s m #[.ref b] below meth c 9 D G ad (cells + 4) (slots + 6 * 4) Q 1769 (lwL b ad i) [] σ2) : zV p l en room_1 s m #[.ref b] below meth c 9 D G ad cells slots Q 1258 (lwL b ad i) [] σ := by
  have X := W.1
  have F := W.2.1
  have fi := gI_f g
  refine z_aload_n X dL_law_1258 rfl ?_
  refine lw_arg X W.2.2 (by omega) rfl rfl dL_law_1259 dL_law_1260 dL_law_1262 dL_law_1263 dL_law_1264 ?_
  refine z_aload_n X dL_law_1265 rfl ?_
  refine z_callW X F (As := [.ref (ad 0), vI (lwA xs i 1), .ref (ad 72)]) (st := []) (c_L_held hJ hl σ fi (lwA_B _ _ _)) kW_163 rfl rfl ⟨(Nat.le_of_ble_eq_true rfl), (Nat.le_of_ble_eq_true rfl)⟩ (Nat.le_of_ble_eq_true rfl) hr dL_law_1266 (fun z σa hw => ?_)
  have pr := gI_pre g (gC_Q hw)
  have hz : zB z := by
    rw [hw.1]; rcases rx_held σ (lwA xs i 1) with h | h <;> rw [h] <;> exact ⟨by decide, by decide⟩
  refine z_istore X dL_law_1269 (by decide) ?_
  refine z_sub [(0, .ref b), (1, .ref (ad 0)), (2, .ref (ad 5)), (3, .ref (ad 72)), (4, vI i), (5, vI z)] (zSub_cons rfl (zSub_cons rfl (zSub_cons rfl (zSub_cons rfl (zSub_cons rfl (zSub_cons rfl zSub_nil)))))) ?_
  refine z_aload_n X dL_law_1271 rfl ?_
  refine lw_arg X W.2.2 (by omega) rfl rfl dL_law_1272 dL_law_1273 dL_law_1275 dL_law_1276 dL_law_1277 ?_
  refine z_callVI1 X (zKI_at (gM_bk σa) (c_X4_held hJ σa (N := gM σa) (lwA_B _ _ _) pr.1.1)) kL_165 (ci := 4) rfl (by decide) rfl ⟨(Nat.le_of_ble_eq_true rfl), (Nat.le_of_ble_eq_true rfl)⟩ (Nat.le_of_ble_eq_true rfl) hr dL_law_1278 (fun z' σ2 hz2 => ?_)
  have w := cs_held g hw hz2
  refine z_istore X dL_law_1281 (by decide) ?_
  refine z_sub [(0, .ref b), (1, .ref (ad 0)), (2, .ref (ad 5)), (3, .ref (ad 72)), (4, vI i), (5, vI z), (6, vI z')] (zSub_cons rfl (zSub_cons rfl (zSub_cons rfl (zSub_cons rfl (zSub_cons rfl (zSub_cons rfl (zSub_cons rfl zSub_nil))))))) ?_
  exact lw_tail X hJ w hz hr ⟨(Nat.le_of_ble_eq_true rfl), (Nat.le_of_ble_eq_true rfl)⟩ rfl rfl rfl rfl dL_law_1283 dL_law_1284 dL_law_1287 dL_law_1289 dL_law_1294 dL_law_1296 dL_law_1299 dL_law_1300 dL_law_1301 dL_law_1302 dL_law_1304 dL_law_1305 dL_law_1306 dL_law_1311 ⟨rfl, rfl, rfl, by decide⟩ (z_sub (lwL b ad i) (lwSub rfl rfl rfl rfl rfl) (k σ2 w.2.2)) rfl
set_option maxHeartbeats 4000000 in
set_option maxRecDepth 100000 in
theorem lc_asked (W : zLw p s m b c D G ad L xs) (hJ : zInj ad) (hl : l.stackTraces = false) (g : gI σ) (hi : 0 ≤ i ∧ i + 4 ≤ L) (hr : cells + 4 ≤ room_1.cells ∧ slots + 6 * 4 ≤ room_1.slots) (k : ∀ σ2, gI σ2 → zV p l en room_1 s m #[.ref b] below meth c 9 D G ad (cells + 4) (slots + 6 * 4) Q 1769 (lwL b ad i) [] σ2) : zV p l en room_1 s m #[.ref b] below meth c 9 D G ad cells slots Q 1314 (lwL b ad i) [] σ := by
  have X := W.1
  have F := W.2.1
  have fi := gI_f g
  refine z_aload_n X dL_law_1314 rfl ?_
  have hc := (⟨Nat.le_trans (Nat.le_add_right _ _) hr.1, Nat.le_trans (Nat.le_add_right _ _) hr.2⟩ : cells ≤ room_1.cells ∧ slots ≤ room_1.slots)
  refine z_callVI0 X (c_X3_asked hJ σ fi) kL_166 (ci := 3) rfl (by decide) rfl ⟨(Nat.le_of_ble_eq_true rfl), (Nat.le_of_ble_eq_true rfl)⟩ (Nat.le_of_ble_eq_true rfl) hc dL_law_1315 (fun z σa hw => ?_)
  obtain ⟨ez, ea⟩ := hw
  refine z_aload_n X dL_law_1318 rfl ?_
  rw [ea]
  have pr := gI_pre g (gC_of (σa := σ) (fun a a1 a2 => rfl))
  refine z_callVI0 X (zKI_at (gM_bk σ) (c_X4_asked hJ σ (N := gM σ) pr.1.1)) kL_169 (ci := 4) rfl (by decide) rfl ⟨(Nat.le_of_ble_eq_true rfl), (Nat.le_of_ble_eq_true rfl)⟩ (Nat.le_of_ble_eq_true rfl) hc dL_law_1319 (fun z' σ2 hw2 => ?_)
  obtain ⟨ez2, ea2⟩ := hw2
  refine z_icmp_same X 1769 dL_law_1322 (by decide) (by rw [ez, ez2]; exact (cs_asked g)) ?_
  exact z_wid (Nat.le_add_right _ _) (Nat.le_add_right _ _) (k σ2 (cs_plain g ea2))
set_option maxHeartbeats 4000000 in
set_option maxRecDepth 100000 in
theorem lc_doubtShare (W : zLw p s m b c D G ad L xs) (hJ : zInj ad) (hl : l.stackTraces = false) (g : gI σ) (hi : 0 ≤ i ∧ i + 4 ≤ L) (hr : cells + 4 ≤ room_1.cells ∧ slots + 6 * 4 ≤ room_1.slots) (k : ∀ σ2, gI σ2 → zV p l en room_1 s m #[.ref b] below meth c 9 D G ad (cells + 4) (slots + 6 * 4) Q 1769 (lwL b ad i) [] σ2) : zV p l en room_1 s m #[.ref b] below meth c 9 D G ad cells slots Q 1327 (lwL b ad i) [] σ := by
  have X := W.1
  have F := W.2.1
  have fi := gI_f g
  refine z_aload_n X dL_law_1327 rfl ?_
  have hc := (⟨Nat.le_trans (Nat.le_add_right _ _) hr.1, Nat.le_trans (Nat.le_add_right _ _) hr.2⟩ : cells ≤ room_1.cells ∧ slots ≤ room_1.slots)
  refine z_callVD0 X (c_X3_doubtShare hJ σ fi) kL_170 (ci := 3) rfl (by decide) rfl ⟨(Nat.le_of_ble_eq_true rfl), (Nat.le_of_ble_eq_true rfl)⟩ (Nat.le_of_ble_eq_true rfl) hc dL_law_1328 (fun z σa hw => ?_)
  obtain ⟨ez, ea⟩ := hw
  refine z_dstore X dL_law_1331 (by decide) ?_
  refine z_sub [(0, .ref b), (1, .ref (ad 0)), (2, .ref (ad 5)), (3, .ref (ad 72)), (4, vI i), (5, .double z)] (zSub_cons rfl (zSub_cons rfl (zSub_cons rfl (zSub_cons rfl (zSub_cons rfl (zSub_cons rfl zSub_nil)))))) ?_
  refine z_aload_n X dL_law_1333 rfl ?_
  rw [ea]
  have pr := gI_pre g (gC_of (σa := σ) (fun a a1 a2 => rfl))
  have kD : zKD l D G ad yX4_doubtShare cX4_doubtShare 4 (some .double) 3 [.ref (ad 5)] σ (fun z9 σ9 => z9 = mShare (mV (gM σ) 0) ∧ σ9 = zBk σ 5 3 (up2 (gM σ) 0 0 0)) := zKD_at (gM_bk σ) (c_X4_doubtShare hJ σ (N := gM σ) pr.1.1)
  refine z_callVD0 X kD kL_174 (ci := 4) rfl (by decide) rfl ⟨(Nat.le_of_ble_eq_true rfl), (Nat.le_of_ble_eq_true rfl)⟩ (Nat.le_of_ble_eq_true rfl) hc dL_law_1334 (fun z' σ2 hw2 => ?_)
  obtain ⟨ez2, ea2⟩ := hw2
  have e5 : z' = z := by rw [ez, ez2]; exact (cs_doubtShare g).symm
  rw [e5]
  refine z_dstore X dL_law_1337 (by decide) ?_
  refine z_sub [(0, .ref b), (1, .ref (ad 0)), (2, .ref (ad 5)), (3, .ref (ad 72)), (4, vI i), (5, .double z), (7, .double z)] (zSub_cons rfl (zSub_cons rfl (zSub_cons rfl (zSub_cons rfl (zSub_cons rfl (zSub_cons rfl (zSub_cons rfl zSub_nil))))))) ?_
  have kE := z_wid (cells := cells) (slots := slots) (Nat.le_add_right _ _) (Nat.le_add_right _ _) (z_sub (lv := [(0, .ref b), (1, .ref (ad 0)), (2, .ref (ad 5)), (3, .ref (ad 72)), (4, vI i), (5, .double z), (7, .double z)]) (lwL b ad i) (lwSub rfl rfl rfl rfl rfl) (k σ2 (cs_plain g ea2)))
  obtain ⟨v, hv⟩ : ∃ v : Int, v = (Op.cmpValue (FP.dcmp z z) .l).toInt := ⟨_, rfl⟩
  have hvb : zB v := by rw [hv]; exact iI_rng _
  refine z_dload X dL_law_1339 rfl (z_dload X dL_law_1341 rfl (z_dcmp X dL_law_1343 hv ?_))
  refine z_if_eq X 1365 dL_law_1344 (by decide) hvb (fun _ => z_goto X 1769 dL_law_1365 (by decide) kE) (fun q => ?_)
  refine z_dload X dL_law_1347 rfl (z_dload X dL_law_1349 rfl (z_dcmp X dL_law_1351 hv ?_))
  refine z_if_eq X 1363 dL_law_1352 (by decide) hvb (fun q2 => absurd q2 q) (fun _ => ?_)
  refine z_dload X dL_law_1355 rfl (z_dload X dL_law_1357 rfl (z_dcmp X dL_law_1359 hv ?_))
  exact z_if_ne X 1365 dL_law_1360 (by decide) hvb (fun _ => z_goto X 1769 dL_law_1365 (by decide) kE) (fun q2 => absurd q2 q)
set_option maxHeartbeats 4000000 in
set_option maxRecDepth 100000 in
theorem lc_reason (W : zLw p s m b c D G ad L xs) (hJ : zInj ad) (hl : l.stackTraces = false) (g : gI σ) (hi : 0 ≤ i ∧ i + 4 ≤ L) (hr : cells + 4 ≤ room_1.cells ∧ slots + 6 * 4 ≤ room_1.slots) (k : ∀ σ2, gI σ2 → zV p l en room_1 s m #[.ref b] below meth c 9 D G ad (cells + 4) (slots + 6 * 4) Q 1769 (lwL b ad i) [] σ2) : zV p l en room_1 s m #[.ref b] below meth c 9 D G ad cells slots Q 1368 (lwL b ad i) [] σ := by
  have X := W.1
  have F := W.2.1
  have fi := gI_f g
  refine z_aload_n X dL_law_1368 rfl ?_
  refine lw_arg X W.2.2 (by omega) rfl rfl dL_law_1369 dL_law_1370 dL_law_1372 dL_law_1373 dL_law_1374 ?_
  refine lw_arg X W.2.2 (by omega) rfl rfl dL_law_1375 dL_law_1376 dL_law_1378 dL_law_1379 dL_law_1380 ?_
  refine z_aload_n X dL_law_1381 rfl ?_
  refine z_callW X F (As := [.ref (ad 0), vI (lwA xs i 1), vI (lwA xs i 2), .ref (ad 72)]) (st := []) (c_L_reason hJ hl σ fi (lwA_B _ _ _) (lwA_B _ _ _)) kW_175 rfl rfl ⟨(Nat.le_of_ble_eq_true rfl), (Nat.le_of_ble_eq_true rfl)⟩ (Nat.le_of_ble_eq_true rfl) hr dL_law_1382 (fun z σa hw => ?_)
  have pr := gI_pre g (gC_Q hw)
  have hz : zB z := by
    rw [hw.1]; rcases rx_reason σ (lwA xs i 1) (lwA xs i 2) with h | h <;> rw [h] <;> exact ⟨by decide, by decide⟩
  refine z_istore X dL_law_1385 (by decide) ?_
  refine z_sub [(0, .ref b), (1, .ref (ad 0)), (2, .ref (ad 5)), (3, .ref (ad 72)), (4, vI i), (5, vI z)] (zSub_cons rfl (zSub_cons rfl (zSub_cons rfl (zSub_cons rfl (zSub_cons rfl (zSub_cons rfl zSub_nil)))))) ?_
  refine z_aload_n X dL_law_1387 rfl ?_
  refine lw_arg X W.2.2 (by omega) rfl rfl dL_law_1388 dL_law_1389 dL_law_1391 dL_law_1392 dL_law_1393 ?_
  refine lw_arg X W.2.2 (by omega) rfl rfl dL_law_1394 dL_law_1395 dL_law_1397 dL_law_1398 dL_law_1399 ?_
  refine z_callVI2 X (zKI_at (gM_bk σa) (c_X4_reason hJ σa (N := gM σa) (lwA_B _ _ _) (lwA_B _ _ _) pr.1.1)) kL_177 (ci := 4) rfl (by decide) rfl ⟨(Nat.le_of_ble_eq_true rfl), (Nat.le_of_ble_eq_true rfl)⟩ (Nat.le_of_ble_eq_true rfl) hr dL_law_1400 (fun z' σ2 hz2 => ?_)
  have w := cs_reason g hw hz2
  refine z_istore X dL_law_1403 (by decide) ?_
  refine z_sub [(0, .ref b), (1, .ref (ad 0)), (2, .ref (ad 5)), (3, .ref (ad 72)), (4, vI i), (5, vI z), (6, vI z')] (zSub_cons rfl (zSub_cons rfl (zSub_cons rfl (zSub_cons rfl (zSub_cons rfl (zSub_cons rfl (zSub_cons rfl zSub_nil))))))) ?_
  exact lw_tail X hJ w hz hr ⟨(Nat.le_of_ble_eq_true rfl), (Nat.le_of_ble_eq_true rfl)⟩ rfl rfl rfl rfl dL_law_1405 dL_law_1406 dL_law_1409 dL_law_1411 dL_law_1416 dL_law_1418 dL_law_1421 dL_law_1422 dL_law_1423 dL_law_1424 dL_law_1426 dL_law_1427 dL_law_1428 dL_law_1433 ⟨rfl, rfl, rfl, by decide⟩ (z_sub (lwL b ad i) (lwSub rfl rfl rfl rfl rfl) (k σ2 w.2.2)) rfl
set_option maxHeartbeats 4000000 in
set_option maxRecDepth 100000 in
theorem lc_helper (W : zLw p s m b c D G ad L xs) (hJ : zInj ad) (hl : l.stackTraces = false) (g : gI σ) (hi : 0 ≤ i ∧ i + 4 ≤ L) (hr : cells + 4 ≤ room_1.cells ∧ slots + 6 * 4 ≤ room_1.slots) (k : ∀ σ2, gI σ2 → zV p l en room_1 s m #[.ref b] below meth c 9 D G ad (cells + 4) (slots + 6 * 4) Q 1769 (lwL b ad i) [] σ2) : zV p l en room_1 s m #[.ref b] below meth c 9 D G ad cells slots Q 1436 (lwL b ad i) [] σ := by
  have X := W.1
  have F := W.2.1
  have fi := gI_f g
  refine z_aload_n X dL_law_1436 rfl ?_
  refine lw_arg X W.2.2 (by omega) rfl rfl dL_law_1437 dL_law_1438 dL_law_1440 dL_law_1441 dL_law_1442 ?_
  refine lw_arg X W.2.2 (by omega) rfl rfl dL_law_1443 dL_law_1444 dL_law_1446 dL_law_1447 dL_law_1448 ?_
  refine z_aload_n X dL_law_1449 rfl ?_
  refine z_callW X F (As := [.ref (ad 0), vI (lwA xs i 1), vI (lwA xs i 2), .ref (ad 72)]) (st := []) (c_L_helper hJ hl σ fi (lwA_B _ _ _) (lwA_B _ _ _)) kW_178 rfl rfl ⟨(Nat.le_of_ble_eq_true rfl), (Nat.le_of_ble_eq_true rfl)⟩ (Nat.le_of_ble_eq_true rfl) hr dL_law_1450 (fun z σa hw => ?_)
  have pr := gI_pre g (gC_Q hw)
  have hz : zB z := by
    rw [hw.1]; rcases rx_helper σ (lwA xs i 1) (lwA xs i 2) with h | h <;> rw [h] <;> exact ⟨by decide, by decide⟩
  refine z_istore X dL_law_1453 (by decide) ?_
  refine z_sub [(0, .ref b), (1, .ref (ad 0)), (2, .ref (ad 5)), (3, .ref (ad 72)), (4, vI i), (5, vI z)] (zSub_cons rfl (zSub_cons rfl (zSub_cons rfl (zSub_cons rfl (zSub_cons rfl (zSub_cons rfl zSub_nil)))))) ?_
  refine z_aload_n X dL_law_1455 rfl ?_
  refine lw_arg X W.2.2 (by omega) rfl rfl dL_law_1456 dL_law_1457 dL_law_1459 dL_law_1460 dL_law_1461 ?_
  refine lw_arg X W.2.2 (by omega) rfl rfl dL_law_1462 dL_law_1463 dL_law_1465 dL_law_1466 dL_law_1467 ?_
  refine z_callVI2 X (zKI_at (gM_bk σa) (c_X4_helper hJ σa (N := gM σa) (lwA_B _ _ _) (lwA_B _ _ _) pr.1.1)) kL_180 (ci := 4) rfl (by decide) rfl ⟨(Nat.le_of_ble_eq_true rfl), (Nat.le_of_ble_eq_true rfl)⟩ (Nat.le_of_ble_eq_true rfl) hr dL_law_1468 (fun z' σ2 hz2 => ?_)
  have w := cs_helper g hw hz2
  refine z_istore X dL_law_1471 (by decide) ?_
  refine z_sub [(0, .ref b), (1, .ref (ad 0)), (2, .ref (ad 5)), (3, .ref (ad 72)), (4, vI i), (5, vI z), (6, vI z')] (zSub_cons rfl (zSub_cons rfl (zSub_cons rfl (zSub_cons rfl (zSub_cons rfl (zSub_cons rfl (zSub_cons rfl zSub_nil))))))) ?_
  exact lw_tail X hJ w hz hr ⟨(Nat.le_of_ble_eq_true rfl), (Nat.le_of_ble_eq_true rfl)⟩ rfl rfl rfl rfl dL_law_1473 dL_law_1474 dL_law_1477 dL_law_1479 dL_law_1484 dL_law_1486 dL_law_1489 dL_law_1490 dL_law_1491 dL_law_1492 dL_law_1494 dL_law_1495 dL_law_1496 dL_law_1501 ⟨rfl, rfl, rfl, by decide⟩ (z_sub (lwL b ad i) (lwSub rfl rfl rfl rfl rfl) (k σ2 w.2.2)) rfl
set_option maxHeartbeats 4000000 in
set_option maxRecDepth 100000 in
theorem lc_ticksToEnd (W : zLw p s m b c D G ad L xs) (hJ : zInj ad) (hl : l.stackTraces = false) (g : gI σ) (hi : 0 ≤ i ∧ i + 4 ≤ L) (hr : cells + 4 ≤ room_1.cells ∧ slots + 6 * 4 ≤ room_1.slots) (k : ∀ σ2, gI σ2 → zV p l en room_1 s m #[.ref b] below meth c 9 D G ad (cells + 4) (slots + 6 * 4) Q 1769 (lwL b ad i) [] σ2) : zV p l en room_1 s m #[.ref b] below meth c 9 D G ad cells slots Q 1504 (lwL b ad i) [] σ := by
  have X := W.1
  have F := W.2.1
  have fi := gI_f g
  refine z_aload_n X dL_law_1504 rfl ?_
  refine lw_arg X W.2.2 (by omega) rfl rfl dL_law_1505 dL_law_1506 dL_law_1508 dL_law_1509 dL_law_1510 ?_
  refine lw_arg X W.2.2 (by omega) rfl rfl dL_law_1511 dL_law_1512 dL_law_1514 dL_law_1515 dL_law_1516 ?_
  refine z_aload_n X dL_law_1517 rfl ?_
  refine z_callW X F (As := [.ref (ad 0), vI (lwA xs i 1), vI (lwA xs i 2), .ref (ad 72)]) (st := []) (c_L_ticksToEnd hJ hl σ fi (lwA_B _ _ _) (lwA_B _ _ _)) kW_181 rfl rfl ⟨(Nat.le_of_ble_eq_true rfl), (Nat.le_of_ble_eq_true rfl)⟩ (Nat.le_of_ble_eq_true rfl) hr dL_law_1518 (fun z σa hw => ?_)
  have pr := gI_pre g (gC_tte hw)
  have hz : zB z := by
    rw [hw.1]; rcases rx_ticksToEnd σ (lwA xs i 1) (lwA xs i 2) with h | h <;> rw [h] <;> exact ⟨by decide, by decide⟩
  refine z_istore X dL_law_1521 (by decide) ?_
  refine z_sub [(0, .ref b), (1, .ref (ad 0)), (2, .ref (ad 5)), (3, .ref (ad 72)), (4, vI i), (5, vI z)] (zSub_cons rfl (zSub_cons rfl (zSub_cons rfl (zSub_cons rfl (zSub_cons rfl (zSub_cons rfl zSub_nil)))))) ?_
  refine z_aload_n X dL_law_1523 rfl ?_
  refine lw_arg X W.2.2 (by omega) rfl rfl dL_law_1524 dL_law_1525 dL_law_1527 dL_law_1528 dL_law_1529 ?_
  refine lw_arg X W.2.2 (by omega) rfl rfl dL_law_1530 dL_law_1531 dL_law_1533 dL_law_1534 dL_law_1535 ?_
  refine z_callVI2 X (zKI_at (gM_bk σa) (c_X4_ticksToEnd hJ σa (N := gM σa) (lwA_B _ _ _) (lwA_B _ _ _) pr.1.1 pr.1.2.1 pr.1.2.2)) kL_183 (ci := 4) rfl (by decide) rfl ⟨(Nat.le_of_ble_eq_true rfl), (Nat.le_of_ble_eq_true rfl)⟩ (Nat.le_of_ble_eq_true rfl) hr dL_law_1536 (fun z' σ2 hz2 => ?_)
  have w := cs_ticksToEnd g hw hz2
  refine z_istore X dL_law_1539 (by decide) ?_
  refine z_sub [(0, .ref b), (1, .ref (ad 0)), (2, .ref (ad 5)), (3, .ref (ad 72)), (4, vI i), (5, vI z), (6, vI z')] (zSub_cons rfl (zSub_cons rfl (zSub_cons rfl (zSub_cons rfl (zSub_cons rfl (zSub_cons rfl (zSub_cons rfl zSub_nil))))))) ?_
  exact lw_tail X hJ w hz hr ⟨(Nat.le_of_ble_eq_true rfl), (Nat.le_of_ble_eq_true rfl)⟩ rfl rfl rfl rfl dL_law_1541 dL_law_1542 dL_law_1545 dL_law_1547 dL_law_1552 dL_law_1554 dL_law_1557 dL_law_1558 dL_law_1559 dL_law_1560 dL_law_1562 dL_law_1563 dL_law_1564 dL_law_1569 ⟨rfl, rfl, rfl, by decide⟩ (z_sub (lwL b ad i) (lwSub rfl rfl rfl rfl rfl) (k σ2 w.2.2)) rfl
set_option maxHeartbeats 4000000 in
set_option maxRecDepth 100000 in
theorem lc_append (W : zLw p s m b c D G ad L xs) (hJ : zInj ad) (hl : l.stackTraces = false) (g : gI σ) (hi : 0 ≤ i ∧ i + 4 ≤ L) (hr : cells + 4 ≤ room_1.cells ∧ slots + 6 * 4 ≤ room_1.slots) (k : ∀ σ2, gI σ2 → zV p l en room_1 s m #[.ref b] below meth c 9 D G ad (cells + 4) (slots + 6 * 4) Q 1769 (lwL b ad i) [] σ2) : zV p l en room_1 s m #[.ref b] below meth c 9 D G ad cells slots Q 1572 (lwL b ad i) [] σ := by
  have X := W.1
  have F := W.2.1
  have fi := gI_f g
  refine z_aload_n X dL_law_1572 rfl ?_
  refine lw_arg X W.2.2 (by omega) rfl rfl dL_law_1573 dL_law_1574 dL_law_1576 dL_law_1577 dL_law_1578 ?_
  refine z_aload_n X dL_law_1579 rfl ?_
  refine z_callW X F (As := [.ref (ad 0), vI (lwA xs i 1), .ref (ad 72)]) (st := []) (c_L_append hJ hl σ fi (lwA_B _ _ _)) kW_184 rfl rfl ⟨(Nat.le_of_ble_eq_true rfl), (Nat.le_of_ble_eq_true rfl)⟩ (Nat.le_of_ble_eq_true rfl) hr dL_law_1580 (fun z σa hw => ?_)
  have pr := gI_pre g (gC_app hw)
  have hz : zB z := by
    rw [hw.1]; rcases rx_append σ (lwA xs i 1) with h | h | h <;> rw [h] <;> exact ⟨by decide, by decide⟩
  refine z_istore X dL_law_1583 (by decide) ?_
  refine z_sub [(0, .ref b), (1, .ref (ad 0)), (2, .ref (ad 5)), (3, .ref (ad 72)), (4, vI i), (5, vI z)] (zSub_cons rfl (zSub_cons rfl (zSub_cons rfl (zSub_cons rfl (zSub_cons rfl (zSub_cons rfl zSub_nil)))))) ?_
  refine z_aload_n X dL_law_1585 rfl ?_
  refine lw_arg X W.2.2 (by omega) rfl rfl dL_law_1586 dL_law_1587 dL_law_1589 dL_law_1590 dL_law_1591 ?_
  refine z_callVI1 X (zKI_at (gM_bk σa) (c_X4_append hJ σa (N := gM σa) (lwA_B _ _ _) pr.2.2.1)) kL_186 (ci := 4) rfl (by decide) rfl ⟨(Nat.le_of_ble_eq_true rfl), (Nat.le_of_ble_eq_true rfl)⟩ (Nat.le_of_ble_eq_true rfl) hr dL_law_1592 (fun z' σ2 hz2 => ?_)
  have w := cs_append g hw hz2
  refine z_istore X dL_law_1595 (by decide) ?_
  refine z_sub [(0, .ref b), (1, .ref (ad 0)), (2, .ref (ad 5)), (3, .ref (ad 72)), (4, vI i), (5, vI z), (6, vI z')] (zSub_cons rfl (zSub_cons rfl (zSub_cons rfl (zSub_cons rfl (zSub_cons rfl (zSub_cons rfl (zSub_cons rfl zSub_nil))))))) ?_
  exact lw_tail X hJ w hz hr ⟨(Nat.le_of_ble_eq_true rfl), (Nat.le_of_ble_eq_true rfl)⟩ rfl rfl rfl rfl dL_law_1597 dL_law_1598 dL_law_1601 dL_law_1603 dL_law_1608 dL_law_1610 dL_law_1613 dL_law_1614 dL_law_1615 dL_law_1616 dL_law_1618 dL_law_1619 dL_law_1620 dL_law_1625 ⟨rfl, rfl, rfl, by decide⟩ (z_sub (lwL b ad i) (lwSub rfl rfl rfl rfl rfl) (k σ2 w.2.2)) rfl
set_option maxHeartbeats 4000000 in
set_option maxRecDepth 100000 in
theorem lc_clearText (W : zLw p s m b c D G ad L xs) (hJ : zInj ad) (hl : l.stackTraces = false) (g : gI σ) (hi : 0 ≤ i ∧ i + 4 ≤ L) (hr : cells + 4 ≤ room_1.cells ∧ slots + 6 * 4 ≤ room_1.slots) (k : ∀ σ2, gI σ2 → zV p l en room_1 s m #[.ref b] below meth c 9 D G ad (cells + 4) (slots + 6 * 4) Q 1769 (lwL b ad i) [] σ2) : zV p l en room_1 s m #[.ref b] below meth c 9 D G ad cells slots Q 1628 (lwL b ad i) [] σ := by
  have X := W.1
  have F := W.2.1
  have fi := gI_f g
  refine z_aload_n X dL_law_1628 rfl ?_
  have hc := (⟨Nat.le_trans (Nat.le_add_right _ _) hr.1, Nat.le_trans (Nat.le_add_right _ _) hr.2⟩ : cells ≤ room_1.cells ∧ slots ≤ room_1.slots)
  refine z_callVI0 X (c_X3_clearText hJ σ fi) kL_187 (ci := 3) rfl (by decide) rfl ⟨(Nat.le_of_ble_eq_true rfl), (Nat.le_of_ble_eq_true rfl)⟩ (Nat.le_of_ble_eq_true rfl) hc dL_law_1629 (fun z σa hw => ?_)
  obtain ⟨ez, ea⟩ := hw
  refine z_aload_n X dL_law_1632 rfl ?_
  have pr := gI_pre g (gC_of (σa := σa) (fun a a1 a2 => by rw [ea]; exact zBk_out (by omega)))
  refine z_callVI0 X (zKI_at (gM_bk σa) (c_X4_clearText hJ σa (N := gM σa) pr.1.1)) kL_190 (ci := 4) rfl (by decide) rfl ⟨(Nat.le_of_ble_eq_true rfl), (Nat.le_of_ble_eq_true rfl)⟩ (Nat.le_of_ble_eq_true rfl) hc dL_law_1633 (fun z' σ2 hw2 => ?_)
  obtain ⟨ez2, ea2⟩ := hw2
  refine z_icmp_same X 1769 dL_law_1636 (by decide) (by rw [ez, ez2]; exact (cs_clearText g ea ea2).1) ?_
  exact z_wid (Nat.le_add_right _ _) (Nat.le_add_right _ _) (k σ2 (cs_clearText g ea ea2).2)
set_option maxHeartbeats 4000000 in
set_option maxRecDepth 100000 in
theorem lc_firstError (W : zLw p s m b c D G ad L xs) (hJ : zInj ad) (hl : l.stackTraces = false) (g : gI σ) (hi : 0 ≤ i ∧ i + 4 ≤ L) (hr : cells + 4 ≤ room_1.cells ∧ slots + 6 * 4 ≤ room_1.slots) (k : ∀ σ2, gI σ2 → zV p l en room_1 s m #[.ref b] below meth c 9 D G ad (cells + 4) (slots + 6 * 4) Q 1769 (lwL b ad i) [] σ2) : zV p l en room_1 s m #[.ref b] below meth c 9 D G ad cells slots Q 1641 (lwL b ad i) [] σ := by
  have X := W.1
  have F := W.2.1
  have fi := gI_f g
  refine z_aload_n X dL_law_1641 rfl ?_
  have hc := (⟨Nat.le_trans (Nat.le_add_right _ _) hr.1, Nat.le_trans (Nat.le_add_right _ _) hr.2⟩ : cells ≤ room_1.cells ∧ slots ≤ room_1.slots)
  refine z_callVI0 X (c_X3_firstError hJ σ fi) kL_191 (ci := 3) rfl (by decide) rfl ⟨(Nat.le_of_ble_eq_true rfl), (Nat.le_of_ble_eq_true rfl)⟩ (Nat.le_of_ble_eq_true rfl) hc dL_law_1642 (fun z σa hw => ?_)
  obtain ⟨ez, ea⟩ := hw
  refine z_aload_n X dL_law_1645 rfl ?_
  rw [ea]
  have pr := gI_pre g (gC_of (σa := σ) (fun a a1 a2 => rfl))
  refine z_callVI0 X (zKI_at (gM_bk σ) (c_X4_firstError hJ σ (N := gM σ) pr.2.2)) kL_194 (ci := 4) rfl (by decide) rfl ⟨(Nat.le_of_ble_eq_true rfl), (Nat.le_of_ble_eq_true rfl)⟩ (Nat.le_of_ble_eq_true rfl) hc dL_law_1646 (fun z' σ2 hw2 => ?_)
  obtain ⟨ez2, ea2⟩ := hw2
  refine z_icmp_same X 1769 dL_law_1649 (by decide) (by rw [ez, ez2]; exact (cs_firstError g ea2).1) ?_
  exact z_wid (Nat.le_add_right _ _) (Nat.le_add_right _ _) (k σ2 (cs_firstError g ea2).2)
set_option maxHeartbeats 4000000 in
set_option maxRecDepth 100000 in
theorem lc_run (W : zLw p s m b c D G ad L xs) (hJ : zInj ad) (hl : l.stackTraces = false) (g : gI σ) (hi : 0 ≤ i ∧ i + 4 ≤ L) (hr : cells + 4 ≤ room_1.cells ∧ slots + 6 * 4 ≤ room_1.slots) (k : ∀ σ2, gI σ2 → zV p l en room_1 s m #[.ref b] below meth c 9 D G ad (cells + 4) (slots + 6 * 4) Q 1769 (lwL b ad i) [] σ2) : zV p l en room_1 s m #[.ref b] below meth c 9 D G ad cells slots Q 1654 (lwL b ad i) [] σ := by
  have X := W.1
  have F := W.2.1
  have fi := gI_f g
  refine z_aload_n X dL_law_1654 rfl ?_
  refine z_aload_n X dL_law_1655 rfl ?_
  refine z_callW X F (As := [.ref (ad 0), .ref (ad 72)]) (st := []) (c_L_run hJ hl σ fi ) kW_195 rfl rfl ⟨(Nat.le_of_ble_eq_true rfl), (Nat.le_of_ble_eq_true rfl)⟩ (Nat.le_of_ble_eq_true rfl) hr dL_law_1656 (fun z σa hw => ?_)
  have pr := gI_pre g (gC_run g hw)
  have hz : zB z := by
    rw [hw.1]; rcases rx_run σ  with h | h <;> rw [h] <;> exact ⟨by decide, by decide⟩
  refine z_istore X dL_law_1659 (by decide) ?_
  refine z_sub [(0, .ref b), (1, .ref (ad 0)), (2, .ref (ad 5)), (3, .ref (ad 72)), (4, vI i), (5, vI z)] (zSub_cons rfl (zSub_cons rfl (zSub_cons rfl (zSub_cons rfl (zSub_cons rfl (zSub_cons rfl zSub_nil)))))) ?_
  refine z_aload_n X dL_law_1661 rfl ?_
  refine z_callVI0 X (zKI_at (gM_bk σa) (c_X4_run hJ σa (N := gM σa)  pr.2.2 pr.2.1 pr.1.1 pr.1.2.1 pr.1.2.2)) kL_198 (ci := 4) rfl (by decide) rfl ⟨(Nat.le_of_ble_eq_true rfl), (Nat.le_of_ble_eq_true rfl)⟩ (Nat.le_of_ble_eq_true rfl) hr dL_law_1662 (fun z' σ2 hz2 => ?_)
  have w := cs_run g hw hz2
  refine z_istore X dL_law_1665 (by decide) ?_
  refine z_sub [(0, .ref b), (1, .ref (ad 0)), (2, .ref (ad 5)), (3, .ref (ad 72)), (4, vI i), (5, vI z), (6, vI z')] (zSub_cons rfl (zSub_cons rfl (zSub_cons rfl (zSub_cons rfl (zSub_cons rfl (zSub_cons rfl (zSub_cons rfl zSub_nil))))))) ?_
  exact lw_tail X hJ w hz hr ⟨(Nat.le_of_ble_eq_true rfl), (Nat.le_of_ble_eq_true rfl)⟩ rfl rfl rfl rfl dL_law_1667 dL_law_1668 dL_law_1671 dL_law_1673 dL_law_1678 dL_law_1680 dL_law_1683 dL_law_1684 dL_law_1685 dL_law_1686 dL_law_1688 dL_law_1689 dL_law_1690 dL_law_1695 ⟨rfl, rfl, rfl, by decide⟩ (z_sub (lwL b ad i) (lwSub rfl rfl rfl rfl rfl) (k σ2 w.2.2)) rfl
set_option maxHeartbeats 4000000 in
set_option maxRecDepth 100000 in
theorem lc_undo (W : zLw p s m b c D G ad L xs) (hJ : zInj ad) (hl : l.stackTraces = false) (g : gI σ) (hi : 0 ≤ i ∧ i + 4 ≤ L) (hr : cells + 4 ≤ room_1.cells ∧ slots + 6 * 4 ≤ room_1.slots) (k : ∀ σ2, gI σ2 → zV p l en room_1 s m #[.ref b] below meth c 9 D G ad (cells + 4) (slots + 6 * 4) Q 1769 (lwL b ad i) [] σ2) : zV p l en room_1 s m #[.ref b] below meth c 9 D G ad cells slots Q 1698 (lwL b ad i) [] σ := by
  have X := W.1
  have F := W.2.1
  have fi := gI_f g
  refine z_aload_n X dL_law_1698 rfl ?_
  refine z_aload_n X dL_law_1699 rfl ?_
  refine z_callW X F (As := [.ref (ad 0), .ref (ad 72)]) (st := []) (c_L_undo hJ hl σ fi ) kW_199 rfl rfl ⟨(Nat.le_of_ble_eq_true rfl), (Nat.le_of_ble_eq_true rfl)⟩ (Nat.le_of_ble_eq_true rfl) hr dL_law_1700 (fun z σa hw => ?_)
  have pr := gI_pre g (gC_undo hw)
  have hz : zB z := by
    rw [hw.1]; rcases rx_undo σ  with h | h <;> rw [h] <;> exact ⟨by decide, by decide⟩
  refine z_istore X dL_law_1703 (by decide) ?_
  refine z_sub [(0, .ref b), (1, .ref (ad 0)), (2, .ref (ad 5)), (3, .ref (ad 72)), (4, vI i), (5, vI z)] (zSub_cons rfl (zSub_cons rfl (zSub_cons rfl (zSub_cons rfl (zSub_cons rfl (zSub_cons rfl zSub_nil)))))) ?_
  refine z_aload_n X dL_law_1705 rfl ?_
  refine z_callVI0 X (zKI_at (gM_bk σa) (c_X4_undo hJ σa (N := gM σa)  pr.2.1)) kL_201 (ci := 4) rfl (by decide) rfl ⟨(Nat.le_of_ble_eq_true rfl), (Nat.le_of_ble_eq_true rfl)⟩ (Nat.le_of_ble_eq_true rfl) hr dL_law_1706 (fun z' σ2 hz2 => ?_)
  have w := cs_undo g hw hz2
  refine z_istore X dL_law_1709 (by decide) ?_
  refine z_sub [(0, .ref b), (1, .ref (ad 0)), (2, .ref (ad 5)), (3, .ref (ad 72)), (4, vI i), (5, vI z), (6, vI z')] (zSub_cons rfl (zSub_cons rfl (zSub_cons rfl (zSub_cons rfl (zSub_cons rfl (zSub_cons rfl (zSub_cons rfl zSub_nil))))))) ?_
  exact lw_tail X hJ w hz hr ⟨(Nat.le_of_ble_eq_true rfl), (Nat.le_of_ble_eq_true rfl)⟩ rfl rfl rfl rfl dL_law_1711 dL_law_1712 dL_law_1715 dL_law_1717 dL_law_1722 dL_law_1724 dL_law_1727 dL_law_1728 dL_law_1729 dL_law_1730 dL_law_1732 dL_law_1733 dL_law_1734 dL_law_1739 ⟨rfl, rfl, rfl, by decide⟩ (z_sub (lwL b ad i) (lwSub rfl rfl rfl rfl rfl) (k σ2 w.2.2)) rfl
set_option maxHeartbeats 4000000 in
set_option maxRecDepth 100000 in
theorem lc_savedStates (W : zLw p s m b c D G ad L xs) (hJ : zInj ad) (hl : l.stackTraces = false) (g : gI σ) (hi : 0 ≤ i ∧ i + 4 ≤ L) (hr : cells + 4 ≤ room_1.cells ∧ slots + 6 * 4 ≤ room_1.slots) (k : ∀ σ2, gI σ2 → zV p l en room_1 s m #[.ref b] below meth c 9 D G ad (cells + 4) (slots + 6 * 4) Q 1769 (lwL b ad i) [] σ2) : zV p l en room_1 s m #[.ref b] below meth c 9 D G ad cells slots Q 1742 (lwL b ad i) [] σ := by
  have X := W.1
  have F := W.2.1
  have fi := gI_f g
  refine z_aload_n X dL_law_1742 rfl ?_
  have hc := (⟨Nat.le_trans (Nat.le_add_right _ _) hr.1, Nat.le_trans (Nat.le_add_right _ _) hr.2⟩ : cells ≤ room_1.cells ∧ slots ≤ room_1.slots)
  refine z_callVI0 X (c_X3_savedStates hJ σ fi) kL_202 (ci := 3) rfl (by decide) rfl ⟨(Nat.le_of_ble_eq_true rfl), (Nat.le_of_ble_eq_true rfl)⟩ (Nat.le_of_ble_eq_true rfl) hc dL_law_1743 (fun z σa hw => ?_)
  obtain ⟨ez, ea⟩ := hw
  refine z_aload_n X dL_law_1746 rfl ?_
  rw [ea]
  have pr := gI_pre g (gC_of (σa := σ) (fun a a1 a2 => rfl))
  refine z_callVI0 X (zKI_at (gM_bk σ) (c_X4_savedStates hJ σ (N := gM σ) pr.1.1)) kL_205 (ci := 4) rfl (by decide) rfl ⟨(Nat.le_of_ble_eq_true rfl), (Nat.le_of_ble_eq_true rfl)⟩ (Nat.le_of_ble_eq_true rfl) hc dL_law_1747 (fun z' σ2 hw2 => ?_)
  obtain ⟨ez2, ea2⟩ := hw2
  refine z_icmp_same X 1769 dL_law_1750 (by decide) (by rw [ez, ez2]; exact (cs_savedStates g)) ?_
  exact z_wid (Nat.le_add_right _ _) (Nat.le_add_right _ _) (k σ2 (cs_plain g ea2))
set_option maxHeartbeats 4000000 in
set_option maxRecDepth 100000 in
theorem lc_digest (W : zLw p s m b c D G ad L xs) (hJ : zInj ad) (hl : l.stackTraces = false) (g : gI σ) (hi : 0 ≤ i ∧ i + 4 ≤ L) (hr : cells + 4 ≤ room_1.cells ∧ slots + 6 * 4 ≤ room_1.slots) (k : ∀ σ2, gI σ2 → zV p l en room_1 s m #[.ref b] below meth c 9 D G ad (cells + 4) (slots + 6 * 4) Q 1769 (lwL b ad i) [] σ2) : zV p l en room_1 s m #[.ref b] below meth c 9 D G ad cells slots Q 1755 (lwL b ad i) [] σ := by
  have X := W.1
  have F := W.2.1
  have fi := gI_f g
  refine z_aload_n X dL_law_1755 rfl ?_
  have hc := (⟨Nat.le_trans (Nat.le_add_right _ _) hr.1, Nat.le_trans (Nat.le_add_right _ _) hr.2⟩ : cells ≤ room_1.cells ∧ slots ≤ room_1.slots)
  refine z_callVL0 X (c_X3_digest hJ σ fi) kL_206 (ci := 3) rfl (by decide) rfl ⟨(Nat.le_of_ble_eq_true rfl), (Nat.le_of_ble_eq_true rfl)⟩ (Nat.le_of_ble_eq_true rfl) hc dL_law_1756 (fun z σa hw => ?_)
  obtain ⟨ez, ea⟩ := hw
  refine z_aload_n X dL_law_1759 rfl ?_
  rw [ea]
  have pr := gI_pre g (gC_of (σa := σ) (fun a a1 a2 => rfl))
  refine z_callVL0 X (zKL_at (gM_bk σ) (c_X4_digest hJ σ (N := gM σ) pr.1.1)) kL_210 (ci := 4) rfl (by decide) rfl ⟨(Nat.le_of_ble_eq_true rfl), (Nat.le_of_ble_eq_true rfl)⟩ (Nat.le_of_ble_eq_true rfl) hc dL_law_1760 (fun z' σ2 hw2 => ?_)
  obtain ⟨ez2, ea2⟩ := hw2
  refine z_lcmp_same X dL_law_1763 (by rw [ez, ez2]; exact cs_digest g) ?_
  refine z_if_eq X 1769 dL_law_1764 (by decide) ⟨by decide, by decide⟩ (fun _ => ?_) (fun q => absurd rfl q)
  exact z_wid (Nat.le_add_right _ _) (Nat.le_add_right _ _) (k σ2 (cs_dig g ea2))
end LW
