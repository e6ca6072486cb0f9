abbrev zH2 (h v : Int64) : Int64 := 31 * h + v
def mLgv (N : zNt) (s j : Int) : Int := if j = 0 then N 6 s.toNat else N 7 (s * 24 + (j - 1)).toNat
def mLgh (N : zNt) (s : Int) (g : Int64) : Nat → Int64
  | 0 => g
  | j + 1 => cHsL N s (zH g (N 6 s.toNat)) j
theorem fl_lg {N M : zNt} {s j : Int} (hs : 0 ≤ s ∧ s < 6) (h0 : 0 ≤ j) (h1 : j < 25) (e00 : mV M 0 = mV N 0) : M 1 ((132 + (25 * s)) + j).toNat = mLgv (mV N 0) s j := by
  rw [← e00]
  unfold mLgv
  by_cases e : j = 0
  · rw [if_pos e, e, Int.add_zero]; exact fl_c hs
  · rw [if_neg e, ← fl_e hs (by omega) (by omega)]
    exact congrArg (M 1) (by omega)
theorem cEnt_6 {N : zNt} {s : Int} (hs : 0 ≤ s ∧ s < 6) : cEnt N s = N 6 s.toNat := if_pos hs
theorem mLgh_step {N : zNt} {s j : Int} {g : Int64} (ok : rOk N) (hs : 0 ≤ s ∧ s < 6) (h0 : 0 ≤ j) (h1 : j < N 6 s.toNat + 1) : 31 * mLgh N s g j.toNat + (iI (mLgv N s j)).toInt64 = mLgh N s g (j + 1).toNat := by
  rw [show (j + 1).toNat = j.toNat + 1 by omega]
  by_cases e : j = 0
  · subst e; rfl
  · obtain ⟨k, hk⟩ : ∃ k : Nat, j = (k : Int) + 1 := ⟨(j - 1).toNat, by omega⟩
    subst hk
    rw [show ((k : Int) + 1).toNat = k + 1 by omega]
    show 31 * cHsL N s (zH g (N 6 s.toNat)) k + _ = cHsL N s (zH g (N 6 s.toNat)) (k + 1)
    rw [cHsL]
    have e2 : cEntry N s (k : Int) = mLgv N s ((k : Int) + 1) := by
      unfold cEntry mLgv
      rw [cEnt_6 hs, if_pos (by omega), if_neg (by omega), show (k : Int) + 1 - 1 = k by omega]
    rw [e2]; rfl
theorem mLgh_end {N : zNt} {s : Int} {g x : Int64} (ok : rOk N) (hs : 0 ≤ s ∧ s < 6) {P : Prop} (hP : P) (hx : (P → cUp N s) ∧ x = 1 ∨ (P → ¬ cUp N s) ∧ x = 0 := by first | exact Or.inl ⟨fun h => h, rfl⟩ | exact Or.inr ⟨fun h => h, rfl⟩) : mLgh N s (31 * (31 * g + x) + (iI (cHeld N s (N 0 0).toNat)).toInt64) (N 6 s.toNat + 1).toNat = cHs N g s := by
  have hl := rk_ll ok (s := s.toNat) (by omega)
  rw [show (N 6 s.toNat + 1).toNat = (N 6 s.toNat).toNat + 1 by omega]
  unfold cHs
  rw [cEnt_6 hs]
  rcases hx with ⟨q, rfl⟩ | ⟨q, rfl⟩
  · rw [if_pos (q hP)]; rfl
  · rw [if_neg (q hP)]; rfl
set_option maxHeartbeats 4000000 in
set_option maxRecDepth 100000 in
theorem c_X4_digest {l : Launch} {D : va_G} {G : zG} {ad : Nat → Nat} (hJ : zInj ad) (σ : zM) {N : Nat → Nat → Int}   (ok : rOk (mV N 0)) : zKL l D G ad yX4_digest cX4_digest 3 (some .long) 6 [.ref (ad 5)] (zBk σ 5 3 N) (fun z σ9 => z = cHash (mV N 0) ∧ σ9 = zBk (zSL σ 5 10 (cHash (mV N 0))) 5 3 (up2 N 0 0 0)) := by
  intro sz
  refine z_open hJ (by decide +kernel) (Nat.le_of_ble_eq_true rfl) ?_
  intro p e s0 m args below meth c hsz X hr hlocks
  have hn := rk_n ok
  have e00 : ∀ x : Int, mV (up2 N 0 0 x) 0 = mV N 0 := fun x => mV_r0 N 0 x 0
  have e000 : mV (up2 N 0 0 0) 0 0 0 = mV N 0 0 0 := by rw [e00]
  refine z_sub [(0, .ref (ad 5))] (zSub_cons rfl zSub_nil) ?_
  refine z_aload_n X dX4_digest_0 rfl ?_
  refine z_iconst X dX4_digest_1 ?_
  refine y_pMod0 X fX4_16 dX4_digest_2 ?_
  rw [show zBk σ 5 3 (up2 N 0 0 0) = zBk (zSL σ 5 10 (σ.2 5 10)) 5 3 (up2 N 0 0 0) from by rw [zSL_rd]]
  refine z_aload_n X dX4_digest_5 rfl ?_
  refine z_ldc2 X (v := 4431) (zU_mem 1136 (by decide +kernel) (by decide +kernel)) dX4_digest_6 ?_
  refine y_pModH X fX4_185 dX4_digest_9 ?_
  refine z_aload_n X dX4_digest_12 rfl ?_
  refine z_aload_n X dX4_digest_13 rfl ?_
  refine y_gMod1 X fX4_7 dX4_digest_14 ?_
  refine z_iconst X dX4_digest_17 ?_
  refine y_iald X 1 (zArr_6) (by decide) (by omega) (by omega) (by decide) dX4_digest_18 ?_
  rw [fl_n0 (N := (up2 N 0 0 0)), e00]
  refine z_i2l X dX4_digest_19 ?_
  refine z_callVV1 X (c_X4_mix hJ _) kX4_191 rfl (by decide) rfl ⟨(Nat.le_of_ble_eq_true rfl), (Nat.le_of_ble_eq_true rfl)⟩ (Nat.le_of_ble_eq_true rfl) ⟨Nat.zero_le _, Nat.zero_le _⟩ dX4_digest_20 (fun σ1 hz9 => ?_)
  obtain rfl := hz9
  refine z_aload_n X dX4_digest_23 rfl ?_
  refine z_aload_n X dX4_digest_24 rfl ?_
  refine z_callVI0 X (c_X4_openDeals hJ _ (by rw [e00]; exact ok)) kX4_130 rfl (by decide) rfl ⟨(Nat.le_of_ble_eq_true rfl), (Nat.le_of_ble_eq_true rfl)⟩ (Nat.le_of_ble_eq_true rfl) ⟨Nat.zero_le _, Nat.zero_le _⟩ dX4_digest_25 (fun z9 σ1 hz9 => ?_)
  obtain ⟨rfl, rfl⟩ := hz9
  try rw [e00]
  refine z_i2l X dX4_digest_28 ?_
  refine z_callVV1 X (c_X4_mix hJ _) kX4_191 rfl (by decide) rfl ⟨(Nat.le_of_ble_eq_true rfl), (Nat.le_of_ble_eq_true rfl)⟩ (Nat.le_of_ble_eq_true rfl) ⟨Nat.zero_le _, Nat.zero_le _⟩ dX4_digest_29 (fun σ1 hz9 => ?_)
  obtain rfl := hz9
  refine z_aload_n X dX4_digest_32 rfl ?_
  refine z_aload_n X dX4_digest_33 rfl ?_
  refine z_callVI0 X (c_X4_stuckDeals hJ _ (by rw [e00]; exact ok)) kX4_137 rfl (by decide) rfl ⟨(Nat.le_of_ble_eq_true rfl), (Nat.le_of_ble_eq_true rfl)⟩ (Nat.le_of_ble_eq_true rfl) ⟨Nat.zero_le _, Nat.zero_le _⟩ dX4_digest_34 (fun z9 σ1 hz9 => ?_)
  obtain ⟨rfl, rfl⟩ := hz9
  try rw [e00]
  refine z_i2l X dX4_digest_37 ?_
  refine z_callVV1 X (c_X4_mix hJ _) kX4_191 rfl (by decide) rfl ⟨(Nat.le_of_ble_eq_true rfl), (Nat.le_of_ble_eq_true rfl)⟩ (Nat.le_of_ble_eq_true rfl) ⟨Nat.zero_le _, Nat.zero_le _⟩ dX4_digest_38 (fun σ1 hz9 => ?_)
  obtain rfl := hz9
  refine z_aload_n X dX4_digest_41 rfl ?_
  refine z_aload_n X dX4_digest_42 rfl ?_
  refine y_gMod1 X fX4_7 dX4_digest_43 ?_
  refine z_iconst X dX4_digest_46 ?_
  refine y_iald X 1 (zArr_6) (by decide) (by omega) (by omega) (by decide) dX4_digest_47 ?_
  rw [fl_a (N := (up2 N 0 0 0)), e00]
  refine z_i2l X dX4_digest_48 ?_
  refine z_callVV1 X (c_X4_mix hJ _) kX4_191 rfl (by decide) rfl ⟨(Nat.le_of_ble_eq_true rfl), (Nat.le_of_ble_eq_true rfl)⟩ (Nat.le_of_ble_eq_true rfl) ⟨Nat.zero_le _, Nat.zero_le _⟩ dX4_digest_49 (fun σ1 hz9 => ?_)
  obtain rfl := hz9
  refine z_iconst X dX4_digest_52 ?_
  refine z_istore_n X dX4_digest_53 (by decide) ?_
  refine z_sub [(0, .ref (ad 5)), (1, vI 0)] (zSub_cons rfl (zSub_cons rfl zSub_nil)) ?_
  refine z_sub [(0, .ref (ad 5)), (1, vI 0)] (zSub_cons rfl (zSub_cons rfl zSub_nil)) ?_
  refine zFor (S := Int64) 6 (fun i g => g = cHL1 (mV N 0) (zH (zH (zH (zH 4431 ((mV N 0) 0 0)) (cOpens (mV N 0))) (cStucks (mV N 0))) ((mV N 0) 0 2)) i.toNat) (fun i g => zV p l e (zRm 6) s0 m args below meth c 3 D G ad 0 0 (zE below (zQL D G ad sz (fun z σ9 => z = cHash (mV N 0) ∧ σ9 = zBk (zSL σ 5 10 (cHash (mV N 0))) 5 3 (up2 N 0 0 0))) args s0 ad) 54 [(0, .ref (ad 5)), (1, vI i)] [] (zBk (zSL σ 5 10 g) 5 3 (up2 N 0 0 0))) (fun i g i0 i1 hv ih => ?_) (zH2 (zH2 (zH2 (zH2 4431 ((iI ((mV N 0) 0 0)).toInt64)) ((iI (cOpens (mV N 0))).toInt64)) ((iI (cStucks (mV N 0))).toInt64)) ((iI ((mV N 0) 0 2)).toInt64)) (by omega) rfl
  have hl := rk_ll ok (s := i.toNat)
  refine z_iload_n X dX4_digest_54 rfl ?_
  refine z_bipush X dX4_digest_55 rfl ?_
  refine z_icmp_ge X 140 dX4_digest_57 (by decide) (by first | assumption | (unfold zB at *; omega)) ⟨by decide, by decide⟩ (fun c_7 => ?_) (fun c_7 => ?_)
  · refine z_iconst X dX4_digest_140 ?_
    refine z_istore_n X dX4_digest_141 (by decide) ?_
    refine z_sub [(0, .ref (ad 5)), (1, vI 0)] (zSub_cons rfl (zSub_cons rfl zSub_nil)) ?_
    refine z_sub [(0, .ref (ad 5)), (1, vI 0)] (zSub_cons rfl (zSub_cons rfl zSub_nil)) ?_
    refine zFor (S := Int64) ((mV N 0) 0 0) (fun r g3 => g3 = cHL2 (mV N 0) g r.toNat) (fun r g3 => zV p l e (zRm 6) s0 m args below meth c 3 D G ad 0 0 (zE below (zQL D G ad sz (fun z σ9 => z = cHash (mV N 0) ∧ σ9 = zBk (zSL σ 5 10 (cHash (mV N 0))) 5 3 (up2 N 0 0 0))) args s0 ad) 142 [(0, .ref (ad 5)), (1, vI r)] [] (zBk (zSL σ 5 10 g3) 5 3 (up2 N 0 0 0))) (fun r g3 r0 r1 hvc ihc => ?_) g (by omega) rfl
    refine z_iload_n X dX4_digest_142 rfl ?_
    refine z_aload_n X dX4_digest_143 rfl ?_
    refine y_gMod1 X fX4_7 dX4_digest_144 ?_
    refine z_iconst X dX4_digest_147 ?_
    refine y_iald X 1 (zArr_6) (by decide) (by omega) (by omega) (by decide) dX4_digest_148 ?_
    rw [fl_n0 (N := (up2 N 0 0 0)), e00]
    refine z_icmp_ge X 230 dX4_digest_149 (by decide) (by first | assumption | (unfold zB at *; omega)) (zB_sm hn) (fun c_8 => ?_) (fun c_8 => ?_)
    · refine z_aload_n X dX4_digest_230 rfl ?_
      refine y_gModH X fX4_185 dX4_digest_231 ?_
      exact z_lret X hsz hr hlocks dX4_digest_234 ⟨(by rw [hvc, hv, show r = mV N 0 0 0 by omega, show i = 6 by omega]; rfl), (by rw [hvc, hv, show r = mV N 0 0 0 by omega, show i = 6 by omega]; rfl)⟩
    · refine z_aload_n X dX4_digest_152 rfl ?_
      refine z_aload_n X dX4_digest_153 rfl ?_
      refine z_iconst X dX4_digest_154 ?_
      refine z_iload_n X dX4_digest_155 rfl ?_
      refine z_iconst X dX4_digest_156 ?_
      refine z_callVI3 X (c_X4_of0 hJ _ ⟨by decide, by decide⟩ (by first | assumption | (unfold zB at *; omega)) (by omega) (by rw [e00]; exact ok) (by first | omega | assumption)) kX4_24 rfl (by decide) rfl ⟨(Nat.le_of_ble_eq_true rfl), (Nat.le_of_ble_eq_true rfl)⟩ (Nat.le_of_ble_eq_true rfl) ⟨Nat.zero_le _, Nat.zero_le _⟩ dX4_digest_157 (fun z9 σ1 hz9 => ?_)
      obtain ⟨rfl, rfl⟩ := hz9
      try rw [e00]
      refine z_i2l X dX4_digest_160 ?_
      refine z_callVV1 X (c_X4_mix hJ _) kX4_191 rfl (by decide) rfl ⟨(Nat.le_of_ble_eq_true rfl), (Nat.le_of_ble_eq_true rfl)⟩ (Nat.le_of_ble_eq_true rfl) ⟨Nat.zero_le _, Nat.zero_le _⟩ dX4_digest_161 (fun σ1 hz9 => ?_)
      obtain rfl := hz9
      refine z_aload_n X dX4_digest_164 rfl ?_
      refine z_aload_n X dX4_digest_165 rfl ?_
      refine z_iconst X dX4_digest_166 ?_
      refine z_iload_n X dX4_digest_167 rfl ?_
      refine z_iconst X dX4_digest_168 ?_
      refine z_callVI3 X (c_X4_of3 hJ _ ⟨by decide, by decide⟩ (by first | assumption | (unfold zB at *; omega)) (by omega) (by rw [e00]; exact ok) (by first | omega | assumption)) kX4_24 rfl (by decide) rfl ⟨(Nat.le_of_ble_eq_true rfl), (Nat.le_of_ble_eq_true rfl)⟩ (Nat.le_of_ble_eq_true rfl) ⟨Nat.zero_le _, Nat.zero_le _⟩ dX4_digest_169 (fun z9 σ1 hz9 => ?_)
      obtain ⟨rfl, rfl⟩ := hz9
      try rw [e00]
      refine z_i2l X dX4_digest_172 ?_
      refine z_callVV1 X (c_X4_mix hJ _) kX4_191 rfl (by decide) rfl ⟨(Nat.le_of_ble_eq_true rfl), (Nat.le_of_ble_eq_true rfl)⟩ (Nat.le_of_ble_eq_true rfl) ⟨Nat.zero_le _, Nat.zero_le _⟩ dX4_digest_173 (fun σ1 hz9 => ?_)
      obtain rfl := hz9
      refine z_iconst X dX4_digest_176 ?_
      refine z_istore_n X dX4_digest_177 (by decide) ?_
      refine z_sub [(0, .ref (ad 5)), (1, vI r), (2, vI 0)] (zSub_cons rfl (zSub_cons rfl (zSub_cons rfl zSub_nil))) ?_
      refine z_sub [(0, .ref (ad 5)), (1, vI r), (2, vI 0)] (zSub_cons rfl (zSub_cons rfl (zSub_cons rfl zSub_nil))) ?_
      refine zFor (S := Int64) 6 (fun q g4 => g4 = cHdL (mV N 0) r (zH2 (zH2 g3 ((iI (cLead (mV N 0) r)).toInt64)) ((iI (cDec (mV N 0) r)).toInt64)) q.toNat) (fun q g4 => zV p l e (zRm 6) s0 m args below meth c 3 D G ad 0 0 (zE below (zQL D G ad sz (fun z σ9 => z = cHash (mV N 0) ∧ σ9 = zBk (zSL σ 5 10 (cHash (mV N 0))) 5 3 (up2 N 0 0 0))) args s0 ad) 178 [(0, .ref (ad 5)), (1, vI r), (2, vI q)] [] (zBk (zSL σ 5 10 g4) 5 3 (up2 N 0 0 0))) (fun q g4 q0 q1 hvd ihd => ?_) (zH2 (zH2 g3 ((iI (cLead (mV N 0) r)).toInt64)) ((iI (cDec (mV N 0) r)).toInt64)) (by omega) rfl
      refine z_iload_n X dX4_digest_178 rfl ?_
      refine z_bipush X dX4_digest_179 rfl ?_
      refine z_icmp_ge X 224 dX4_digest_181 (by decide) (by first | assumption | (unfold zB at *; omega)) ⟨by decide, by decide⟩ (fun c_13 => ?_) (fun c_13 => ?_)
      · refine z_iinc X dX4_digest_224 rfl (by decide) ?_
        refine z_sub [(0, .ref (ad 5)), (1, vI (r + 1)), (2, vI q)] (zSub_cons rfl (zSub_cons rfl (zSub_cons rfl zSub_nil))) ?_
        refine z_goto X 142 dX4_digest_227 (by decide) ?_
        refine z_sub [(0, .ref (ad 5)), (1, vI (r + 1))] (zSub_cons rfl (zSub_cons rfl zSub_nil)) ?_
        exact ihc (by omega) g4 (by rw [cHL2_step r0, ← hvc, hvd, show q = 6 by omega]; rfl)
      · refine z_aload_n X dX4_digest_184 rfl ?_
        refine z_aload_n X dX4_digest_185 rfl ?_
        refine z_iconst X dX4_digest_186 ?_
        refine z_iload_n X dX4_digest_187 rfl ?_
        refine z_iload_n X dX4_digest_188 rfl ?_
        refine z_callVI3 X (c_X4_stateOf hJ _ ⟨by decide, by decide⟩ (by first | assumption | (unfold zB at *; omega)) (by first | assumption | (unfold zB at *; omega)) (by omega) (by rw [e00]; exact ok) (by first | omega | assumption | grind) (by omega)) kX4_35 rfl (by decide) rfl ⟨(Nat.le_of_ble_eq_true rfl), (Nat.le_of_ble_eq_true rfl)⟩ (Nat.le_of_ble_eq_true rfl) ⟨Nat.zero_le _, Nat.zero_le _⟩ dX4_digest_189 (fun z9 σ1 hz9 => ?_)
        obtain ⟨rfl, rfl⟩ := hz9
        try rw [e00]
        refine z_i2l X dX4_digest_192 ?_
        refine z_callVV1 X (c_X4_mix hJ _) kX4_191 rfl (by decide) rfl ⟨(Nat.le_of_ble_eq_true rfl), (Nat.le_of_ble_eq_true rfl)⟩ (Nat.le_of_ble_eq_true rfl) ⟨Nat.zero_le _, Nat.zero_le _⟩ dX4_digest_193 (fun σ1 hz9 => ?_)
        obtain rfl := hz9
        refine z_aload_n X dX4_digest_196 rfl ?_
        refine z_aload_n X dX4_digest_197 rfl ?_
        refine z_iload_n X dX4_digest_198 rfl ?_
        refine z_iload_n X dX4_digest_199 rfl ?_
        refine z_callVI2 X (c_X4_patienceOf hJ _ (by first | assumption | (unfold zB at *; omega)) (by first | assumption | (unfold zB at *; omega)) (by rw [e00]; exact ok) (by first | omega | assumption | grind) (by omega)) kX4_127 rfl (by decide) rfl ⟨(Nat.le_of_ble_eq_true rfl), (Nat.le_of_ble_eq_true rfl)⟩ (Nat.le_of_ble_eq_true rfl) ⟨Nat.zero_le _, Nat.zero_le _⟩ dX4_digest_200 (fun z9 σ1 hz9 => ?_)
        obtain ⟨rfl, rfl⟩ := hz9
        try rw [e00]
        refine z_i2l X dX4_digest_203 ?_
        refine z_callVV1 X (c_X4_mix hJ _) kX4_191 rfl (by decide) rfl ⟨(Nat.le_of_ble_eq_true rfl), (Nat.le_of_ble_eq_true rfl)⟩ (Nat.le_of_ble_eq_true rfl) ⟨Nat.zero_le _, Nat.zero_le _⟩ dX4_digest_204 (fun σ1 hz9 => ?_)
        obtain rfl := hz9
        refine z_aload_n X dX4_digest_207 rfl ?_
        refine z_aload_n X dX4_digest_208 rfl ?_
        refine z_iload_n X dX4_digest_209 rfl ?_
        refine z_iload_n X dX4_digest_210 rfl ?_
        refine z_callVI2 X (c_X4_helperOf hJ _ (by first | assumption | (unfold zB at *; omega)) (by first | assumption | (unfold zB at *; omega)) (by rw [e00]; exact ok) (by first | omega | assumption | grind) (by omega)) kX4_134 rfl (by decide) rfl ⟨(Nat.le_of_ble_eq_true rfl), (Nat.le_of_ble_eq_true rfl)⟩ (Nat.le_of_ble_eq_true rfl) ⟨Nat.zero_le _, Nat.zero_le _⟩ dX4_digest_211 (fun z9 σ1 hz9 => ?_)
        obtain ⟨rfl, rfl⟩ := hz9
        try rw [e00]
        refine z_i2l X dX4_digest_214 ?_
        refine z_callVV1 X (c_X4_mix hJ _) kX4_191 rfl (by decide) rfl ⟨(Nat.le_of_ble_eq_true rfl), (Nat.le_of_ble_eq_true rfl)⟩ (Nat.le_of_ble_eq_true rfl) ⟨Nat.zero_le _, Nat.zero_le _⟩ dX4_digest_215 (fun σ1 hz9 => ?_)
        obtain rfl := hz9
        refine z_iinc X dX4_digest_218 rfl (by decide) ?_
        refine z_sub [(0, .ref (ad 5)), (1, vI r), (2, vI (q + 1))] (zSub_cons rfl (zSub_cons rfl (zSub_cons rfl zSub_nil))) ?_
        refine z_goto X 178 dX4_digest_221 (by decide) ?_
        refine z_sub [(0, .ref (ad 5)), (1, vI r), (2, vI (q + 1))] (zSub_cons rfl (zSub_cons rfl (zSub_cons rfl zSub_nil))) ?_
        exact ihd (by omega) (zH2 (zH2 (zH2 g4 ((iI (cSt (mV N 0) r q)).toInt64)) ((iI (cPat (mV N 0) r q)).toInt64)) ((iI (cHelp (mV N 0) r q)).toInt64)) (by rw [cHdL_step q0, ← hvd]; rfl)
  · refine z_aload_n X dX4_digest_60 rfl ?_
    refine z_aload_n X dX4_digest_61 rfl ?_
    refine z_iconst X dX4_digest_62 ?_
    refine z_iload_n X dX4_digest_63 rfl ?_
    refine z_callVI2 X (c_X4_isUpNow hJ _ ⟨by decide, by decide⟩ (by first | assumption | (unfold zB at *; omega)) (by omega) (by omega)) kX4_58 rfl (by decide) rfl ⟨(Nat.le_of_ble_eq_true rfl), (Nat.le_of_ble_eq_true rfl)⟩ (Nat.le_of_ble_eq_true rfl) ⟨Nat.zero_le _, Nat.zero_le _⟩ dX4_digest_64 (fun z9 σ1 hz9 => ?_)
    obtain ⟨rfl, rfl⟩ := hz9
    try rw [e00]
    refine z_ifb_eq X 74 dX4_digest_67 (by decide) (fun c_21 => ?_) (fun c_21 => ?_)
    · refine z_lconst X 0 dX4_digest_74 rfl ?_
      refine z_callVV1 X (c_X4_mix hJ _) kX4_191 rfl (by decide) rfl ⟨(Nat.le_of_ble_eq_true rfl), (Nat.le_of_ble_eq_true rfl)⟩ (Nat.le_of_ble_eq_true rfl) ⟨Nat.zero_le _, Nat.zero_le _⟩ dX4_digest_75 (fun σ1 hz9 => ?_)
      obtain rfl := hz9
      refine z_aload_n X dX4_digest_78 rfl ?_
      refine z_aload_n X dX4_digest_79 rfl ?_
      refine z_iconst X dX4_digest_80 ?_
      refine z_iload_n X dX4_digest_81 rfl ?_
      refine z_callVI2 X (c_X4_heldBy hJ _ ⟨by decide, by decide⟩ (by first | assumption | (unfold zB at *; omega)) (by omega) (by rw [e00]; exact ok) (by omega)) kX4_38 rfl (by decide) rfl ⟨(Nat.le_of_ble_eq_true rfl), (Nat.le_of_ble_eq_true rfl)⟩ (Nat.le_of_ble_eq_true rfl) ⟨Nat.zero_le _, Nat.zero_le _⟩ dX4_digest_82 (fun z9 σ1 hz9 => ?_)
      obtain ⟨rfl, rfl⟩ := hz9
      try rw [e00]
      refine z_i2l X dX4_digest_85 ?_
      refine z_callVV1 X (c_X4_mix hJ _) kX4_191 rfl (by decide) rfl ⟨(Nat.le_of_ble_eq_true rfl), (Nat.le_of_ble_eq_true rfl)⟩ (Nat.le_of_ble_eq_true rfl) ⟨Nat.zero_le _, Nat.zero_le _⟩ dX4_digest_86 (fun σ1 hz9 => ?_)
      obtain rfl := hz9
      refine z_iconst X dX4_digest_89 ?_
      refine z_istore_n X dX4_digest_90 (by decide) ?_
      refine z_sub [(0, .ref (ad 5)), (1, vI i), (2, vI 0)] (zSub_cons rfl (zSub_cons rfl (zSub_cons rfl zSub_nil))) ?_
      refine z_sub [(0, .ref (ad 5)), (1, vI i), (2, vI 0)] (zSub_cons rfl (zSub_cons rfl (zSub_cons rfl zSub_nil))) ?_
      refine zFor (S := Int64) ((mV N 0) 6 i.toNat + 1) (fun j g2 => g2 = mLgh (mV N 0) i (zH2 (zH2 g 0) ((iI (cHeld (mV N 0) i (mV N 0 0 0).toNat)).toInt64)) j.toNat) (fun j g2 => zV p l e (zRm 6) s0 m args below meth c 3 D G ad 0 0 (zE below (zQL D G ad sz (fun z σ9 => z = cHash (mV N 0) ∧ σ9 = zBk (zSL σ 5 10 (cHash (mV N 0))) 5 3 (up2 N 0 0 0))) args s0 ad) 91 [(0, .ref (ad 5)), (1, vI i), (2, vI j)] [] (zBk (zSL σ 5 10 g2) 5 3 (up2 N 0 0 0))) (fun j g2 j0 j1 hvb ihb => ?_) (zH2 (zH2 g 0) ((iI (cHeld (mV N 0) i (mV N 0 0 0).toNat)).toInt64)) (by have := hl (by omega); omega) rfl
      have hl2 := hl (by omega)
      refine z_iload_n X dX4_digest_91 rfl ?_
      refine z_aload_n X dX4_digest_92 rfl ?_
      refine y_gMod1 X fX4_7 dX4_digest_93 ?_
      refine z_sipush X dX4_digest_96 rfl ?_
      refine z_bipush X dX4_digest_99 rfl ?_
      refine z_iload_n X dX4_digest_101 rfl ?_
      refine z_imul X dX4_digest_102 ?_
      refine z_iadd X dX4_digest_103 ?_
      refine y_iald X 1 (zArr_6) (by decide) (by omega) (by omega) (by decide) dX4_digest_104 ?_
      rw [fl_c (N := (up2 N 0 0 0)) (s := i) ⟨by omega, by omega⟩, e00]
      refine z_icmp_gt X 134 dX4_digest_105 (by decide) ⟨by omega, by have := hl (by omega); omega⟩ (zB_sm (rk_ll ok (by omega))) (fun c_25 => ?_) (fun c_25 => ?_)
      · refine z_iinc X dX4_digest_134 rfl (by decide) ?_
        refine z_sub [(0, .ref (ad 5)), (1, vI (i + 1)), (2, vI j)] (zSub_cons rfl (zSub_cons rfl (zSub_cons rfl zSub_nil))) ?_
        refine z_goto X 54 dX4_digest_137 (by decide) ?_
        refine z_sub [(0, .ref (ad 5)), (1, vI (i + 1))] (zSub_cons rfl (zSub_cons rfl zSub_nil)) ?_
        exact ih (by omega) g2 (by rw [cHL1_step i0, ← hv, hvb, show j = mV N 0 6 i.toNat + 1 by omega]; exact mLgh_end ok ⟨by omega, by omega⟩ c_21)
      · refine z_aload_n X dX4_digest_108 rfl ?_
        refine z_aload_n X dX4_digest_109 rfl ?_
        refine y_gMod1 X fX4_7 dX4_digest_110 ?_
        refine z_sipush X dX4_digest_113 rfl ?_
        refine z_bipush X dX4_digest_116 rfl ?_
        refine z_iload_n X dX4_digest_118 rfl ?_
        refine z_imul X dX4_digest_119 ?_
        refine z_iadd X dX4_digest_120 ?_
        refine z_iload_n X dX4_digest_121 rfl ?_
        refine z_iadd X dX4_digest_122 ?_
        refine y_iald X 1 (zArr_6) (by decide) (by omega) (by omega) (by decide) dX4_digest_123 ?_
        rw [show (up2 N 0 0 0) 1 ((132 + (25 * i)) + j).toNat = mLgv (mV N 0) i j from fl_lg ⟨by omega, by omega⟩ j0 (by omega) (e00 0)]
        refine z_i2l X dX4_digest_124 ?_
        refine z_callVV1 X (c_X4_mix hJ _) kX4_191 rfl (by decide) rfl ⟨(Nat.le_of_ble_eq_true rfl), (Nat.le_of_ble_eq_true rfl)⟩ (Nat.le_of_ble_eq_true rfl) ⟨Nat.zero_le _, Nat.zero_le _⟩ dX4_digest_125 (fun σ1 hz9 => ?_)
        obtain rfl := hz9
        refine z_iinc X dX4_digest_128 rfl (by decide) ?_
        refine z_sub [(0, .ref (ad 5)), (1, vI i), (2, vI (j + 1))] (zSub_cons rfl (zSub_cons rfl (zSub_cons rfl zSub_nil))) ?_
        refine z_goto X 91 dX4_digest_131 (by decide) ?_
        refine z_sub [(0, .ref (ad 5)), (1, vI i), (2, vI (j + 1))] (zSub_cons rfl (zSub_cons rfl (zSub_cons rfl zSub_nil))) ?_
        exact ihb (by omega) (zH2 g2 ((iI (mLgv (mV N 0) i j)).toInt64)) (by rw [hvb]; exact mLgh_step ok ⟨by omega, by omega⟩ j0 (by omega))
    · refine z_lconst X 1 dX4_digest_70 rfl ?_
      refine z_goto X 75 dX4_digest_71 (by decide) ?_
      refine z_callVV1 X (c_X4_mix hJ _) kX4_191 rfl (by decide) rfl ⟨(Nat.le_of_ble_eq_true rfl), (Nat.le_of_ble_eq_true rfl)⟩ (Nat.le_of_ble_eq_true rfl) ⟨Nat.zero_le _, Nat.zero_le _⟩ dX4_digest_75 (fun σ1 hz9 => ?_)
      obtain rfl := hz9
      refine z_aload_n X dX4_digest_78 rfl ?_
      refine z_aload_n X dX4_digest_79 rfl ?_
      refine z_iconst X dX4_digest_80 ?_
      refine z_iload_n X dX4_digest_81 rfl ?_
      refine z_callVI2 X (c_X4_heldBy hJ _ ⟨by decide, by decide⟩ (by first | assumption | (unfold zB at *; omega)) (by omega) (by rw [e00]; exact ok) (by omega)) kX4_38 rfl (by decide) rfl ⟨(Nat.le_of_ble_eq_true rfl), (Nat.le_of_ble_eq_true rfl)⟩ (Nat.le_of_ble_eq_true rfl) ⟨Nat.zero_le _, Nat.zero_le _⟩ dX4_digest_82 (fun z9 σ1 hz9 => ?_)
      obtain ⟨rfl, rfl⟩ := hz9
      try rw [e00]
      refine z_i2l X dX4_digest_85 ?_
      refine z_callVV1 X (c_X4_mix hJ _) kX4_191 rfl (by decide) rfl ⟨(Nat.le_of_ble_eq_true rfl), (Nat.le_of_ble_eq_true rfl)⟩ (Nat.le_of_ble_eq_true rfl) ⟨Nat.zero_le _, Nat.zero_le _⟩ dX4_digest_86 (fun σ1 hz9 => ?_)
      obtain rfl := hz9
      refine z_iconst X dX4_digest_89 ?_
      refine z_istore_n X dX4_digest_90 (by decide) ?_
      refine z_sub [(0, .ref (ad 5)), (1, vI i), (2, vI 0)] (zSub_cons rfl (zSub_cons rfl (zSub_cons rfl zSub_nil))) ?_
      refine z_sub [(0, .ref (ad 5)), (1, vI i), (2, vI 0)] (zSub_cons rfl (zSub_cons rfl (zSub_cons rfl zSub_nil))) ?_
      refine zFor (S := Int64) ((mV N 0) 6 i.toNat + 1) (fun j g2 => g2 = mLgh (mV N 0) i (zH2 (zH2 g 1) ((iI (cHeld (mV N 0) i (mV N 0 0 0).toNat)).toInt64)) j.toNat) (fun j g2 => zV p l e (zRm 6) s0 m args below meth c 3 D G ad 0 0 (zE below (zQL D G ad sz (fun z σ9 => z = cHash (mV N 0) ∧ σ9 = zBk (zSL σ 5 10 (cHash (mV N 0))) 5 3 (up2 N 0 0 0))) args s0 ad) 91 [(0, .ref (ad 5)), (1, vI i), (2, vI j)] [] (zBk (zSL σ 5 10 g2) 5 3 (up2 N 0 0 0))) (fun j g2 j0 j1 hvb ihb => ?_) (zH2 (zH2 g 1) ((iI (cHeld (mV N 0) i (mV N 0 0 0).toNat)).toInt64)) (by have := hl (by omega); omega) rfl
      have hl2 := hl (by omega)
      refine z_iload_n X dX4_digest_91 rfl ?_
      refine z_aload_n X dX4_digest_92 rfl ?_
      refine y_gMod1 X fX4_7 dX4_digest_93 ?_
      refine z_sipush X dX4_digest_96 rfl ?_
      refine z_bipush X dX4_digest_99 rfl ?_
      refine z_iload_n X dX4_digest_101 rfl ?_
      refine z_imul X dX4_digest_102 ?_
      refine z_iadd X dX4_digest_103 ?_
      refine y_iald X 1 (zArr_6) (by decide) (by omega) (by omega) (by decide) dX4_digest_104 ?_
      rw [fl_c (N := (up2 N 0 0 0)) (s := i) ⟨by omega, by omega⟩, e00]
      refine z_icmp_gt X 134 dX4_digest_105 (by decide) ⟨by omega, by have := hl (by omega); omega⟩ (zB_sm (rk_ll ok (by omega))) (fun c_30 => ?_) (fun c_30 => ?_)
      · refine z_iinc X dX4_digest_134 rfl (by decide) ?_
        refine z_sub [(0, .ref (ad 5)), (1, vI (i + 1)), (2, vI j)] (zSub_cons rfl (zSub_cons rfl (zSub_cons rfl zSub_nil))) ?_
        refine z_goto X 54 dX4_digest_137 (by decide) ?_
        refine z_sub [(0, .ref (ad 5)), (1, vI (i + 1))] (zSub_cons rfl (zSub_cons rfl zSub_nil)) ?_
        exact ih (by omega) g2 (by rw [cHL1_step i0, ← hv, hvb, show j = mV N 0 6 i.toNat + 1 by omega]; exact mLgh_end ok ⟨by omega, by omega⟩ c_21)
      · refine z_aload_n X dX4_digest_108 rfl ?_
        refine z_aload_n X dX4_digest_109 rfl ?_
        refine y_gMod1 X fX4_7 dX4_digest_110 ?_
        refine z_sipush X dX4_digest_113 rfl ?_
        refine z_bipush X dX4_digest_116 rfl ?_
        refine z_iload_n X dX4_digest_118 rfl ?_
        refine z_imul X dX4_digest_119 ?_
        refine z_iadd X dX4_digest_120 ?_
        refine z_iload_n X dX4_digest_121 rfl ?_
        refine z_iadd X dX4_digest_122 ?_
        refine y_iald X 1 (zArr_6) (by decide) (by omega) (by omega) (by decide) dX4_digest_123 ?_
        rw [show (up2 N 0 0 0) 1 ((132 + (25 * i)) + j).toNat = mLgv (mV N 0) i j from fl_lg ⟨by omega, by omega⟩ j0 (by omega) (e00 0)]
        refine z_i2l X dX4_digest_124 ?_
        refine z_callVV1 X (c_X4_mix hJ _) kX4_191 rfl (by decide) rfl ⟨(Nat.le_of_ble_eq_true rfl), (Nat.le_of_ble_eq_true rfl)⟩ (Nat.le_of_ble_eq_true rfl) ⟨Nat.zero_le _, Nat.zero_le _⟩ dX4_digest_125 (fun σ1 hz9 => ?_)
        obtain rfl := hz9
        refine z_iinc X dX4_digest_128 rfl (by decide) ?_
        refine z_sub [(0, .ref (ad 5)), (1, vI i), (2, vI (j + 1))] (zSub_cons rfl (zSub_cons rfl (zSub_cons rfl zSub_nil))) ?_
        refine z_goto X 91 dX4_digest_131 (by decide) ?_
        refine z_sub [(0, .ref (ad 5)), (1, vI i), (2, vI (j + 1))] (zSub_cons rfl (zSub_cons rfl (zSub_cons rfl zSub_nil))) ?_
        exact ihb (by omega) (zH2 g2 ((iI (mLgv (mV N 0) i j)).toInt64)) (by rw [hvb]; exact mLgh_step ok ⟨by omega, by omega⟩ j0 (by omega))
