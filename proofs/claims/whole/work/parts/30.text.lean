/-! the action text: N 0 1 its length, N 1 its signs -/
section Tb
variable {p : Program} {l : Launch} {e : Env} {R : Room} {s : State} {m : MethodId} {args : Array Value} {below : List Frame} {meth : Method} {c : Code} {cc : ByteArray} {nL : Nat} {own : String} {D : va_G} {G : zG} {ad : Nat → Nat} {cells slots : Nat} {Q : State → Prop}
variable {pc : Nat} {lv : List (Nat × Value)} {st : List Value} {σ : zM}
theorem z_tabIn (X : zX p s m args c cc nL own D G ad) {x : Int} (v : Int) (tgt : Nat) (off : Int) {dflt lo hi : Int} {offs : Array Int} {len : Nat} (hx : x = v) (d : decode cc pc = .ok (.tableswitch dflt lo hi offs, len)) (h1 : ¬ (iI v).toInt < lo) (h2 : ¬ hi < (iI v).toInt) (ho : offs[((iI v).toInt - lo).toNat]? = some off) (ht : (pc : Int) + off = (tgt : Int))
    (k : zV p l e R s m args below meth c nL D G ad cells slots Q tgt lv st σ) : zV p l e R s m args below meth c nL D G ad cells slots Q pc lv (vI x :: st) σ := by
  subst hx
  exact fun ls H locs h hP hS => lv_tableIn X.1 X.2.1 d h1 h2 ho ht (k ls H locs h hP hS)
theorem z_tabOut (X : zX p s m args c cc nL own D G ad) {x : Int} (hb : zB x) (tgt : Nat) {dflt lo hi : Int} {offs : Array Int} {len : Nat} (d : decode cc pc = .ok (.tableswitch dflt lo hi offs, len)) (h : x < lo ∨ hi < x) (ht : (pc : Int) + dflt = (tgt : Int))
    (k : zV p l e R s m args below meth c nL D G ad cells slots Q tgt lv st σ) : zV p l e R s m args below meth c nL D G ad cells slots Q pc lv (vI x :: st) σ :=
  fun ls H locs hl hP hS => lv_tableOut X.1 X.2.1 d (by rw [iI_toInt hb]; exact h) ht (k ls H locs hl hP hS)
end Tb
theorem zForL {S : Type} (lo n : Int) (Inv Goal : Int → S → Prop) (step : ∀ i s, lo ≤ i → i ≤ n → Inv i s → (i < n → ∀ s', Inv (i + 1) s' → Goal (i + 1) s') → Goal i s) (s0 : S) (h0 : lo ≤ n) (hi : Inv lo s0) : Goal lo s0 := by
  have key : ∀ (f : Nat) (i : Int) (s : S), lo ≤ i → i ≤ n → n - i < f → Inv i s → Goal i s := by
    intro f
    induction f with
    | zero => intro i s a b c; omega
    | succ f ih => intro i s a b c hv; exact step i s a b hv (fun hlt s' hs => ih (i + 1) s' (by omega) (by omega) (by omega) hs)
  exact key ((n - lo).toNat + 1) lo s0 (Int.le_refl lo) h0 (by omega) hi
def tOk (N : zNt) : Prop := (0 ≤ N 0 1 ∧ N 0 1 ≤ 60) ∧ ∀ j, j < 60 → 0 ≤ N 1 j ∧ N 1 j ≤ 126
theorem tk_len {N : zNt} (h : tOk N) : 0 ≤ N 0 1 ∧ N 0 1 ≤ 60 := h.1
theorem tk_sg {N : zNt} (h : tOk N) {j : Nat} (hj : j < 60) : 0 ≤ N 1 j ∧ N 1 j ≤ 126 := h.2 j hj
def tAddN (N : zNt) (x : Int) : zNt := if 60 ≤ N 0 1 then N else up2 (up2 N 1 (N 0 1).toNat x) 0 1 (N 0 1 + 1)
theorem tk_add {N : zNt} (h : tOk N) {x : Int} (hx : 0 ≤ x ∧ x ≤ 126) : tOk (tAddN N x) := by
  have h1 := h.1
  unfold tAddN; split
  · exact h
  · refine ⟨by rw [up2_at]; omega, fun j hj => ?_⟩
    rw [up2_rw _ _ (by decide)]
    by_cases e : j = (N 0 1).toNat
    · rw [e, up2_at]; exact hx
    · rw [up2_ne _ _ (fun q => e q.2)]; exact h.2 j hj
theorem tk_clear {N : zNt} (h : tOk N) : tOk (up2 N 0 1 0) := ⟨by rw [up2_at]; decide, fun j hj => by rw [up2_rw _ _ (by decide)]; exact h.2 j hj⟩
def tSg (N : zNt) (i : Int) : Int := if 0 ≤ i ∧ i < N 0 1 then N 1 i.toNat else 0
theorem rg_sg {N : zNt} (ok : tOk N) (i : Int) : 0 ≤ tSg N i ∧ tSg N i ≤ 126 := by
  have h := ok.1
  unfold tSg; split
  · exact tk_sg ok (by omega)
  · exact ⟨by decide, by decide⟩
def tNum (N : zNt) (a : Int) : Nat → Int
  | 0 => 0
  | n + 1 => 10 * tNum N a n + (tSg N (a + n) - 48)
theorem tNum_step {N : zNt} {a i : Int} (h : a ≤ i) : tNum N a (i + 1 - a).toNat = 10 * tNum N a (i - a).toNat + (tSg N i - 48) := by
  rw [show (i + 1 - a).toNat = (i - a).toNat + 1 by omega, tNum, Int.toNat_of_nonneg (by omega), show a + (i - a) = i by omega]
def tPA (x : Int) : Int := if x = 59 then 1 else 0
def tPF (x : Int) : Int := if x = 49 then 9 else if x = 50 then 10 else if 51 ≤ x ∧ x ≤ 57 then 11 else 0
def tPK (x : Int) : Int := if x = 121 ∨ x = 110 ∨ x = 103 then 3 else if x = 100 then 2 else if x = 97 then 4 else if x = 120 ∨ x = 117 then 5 else if x = 116 then 8 else 0
def tPh (ph b x : Int) : Int :=
  if ph = 1 then tPK x else if ph = 2 then (if 48 ≤ x ∧ x ≤ 55 then 11 else 0) else if ph = 3 then (if 48 ≤ x ∧ x ≤ 55 then 5 else 0) else if ph = 4 then (if 48 ≤ x ∧ x ≤ 55 then 6 else 0)
  else if ph = 5 then (if 48 ≤ x ∧ x ≤ 53 then 11 else 0) else if ph = 6 then (if 48 ≤ x ∧ x ≤ 53 then 7 else 0) else if ph = 7 then (if (48 ≤ x ∧ x ≤ 53) ∧ x ≠ b then 11 else 0) else if ph = 8 then tPF x
  else if ph = 9 then (if 48 ≤ x ∧ x ≤ 57 then 11 else tPA x) else if ph = 10 then (if x = 48 then 11 else tPA x) else if ph = 11 then tPA x else 0
theorem rg_PA (x : Int) : 0 ≤ tPA x ∧ tPA x ≤ 11 := by unfold tPA; split <;> decide
theorem rg_PF (x : Int) : 0 ≤ tPF x ∧ tPF x ≤ 11 := by unfold tPF; (repeat' split) <;> decide
theorem rg_PK (x : Int) : 0 ≤ tPK x ∧ tPK x ≤ 11 := by unfold tPK; (repeat' split) <;> decide
theorem rg_Ph (ph b x : Int) : 0 ≤ tPh ph b x ∧ tPh ph b x ≤ 11 := by
  have h1 := rg_PA x
  have h2 := rg_PF x
  have h3 := rg_PK x
  unfold tPh; (repeat' split) <;> first | decide | assumption
def tPhL (N : zNt) : Nat → Int
  | 0 => 1
  | n + 1 => tPh (tPhL N n) (tSg N ((n : Int) - 1)) (tSg N n)
theorem tPhL_step {N : zNt} {i : Int} (h : 0 ≤ i) : tPhL N (i + 1).toNat = tPh (tPhL N i.toNat) (tSg N (i - 1)) (tSg N i) := by
  rw [show (i + 1).toNat = i.toNat + 1 by omega, tPhL, Int.toNat_of_nonneg h]
theorem rg_PhL (N : zNt) : ∀ n : Nat, 0 ≤ tPhL N n ∧ tPhL N n ≤ 11
  | 0 => by rw [tPhL]; exact ⟨by decide, by decide⟩
  | n + 1 => by rw [tPhL]; exact rg_Ph _ _ _
def tErr (N : zNt) : Int := if zFind (fun i => decide (tPhL N (i + 1).toNat = 0)) (N 0 1).toNat = -1 then N 0 1 else zFind (fun i => decide (tPhL N (i + 1).toNat = 0)) (N 0 1).toNat
abbrev tCom (N : zNt) : Prop := tPhL N (N 0 1).toNat = 11 ∨ tPhL N (N 0 1).toNat = 9 ∨ tPhL N (N 0 1).toNat = 10
set_option maxHeartbeats 4000000 in
set_option maxRecDepth 100000 in
theorem c_X0_isIn {l : Launch} {D : va_G} {G : zG} {ad : Nat → Nat} (hJ : zInj ad) (σ : zM) {x : Int} (hx : zB x) {a : Int} (ha : zB a) {b : Int} (hb : zB b)  : zKI l D G ad yX0_isIn cX0_isIn 3 (some .boolean) 0 [vI x, vI a, vI b] σ (fun z σ9 => z = (if a ≤ x ∧ x ≤ b then 1 else 0) ∧ σ9 = σ) := by
  intro sz
  refine z_open hJ (by decide +kernel) (Nat.le_of_ble_eq_true rfl) ?_
  intro p e s0 m args below meth c hsz X hr hlocks
  refine z_sub [(0, vI x), (1, vI a), (2, vI b)] (zSub_cons rfl (zSub_cons rfl (zSub_cons rfl zSub_nil))) ?_
  refine z_iload_n X dX0_isIn_0 rfl ?_
  refine z_iload_n X dX0_isIn_1 rfl ?_
  refine z_icmp_lt X 14 dX0_isIn_2 (by decide) hx ha (fun c_1 => ?_) (fun c_1 => ?_)
  · refine z_iconst X dX0_isIn_14 ?_
    exact z_zret X hsz hr hlocks dX0_isIn_15 (Or.inl rfl) ⟨(by first | rfl | ((try simp only [cEnd]); split <;> first | rfl | omega | (exfalso; omega)) | (simp [cEnd, c_1]; done) | (simp_all [cEnd]; done)), rfl⟩
  · refine z_iload_n X dX0_isIn_5 rfl ?_
    refine z_iload_n X dX0_isIn_6 rfl ?_
    refine z_icmp_gt X 14 dX0_isIn_7 (by decide) hx hb (fun c_2 => ?_) (fun c_2 => ?_)
    · refine z_iconst X dX0_isIn_14 ?_
      exact z_zret X hsz hr hlocks dX0_isIn_15 (Or.inl rfl) ⟨(by first | rfl | ((try simp only [cEnd]); split <;> first | rfl | omega | (exfalso; omega)) | (simp [cEnd, c_1, c_2]; done) | (simp_all [cEnd]; done)), rfl⟩
    · refine z_iconst X dX0_isIn_10 ?_
      refine z_goto X 15 dX0_isIn_11 (by decide) ?_
      exact z_zret X hsz hr hlocks dX0_isIn_15 (Or.inr rfl) ⟨(by first | rfl | ((try simp only [cEnd]); split <;> first | rfl | omega | (exfalso; omega)) | (simp [cEnd, c_1, c_2]; done) | (simp_all [cEnd]; done)), rfl⟩

set_option maxHeartbeats 4000000 in
set_option maxRecDepth 100000 in
theorem c_X0_phaseAfterAction {l : Launch} {D : va_G} {G : zG} {ad : Nat → Nat} (hJ : zInj ad) (σ : zM) {x : Int} (hx : zB x)  : zKI l D G ad yX0_phaseAfterAction cX0_phaseAfterAction 1 (some .int) 0 [vI x] σ (fun z σ9 => z = tPA x ∧ σ9 = σ) := by
  intro sz
  refine z_open hJ (by decide +kernel) (Nat.le_of_ble_eq_true rfl) ?_
  intro p e s0 m args below meth c hsz X hr hlocks
  refine z_sub [(0, vI x)] (zSub_cons rfl zSub_nil) ?_
  refine z_iload_n X dX0_phaseAfterAction_0 rfl ?_
  refine z_bipush X dX0_phaseAfterAction_1 rfl ?_
  refine z_icmp_ne X 10 dX0_phaseAfterAction_3 (by decide) hx ⟨by decide, by decide⟩ (fun c_1 => ?_) (fun c_1 => ?_)
  · refine z_iconst X dX0_phaseAfterAction_10 ?_
    exact z_iret X hsz hr hlocks dX0_phaseAfterAction_11 ⟨(by first | rfl | ((try simp only [tPA]); split <;> first | rfl | omega | (exfalso; omega)) | (simp [tPA, c_1]; done) | (simp_all [tPA]; done)), rfl⟩
  · refine z_iconst X dX0_phaseAfterAction_6 ?_
    refine z_goto X 11 dX0_phaseAfterAction_7 (by decide) ?_
    exact z_iret X hsz hr hlocks dX0_phaseAfterAction_11 ⟨(by first | rfl | ((try simp only [tPA]); split <;> first | rfl | omega | (exfalso; omega)) | (simp [tPA, c_1]; done) | (simp_all [tPA]; done)), rfl⟩

set_option maxHeartbeats 4000000 in
set_option maxRecDepth 100000 in
theorem c_X0_phaseAfterFirstDigit {l : Launch} {D : va_G} {G : zG} {ad : Nat → Nat} (hJ : zInj ad) (σ : zM) {x : Int} (hx : zB x)  : zKI l D G ad yX0_phaseAfterFirstDigit cX0_phaseAfterFirstDigit 1 (some .int) 1 [vI x] σ (fun z σ9 => z = tPF x ∧ σ9 = σ) := by
  intro sz
  refine z_open hJ (by decide +kernel) (Nat.le_of_ble_eq_true rfl) ?_
  intro p e s0 m args below meth c hsz X hr hlocks
  refine z_sub [(0, vI x)] (zSub_cons rfl zSub_nil) ?_
  refine z_iload_n X dX0_phaseAfterFirstDigit_0 rfl ?_
  refine z_bipush X dX0_phaseAfterFirstDigit_1 rfl ?_
  refine z_icmp_ne X 9 dX0_phaseAfterFirstDigit_3 (by decide) hx ⟨by decide, by decide⟩ (fun c_1 => ?_) (fun c_1 => ?_)
  · refine z_iload_n X dX0_phaseAfterFirstDigit_9 rfl ?_
    refine z_bipush X dX0_phaseAfterFirstDigit_10 rfl ?_
    refine z_icmp_ne X 18 dX0_phaseAfterFirstDigit_12 (by decide) hx ⟨by decide, by decide⟩ (fun c_2 => ?_) (fun c_2 => ?_)
    · refine z_iload_n X dX0_phaseAfterFirstDigit_18 rfl ?_
      refine z_bipush X dX0_phaseAfterFirstDigit_19 rfl ?_
      refine z_bipush X dX0_phaseAfterFirstDigit_21 rfl ?_
      refine z_callSI3 X (c_X0_isIn hJ _ hx ⟨by decide, by decide⟩ ⟨by decide, by decide⟩) kX0_37 ⟨(Nat.le_of_ble_eq_true rfl), (Nat.le_of_ble_eq_true rfl)⟩ (Nat.le_of_ble_eq_true rfl) ⟨Nat.zero_le _, Nat.zero_le _⟩ dX0_phaseAfterFirstDigit_23 (fun z9 σ1 hz9 => ?_)
      obtain ⟨rfl, rfl⟩ := hz9
      refine z_ifb_eq X 34 dX0_phaseAfterFirstDigit_26 (by decide) (fun c_4 => ?_) (fun c_4 => ?_)
      · refine z_iconst X dX0_phaseAfterFirstDigit_34 ?_
        exact z_iret X hsz hr hlocks dX0_phaseAfterFirstDigit_35 ⟨(by first | rfl | grind [tPF]), rfl⟩
      · refine z_bipush X dX0_phaseAfterFirstDigit_29 rfl ?_
        refine z_goto X 35 dX0_phaseAfterFirstDigit_31 (by decide) ?_
        exact z_iret X hsz hr hlocks dX0_phaseAfterFirstDigit_35 ⟨(by first | rfl | grind [tPF]), rfl⟩
    · refine z_bipush X dX0_phaseAfterFirstDigit_15 rfl ?_
      exact z_iret X hsz hr hlocks dX0_phaseAfterFirstDigit_17 ⟨(by first | rfl | grind [tPF]), rfl⟩
  · refine z_bipush X dX0_phaseAfterFirstDigit_6 rfl ?_
    exact z_iret X hsz hr hlocks dX0_phaseAfterFirstDigit_8 ⟨(by first | rfl | grind [tPF]), rfl⟩

set_option maxHeartbeats 4000000 in
set_option maxRecDepth 100000 in
theorem c_X0_phaseAfterKind {l : Launch} {D : va_G} {G : zG} {ad : Nat → Nat} (hJ : zInj ad) (σ : zM) {x : Int} (hx : zB x)  : zKI l D G ad yX0_phaseAfterKind cX0_phaseAfterKind 1 (some .int) 0 [vI x] σ (fun z σ9 => z = tPK x ∧ σ9 = σ) := by
  intro sz
  refine z_open hJ (by decide +kernel) (Nat.le_of_ble_eq_true rfl) ?_
  intro p e s0 m args below meth c hsz X hr hlocks
  refine z_sub [(0, vI x)] (zSub_cons rfl zSub_nil) ?_
  refine z_iload_n X dX0_phaseAfterKind_0 rfl ?_
  have hb_2 : zB x := hx
  rcases (show x = 97 ∨ x = 98 ∨ x = 99 ∨ x = 100 ∨ x = 101 ∨ x = 102 ∨ x = 103 ∨ x = 104 ∨ x = 105 ∨ x = 106 ∨ x = 107 ∨ x = 108 ∨ x = 109 ∨ x = 110 ∨ x = 111 ∨ x = 112 ∨ x = 113 ∨ x = 114 ∨ x = 115 ∨ x = 116 ∨ x = 117 ∨ x = 118 ∨ x = 119 ∨ x = 120 ∨ x = 121 ∨ (x < 97 ∨ 121 < x) by omega) with c_1 | c_1 | c_1 | c_1 | c_1 | c_1 | c_1 | c_1 | c_1 | c_1 | c_1 | c_1 | c_1 | c_1 | c_1 | c_1 | c_1 | c_1 | c_1 | c_1 | c_1 | c_1 | c_1 | c_1 | c_1 | c_1
  · refine z_tabIn X 97 120 119 c_1 dX0_phaseAfterKind_1 (by decide) (by decide) (by decide) (by decide) ?_
    refine z_iconst X dX0_phaseAfterKind_120 ?_
    exact z_iret X hsz hr hlocks dX0_phaseAfterKind_121 ⟨(by unfold tPK; omega), rfl⟩
  · refine z_tabIn X 98 127 126 c_1 dX0_phaseAfterKind_1 (by decide) (by decide) (by decide) (by decide) ?_
    refine z_iconst X dX0_phaseAfterKind_127 ?_
    exact z_iret X hsz hr hlocks dX0_phaseAfterKind_128 ⟨(by unfold tPK; omega), rfl⟩
  · refine z_tabIn X 99 127 126 c_1 dX0_phaseAfterKind_1 (by decide) (by decide) (by decide) (by decide) ?_
    refine z_iconst X dX0_phaseAfterKind_127 ?_
    exact z_iret X hsz hr hlocks dX0_phaseAfterKind_128 ⟨(by unfold tPK; omega), rfl⟩
  · refine z_tabIn X 100 118 117 c_1 dX0_phaseAfterKind_1 (by decide) (by decide) (by decide) (by decide) ?_
    refine z_iconst X dX0_phaseAfterKind_118 ?_
    exact z_iret X hsz hr hlocks dX0_phaseAfterKind_119 ⟨(by unfold tPK; omega), rfl⟩
  · refine z_tabIn X 101 127 126 c_1 dX0_phaseAfterKind_1 (by decide) (by decide) (by decide) (by decide) ?_
    refine z_iconst X dX0_phaseAfterKind_127 ?_
    exact z_iret X hsz hr hlocks dX0_phaseAfterKind_128 ⟨(by unfold tPK; omega), rfl⟩
  · refine z_tabIn X 102 127 126 c_1 dX0_phaseAfterKind_1 (by decide) (by decide) (by decide) (by decide) ?_
    refine z_iconst X dX0_phaseAfterKind_127 ?_
    exact z_iret X hsz hr hlocks dX0_phaseAfterKind_128 ⟨(by unfold tPK; omega), rfl⟩
  · refine z_tabIn X 103 116 115 c_1 dX0_phaseAfterKind_1 (by decide) (by decide) (by decide) (by decide) ?_
    refine z_iconst X dX0_phaseAfterKind_116 ?_
    exact z_iret X hsz hr hlocks dX0_phaseAfterKind_117 ⟨(by unfold tPK; omega), rfl⟩
  · refine z_tabIn X 104 127 126 c_1 dX0_phaseAfterKind_1 (by decide) (by decide) (by decide) (by decide) ?_
    refine z_iconst X dX0_phaseAfterKind_127 ?_
    exact z_iret X hsz hr hlocks dX0_phaseAfterKind_128 ⟨(by unfold tPK; omega), rfl⟩
  · refine z_tabIn X 105 127 126 c_1 dX0_phaseAfterKind_1 (by decide) (by decide) (by decide) (by decide) ?_
    refine z_iconst X dX0_phaseAfterKind_127 ?_
    exact z_iret X hsz hr hlocks dX0_phaseAfterKind_128 ⟨(by unfold tPK; omega), rfl⟩
  · refine z_tabIn X 106 127 126 c_1 dX0_phaseAfterKind_1 (by decide) (by decide) (by decide) (by decide) ?_
    refine z_iconst X dX0_phaseAfterKind_127 ?_
    exact z_iret X hsz hr hlocks dX0_phaseAfterKind_128 ⟨(by unfold tPK; omega), rfl⟩
  · refine z_tabIn X 107 127 126 c_1 dX0_phaseAfterKind_1 (by decide) (by decide) (by decide) (by decide) ?_
    refine z_iconst X dX0_phaseAfterKind_127 ?_
    exact z_iret X hsz hr hlocks dX0_phaseAfterKind_128 ⟨(by unfold tPK; omega), rfl⟩
  · refine z_tabIn X 108 127 126 c_1 dX0_phaseAfterKind_1 (by decide) (by decide) (by decide) (by decide) ?_
    refine z_iconst X dX0_phaseAfterKind_127 ?_
    exact z_iret X hsz hr hlocks dX0_phaseAfterKind_128 ⟨(by unfold tPK; omega), rfl⟩
  · refine z_tabIn X 109 127 126 c_1 dX0_phaseAfterKind_1 (by decide) (by decide) (by decide) (by decide) ?_
    refine z_iconst X dX0_phaseAfterKind_127 ?_
    exact z_iret X hsz hr hlocks dX0_phaseAfterKind_128 ⟨(by unfold tPK; omega), rfl⟩
  · refine z_tabIn X 110 116 115 c_1 dX0_phaseAfterKind_1 (by decide) (by decide) (by decide) (by decide) ?_
    refine z_iconst X dX0_phaseAfterKind_116 ?_
    exact z_iret X hsz hr hlocks dX0_phaseAfterKind_117 ⟨(by unfold tPK; omega), rfl⟩
  · refine z_tabIn X 111 127 126 c_1 dX0_phaseAfterKind_1 (by decide) (by decide) (by decide) (by decide) ?_
    refine z_iconst X dX0_phaseAfterKind_127 ?_
    exact z_iret X hsz hr hlocks dX0_phaseAfterKind_128 ⟨(by unfold tPK; omega), rfl⟩
  · refine z_tabIn X 112 127 126 c_1 dX0_phaseAfterKind_1 (by decide) (by decide) (by decide) (by decide) ?_
    refine z_iconst X dX0_phaseAfterKind_127 ?_
    exact z_iret X hsz hr hlocks dX0_phaseAfterKind_128 ⟨(by unfold tPK; omega), rfl⟩
  · refine z_tabIn X 113 127 126 c_1 dX0_phaseAfterKind_1 (by decide) (by decide) (by decide) (by decide) ?_
    refine z_iconst X dX0_phaseAfterKind_127 ?_
    exact z_iret X hsz hr hlocks dX0_phaseAfterKind_128 ⟨(by unfold tPK; omega), rfl⟩
  · refine z_tabIn X 114 127 126 c_1 dX0_phaseAfterKind_1 (by decide) (by decide) (by decide) (by decide) ?_
    refine z_iconst X dX0_phaseAfterKind_127 ?_
    exact z_iret X hsz hr hlocks dX0_phaseAfterKind_128 ⟨(by unfold tPK; omega), rfl⟩
  · refine z_tabIn X 115 127 126 c_1 dX0_phaseAfterKind_1 (by decide) (by decide) (by decide) (by decide) ?_
    refine z_iconst X dX0_phaseAfterKind_127 ?_
    exact z_iret X hsz hr hlocks dX0_phaseAfterKind_128 ⟨(by unfold tPK; omega), rfl⟩
  · refine z_tabIn X 116 124 123 c_1 dX0_phaseAfterKind_1 (by decide) (by decide) (by decide) (by decide) ?_
    refine z_bipush X dX0_phaseAfterKind_124 rfl ?_
    exact z_iret X hsz hr hlocks dX0_phaseAfterKind_126 ⟨(by unfold tPK; omega), rfl⟩
  · refine z_tabIn X 117 122 121 c_1 dX0_phaseAfterKind_1 (by decide) (by decide) (by decide) (by decide) ?_
    refine z_iconst X dX0_phaseAfterKind_122 ?_
    exact z_iret X hsz hr hlocks dX0_phaseAfterKind_123 ⟨(by unfold tPK; omega), rfl⟩
  · refine z_tabIn X 118 127 126 c_1 dX0_phaseAfterKind_1 (by decide) (by decide) (by decide) (by decide) ?_
    refine z_iconst X dX0_phaseAfterKind_127 ?_
    exact z_iret X hsz hr hlocks dX0_phaseAfterKind_128 ⟨(by unfold tPK; omega), rfl⟩
  · refine z_tabIn X 119 127 126 c_1 dX0_phaseAfterKind_1 (by decide) (by decide) (by decide) (by decide) ?_
    refine z_iconst X dX0_phaseAfterKind_127 ?_
    exact z_iret X hsz hr hlocks dX0_phaseAfterKind_128 ⟨(by unfold tPK; omega), rfl⟩
  · refine z_tabIn X 120 122 121 c_1 dX0_phaseAfterKind_1 (by decide) (by decide) (by decide) (by decide) ?_
    refine z_iconst X dX0_phaseAfterKind_122 ?_
    exact z_iret X hsz hr hlocks dX0_phaseAfterKind_123 ⟨(by unfold tPK; omega), rfl⟩
  · refine z_tabIn X 121 116 115 c_1 dX0_phaseAfterKind_1 (by decide) (by decide) (by decide) (by decide) ?_
    refine z_iconst X dX0_phaseAfterKind_116 ?_
    exact z_iret X hsz hr hlocks dX0_phaseAfterKind_117 ⟨(by unfold tPK; omega), rfl⟩
  · refine z_tabOut X hb_2 127 dX0_phaseAfterKind_1 c_1 (by decide) ?_
    refine z_iconst X dX0_phaseAfterKind_127 ?_
    exact z_iret X hsz hr hlocks dX0_phaseAfterKind_128 ⟨(by unfold tPK; omega), rfl⟩

set_option maxHeartbeats 4000000 in
set_option maxRecDepth 100000 in
theorem c_X0_phaseAfter {l : Launch} {D : va_G} {G : zG} {ad : Nat → Nat} (hJ : zInj ad) (σ : zM) {ph : Int} (hph : zB ph) {b : Int} (hb : zB b) {x : Int} (hx : zB x)  : zKI l D G ad yX0_phaseAfter cX0_phaseAfter 3 (some .int) 2 [vI ph, vI b, vI x] σ (fun z σ9 => z = tPh ph b x ∧ σ9 = σ) := by
  intro sz
  refine z_open hJ (by decide +kernel) (Nat.le_of_ble_eq_true rfl) ?_
  intro p e s0 m args below meth c hsz X hr hlocks
  refine z_sub [(0, vI ph), (1, vI b), (2, vI x)] (zSub_cons rfl (zSub_cons rfl (zSub_cons rfl zSub_nil))) ?_
  refine z_iload_n X dX0_phaseAfter_0 rfl ?_
  have hb_2 : zB ph := hph
  rcases (show ph = 1 ∨ ph = 2 ∨ ph = 3 ∨ ph = 4 ∨ ph = 5 ∨ ph = 6 ∨ ph = 7 ∨ ph = 8 ∨ ph = 9 ∨ ph = 10 ∨ ph = 11 ∨ (ph < 1 ∨ 11 < ph) by omega) with c_1 | c_1 | c_1 | c_1 | c_1 | c_1 | c_1 | c_1 | c_1 | c_1 | c_1 | c_1
  · refine z_tabIn X 1 60 59 c_1 dX0_phaseAfter_1 (by decide) (by decide) (by decide) (by decide) ?_
    refine z_iload_n X dX0_phaseAfter_60 rfl ?_
    refine z_callSI1 X (c_X0_phaseAfterKind hJ _ hx) kX0_34 ⟨(Nat.le_of_ble_eq_true rfl), (Nat.le_of_ble_eq_true rfl)⟩ (Nat.le_of_ble_eq_true rfl) ⟨Nat.zero_le _, Nat.zero_le _⟩ dX0_phaseAfter_61 (fun z9 σ1 hz9 => ?_)
    obtain ⟨rfl, rfl⟩ := hz9
    exact z_iret X hsz hr hlocks dX0_phaseAfter_64 ⟨(by unfold tPh; grind (splits := 40)), rfl⟩
  · refine z_tabIn X 2 65 64 c_1 dX0_phaseAfter_1 (by decide) (by decide) (by decide) (by decide) ?_
    refine z_iload_n X dX0_phaseAfter_65 rfl ?_
    refine z_bipush X dX0_phaseAfter_66 rfl ?_
    refine z_bipush X dX0_phaseAfter_68 rfl ?_
    refine z_callSI3 X (c_X0_isIn hJ _ hx ⟨by decide, by decide⟩ ⟨by decide, by decide⟩) kX0_37 ⟨(Nat.le_of_ble_eq_true rfl), (Nat.le_of_ble_eq_true rfl)⟩ (Nat.le_of_ble_eq_true rfl) ⟨Nat.zero_le _, Nat.zero_le _⟩ dX0_phaseAfter_70 (fun z9 σ1 hz9 => ?_)
    obtain ⟨rfl, rfl⟩ := hz9
    refine z_ifb_eq X 81 dX0_phaseAfter_73 (by decide) (fun c_5 => ?_) (fun c_5 => ?_)
    · refine z_iconst X dX0_phaseAfter_81 ?_
      exact z_iret X hsz hr hlocks dX0_phaseAfter_82 ⟨(by unfold tPh; grind (splits := 40)), rfl⟩
    · refine z_bipush X dX0_phaseAfter_76 rfl ?_
      refine z_goto X 82 dX0_phaseAfter_78 (by decide) ?_
      exact z_iret X hsz hr hlocks dX0_phaseAfter_82 ⟨(by unfold tPh; grind (splits := 40)), rfl⟩
  · refine z_tabIn X 3 83 82 c_1 dX0_phaseAfter_1 (by decide) (by decide) (by decide) (by decide) ?_
    refine z_iload_n X dX0_phaseAfter_83 rfl ?_
    refine z_bipush X dX0_phaseAfter_84 rfl ?_
    refine z_bipush X dX0_phaseAfter_86 rfl ?_
    refine z_callSI3 X (c_X0_isIn hJ _ hx ⟨by decide, by decide⟩ ⟨by decide, by decide⟩) kX0_37 ⟨(Nat.le_of_ble_eq_true rfl), (Nat.le_of_ble_eq_true rfl)⟩ (Nat.le_of_ble_eq_true rfl) ⟨Nat.zero_le _, Nat.zero_le _⟩ dX0_phaseAfter_88 (fun z9 σ1 hz9 => ?_)
    obtain ⟨rfl, rfl⟩ := hz9
    refine z_ifb_eq X 98 dX0_phaseAfter_91 (by decide) (fun c_7 => ?_) (fun c_7 => ?_)
    · refine z_iconst X dX0_phaseAfter_98 ?_
      exact z_iret X hsz hr hlocks dX0_phaseAfter_99 ⟨(by unfold tPh; grind (splits := 40)), rfl⟩
    · refine z_iconst X dX0_phaseAfter_94 ?_
      refine z_goto X 99 dX0_phaseAfter_95 (by decide) ?_
      exact z_iret X hsz hr hlocks dX0_phaseAfter_99 ⟨(by unfold tPh; grind (splits := 40)), rfl⟩
  · refine z_tabIn X 4 100 99 c_1 dX0_phaseAfter_1 (by decide) (by decide) (by decide) (by decide) ?_
    refine z_iload_n X dX0_phaseAfter_100 rfl ?_
    refine z_bipush X dX0_phaseAfter_101 rfl ?_
    refine z_bipush X dX0_phaseAfter_103 rfl ?_
    refine z_callSI3 X (c_X0_isIn hJ _ hx ⟨by decide, by decide⟩ ⟨by decide, by decide⟩) kX0_37 ⟨(Nat.le_of_ble_eq_true rfl), (Nat.le_of_ble_eq_true rfl)⟩ (Nat.le_of_ble_eq_true rfl) ⟨Nat.zero_le _, Nat.zero_le _⟩ dX0_phaseAfter_105 (fun z9 σ1 hz9 => ?_)
    obtain ⟨rfl, rfl⟩ := hz9
    refine z_ifb_eq X 116 dX0_phaseAfter_108 (by decide) (fun c_9 => ?_) (fun c_9 => ?_)
    · refine z_iconst X dX0_phaseAfter_116 ?_
      exact z_iret X hsz hr hlocks dX0_phaseAfter_117 ⟨(by unfold tPh; grind (splits := 40)), rfl⟩
    · refine z_bipush X dX0_phaseAfter_111 rfl ?_
      refine z_goto X 117 dX0_phaseAfter_113 (by decide) ?_
      exact z_iret X hsz hr hlocks dX0_phaseAfter_117 ⟨(by unfold tPh; grind (splits := 40)), rfl⟩
  · refine z_tabIn X 5 118 117 c_1 dX0_phaseAfter_1 (by decide) (by decide) (by decide) (by decide) ?_
    refine z_iload_n X dX0_phaseAfter_118 rfl ?_
    refine z_bipush X dX0_phaseAfter_119 rfl ?_
    refine z_bipush X dX0_phaseAfter_121 rfl ?_
    refine z_callSI3 X (c_X0_isIn hJ _ hx ⟨by decide, by decide⟩ ⟨by decide, by decide⟩) kX0_37 ⟨(Nat.le_of_ble_eq_true rfl), (Nat.le_of_ble_eq_true rfl)⟩ (Nat.le_of_ble_eq_true rfl) ⟨Nat.zero_le _, Nat.zero_le _⟩ dX0_phaseAfter_123 (fun z9 σ1 hz9 => ?_)
    obtain ⟨rfl, rfl⟩ := hz9
    refine z_ifb_eq X 134 dX0_phaseAfter_126 (by decide) (fun c_11 => ?_) (fun c_11 => ?_)
    · refine z_iconst X dX0_phaseAfter_134 ?_
      exact z_iret X hsz hr hlocks dX0_phaseAfter_135 ⟨(by unfold tPh; grind (splits := 40)), rfl⟩
    · refine z_bipush X dX0_phaseAfter_129 rfl ?_
      refine z_goto X 135 dX0_phaseAfter_131 (by decide) ?_
      exact z_iret X hsz hr hlocks dX0_phaseAfter_135 ⟨(by unfold tPh; grind (splits := 40)), rfl⟩
  · refine z_tabIn X 6 136 135 c_1 dX0_phaseAfter_1 (by decide) (by decide) (by decide) (by decide) ?_
    refine z_iload_n X dX0_phaseAfter_136 rfl ?_
    refine z_bipush X dX0_phaseAfter_137 rfl ?_
    refine z_bipush X dX0_phaseAfter_139 rfl ?_
    refine z_callSI3 X (c_X0_isIn hJ _ hx ⟨by decide, by decide⟩ ⟨by decide, by decide⟩) kX0_37 ⟨(Nat.le_of_ble_eq_true rfl), (Nat.le_of_ble_eq_true rfl)⟩ (Nat.le_of_ble_eq_true rfl) ⟨Nat.zero_le _, Nat.zero_le _⟩ dX0_phaseAfter_141 (fun z9 σ1 hz9 => ?_)
    obtain ⟨rfl, rfl⟩ := hz9
    refine z_ifb_eq X 152 dX0_phaseAfter_144 (by decide) (fun c_13 => ?_) (fun c_13 => ?_)
    · refine z_iconst X dX0_phaseAfter_152 ?_
      exact z_iret X hsz hr hlocks dX0_phaseAfter_153 ⟨(by unfold tPh; grind (splits := 40)), rfl⟩
    · refine z_bipush X dX0_phaseAfter_147 rfl ?_
      refine z_goto X 153 dX0_phaseAfter_149 (by decide) ?_
      exact z_iret X hsz hr hlocks dX0_phaseAfter_153 ⟨(by unfold tPh; grind (splits := 40)), rfl⟩
  · refine z_tabIn X 7 154 153 c_1 dX0_phaseAfter_1 (by decide) (by decide) (by decide) (by decide) ?_
    refine z_iload_n X dX0_phaseAfter_154 rfl ?_
    refine z_bipush X dX0_phaseAfter_155 rfl ?_
    refine z_bipush X dX0_phaseAfter_157 rfl ?_
    refine z_callSI3 X (c_X0_isIn hJ _ hx ⟨by decide, by decide⟩ ⟨by decide, by decide⟩) kX0_37 ⟨(Nat.le_of_ble_eq_true rfl), (Nat.le_of_ble_eq_true rfl)⟩ (Nat.le_of_ble_eq_true rfl) ⟨Nat.zero_le _, Nat.zero_le _⟩ dX0_phaseAfter_159 (fun z9 σ1 hz9 => ?_)
    obtain ⟨rfl, rfl⟩ := hz9
    refine z_ifb_eq X 175 dX0_phaseAfter_162 (by decide) (fun c_15 => ?_) (fun c_15 => ?_)
    · refine z_iconst X dX0_phaseAfter_175 ?_
      exact z_iret X hsz hr hlocks dX0_phaseAfter_176 ⟨(by unfold tPh; grind (splits := 40)), rfl⟩
    · refine z_iload_n X dX0_phaseAfter_165 rfl ?_
      refine z_iload_n X dX0_phaseAfter_166 rfl ?_
      refine z_icmp_eq X 175 dX0_phaseAfter_167 (by decide) hx hb (fun c_16 => ?_) (fun c_16 => ?_)
      · refine z_iconst X dX0_phaseAfter_175 ?_
        exact z_iret X hsz hr hlocks dX0_phaseAfter_176 ⟨(by unfold tPh; grind (splits := 40)), rfl⟩
      · refine z_bipush X dX0_phaseAfter_170 rfl ?_
        refine z_goto X 176 dX0_phaseAfter_172 (by decide) ?_
        exact z_iret X hsz hr hlocks dX0_phaseAfter_176 ⟨(by unfold tPh; grind (splits := 40)), rfl⟩
  · refine z_tabIn X 8 177 176 c_1 dX0_phaseAfter_1 (by decide) (by decide) (by decide) (by decide) ?_
    refine z_iload_n X dX0_phaseAfter_177 rfl ?_
    refine z_callSI1 X (c_X0_phaseAfterFirstDigit hJ _ hx) kX0_41 ⟨(Nat.le_of_ble_eq_true rfl), (Nat.le_of_ble_eq_true rfl)⟩ (Nat.le_of_ble_eq_true rfl) ⟨Nat.zero_le _, Nat.zero_le _⟩ dX0_phaseAfter_178 (fun z9 σ1 hz9 => ?_)
    obtain ⟨rfl, rfl⟩ := hz9
    exact z_iret X hsz hr hlocks dX0_phaseAfter_181 ⟨(by unfold tPh; grind (splits := 40)), rfl⟩
  · refine z_tabIn X 9 182 181 c_1 dX0_phaseAfter_1 (by decide) (by decide) (by decide) (by decide) ?_
    refine z_iload_n X dX0_phaseAfter_182 rfl ?_
    refine z_bipush X dX0_phaseAfter_183 rfl ?_
    refine z_bipush X dX0_phaseAfter_185 rfl ?_
    refine z_callSI3 X (c_X0_isIn hJ _ hx ⟨by decide, by decide⟩ ⟨by decide, by decide⟩) kX0_37 ⟨(Nat.le_of_ble_eq_true rfl), (Nat.le_of_ble_eq_true rfl)⟩ (Nat.le_of_ble_eq_true rfl) ⟨Nat.zero_le _, Nat.zero_le _⟩ dX0_phaseAfter_187 (fun z9 σ1 hz9 => ?_)
    obtain ⟨rfl, rfl⟩ := hz9
    refine z_ifb_eq X 198 dX0_phaseAfter_190 (by decide) (fun c_19 => ?_) (fun c_19 => ?_)
    · refine z_iload_n X dX0_phaseAfter_198 rfl ?_
      refine z_callSI1 X (c_X0_phaseAfterAction hJ _ hx) kX0_44 ⟨(Nat.le_of_ble_eq_true rfl), (Nat.le_of_ble_eq_true rfl)⟩ (Nat.le_of_ble_eq_true rfl) ⟨Nat.zero_le _, Nat.zero_le _⟩ dX0_phaseAfter_199 (fun z9 σ1 hz9 => ?_)
      obtain ⟨rfl, rfl⟩ := hz9
      exact z_iret X hsz hr hlocks dX0_phaseAfter_202 ⟨(by unfold tPh; grind (splits := 40)), rfl⟩
    · refine z_bipush X dX0_phaseAfter_193 rfl ?_
      refine z_goto X 202 dX0_phaseAfter_195 (by decide) ?_
      exact z_iret X hsz hr hlocks dX0_phaseAfter_202 ⟨(by unfold tPh; grind (splits := 40)), rfl⟩
  · refine z_tabIn X 10 203 202 c_1 dX0_phaseAfter_1 (by decide) (by decide) (by decide) (by decide) ?_
    refine z_iload_n X dX0_phaseAfter_203 rfl ?_
    refine z_bipush X dX0_phaseAfter_204 rfl ?_
    refine z_icmp_ne X 214 dX0_phaseAfter_206 (by decide) hx ⟨by decide, by decide⟩ (fun c_21 => ?_) (fun c_21 => ?_)
    · refine z_iload_n X dX0_phaseAfter_214 rfl ?_
      refine z_callSI1 X (c_X0_phaseAfterAction hJ _ hx) kX0_44 ⟨(Nat.le_of_ble_eq_true rfl), (Nat.le_of_ble_eq_true rfl)⟩ (Nat.le_of_ble_eq_true rfl) ⟨Nat.zero_le _, Nat.zero_le _⟩ dX0_phaseAfter_215 (fun z9 σ1 hz9 => ?_)
      obtain ⟨rfl, rfl⟩ := hz9
      exact z_iret X hsz hr hlocks dX0_phaseAfter_218 ⟨(by unfold tPh; grind (splits := 40)), rfl⟩
    · refine z_bipush X dX0_phaseAfter_209 rfl ?_
      refine z_goto X 218 dX0_phaseAfter_211 (by decide) ?_
      exact z_iret X hsz hr hlocks dX0_phaseAfter_218 ⟨(by unfold tPh; grind (splits := 40)), rfl⟩
  · refine z_tabIn X 11 219 218 c_1 dX0_phaseAfter_1 (by decide) (by decide) (by decide) (by decide) ?_
    refine z_iload_n X dX0_phaseAfter_219 rfl ?_
    refine z_callSI1 X (c_X0_phaseAfterAction hJ _ hx) kX0_44 ⟨(Nat.le_of_ble_eq_true rfl), (Nat.le_of_ble_eq_true rfl)⟩ (Nat.le_of_ble_eq_true rfl) ⟨Nat.zero_le _, Nat.zero_le _⟩ dX0_phaseAfter_220 (fun z9 σ1 hz9 => ?_)
    obtain ⟨rfl, rfl⟩ := hz9
    exact z_iret X hsz hr hlocks dX0_phaseAfter_223 ⟨(by unfold tPh; grind (splits := 40)), rfl⟩
  · refine z_tabOut X hb_2 224 dX0_phaseAfter_1 c_1 (by decide) ?_
    refine z_iconst X dX0_phaseAfter_224 ?_
    exact z_iret X hsz hr hlocks dX0_phaseAfter_225 ⟨(by unfold tPh; grind (splits := 40)), rfl⟩

set_option maxHeartbeats 4000000 in
set_option maxRecDepth 100000 in
theorem c_X0_size {l : Launch} {D : va_G} {G : zG} {ad : Nat → Nat} (hJ : zInj ad) (σ : zM) {N : Nat → Nat → Int} (ok : tOk N)   : zKI l D G ad yX0_size cX0_size 1 (some .int) 0 [.ref (ad 3)] (zBk σ 3 2 N) (fun z σ9 => z = N 0 1 ∧ σ9 = (zBk σ 3 2 N)) := by
  intro sz
  refine z_open hJ (by decide +kernel) (Nat.le_of_ble_eq_true rfl) ?_
  intro p e s0 m args below meth c hsz X hr hlocks
  refine z_sub [(0, .ref (ad 3))] (zSub_cons rfl zSub_nil) ?_
  refine z_aload_n X dX0_size_0 rfl ?_
  refine y_gTxt1 X fX0_15 dX0_size_1 ?_
  exact z_iret X hsz hr hlocks dX0_size_4 ⟨(by first | rfl | ((try simp only [cEnd]); split <;> first | rfl | omega | (exfalso; omega)) | (simp [cEnd]; done) | (simp_all [cEnd]; done)), rfl⟩

set_option maxHeartbeats 4000000 in
set_option maxRecDepth 100000 in
theorem c_X0_isFull {l : Launch} {D : va_G} {G : zG} {ad : Nat → Nat} (hJ : zInj ad) (σ : zM) {N : Nat → Nat → Int} (ok : tOk N)   : zKI l D G ad yX0_isFull cX0_isFull 1 (some .boolean) 0 [.ref (ad 3)] (zBk σ 3 2 N) (fun z σ9 => z = (if 60 ≤ N 0 1 then 1 else 0) ∧ σ9 = (zBk σ 3 2 N)) := by
  intro sz
  refine z_open hJ (by decide +kernel) (Nat.le_of_ble_eq_true rfl) ?_
  intro p e s0 m args below meth c hsz X hr hlocks
  have hn := tk_len ok
  refine z_sub [(0, .ref (ad 3))] (zSub_cons rfl zSub_nil) ?_
  refine z_aload_n X dX0_isFull_0 rfl ?_
  refine y_gTxt1 X fX0_15 dX0_isFull_1 ?_
  refine z_bipush X dX0_isFull_4 rfl ?_
  refine z_icmp_lt X 13 dX0_isFull_6 (by decide) (zB_sm (tk_len ok)) ⟨by decide, by decide⟩ (fun c_1 => ?_) (fun c_1 => ?_)
  · refine z_iconst X dX0_isFull_13 ?_
    exact z_zret X hsz hr hlocks dX0_isFull_14 (Or.inl rfl) ⟨(by first | rfl | ((try simp only [cEnd]); split <;> first | rfl | omega | (exfalso; omega)) | (simp [cEnd, c_1]; done) | (simp_all [cEnd]; done)), rfl⟩
  · refine z_iconst X dX0_isFull_9 ?_
    refine z_goto X 14 dX0_isFull_10 (by decide) ?_
    exact z_zret X hsz hr hlocks dX0_isFull_14 (Or.inr rfl) ⟨(by first | rfl | ((try simp only [cEnd]); split <;> first | rfl | omega | (exfalso; omega)) | (simp [cEnd, c_1]; done) | (simp_all [cEnd]; done)), rfl⟩

set_option maxHeartbeats 4000000 in
set_option maxRecDepth 100000 in
theorem c_X0_add {l : Launch} {D : va_G} {G : zG} {ad : Nat → Nat} (hJ : zInj ad) (σ : zM) {N : Nat → Nat → Int} (ok : tOk N) {x : Int} (hx : zB x)  : zKI l D G ad yX0_add cX0_add 2 (some .int) 1 [.ref (ad 3), vI x] (zBk σ 3 2 N) (fun z σ9 => z = (tAddN N x) 0 1 ∧ σ9 = (zBk σ 3 2 (tAddN N x))) := by
  intro sz
  refine z_open hJ (by decide +kernel) (Nat.le_of_ble_eq_true rfl) ?_
  intro p e s0 m args below meth c hsz X hr hlocks
  have hn := tk_len ok
  refine z_sub [(0, .ref (ad 3)), (1, vI x)] (zSub_cons rfl (zSub_cons rfl zSub_nil)) ?_
  refine z_aload_n X dX0_add_0 rfl ?_
  refine z_callVI0 X (c_X0_isFull hJ σ ok) kX0_19 rfl (by decide) rfl ⟨(Nat.le_of_ble_eq_true rfl), (Nat.le_of_ble_eq_true rfl)⟩ (Nat.le_of_ble_eq_true rfl) ⟨Nat.zero_le _, Nat.zero_le _⟩ dX0_add_1 (fun z9 σ1 hz9 => ?_)
  obtain ⟨rfl, rfl⟩ := hz9
  refine z_ifb_ne X 27 dX0_add_4 (by decide) (fun c_2 => ?_) (fun c_2 => ?_)
  · refine z_aload_n X dX0_add_27 rfl ?_
    refine y_gTxt1 X fX0_15 dX0_add_28 ?_
    exact z_iret X hsz hr hlocks dX0_add_31 ⟨(by unfold tAddN; split <;> first | rfl | omega), (congrArg (zBk σ _ _) (by unfold tAddN; split <;> first | rfl | omega))⟩
  · refine z_aload_n X dX0_add_7 rfl ?_
    refine y_gTxt0 X fX0_9 dX0_add_8 ?_
    refine z_aload_n X dX0_add_11 rfl ?_
    refine y_gTxt1 X fX0_15 dX0_add_12 ?_
    refine z_iload_n X dX0_add_15 rfl ?_
    refine y_iast X 1 (zArr_4) (by decide) (by omega) (by omega) (by decide) dX0_add_16 ?_
    refine z_aload_n X dX0_add_17 rfl ?_
    refine z_dup X dX0_add_18 rfl ?_
    refine y_gTxt1 X fX0_15 dX0_add_19 ?_
    refine z_iconst X dX0_add_22 ?_
    refine z_iadd X dX0_add_23 ?_
    refine y_pTxt1 X fX0_15 dX0_add_24 ?_
    refine z_aload_n X dX0_add_27 rfl ?_
    refine y_gTxt1 X fX0_15 dX0_add_28 ?_
    exact z_iret X hsz hr hlocks dX0_add_31 ⟨(by unfold tAddN; split <;> first | rfl | omega), (congrArg (zBk σ _ _) (by unfold tAddN; split <;> first | rfl | omega))⟩

set_option maxHeartbeats 4000000 in
set_option maxRecDepth 100000 in
theorem c_X0_clear {l : Launch} {D : va_G} {G : zG} {ad : Nat → Nat} (hJ : zInj ad) (σ : zM) {N : Nat → Nat → Int} (ok : tOk N)   : zKI l D G ad yX0_clear cX0_clear 2 (some .int) 0 [.ref (ad 3)] (zBk σ 3 2 N) (fun z σ9 => z = N 0 1 ∧ σ9 = (zBk σ 3 2 (up2 N 0 1 0))) := by
  intro sz
  refine z_open hJ (by decide +kernel) (Nat.le_of_ble_eq_true rfl) ?_
  intro p e s0 m args below meth c hsz X hr hlocks
  have hn := tk_len ok
  refine z_sub [(0, .ref (ad 3))] (zSub_cons rfl zSub_nil) ?_
  refine z_aload_n X dX0_clear_0 rfl ?_
  refine y_gTxt1 X fX0_15 dX0_clear_1 ?_
  refine z_istore_n X dX0_clear_4 (by decide) ?_
  refine z_sub [(0, .ref (ad 3)), (1, vI (N 0 1))] (zSub_cons rfl (zSub_cons rfl zSub_nil)) ?_
  refine z_aload_n X dX0_clear_5 rfl ?_
  refine z_iconst X dX0_clear_6 ?_
  refine y_pTxt1 X fX0_15 dX0_clear_7 ?_
  refine z_iload_n X dX0_clear_10 rfl ?_
  exact z_iret X hsz hr hlocks dX0_clear_11 ⟨(by first | rfl | ((try simp only [cEnd]); split <;> first | rfl | omega | (exfalso; omega)) | (simp [cEnd]; done) | (simp_all [cEnd]; done)), (congrArg (zBk σ _ _) (by first | rfl | ((try simp only [cEnd]); split <;> first | rfl | omega | (exfalso; omega)) | (simp [cEnd]; done) | (simp_all [cEnd]; done)))⟩

set_option maxHeartbeats 4000000 in
set_option maxRecDepth 100000 in
theorem c_X0_signAt {l : Launch} {D : va_G} {G : zG} {ad : Nat → Nat} (hJ : zInj ad) (σ : zM) {N : Nat → Nat → Int} (ok : tOk N) {i : Int} (hi : zB i)  : zKI l D G ad yX0_signAt cX0_signAt 2 (some .int) 0 [.ref (ad 3), vI i] (zBk σ 3 2 N) (fun z σ9 => z = tSg N i ∧ σ9 = (zBk σ 3 2 N)) := by
  intro sz
  refine z_open hJ (by decide +kernel) (Nat.le_of_ble_eq_true rfl) ?_
  intro p e s0 m args below meth c hsz X hr hlocks
  have hn := tk_len ok
  refine z_sub [(0, .ref (ad 3)), (1, vI i)] (zSub_cons rfl (zSub_cons rfl zSub_nil)) ?_
  refine z_iload_n X dX0_signAt_0 rfl ?_
  refine z_if_lt X 21 dX0_signAt_1 (by decide) hi (fun c_1 => ?_) (fun c_1 => ?_)
  · refine z_iconst X dX0_signAt_21 ?_
    exact z_iret X hsz hr hlocks dX0_signAt_22 ⟨(by first | rfl | ((try simp only [tSg]); split <;> first | rfl | omega | (exfalso; omega)) | (simp [tSg, c_1]; done) | (simp_all [tSg]; done)), rfl⟩
  · refine z_iload_n X dX0_signAt_4 rfl ?_
    refine z_aload_n X dX0_signAt_5 rfl ?_
    refine y_gTxt1 X fX0_15 dX0_signAt_6 ?_
    refine z_icmp_ge X 21 dX0_signAt_9 (by decide) hi (zB_sm (tk_len ok)) (fun c_2 => ?_) (fun c_2 => ?_)
    · refine z_iconst X dX0_signAt_21 ?_
      exact z_iret X hsz hr hlocks dX0_signAt_22 ⟨(by first | rfl | ((try simp only [tSg]); split <;> first | rfl | omega | (exfalso; omega)) | (simp [tSg, c_1, c_2]; done) | (simp_all [tSg]; done)), rfl⟩
    · refine z_aload_n X dX0_signAt_12 rfl ?_
      refine y_gTxt0 X fX0_9 dX0_signAt_13 ?_
      refine z_iload_n X dX0_signAt_16 rfl ?_
      refine y_iald X 1 (zArr_4) (by decide) (by omega) (by omega) (by decide) dX0_signAt_17 ?_
      refine z_goto X 22 dX0_signAt_18 (by decide) ?_
      exact z_iret X hsz hr hlocks dX0_signAt_22 ⟨(by first | rfl | ((try simp only [tSg]); split <;> first | rfl | omega | (exfalso; omega)) | (simp [tSg, c_1, c_2]; done) | (simp_all [tSg]; done)), rfl⟩

set_option maxHeartbeats 4000000 in
set_option maxRecDepth 100000 in
theorem c_X0_digitAt {l : Launch} {D : va_G} {G : zG} {ad : Nat → Nat} (hJ : zInj ad) (σ : zM) {N : Nat → Nat → Int} (ok : tOk N) {i : Int} (hi : zB i)  : zKI l D G ad yX0_digitAt cX0_digitAt 2 (some .int) 1 [.ref (ad 3), vI i] (zBk σ 3 2 N) (fun z σ9 => z = tSg N i - 48 ∧ σ9 = (zBk σ 3 2 N)) := by
  intro sz
  refine z_open hJ (by decide +kernel) (Nat.le_of_ble_eq_true rfl) ?_
  intro p e s0 m args below meth c hsz X hr hlocks
  have hn := tk_len ok
  refine z_sub [(0, .ref (ad 3)), (1, vI i)] (zSub_cons rfl (zSub_cons rfl zSub_nil)) ?_
  refine z_aload_n X dX0_digitAt_0 rfl ?_
  refine z_iload_n X dX0_digitAt_1 rfl ?_
  refine z_callVI1 X (c_X0_signAt hJ σ ok hi) kX0_23 rfl (by decide) rfl ⟨(Nat.le_of_ble_eq_true rfl), (Nat.le_of_ble_eq_true rfl)⟩ (Nat.le_of_ble_eq_true rfl) ⟨Nat.zero_le _, Nat.zero_le _⟩ dX0_digitAt_2 (fun z9 σ1 hz9 => ?_)
  obtain ⟨rfl, rfl⟩ := hz9
  refine z_bipush X dX0_digitAt_5 rfl ?_
  refine z_isub X dX0_digitAt_7 ?_
  exact z_iret X hsz hr hlocks dX0_digitAt_8 ⟨(by first | rfl | ((try simp only [cEnd]); split <;> first | rfl | omega | (exfalso; omega)) | (simp [cEnd]; done) | (simp_all [cEnd]; done)), rfl⟩

set_option maxHeartbeats 4000000 in
set_option maxRecDepth 100000 in
theorem c_X0_numberIn {l : Launch} {D : va_G} {G : zG} {ad : Nat → Nat} (hJ : zInj ad) (σ : zM) {N : Nat → Nat → Int} (ok : tOk N) {a : Int} (ha : zB a) {b : Int} (hb : zB b) (hab : a ≤ b) : zKI l D G ad yX0_numberIn cX0_numberIn 5 (some .int) 2 [.ref (ad 3), vI a, vI b] (zBk σ 3 2 N) (fun z σ9 => z = tNum N a (b - a).toNat ∧ σ9 = (zBk σ 3 2 N)) := by
  intro sz
  refine z_open hJ (by decide +kernel) (Nat.le_of_ble_eq_true rfl) ?_
  intro p e s0 m args below meth c hsz X hr hlocks
  have hn := tk_len ok
  refine z_sub [(0, .ref (ad 3)), (1, vI a), (2, vI b)] (zSub_cons rfl (zSub_cons rfl (zSub_cons rfl zSub_nil))) ?_
  refine z_iconst X dX0_numberIn_0 ?_
  refine z_istore_n X dX0_numberIn_1 (by decide) ?_
  refine z_sub [(0, .ref (ad 3)), (1, vI a), (2, vI b), (3, vI 0)] (zSub_cons rfl (zSub_cons rfl (zSub_cons rfl (zSub_cons rfl zSub_nil)))) ?_
  refine z_iload_n X dX0_numberIn_2 rfl ?_
  refine z_istore X dX0_numberIn_3 (by decide) ?_
  refine z_sub [(0, .ref (ad 3)), (1, vI a), (2, vI b), (3, vI 0), (4, vI a)] (zSub_cons rfl (zSub_cons rfl (zSub_cons rfl (zSub_cons rfl (zSub_cons rfl zSub_nil))))) ?_
  refine z_sub [(0, .ref (ad 3)), (1, vI a), (2, vI b), (3, vI 0), (4, vI a)] (zSub_cons rfl (zSub_cons rfl (zSub_cons rfl (zSub_cons rfl (zSub_cons rfl zSub_nil))))) ?_
  refine zForL (S := Int) a b (fun i q => q = tNum N a (i - a).toNat) (fun i q => zV p l e (zRm 2) s0 m args below meth c 5 D G ad 0 0 (zE below (zQI D G ad sz (fun z σ9 => z = tNum N a (b - a).toNat ∧ σ9 = (zBk σ 3 2 N))) args s0 ad) 5 [(0, .ref (ad 3)), (1, vI a), (2, vI b), (3, vI q), (4, vI i)] [] (zBk σ 3 2 N)) (fun i q i0 i1 hv ih => ?_) 0 hab (by rw [Int.sub_self]; rfl)
  refine z_iload X dX0_numberIn_5 rfl ?_
  refine z_iload_n X dX0_numberIn_7 rfl ?_
  refine z_icmp_ge X 29 dX0_numberIn_8 (by decide) ⟨by have := ha.1; omega, by have := hb.2; omega⟩ hb (fun c_1 => ?_) (fun c_1 => ?_)
  · refine z_iload_n X dX0_numberIn_29 rfl ?_
    exact z_iret X hsz hr hlocks dX0_numberIn_30 ⟨(by rw [hv, show i = b by omega]), rfl⟩
  · refine z_bipush X dX0_numberIn_11 rfl ?_
    refine z_iload_n X dX0_numberIn_13 rfl ?_
    refine z_imul X dX0_numberIn_14 ?_
    refine z_aload_n X dX0_numberIn_15 rfl ?_
    refine z_iload X dX0_numberIn_16 rfl ?_
    refine z_callVI1 X (c_X0_digitAt hJ σ ok ⟨by have := ha.1; omega, by have := hb.2; omega⟩) kX0_27 rfl (by decide) rfl ⟨(Nat.le_of_ble_eq_true rfl), (Nat.le_of_ble_eq_true rfl)⟩ (Nat.le_of_ble_eq_true rfl) ⟨Nat.zero_le _, Nat.zero_le _⟩ dX0_numberIn_18 (fun z9 σ1 hz9 => ?_)
    obtain ⟨rfl, rfl⟩ := hz9
    refine z_iadd X dX0_numberIn_21 ?_
    refine z_istore_n X dX0_numberIn_22 (by decide) ?_
    refine z_sub [(0, .ref (ad 3)), (1, vI a), (2, vI b), (3, vI ((10 * q) + (tSg N i - 48))), (4, vI i)] (zSub_cons rfl (zSub_cons rfl (zSub_cons rfl (zSub_cons rfl (zSub_cons rfl zSub_nil))))) ?_
    refine z_iinc X dX0_numberIn_23 rfl (by decide) ?_
    refine z_sub [(0, .ref (ad 3)), (1, vI a), (2, vI b), (3, vI ((10 * q) + (tSg N i - 48))), (4, vI (i + 1))] (zSub_cons rfl (zSub_cons rfl (zSub_cons rfl (zSub_cons rfl (zSub_cons rfl zSub_nil))))) ?_
    refine z_goto X 5 dX0_numberIn_26 (by decide) ?_
    refine z_sub [(0, .ref (ad 3)), (1, vI a), (2, vI b), (3, vI ((10 * q) + (tSg N i - 48))), (4, vI (i + 1))] (zSub_cons rfl (zSub_cons rfl (zSub_cons rfl (zSub_cons rfl (zSub_cons rfl zSub_nil))))) ?_
    exact ih (by omega) ((10 * q) + (tSg N i - 48)) (by rw [tNum_step i0, ← hv])

set_option maxHeartbeats 4000000 in
set_option maxRecDepth 100000 in
theorem c_X0_isActionEnd {l : Launch} {D : va_G} {G : zG} {ad : Nat → Nat} (hJ : zInj ad) (σ : zM) {N : Nat → Nat → Int} (ok : tOk N) {i : Int} (hi : zB i)  : zKI l D G ad yX0_isActionEnd cX0_isActionEnd 2 (some .boolean) 1 [.ref (ad 3), vI i] (zBk σ 3 2 N) (fun z σ9 => z = (if i = N 0 1 ∨ tSg N i = 59 then 1 else 0) ∧ σ9 = (zBk σ 3 2 N)) := by
  intro sz
  refine z_open hJ (by decide +kernel) (Nat.le_of_ble_eq_true rfl) ?_
  intro p e s0 m args below meth c hsz X hr hlocks
  have hn := tk_len ok
  refine z_sub [(0, .ref (ad 3)), (1, vI i)] (zSub_cons rfl (zSub_cons rfl zSub_nil)) ?_
  refine z_iload_n X dX0_isActionEnd_0 rfl ?_
  refine z_aload_n X dX0_isActionEnd_1 rfl ?_
  refine y_gTxt1 X fX0_15 dX0_isActionEnd_2 ?_
  refine z_icmp_eq X 18 dX0_isActionEnd_5 (by decide) hi (zB_sm (tk_len ok)) (fun c_1 => ?_) (fun c_1 => ?_)
  · refine z_iconst X dX0_isActionEnd_18 ?_
    refine z_goto X 23 dX0_isActionEnd_19 (by decide) ?_
    exact z_zret X hsz hr hlocks dX0_isActionEnd_23 (Or.inr rfl) ⟨(by first | rfl | ((try simp only [cEnd]); split <;> first | rfl | omega | (exfalso; omega)) | (simp [cEnd, c_1]; done) | (simp_all [cEnd]; done)), rfl⟩
  · refine z_aload_n X dX0_isActionEnd_8 rfl ?_
    refine z_iload_n X dX0_isActionEnd_9 rfl ?_
    refine z_callVI1 X (c_X0_signAt hJ σ ok hi) kX0_23 rfl (by decide) rfl ⟨(Nat.le_of_ble_eq_true rfl), (Nat.le_of_ble_eq_true rfl)⟩ (Nat.le_of_ble_eq_true rfl) ⟨Nat.zero_le _, Nat.zero_le _⟩ dX0_isActionEnd_10 (fun z9 σ1 hz9 => ?_)
    obtain ⟨rfl, rfl⟩ := hz9
    refine z_bipush X dX0_isActionEnd_13 rfl ?_
    refine z_icmp_ne X 22 dX0_isActionEnd_15 (by decide) (zB_sm (rg_sg ok _)) ⟨by decide, by decide⟩ (fun c_3 => ?_) (fun c_3 => ?_)
    · refine z_iconst X dX0_isActionEnd_22 ?_
      exact z_zret X hsz hr hlocks dX0_isActionEnd_23 (Or.inl rfl) ⟨(by first | rfl | ((try simp only [cEnd]); split <;> first | rfl | omega | (exfalso; omega)) | (simp [cEnd, c_1, c_3]; done) | (simp_all [cEnd]; done)), rfl⟩
    · refine z_iconst X dX0_isActionEnd_18 ?_
      refine z_goto X 23 dX0_isActionEnd_19 (by decide) ?_
      exact z_zret X hsz hr hlocks dX0_isActionEnd_23 (Or.inr rfl) ⟨(by first | rfl | ((try simp only [cEnd]); split <;> first | rfl | omega | (exfalso; omega)) | (simp [cEnd, c_1, c_3]; done) | (simp_all [cEnd]; done)), rfl⟩

set_option maxHeartbeats 4000000 in
set_option maxRecDepth 100000 in
theorem c_X0_errorIndex {l : Launch} {D : va_G} {G : zG} {ad : Nat → Nat} (hJ : zInj ad) (σ : zM) {N : Nat → Nat → Int} (ok : tOk N)   : zKI l D G ad yX0_errorIndex cX0_errorIndex 3 (some .int) 3 [.ref (ad 3)] (zBk σ 3 2 N) (fun z σ9 => z = tErr N ∧ σ9 = (zBk σ 3 2 N)) := by
  intro sz
  refine z_open hJ (by decide +kernel) (Nat.le_of_ble_eq_true rfl) ?_
  intro p e s0 m args below meth c hsz X hr hlocks
  have hn := tk_len ok
  refine z_sub [(0, .ref (ad 3))] (zSub_cons rfl zSub_nil) ?_
  refine z_iconst X dX0_errorIndex_0 ?_
  refine z_istore_n X dX0_errorIndex_1 (by decide) ?_
  refine z_sub [(0, .ref (ad 3)), (1, vI 1)] (zSub_cons rfl (zSub_cons rfl zSub_nil)) ?_
  refine z_iconst X dX0_errorIndex_2 ?_
  refine z_istore_n X dX0_errorIndex_3 (by decide) ?_
  refine z_sub [(0, .ref (ad 3)), (1, vI 1), (2, vI 0)] (zSub_cons rfl (zSub_cons rfl (zSub_cons rfl zSub_nil))) ?_
  refine z_sub [(0, .ref (ad 3)), (1, vI 1), (2, vI 0)] (zSub_cons rfl (zSub_cons rfl (zSub_cons rfl zSub_nil))) ?_
  refine zFor (S := Int) (N 0 1) (fun i q => q = tPhL N i.toNat ∧ zFind (fun i => decide (tPhL N (i + 1).toNat = 0)) i.toNat = -1) (fun i q => zV p l e (zRm 3) s0 m args below meth c 3 D G ad 0 0 (zE below (zQI D G ad sz (fun z σ9 => z = tErr N ∧ σ9 = (zBk σ 3 2 N))) args s0 ad) 4 [(0, .ref (ad 3)), (1, vI q), (2, vI i)] [] (zBk σ 3 2 N)) (fun i q i0 i1 hv ih => ?_) 1 (by omega) ⟨rfl, rfl⟩
  refine z_iload_n X dX0_errorIndex_4 rfl ?_
  refine z_aload_n X dX0_errorIndex_5 rfl ?_
  refine y_gTxt1 X fX0_15 dX0_errorIndex_6 ?_
  refine z_icmp_ge X 41 dX0_errorIndex_9 (by decide) (by first | assumption | (unfold zB at *; omega)) (zB_sm (tk_len ok)) (fun c_1 => ?_) (fun c_1 => ?_)
  · refine z_aload_n X dX0_errorIndex_41 rfl ?_
    refine y_gTxt1 X fX0_15 dX0_errorIndex_42 ?_
    exact z_iret X hsz hr hlocks dX0_errorIndex_45 ⟨(by unfold tErr; rw [show zFind (fun i => decide (tPhL N (i + 1).toNat = 0)) (N 0 1).toNat = -1 from by rw [show N 0 1 = i by omega]; exact hv.2, if_pos rfl]), rfl⟩
  · refine z_iload_n X dX0_errorIndex_12 rfl ?_
    refine z_aload_n X dX0_errorIndex_13 rfl ?_
    refine z_iload_n X dX0_errorIndex_14 rfl ?_
    refine z_iconst X dX0_errorIndex_15 ?_
    refine z_isub X dX0_errorIndex_16 ?_
    refine z_callVI1 X (c_X0_signAt hJ σ ok (by first | assumption | (unfold zB at *; omega))) kX0_23 rfl (by decide) rfl ⟨(Nat.le_of_ble_eq_true rfl), (Nat.le_of_ble_eq_true rfl)⟩ (Nat.le_of_ble_eq_true rfl) ⟨Nat.zero_le _, Nat.zero_le _⟩ dX0_errorIndex_17 (fun z9 σ1 hz9 => ?_)
    obtain ⟨rfl, rfl⟩ := hz9
    refine z_aload_n X dX0_errorIndex_20 rfl ?_
    refine z_iload_n X dX0_errorIndex_21 rfl ?_
    refine z_callVI1 X (c_X0_signAt hJ σ ok (by first | assumption | (unfold zB at *; omega))) kX0_23 rfl (by decide) rfl ⟨(Nat.le_of_ble_eq_true rfl), (Nat.le_of_ble_eq_true rfl)⟩ (Nat.le_of_ble_eq_true rfl) ⟨Nat.zero_le _, Nat.zero_le _⟩ dX0_errorIndex_22 (fun z9 σ1 hz9 => ?_)
    obtain ⟨rfl, rfl⟩ := hz9
    refine z_callSI3 X (c_X0_phaseAfter hJ _ (by rw [hv.1]; exact zB_sm (rg_PhL N _)) (zB_sm (rg_sg ok _)) (zB_sm (rg_sg ok _))) kX0_30 ⟨(Nat.le_of_ble_eq_true rfl), (Nat.le_of_ble_eq_true rfl)⟩ (Nat.le_of_ble_eq_true rfl) ⟨Nat.zero_le _, Nat.zero_le _⟩ dX0_errorIndex_25 (fun z9 σ1 hz9 => ?_)
    obtain ⟨rfl, rfl⟩ := hz9
    refine z_istore_n X dX0_errorIndex_28 (by decide) ?_
    refine z_sub [(0, .ref (ad 3)), (1, vI (tPh q (tSg N (i - 1)) (tSg N i))), (2, vI i)] (zSub_cons rfl (zSub_cons rfl (zSub_cons rfl zSub_nil))) ?_
    refine z_iload_n X dX0_errorIndex_29 rfl ?_
    refine z_if_ne X 35 dX0_errorIndex_30 (by decide) (zB_sm (rg_Ph _ _ _)) (fun c_5 => ?_) (fun c_5 => ?_)
    · refine z_iinc X dX0_errorIndex_35 rfl (by decide) ?_
      refine z_sub [(0, .ref (ad 3)), (1, vI (tPh q (tSg N (i - 1)) (tSg N i))), (2, vI (i + 1))] (zSub_cons rfl (zSub_cons rfl (zSub_cons rfl zSub_nil))) ?_
      refine z_goto X 4 dX0_errorIndex_38 (by decide) ?_
      refine z_sub [(0, .ref (ad 3)), (1, vI (tPh q (tSg N (i - 1)) (tSg N i))), (2, vI (i + 1))] (zSub_cons rfl (zSub_cons rfl (zSub_cons rfl zSub_nil))) ?_
      exact ih (by omega) (tPh q (tSg N (i - 1)) (tSg N i)) ⟨by rw [tPhL_step i0, ← hv.1], zFind_step i0 hv.2 (decide_eq_false (by rw [tPhL_step i0, ← hv.1]; omega))⟩
    · refine z_iload_n X dX0_errorIndex_33 rfl ?_
      exact z_iret X hsz hr hlocks dX0_errorIndex_34 ⟨(by unfold tErr; rw [show zFind (fun i => decide (tPhL N (i + 1).toNat = 0)) (N 0 1).toNat = i from zFind_hit i0 (by omega) hv.2 (decide_eq_true (by rw [tPhL_step i0, ← hv.1]; omega)), if_neg (by omega)]), rfl⟩

set_option maxHeartbeats 4000000 in
set_option maxRecDepth 100000 in
theorem c_X0_isComplete {l : Launch} {D : va_G} {G : zG} {ad : Nat → Nat} (hJ : zInj ad) (σ : zM) {N : Nat → Nat → Int} (ok : tOk N)   : zKI l D G ad yX0_isComplete cX0_isComplete 3 (some .boolean) 3 [.ref (ad 3)] (zBk σ 3 2 N) (fun z σ9 => z = (if tCom N then 1 else 0) ∧ σ9 = (zBk σ 3 2 N)) := by
  intro sz
  refine z_open hJ (by decide +kernel) (Nat.le_of_ble_eq_true rfl) ?_
  intro p e s0 m args below meth c hsz X hr hlocks
  have hn := tk_len ok
  refine z_sub [(0, .ref (ad 3))] (zSub_cons rfl zSub_nil) ?_
  refine z_iconst X dX0_isComplete_0 ?_
  refine z_istore_n X dX0_isComplete_1 (by decide) ?_
  refine z_sub [(0, .ref (ad 3)), (1, vI 1)] (zSub_cons rfl (zSub_cons rfl zSub_nil)) ?_
  refine z_iconst X dX0_isComplete_2 ?_
  refine z_istore_n X dX0_isComplete_3 (by decide) ?_
  refine z_sub [(0, .ref (ad 3)), (1, vI 1), (2, vI 0)] (zSub_cons rfl (zSub_cons rfl (zSub_cons rfl zSub_nil))) ?_
  refine z_sub [(0, .ref (ad 3)), (1, vI 1), (2, vI 0)] (zSub_cons rfl (zSub_cons rfl (zSub_cons rfl zSub_nil))) ?_
  refine zFor (S := Int) (N 0 1) (fun i q => q = tPhL N i.toNat) (fun i q => zV p l e (zRm 3) s0 m args below meth c 3 D G ad 0 0 (zE below (zQI D G ad sz (fun z σ9 => z = (if tCom N then 1 else 0) ∧ σ9 = (zBk σ 3 2 N))) args s0 ad) 4 [(0, .ref (ad 3)), (1, vI q), (2, vI i)] [] (zBk σ 3 2 N)) (fun i q i0 i1 hv ih => ?_) 1 (by omega) rfl
  refine z_iload_n X dX0_isComplete_4 rfl ?_
  refine z_aload_n X dX0_isComplete_5 rfl ?_
  refine y_gTxt1 X fX0_15 dX0_isComplete_6 ?_
  refine z_icmp_ge X 35 dX0_isComplete_9 (by decide) (by first | assumption | (unfold zB at *; omega)) (zB_sm (tk_len ok)) (fun c_1 => ?_) (fun c_1 => ?_)
  · refine z_iload_n X dX0_isComplete_35 rfl ?_
    refine z_bipush X dX0_isComplete_36 rfl ?_
    refine z_icmp_eq X 53 dX0_isComplete_38 (by decide) (by rw [hv]; exact zB_sm (rg_PhL N _)) ⟨by decide, by decide⟩ (fun c_2 => ?_) (fun c_2 => ?_)
    · refine z_iconst X dX0_isComplete_53 ?_
      refine z_goto X 58 dX0_isComplete_54 (by decide) ?_
      exact z_zret X hsz hr hlocks dX0_isComplete_58 (Or.inr rfl) ⟨(by unfold tCom; rw [show N 0 1 = i by omega, ← hv]; first | rw [if_pos (by omega)] | rw [if_neg (by omega)]), rfl⟩
    · refine z_iload_n X dX0_isComplete_41 rfl ?_
      refine z_bipush X dX0_isComplete_42 rfl ?_
      refine z_icmp_eq X 53 dX0_isComplete_44 (by decide) (by rw [hv]; exact zB_sm (rg_PhL N _)) ⟨by decide, by decide⟩ (fun c_3 => ?_) (fun c_3 => ?_)
      · refine z_iconst X dX0_isComplete_53 ?_
        refine z_goto X 58 dX0_isComplete_54 (by decide) ?_
        exact z_zret X hsz hr hlocks dX0_isComplete_58 (Or.inr rfl) ⟨(by unfold tCom; rw [show N 0 1 = i by omega, ← hv]; first | rw [if_pos (by omega)] | rw [if_neg (by omega)]), rfl⟩
      · refine z_iload_n X dX0_isComplete_47 rfl ?_
        refine z_bipush X dX0_isComplete_48 rfl ?_
        refine z_icmp_ne X 57 dX0_isComplete_50 (by decide) (by rw [hv]; exact zB_sm (rg_PhL N _)) ⟨by decide, by decide⟩ (fun c_4 => ?_) (fun c_4 => ?_)
        · refine z_iconst X dX0_isComplete_57 ?_
          exact z_zret X hsz hr hlocks dX0_isComplete_58 (Or.inl rfl) ⟨(by unfold tCom; rw [show N 0 1 = i by omega, ← hv]; first | rw [if_pos (by omega)] | rw [if_neg (by omega)]), rfl⟩
        · refine z_iconst X dX0_isComplete_53 ?_
          refine z_goto X 58 dX0_isComplete_54 (by decide) ?_
          exact z_zret X hsz hr hlocks dX0_isComplete_58 (Or.inr rfl) ⟨(by unfold tCom; rw [show N 0 1 = i by omega, ← hv]; first | rw [if_pos (by omega)] | rw [if_neg (by omega)]), rfl⟩
  · refine z_iload_n X dX0_isComplete_12 rfl ?_
    refine z_aload_n X dX0_isComplete_13 rfl ?_
    refine z_iload_n X dX0_isComplete_14 rfl ?_
    refine z_iconst X dX0_isComplete_15 ?_
    refine z_isub X dX0_isComplete_16 ?_
    refine z_callVI1 X (c_X0_signAt hJ σ ok (by first | assumption | (unfold zB at *; omega))) kX0_23 rfl (by decide) rfl ⟨(Nat.le_of_ble_eq_true rfl), (Nat.le_of_ble_eq_true rfl)⟩ (Nat.le_of_ble_eq_true rfl) ⟨Nat.zero_le _, Nat.zero_le _⟩ dX0_isComplete_17 (fun z9 σ1 hz9 => ?_)
    obtain ⟨rfl, rfl⟩ := hz9
    refine z_aload_n X dX0_isComplete_20 rfl ?_
    refine z_iload_n X dX0_isComplete_21 rfl ?_
    refine z_callVI1 X (c_X0_signAt hJ σ ok (by first | assumption | (unfold zB at *; omega))) kX0_23 rfl (by decide) rfl ⟨(Nat.le_of_ble_eq_true rfl), (Nat.le_of_ble_eq_true rfl)⟩ (Nat.le_of_ble_eq_true rfl) ⟨Nat.zero_le _, Nat.zero_le _⟩ dX0_isComplete_22 (fun z9 σ1 hz9 => ?_)
    obtain ⟨rfl, rfl⟩ := hz9
    refine z_callSI3 X (c_X0_phaseAfter hJ _ (by rw [hv]; exact zB_sm (rg_PhL N _)) (zB_sm (rg_sg ok _)) (zB_sm (rg_sg ok _))) kX0_30 ⟨(Nat.le_of_ble_eq_true rfl), (Nat.le_of_ble_eq_true rfl)⟩ (Nat.le_of_ble_eq_true rfl) ⟨Nat.zero_le _, Nat.zero_le _⟩ dX0_isComplete_25 (fun z9 σ1 hz9 => ?_)
    obtain ⟨rfl, rfl⟩ := hz9
    refine z_istore_n X dX0_isComplete_28 (by decide) ?_
    refine z_sub [(0, .ref (ad 3)), (1, vI (tPh q (tSg N (i - 1)) (tSg N i))), (2, vI i)] (zSub_cons rfl (zSub_cons rfl (zSub_cons rfl zSub_nil))) ?_
    refine z_iinc X dX0_isComplete_29 rfl (by decide) ?_
    refine z_sub [(0, .ref (ad 3)), (1, vI (tPh q (tSg N (i - 1)) (tSg N i))), (2, vI (i + 1))] (zSub_cons rfl (zSub_cons rfl (zSub_cons rfl zSub_nil))) ?_
    refine z_goto X 4 dX0_isComplete_32 (by decide) ?_
    refine z_sub [(0, .ref (ad 3)), (1, vI (tPh q (tSg N (i - 1)) (tSg N i))), (2, vI (i + 1))] (zSub_cons rfl (zSub_cons rfl (zSub_cons rfl zSub_nil))) ?_
    exact ih (by omega) (tPh q (tSg N (i - 1)) (tSg N i)) (by rw [tPhL_step i0, ← hv])
