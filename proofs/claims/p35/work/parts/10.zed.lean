/-! THE SMALL MACHINE: a walk's goal (zV) over one fixed world of 71 cells whose ints are mathematical Ints (zM). Rows z_*: one an instruction. -/
abbrev zM : Type := (Nat → Nat → Int) × (Nat → Nat → Int64)
def iI (z : Int) : Int32 := Int32.ofInt z
abbrev vI (z : Int) : Value := .int (iI z)
def zB (z : Int) : Prop := -2147483648 ≤ z ∧ z < 2147483648
theorem iI_toInt {z : Int} (h : zB z) : (iI z).toInt = z := Int32.toInt_ofInt_of_le h.1 h.2
theorem iI_self (x : Int32) : iI x.toInt = x := Int32.ofInt_toInt x
theorem iI_rng (x : Int32) : zB x.toInt := ⟨Int32.le_toInt x, Int32.toInt_lt x⟩
theorem iI_add (a b : Int) : iI a + iI b = iI (a + b) := (Int32.ofInt_add a b).symm
theorem iI_sub (a b : Int) : iI a - iI b = iI (a - b) := (Int32.ofInt_sub a b).symm
theorem iI_mul (a b : Int) : iI a * iI b = iI (a * b) := (Int32.ofInt_mul a b).symm
theorem iI_lt {a b : Int} (ha : zB a) (hb : zB b) : iI a < iI b ↔ a < b := by rw [Int32.lt_iff_toInt_lt, iI_toInt ha, iI_toInt hb]
theorem iI_le {a b : Int} (ha : zB a) (hb : zB b) : iI a ≤ iI b ↔ a ≤ b := by rw [Int32.le_iff_toInt_le, iI_toInt ha, iI_toInt hb]
theorem iI_eq {a b : Int} (ha : zB a) (hb : zB b) : iI a = iI b ↔ a = b := by rw [← Int32.toInt_inj, iI_toInt ha, iI_toInt hb]
theorem iI_0 : iI 0 = 0 := rfl
theorem zB_0 : zB 0 := ⟨by decide, by decide⟩
theorem iI_eq0 {a : Int} (ha : zB a) : iI a = 0 ↔ a = 0 := by rw [← iI_0]; exact iI_eq ha zB_0
theorem iI_lt0 {a : Int} (ha : zB a) : iI a < 0 ↔ a < 0 := by rw [← iI_0]; exact iI_lt ha zB_0
theorem iI_le0 {a : Int} (ha : zB a) : iI a ≤ 0 ↔ a ≤ 0 := by rw [← iI_0]; exact iI_le ha zB_0
theorem iI_0lt {a : Int} (ha : zB a) : 0 < iI a ↔ 0 < a := by rw [← iI_0]; exact iI_lt zB_0 ha
theorem iI_0le {a : Int} (ha : zB a) : 0 ≤ iI a ↔ 0 ≤ a := by rw [← iI_0]; exact iI_le zB_0 ha
theorem iI_clamp {a : Int} (h0 : 0 ≤ a) (h1 : a < 2147483648) : (iI a).toNatClampNeg = a.toNat := by
  show (iI a).toInt.toNat = a.toNat
  rw [iI_toInt ⟨by omega, h1⟩]
theorem iI_in {a : Int} {n : Nat} (h0 : 0 ≤ a) (h1 : a < n) (hn : n < 2147483648) : vp_in (iI a) n := by
  rw [vp_in_iff, iI_toInt ⟨by omega, by omega⟩]; exact ⟨h0, h1⟩
/-- the cell k of the world: m its ints, lg its longs -/
def zN (r : Nat) : Nat := if r = 6 then 6 else if r = 7 then 144 else if r = 4 then 48 else if r = 5 then 48 else 8
abbrev zG : Type := ClassId × ClassId × ClassId
/-- cell 0 the object, 1 its history, 2 the history's row, 3 the text, 4 its signs; 5 the law's ends, 6 its rules; no cell 7; from 8 on the Nets -/
def zC (ad : Nat → Nat) (G : zG) (k : Nat) (m : Nat → Int) (lg : Nat → Int64) : va_E :=
  if k = 0 then .inr (3, [.ref (ad 8), .ref (ad 16), .ref (ad 1), .ref (ad 3)])
  else if k = 1 then .inr (1, [.ref (ad 2), vI (m 1)])
  else if k = 2 then .inl (G.2.1, 6, .inr (.inr (.inr (.inr (fun j => some (ad (m j).toNat))))))
  else if k = 3 then .inr (0, [.ref (ad 4), vI (m 1)])
  else if k = 4 then .inl (G.1, 60, .inl (fun j => iI (m j)))
  else if k = 5 then .inl (G.1, 48, .inl (fun j => iI (m j)))
  else if k = 6 then .inl (G.1, 8, .inl (fun j => iI (m j)))
  else if k % 8 = 0 then .inr (2, [vI (m 0), vI (m 1), vI (m 2), vI (m 3), .ref (ad (k + 1)), .ref (ad (k + 2)), .ref (ad (k + 3)), .ref (ad (k + 4)), .ref (ad (k + 5)), .ref (ad (k + 6)), .ref (ad (k + 7))])
  else .inl (G.1, zN (k % 8), .inl (fun j => iI (m j)))
abbrev zIn (k : Nat) : Prop := k < 72 ∧ k ≠ 7
/-- the place of a cell in the list, and back -/
def zp (k : Nat) : Nat := if k < 7 then k else k - 1
def zq (i : Nat) : Nat := if i < 7 then i else i + 1
theorem zq_in {i : Nat} (h : i < 71) : zIn (zq i) := by unfold zq; split <;> exact ⟨by omega, by omega⟩
theorem zq_p {k : Nat} (h : zIn k) : zq (zp k) = k := by
  have h1 := h.1; have h2 := h.2
  unfold zq zp; (repeat' split) <;> omega
theorem zp_q (i : Nat) : zp (zq i) = i := by unfold zq zp; (repeat' split) <;> omega
theorem zp_lt {k : Nat} (h : zIn k) : zp k < 71 := by
  have h1 := h.1; have h2 := h.2
  unfold zp; split <;> omega
def zW (ad : Nat → Nat) (G : zG) (σ : zM) : va_W := (List.range 71).map fun i => (ad (zq i), zC ad G (zq i) (σ.1 (zq i)) (σ.2 (zq i)))
theorem zW_at {ad : Nat → Nat} {G : zG} {σ : zM} {i : Nat} (h : i < 71) : (zW ad G σ)[i]? = some (ad (zq i), zC ad G (zq i) (σ.1 (zq i)) (σ.2 (zq i))) := by
  simp [zW, h]
theorem zW_get {ad : Nat → Nat} {G : zG} {σ : zM} {k : Nat} (h : zIn k) : (zW ad G σ)[zp k]? = some (ad k, zC ad G k (σ.1 k) (σ.2 k)) := by
  rw [zW_at (zp_lt h), zq_p h]
theorem zW_len {ad : Nat → Nat} {G : zG} {σ : zM} : (zW ad G σ).length = 71 := by simp [zW]
theorem zW_set {ad : Nat → Nat} {G : zG} {σ σ' : zM} {k : Nat} {e : va_E} (hk : zIn k) (he : e = zC ad G k (σ'.1 k) (σ'.2 k)) (hn : ∀ i, i ≠ k → σ'.1 i = σ.1 i ∧ σ'.2 i = σ.2 i) : (zW ad G σ).set (zp k) (ad k, e) = zW ad G σ' := by
  apply List.ext_getElem?
  intro i
  rw [List.getElem?_set]
  by_cases h : zp k = i
  · subst h
    rw [if_pos rfl, if_pos (by rw [zW_len]; exact zp_lt hk), zW_get hk, he]
  · rw [if_neg h]
    rcases Nat.lt_or_ge i 71 with q | q
    · have hne : zq i ≠ k := fun e => h (by rw [← e, zp_q])
      rw [zW_at q, zW_at q, (hn _ hne).1, (hn _ hne).2]
    · rw [List.getElem?_eq_none (by rw [zW_len]; exact q), List.getElem?_eq_none (by rw [zW_len]; exact q)]
def zS (σ : zM) (k j : Nat) (x : Int) : zM := (fun a b => if a = k ∧ b = j then x else σ.1 a b, σ.2)
def zSL (σ : zM) (k j : Nat) (x : Int64) : zM := (σ.1, fun a b => if a = k ∧ b = j then x else σ.2 a b)
theorem zS_row (σ : zM) (k j : Nat) (x : Int) : (zS σ k j x).1 k = fun b => if b = j then x else σ.1 k b := by
  funext b; simp [zS]
theorem zSL_row (σ : zM) (k j : Nat) (x : Int64) : (zSL σ k j x).2 k = fun b => if b = j then x else σ.2 k b := by
  funext b; simp [zSL]
theorem zS_ne (σ : zM) {k j i : Nat} {x : Int} (h : i ≠ k) : (zS σ k j x).1 i = σ.1 i ∧ (zS σ k j x).2 i = σ.2 i := ⟨by funext b; simp [zS, h], rfl⟩
theorem zSL_ne (σ : zM) {k j i : Nat} {x : Int64} (h : i ≠ k) : (zSL σ k j x).1 i = σ.1 i ∧ (zSL σ k j x).2 i = σ.2 i := ⟨rfl, by funext b; simp [zSL, h]⟩
theorem zS_at (σ : zM) (k j a b : Nat) (x : Int) : (zS σ k j x).1 a b = if a = k ∧ b = j then x else σ.1 a b := rfl
def zInj (ad : Nat → Nat) : Prop := ∀ i j, zIn i → zIn j → ad i = ad j → i = j
def zA (ad : Nat → Nat) (sz : Nat) : Nat → Prop := fun q => (∃ k, zIn k ∧ q = ad k) ∨ sz ≤ q
theorem zD {ad : Nat → Nat} {G : zG} {σ : zM} {A : Nat → Prop} (hi : zInj ad) (hA : ∀ k, zIn k → A (ad k)) : va_D A (zW ad G σ) := by
  have key : ∀ (i : Nat) (q : Nat × va_E), (zW ad G σ)[i]? = some q → i < 71 ∧ q.1 = ad (zq i) := by
    intro i q h
    rcases Nat.lt_or_ge i 71 with z | z
    · rw [zW_at z] at h; cases h; exact ⟨z, rfl⟩
    · rw [List.getElem?_eq_none (by rw [zW_len]; exact z)] at h; cases h
  refine ⟨fun i j p q h1 h2 h3 => ?_, fun k q h => ?_⟩
  · obtain ⟨a1, a2⟩ := key i p h1
    obtain ⟨b1, b2⟩ := key j q h2
    have e := hi (zq i) (zq j) (zq_in a1) (zq_in b1) (by rw [← a2, ← b2]; exact h3)
    rw [← zp_q i, e, zp_q]
  · obtain ⟨a1, a2⟩ := key k q h
    rw [a2]; exact hA _ (zq_in a1)
abbrev zT (G : zG) : List (ClassId × FieldType) := [(G.1, .int), (G.2.1, .object "DealDoubts$Net")]
def zU : List Cond := lw_tbl.filter goodWord
theorem zU_mem {w : Cond} (i : Nat) (h : lw_tbl[i]? = some w) (g : goodWord w = true) : w ∈ zU := List.mem_filter.mpr ⟨List.mem_of_getElem? h, g⟩
theorem zU_good {w : Cond} (h : w ∈ zU) : goodWord w = true := (List.mem_filter.mp h).2
theorem zU_goodIn {ws : List Cond} (h : ∀ w ∈ ws, w ∈ zU) : GoodIn zU ws := fun w hw => ⟨h w hw, good_of_word (zU_good (h w hw))⟩
/-- local i -/
def zL (lv : List (Nat × Value)) (i : Nat) : Option Value := (lv.find? (fun q => q.1 == i)).map (·.2)
theorem zL_at {ls : Array Slot} {nL : Nat} {lv : List (Nat × Value)} (h : lv_has ls nL lv) {i : Nat} {v : Value} (hk : zL lv i = some v) : ls[i]? = some (.val v) := by
  unfold zL at hk
  obtain ⟨q, hq, hv⟩ := Option.map_eq_some_iff.mp hk
  have h1 := List.mem_of_find?_eq_some hq
  have h2 := List.find?_some hq
  have h3 := h.2.2 q h1
  have h4 : q.1 = i := by simpa using h2
  rw [h4, hv] at h3
  exact h3
def zSub (lv lv' : List (Nat × Value)) : Prop := ∀ q ∈ lv', zL lv q.1 = some q.2
theorem zSub_nil {lv : List (Nat × Value)} : zSub lv [] := fun q h => absurd h List.not_mem_nil
theorem zSub_cons {lv lv' : List (Nat × Value)} {i : Nat} {v : Value} (h : zL lv i = some v) (t : zSub lv lv') : zSub lv ((i, v) :: lv') := fun q hq => by
  rcases List.mem_cons.mp hq with rfl | hq
  · exact h
  · exact t q hq
abbrev zF1 (i : Nat) (v : Value) (lv : List (Nat × Value)) : List (Nat × Value) := (i, v) :: lv.filter (fun q => !(q.1 == i) && !(q.1 + 1 == i && q.2.category == 2))
abbrev zF2 (i : Nat) (v : Value) (lv : List (Nat × Value)) : List (Nat × Value) := (i, v) :: lv.filter (fun q => !(q.1 == i) && (!(q.1 == i + 1) && !(q.1 + 1 == i && q.2.category == 2)))
section Z
variable {p : Program} {l : Launch} {e : Env} {R : Room} {s : State} {m : MethodId} {args : Array Value} {below : List Frame} {meth : Method} {c : Code} {cc : ByteArray} {nL : Nat} {own : String} {D : va_G} {G : zG} {ad : Nat → Nat} {cells slots : Nat} {Q : State → Prop}
/-- the link of the one static method that the nets call at their nest mate -/
def zNst (U : State) : Prop := va_Nw (.methodLinkNest RX2 72 yX3_isSite RX3) U
/-- what holds all through a method's walk -/
def zX (p : Program) (s : State) (m : MethodId) (args : Array Value) (c : Code) (cc : ByteArray) (nL : Nat) (own : String) (D : va_G) (G : zG) (ad : Nat → Nat) : Prop :=
  p.tables.exec = Jvm.exec ∧ c.code = cc ∧ c.maxLocals = nL ∧ s.vm.findClass own = some m.cls ∧ (∀ w ∈ zU, w.before args s = true) ∧ va_K D vwCl (zT G) s ∧ zInj ad ∧ zNst s
/-- the walk's goal: at pc with these locals, this stack, the world σ -/
def zV (p : Program) (l : Launch) (e : Env) (R : Room) (s : State) (m : MethodId) (args : Array Value) (below : List Frame) (meth : Method) (c : Code) (nL : Nat) (D : va_G) (G : zG) (ad : Nat → Nat) (cells slots : Nat) (Q : State → Prop) (pc : Nat) (lv : List (Nat × Value)) (st : List Value) (σ : zM) : Prop :=
  ∀ (ls : Array Slot) (H : Heap) (locs : List Loc), lv_has ls nL lv → va_P D vwCl (zW ad G σ) H → va_S (zA ad s.heap.size) s.heap H locs → W p l e R s m args below meth c H locs cells slots Q (F0 m pc ls st)
variable {pc : Nat} {lv : List (Nat × Value)} {st : List Value} {σ : zM}
theorem z_sub (lv' : List (Nat × Value)) (h : zSub lv lv') (k : zV p l e R s m args below meth c nL D G ad cells slots Q pc lv' st σ) : zV p l e R s m args below meth c nL D G ad cells slots Q pc lv st σ :=
  fun ls H locs hl hP hS => k ls H locs ⟨hl.1, hl.2.1, fun q hq => zL_at hl (h q hq)⟩ hP hS
theorem z_iconst (X : zX p s m args c cc nL own D G ad) {n : Int} (d : decode cc pc = .ok (.iconst n, 1))
    (k : zV p l e R s m args below meth c nL D G ad cells slots Q (pc + 1) lv (vI n :: st) σ) : zV p l e R s m args below meth c nL D G ad cells slots Q pc lv st σ :=
  fun ls H locs hl hP hS => lv_iconst X.1 X.2.1 d rfl (k ls H locs hl hP hS)
theorem z_bipush (X : zX p s m args c cc nL own D G ad) {n : Int} (d : decode cc pc = .ok (.bipush n, 2)) (hn : (Int8.ofInt n).toInt32 = iI n)
    (k : zV p l e R s m args below meth c nL D G ad cells slots Q (pc + 2) lv (vI n :: st) σ) : zV p l e R s m args below meth c nL D G ad cells slots Q pc lv st σ :=
  fun ls H locs hl hP hS => lv_bipush X.1 X.2.1 d hn (k ls H locs hl hP hS)
theorem z_sipush (X : zX p s m args c cc nL own D G ad) {n : Int} (d : decode cc pc = .ok (.sipush n, 3)) (hn : (Int16.ofInt n).toInt32 = iI n)
    (k : zV p l e R s m args below meth c nL D G ad cells slots Q (pc + 3) lv (vI n :: st) σ) : zV p l e R s m args below meth c nL D G ad cells slots Q pc lv st σ :=
  fun ls H locs hl hP hS => lv_sipush X.1 X.2.1 d hn (k ls H locs hl hP hS)
theorem z_iload_n (X : zX p s m args c cc nL own D G ad) {i : Fin 4} {x : Int} (d : decode cc pc = .ok (.iload_n i, 1)) (hl : zL lv i.val = some (vI x))
    (k : zV p l e R s m args below meth c nL D G ad cells slots Q (pc + 1) lv (vI x :: st) σ) : zV p l e R s m args below meth c nL D G ad cells slots Q pc lv st σ :=
  fun ls H locs h hP hS => lv_iload_n X.1 X.2.1 d rfl (zL_at h hl) (k ls H locs h hP hS)
theorem z_iload (X : zX p s m args c cc nL own D G ad) {i : Nat} {x : Int} (d : decode cc pc = .ok (.iload i, 2)) (hl : zL lv i = some (vI x))
    (k : zV p l e R s m args below meth c nL D G ad cells slots Q (pc + 2) lv (vI x :: st) σ) : zV p l e R s m args below meth c nL D G ad cells slots Q pc lv st σ :=
  fun ls H locs h hP hS => lv_iload X.1 X.2.1 d (zL_at h hl) (k ls H locs h hP hS)
theorem z_aload_n (X : zX p s m args c cc nL own D G ad) {i : Fin 4} {x : Nat} (d : decode cc pc = .ok (.aload_n i, 1)) (hl : zL lv i.val = some (.ref x))
    (k : zV p l e R s m args below meth c nL D G ad cells slots Q (pc + 1) lv (.ref x :: st) σ) : zV p l e R s m args below meth c nL D G ad cells slots Q pc lv st σ :=
  fun ls H locs h hP hS => lv_aload_n X.1 X.2.1 d rfl (zL_at h hl) (k ls H locs h hP hS)
theorem z_aload (X : zX p s m args c cc nL own D G ad) {i : Nat} {x : Nat} (d : decode cc pc = .ok (.aload i, 2)) (hl : zL lv i = some (.ref x))
    (k : zV p l e R s m args below meth c nL D G ad cells slots Q (pc + 2) lv (.ref x :: st) σ) : zV p l e R s m args below meth c nL D G ad cells slots Q pc lv st σ :=
  fun ls H locs h hP hS => lv_aload X.1 X.2.1 d (zL_at h hl) (k ls H locs h hP hS)
theorem z_istore_n (X : zX p s m args c cc nL own D G ad) {i : Fin 4} {x : Int} (d : decode cc pc = .ok (.istore_n i, 1)) (hn : i.val < nL)
    (k : zV p l e R s m args below meth c nL D G ad cells slots Q (pc + 1) (zF1 i.val (vI x) lv) st σ) : zV p l e R s m args below meth c nL D G ad cells slots Q pc lv (vI x :: st) σ :=
  fun ls H locs h hP hS => lv_istore_n X.1 X.2.1 d rfl h hn rfl (fun ls' h' => k ls' H locs h' hP hS)
theorem z_istore (X : zX p s m args c cc nL own D G ad) {i : Nat} {x : Int} (d : decode cc pc = .ok (.istore i, 2)) (hn : i < nL)
    (k : zV p l e R s m args below meth c nL D G ad cells slots Q (pc + 2) (zF1 i (vI x) lv) st σ) : zV p l e R s m args below meth c nL D G ad cells slots Q pc lv (vI x :: st) σ :=
  fun ls H locs h hP hS => lv_istore X.1 X.2.1 d h hn rfl (fun ls' h' => k ls' H locs h' hP hS)
theorem z_astore_n (X : zX p s m args c cc nL own D G ad) {i : Fin 4} {x : Nat} (d : decode cc pc = .ok (.astore_n i, 1)) (hn : i.val < nL)
    (k : zV p l e R s m args below meth c nL D G ad cells slots Q (pc + 1) (zF1 i.val (.ref x) lv) st σ) : zV p l e R s m args below meth c nL D G ad cells slots Q pc lv (.ref x :: st) σ :=
  fun ls H locs h hP hS => lv_astore_n X.1 X.2.1 d rfl h hn rfl (fun ls' h' => k ls' H locs h' hP hS)
theorem z_iinc (X : zX p s m args c cc nL own D G ad) {i : Nat} {n x : Int} (d : decode cc pc = .ok (.iinc i n, 3)) (hl : zL lv i = some (vI x)) (hn : i < nL)
    (k : zV p l e R s m args below meth c nL D G ad cells slots Q (pc + 3) (zF1 i (vI (x + n)) lv) st σ) : zV p l e R s m args below meth c nL D G ad cells slots Q pc lv st σ := by
  intro ls H locs h hP hS
  obtain ⟨j, hj⟩ : ∃ j : Nat, lv[j]? = some (i, vI x) := by
    unfold zL at hl
    obtain ⟨q, hq, hv⟩ := Option.map_eq_some_iff.mp hl
    have h1 := List.mem_of_find?_eq_some hq
    have h2 := List.find?_some hq
    have h4 : q.1 = i := by simpa using h2
    obtain ⟨j, hj⟩ := List.mem_iff_getElem?.mp h1
    exact ⟨j, by rw [hj, ← h4, ← hv]⟩
  exact lv_iinc X.1 X.2.1 d h hj (iI_add x n) hn rfl (fun ls' h' => k ls' H locs h' hP hS)
theorem z_iadd (X : zX p s m args c cc nL own D G ad) {a b : Int} (d : decode cc pc = .ok (.iadd, 1))
    (k : zV p l e R s m args below meth c nL D G ad cells slots Q (pc + 1) lv (vI (a + b) :: st) σ) : zV p l e R s m args below meth c nL D G ad cells slots Q pc lv (vI b :: vI a :: st) σ :=
  fun ls H locs h hP hS => lv_iadd X.1 X.2.1 d (by rw [iI_add]; exact k ls H locs h hP hS)
theorem z_isub (X : zX p s m args c cc nL own D G ad) {a b : Int} (d : decode cc pc = .ok (.isub, 1))
    (k : zV p l e R s m args below meth c nL D G ad cells slots Q (pc + 1) lv (vI (a - b) :: st) σ) : zV p l e R s m args below meth c nL D G ad cells slots Q pc lv (vI b :: vI a :: st) σ :=
  fun ls H locs h hP hS => lv_isub X.1 X.2.1 d (by rw [iI_sub]; exact k ls H locs h hP hS)
theorem z_imul (X : zX p s m args c cc nL own D G ad) {a b : Int} (d : decode cc pc = .ok (.imul, 1))
    (k : zV p l e R s m args below meth c nL D G ad cells slots Q (pc + 1) lv (vI (a * b) :: st) σ) : zV p l e R s m args below meth c nL D G ad cells slots Q pc lv (vI b :: vI a :: st) σ :=
  fun ls H locs h hP hS => lv_imul X.1 X.2.1 d (by rw [iI_mul]; exact k ls H locs h hP hS)
theorem z_and (X : zX p s m args c cc nL own D G ad) {a b z : Int} (d : decode cc pc = .ok (.iand, 1)) (hz : iI a &&& iI b = iI z)
    (k : zV p l e R s m args below meth c nL D G ad cells slots Q (pc + 1) lv (vI z :: st) σ) : zV p l e R s m args below meth c nL D G ad cells slots Q pc lv (vI b :: vI a :: st) σ :=
  fun ls H locs h hP hS => lv_iand X.1 X.2.1 d (by rw [hz]; exact k ls H locs h hP hS)
theorem z_or (X : zX p s m args c cc nL own D G ad) {a b z : Int} (d : decode cc pc = .ok (.ior, 1)) (hz : iI a ||| iI b = iI z)
    (k : zV p l e R s m args below meth c nL D G ad cells slots Q (pc + 1) lv (vI z :: st) σ) : zV p l e R s m args below meth c nL D G ad cells slots Q pc lv (vI b :: vI a :: st) σ :=
  fun ls H locs h hP hS => lv_ior X.1 X.2.1 d (by rw [hz]; exact k ls H locs h hP hS)
theorem z_xor (X : zX p s m args c cc nL own D G ad) {a b z : Int} (d : decode cc pc = .ok (.ixor, 1)) (hz : iI a ^^^ iI b = iI z)
    (k : zV p l e R s m args below meth c nL D G ad cells slots Q (pc + 1) lv (vI z :: st) σ) : zV p l e R s m args below meth c nL D G ad cells slots Q pc lv (vI b :: vI a :: st) σ :=
  fun ls H locs h hP hS => lv_ixor X.1 X.2.1 d (by rw [hz]; exact k ls H locs h hP hS)
theorem z_shl (X : zX p s m args c cc nL own D G ad) {a b z : Int} (d : decode cc pc = .ok (.ishl, 1)) (hz : iI a <<< (iI b &&& 31) = iI z)
    (k : zV p l e R s m args below meth c nL D G ad cells slots Q (pc + 1) lv (vI z :: st) σ) : zV p l e R s m args below meth c nL D G ad cells slots Q pc lv (vI b :: vI a :: st) σ :=
  fun ls H locs h hP hS => lv_ishl X.1 X.2.1 d (by rw [hz]; exact k ls H locs h hP hS)
theorem z_shr (X : zX p s m args c cc nL own D G ad) {a b z : Int} (d : decode cc pc = .ok (.ishr, 1)) (hz : iI a >>> (iI b &&& 31) = iI z)
    (k : zV p l e R s m args below meth c nL D G ad cells slots Q (pc + 1) lv (vI z :: st) σ) : zV p l e R s m args below meth c nL D G ad cells slots Q pc lv (vI b :: vI a :: st) σ :=
  fun ls H locs h hP hS => lv_ishr X.1 X.2.1 d (by rw [hz]; exact k ls H locs h hP hS)
theorem z_dup (X : zX p s m args c cc nL own D G ad) {v : Value} (d : decode cc pc = .ok (.dup, 1)) (hv : v.category = 1)
    (k : zV p l e R s m args below meth c nL D G ad cells slots Q (pc + 1) lv (v :: v :: st) σ) : zV p l e R s m args below meth c nL D G ad cells slots Q pc lv (v :: st) σ :=
  fun ls H locs h hP hS => lv_dup X.1 X.2.1 d hv (k ls H locs h hP hS)
theorem z_dup2 (X : zX p s m args c cc nL own D G ad) {v w : Value} (d : decode cc pc = .ok (.dup2, 1)) (hv : v.category = 1) (hw : w.category = 1)
    (k : zV p l e R s m args below meth c nL D G ad cells slots Q (pc + 1) lv (v :: w :: v :: w :: st) σ) : zV p l e R s m args below meth c nL D G ad cells slots Q pc lv (v :: w :: st) σ :=
  fun ls H locs h hP hS => lv_dup2_11 X.1 X.2.1 d hv hw (k ls H locs h hP hS)
theorem z_pop (X : zX p s m args c cc nL own D G ad) {v : Value} (d : decode cc pc = .ok (.pop, 1)) (hv : v.category = 1)
    (k : zV p l e R s m args below meth c nL D G ad cells slots Q (pc + 1) lv st σ) : zV p l e R s m args below meth c nL D G ad cells slots Q pc lv (v :: st) σ :=
  fun ls H locs h hP hS => lv_pop X.1 X.2.1 d hv (k ls H locs h hP hS)
theorem z_goto (X : zX p s m args c cc nL own D G ad) {off : Int} (tgt : Nat) (d : decode cc pc = .ok (.goto off, 3)) (ht : (pc : Int) + off = (tgt : Int))
    (k : zV p l e R s m args below meth c nL D G ad cells slots Q tgt lv st σ) : zV p l e R s m args below meth c nL D G ad cells slots Q pc lv st σ :=
  fun ls H locs h hP hS => lv_goto X.1 X.2.1 d ht (k ls H locs h hP hS)
theorem z_if_eq (X : zX p s m args c cc nL own D G ad) {a off : Int} (tgt : Nat) (d : decode cc pc = .ok (.ifCond .eq off, 3)) (ht : (pc : Int) + off = (tgt : Int)) (ha : zB a)
    (kt : a = 0 → zV p l e R s m args below meth c nL D G ad cells slots Q tgt lv st σ) (kf : a ≠ 0 → zV p l e R s m args below meth c nL D G ad cells slots Q (pc + 3) lv st σ) : zV p l e R s m args below meth c nL D G ad cells slots Q pc lv (vI a :: st) σ :=
  fun ls H locs h hP hS => lv_if_eq X.1 X.2.1 d ht (fun h1 => kt ((iI_eq0 ha).mp h1) ls H locs h hP hS) (fun h1 => kf (fun h2 => h1 ((iI_eq0 ha).mpr h2)) ls H locs h hP hS)
theorem z_icmp_eq (X : zX p s m args c cc nL own D G ad) {a b off : Int} (tgt : Nat) (d : decode cc pc = .ok (.if_icmp .eq off, 3)) (ht : (pc : Int) + off = (tgt : Int)) (ha : zB a) (hb : zB b)
    (kt : a = b → zV p l e R s m args below meth c nL D G ad cells slots Q tgt lv st σ) (kf : a ≠ b → zV p l e R s m args below meth c nL D G ad cells slots Q (pc + 3) lv st σ) : zV p l e R s m args below meth c nL D G ad cells slots Q pc lv (vI b :: vI a :: st) σ :=
  fun ls H locs h hP hS => lv_icmp_eq X.1 X.2.1 d ht (fun h1 => kt ((iI_eq ha hb).mp h1) ls H locs h hP hS) (fun h1 => kf (fun h2 => h1 ((iI_eq ha hb).mpr h2)) ls H locs h hP hS)
theorem z_if_ne (X : zX p s m args c cc nL own D G ad) {a off : Int} (tgt : Nat) (d : decode cc pc = .ok (.ifCond .ne off, 3)) (ht : (pc : Int) + off = (tgt : Int)) (ha : zB a)
    (kt : a ≠ 0 → zV p l e R s m args below meth c nL D G ad cells slots Q tgt lv st σ) (kf : a = 0 → zV p l e R s m args below meth c nL D G ad cells slots Q (pc + 3) lv st σ) : zV p l e R s m args below meth c nL D G ad cells slots Q pc lv (vI a :: st) σ :=
  fun ls H locs h hP hS => lv_if_ne X.1 X.2.1 d ht (fun h1 => kt (fun h2 => h1 ((iI_eq0 ha).mpr h2)) ls H locs h hP hS) (fun h1 => kf (by first | exact (iI_eq0 ha).mp h1 | exact (iI_eq0 ha).mp (Decidable.not_not.mp h1)) ls H locs h hP hS)
theorem z_icmp_ne (X : zX p s m args c cc nL own D G ad) {a b off : Int} (tgt : Nat) (d : decode cc pc = .ok (.if_icmp .ne off, 3)) (ht : (pc : Int) + off = (tgt : Int)) (ha : zB a) (hb : zB b)
    (kt : a ≠ b → zV p l e R s m args below meth c nL D G ad cells slots Q tgt lv st σ) (kf : a = b → zV p l e R s m args below meth c nL D G ad cells slots Q (pc + 3) lv st σ) : zV p l e R s m args below meth c nL D G ad cells slots Q pc lv (vI b :: vI a :: st) σ :=
  fun ls H locs h hP hS => lv_icmp_ne X.1 X.2.1 d ht (fun h1 => kt (fun h2 => h1 ((iI_eq ha hb).mpr h2)) ls H locs h hP hS) (fun h1 => kf (by first | exact (iI_eq ha hb).mp h1 | exact (iI_eq ha hb).mp (Decidable.not_not.mp h1)) ls H locs h hP hS)
theorem z_if_lt (X : zX p s m args c cc nL own D G ad) {a off : Int} (tgt : Nat) (d : decode cc pc = .ok (.ifCond .lt off, 3)) (ht : (pc : Int) + off = (tgt : Int)) (ha : zB a)
    (kt : a < 0 → zV p l e R s m args below meth c nL D G ad cells slots Q tgt lv st σ) (kf : 0 ≤ a → zV p l e R s m args below meth c nL D G ad cells slots Q (pc + 3) lv st σ) : zV p l e R s m args below meth c nL D G ad cells slots Q pc lv (vI a :: st) σ :=
  fun ls H locs h hP hS => lv_if_lt X.1 X.2.1 d ht (fun h1 => kt ((iI_lt0 ha).mp h1) ls H locs h hP hS) (fun h1 => kf (Int.not_lt.mp (fun h2 => h1 ((iI_lt0 ha).mpr h2))) ls H locs h hP hS)
theorem z_icmp_lt (X : zX p s m args c cc nL own D G ad) {a b off : Int} (tgt : Nat) (d : decode cc pc = .ok (.if_icmp .lt off, 3)) (ht : (pc : Int) + off = (tgt : Int)) (ha : zB a) (hb : zB b)
    (kt : a < b → zV p l e R s m args below meth c nL D G ad cells slots Q tgt lv st σ) (kf : b ≤ a → zV p l e R s m args below meth c nL D G ad cells slots Q (pc + 3) lv st σ) : zV p l e R s m args below meth c nL D G ad cells slots Q pc lv (vI b :: vI a :: st) σ :=
  fun ls H locs h hP hS => lv_icmp_lt X.1 X.2.1 d ht (fun h1 => kt ((iI_lt ha hb).mp h1) ls H locs h hP hS) (fun h1 => kf (Int.not_lt.mp (fun h2 => h1 ((iI_lt ha hb).mpr h2))) ls H locs h hP hS)
theorem z_if_ge (X : zX p s m args c cc nL own D G ad) {a off : Int} (tgt : Nat) (d : decode cc pc = .ok (.ifCond .ge off, 3)) (ht : (pc : Int) + off = (tgt : Int)) (ha : zB a)
    (kt : 0 ≤ a → zV p l e R s m args below meth c nL D G ad cells slots Q tgt lv st σ) (kf : a < 0 → zV p l e R s m args below meth c nL D G ad cells slots Q (pc + 3) lv st σ) : zV p l e R s m args below meth c nL D G ad cells slots Q pc lv (vI a :: st) σ :=
  fun ls H locs h hP hS => lv_if_ge X.1 X.2.1 d ht (fun h1 => kt ((iI_0le ha).mp h1) ls H locs h hP hS) (fun h1 => kf (Int.not_le.mp (fun h2 => h1 ((iI_0le ha).mpr h2))) ls H locs h hP hS)
theorem z_icmp_ge (X : zX p s m args c cc nL own D G ad) {a b off : Int} (tgt : Nat) (d : decode cc pc = .ok (.if_icmp .ge off, 3)) (ht : (pc : Int) + off = (tgt : Int)) (ha : zB a) (hb : zB b)
    (kt : b ≤ a → zV p l e R s m args below meth c nL D G ad cells slots Q tgt lv st σ) (kf : a < b → zV p l e R s m args below meth c nL D G ad cells slots Q (pc + 3) lv st σ) : zV p l e R s m args below meth c nL D G ad cells slots Q pc lv (vI b :: vI a :: st) σ :=
  fun ls H locs h hP hS => lv_icmp_ge X.1 X.2.1 d ht (fun h1 => kt ((iI_le hb ha).mp h1) ls H locs h hP hS) (fun h1 => kf (Int.not_le.mp (fun h2 => h1 ((iI_le hb ha).mpr h2))) ls H locs h hP hS)
theorem z_if_gt (X : zX p s m args c cc nL own D G ad) {a off : Int} (tgt : Nat) (d : decode cc pc = .ok (.ifCond .gt off, 3)) (ht : (pc : Int) + off = (tgt : Int)) (ha : zB a)
    (kt : 0 < a → zV p l e R s m args below meth c nL D G ad cells slots Q tgt lv st σ) (kf : a ≤ 0 → zV p l e R s m args below meth c nL D G ad cells slots Q (pc + 3) lv st σ) : zV p l e R s m args below meth c nL D G ad cells slots Q pc lv (vI a :: st) σ :=
  fun ls H locs h hP hS => lv_if_gt X.1 X.2.1 d ht (fun h1 => kt ((iI_0lt ha).mp h1) ls H locs h hP hS) (fun h1 => kf (Int.not_lt.mp (fun h2 => h1 ((iI_0lt ha).mpr h2))) ls H locs h hP hS)
theorem z_icmp_gt (X : zX p s m args c cc nL own D G ad) {a b off : Int} (tgt : Nat) (d : decode cc pc = .ok (.if_icmp .gt off, 3)) (ht : (pc : Int) + off = (tgt : Int)) (ha : zB a) (hb : zB b)
    (kt : b < a → zV p l e R s m args below meth c nL D G ad cells slots Q tgt lv st σ) (kf : a ≤ b → zV p l e R s m args below meth c nL D G ad cells slots Q (pc + 3) lv st σ) : zV p l e R s m args below meth c nL D G ad cells slots Q pc lv (vI b :: vI a :: st) σ :=
  fun ls H locs h hP hS => lv_icmp_gt X.1 X.2.1 d ht (fun h1 => kt ((iI_lt hb ha).mp h1) ls H locs h hP hS) (fun h1 => kf (Int.not_lt.mp (fun h2 => h1 ((iI_lt hb ha).mpr h2))) ls H locs h hP hS)
theorem z_if_le (X : zX p s m args c cc nL own D G ad) {a off : Int} (tgt : Nat) (d : decode cc pc = .ok (.ifCond .le off, 3)) (ht : (pc : Int) + off = (tgt : Int)) (ha : zB a)
    (kt : a ≤ 0 → zV p l e R s m args below meth c nL D G ad cells slots Q tgt lv st σ) (kf : 0 < a → zV p l e R s m args below meth c nL D G ad cells slots Q (pc + 3) lv st σ) : zV p l e R s m args below meth c nL D G ad cells slots Q pc lv (vI a :: st) σ :=
  fun ls H locs h hP hS => lv_if_le X.1 X.2.1 d ht (fun h1 => kt ((iI_le0 ha).mp h1) ls H locs h hP hS) (fun h1 => kf (Int.not_le.mp (fun h2 => h1 ((iI_le0 ha).mpr h2))) ls H locs h hP hS)
theorem z_icmp_le (X : zX p s m args c cc nL own D G ad) {a b off : Int} (tgt : Nat) (d : decode cc pc = .ok (.if_icmp .le off, 3)) (ht : (pc : Int) + off = (tgt : Int)) (ha : zB a) (hb : zB b)
    (kt : a ≤ b → zV p l e R s m args below meth c nL D G ad cells slots Q tgt lv st σ) (kf : b < a → zV p l e R s m args below meth c nL D G ad cells slots Q (pc + 3) lv st σ) : zV p l e R s m args below meth c nL D G ad cells slots Q pc lv (vI b :: vI a :: st) σ :=
  fun ls H locs h hP hS => lv_icmp_le X.1 X.2.1 d ht (fun h1 => kt ((iI_le ha hb).mp h1) ls H locs h hP hS) (fun h1 => kf (Int.not_le.mp (fun h2 => h1 ((iI_le ha hb).mpr h2))) ls H locs h hP hS)
end Z
