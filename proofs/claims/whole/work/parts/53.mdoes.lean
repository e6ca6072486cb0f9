def mCan (L F S T : Int) (V : zNt) : Bool :=
  if L = 116 then true else if L = 120 then decide (cUp V F) else if L = 117 then decide (¬ cUp V F) else if L = 100 then decide (cHas V F ∧ cCanDecide V F)
  else if L = 103 then decide (cHas V F ∧ cCanTell V F S) else if L = 97 then decide (cHas V F ∧ (cUp V S ∧ cUp V T ∧ cSt V F S = 1)) else decide (cHas V F ∧ cCanVote V F S)
def mDo (L F S T : Int) (V : zNt) : zNt :=
  if L = 116 then aPassL V F.toNat else if L = 120 then cSil V F else if L = 117 then aWkN V F else if L = 100 then cSettle V F (cDecV V F)
  else if L = 103 then aTell V F S else if L = 97 then aAsk V F S T else aEnter V F S (mVoteV V F S (if L = 121 then 1 else 0))
def rPr (N : zNt) : Prop := (N 0 6 = 116 ∧ 1 ≤ N 0 7 ∧ N 0 7 ≤ 20) ∨ ((N 0 6 = 120 ∨ N 0 6 = 117) ∧ 0 ≤ N 0 7 ∧ N 0 7 ≤ 5) ∨ (N 0 6 = 100 ∧ 0 ≤ N 0 7 ∧ N 0 7 ≤ 7) ∨ ((N 0 6 = 121 ∨ N 0 6 = 110 ∨ N 0 6 = 103) ∧ (0 ≤ N 0 7 ∧ N 0 7 ≤ 7) ∧ 0 ≤ N 0 8 ∧ N 0 8 ≤ 5) ∨ (N 0 6 = 97 ∧ (0 ≤ N 0 7 ∧ N 0 7 ≤ 7) ∧ (0 ≤ N 0 8 ∧ N 0 8 ≤ 5) ∧ (0 ≤ N 0 9 ∧ N 0 9 ≤ 5) ∧ N 0 8 ≠ N 0 9)
theorem mCan_x {L F S T : Int} {V : zNt} (h : L = 120) (c : mCan L F S T V = true) : cUp V F := by subst h; exact of_decide_eq_true c
theorem mCan_u {L F S T : Int} {V : zNt} (h : L = 117) (c : mCan L F S T V = true) : ¬ cUp V F := by subst h; exact of_decide_eq_true c
theorem mCan_d {L F S T : Int} {V : zNt} (h : L = 100) (c : mCan L F S T V = true) : cHas V F ∧ cCanDecide V F := by subst h; exact of_decide_eq_true c
theorem mCan_g {L F S T : Int} {V : zNt} (h : L = 103) (c : mCan L F S T V = true) : cHas V F ∧ cCanTell V F S := by subst h; exact of_decide_eq_true c
theorem mCan_a {L F S T : Int} {V : zNt} (h : L = 97) (c : mCan L F S T V = true) : cHas V F ∧ (cUp V S ∧ cUp V T ∧ cSt V F S = 1) := by subst h; exact of_decide_eq_true c
theorem mCan_v {L F S T : Int} {V : zNt} (h : L ≠ 97 ∧ L ≠ 100 ∧ L ≠ 103 ∧ L ≠ 116 ∧ L ≠ 117 ∧ L ≠ 120) (c : mCan L F S T V = true) : cHas V F ∧ cCanVote V F S := by
  obtain ⟨h1, h2, h3, h4, h5, h6⟩ := h
  unfold mCan at c
  rw [if_neg h4, if_neg h6, if_neg h5, if_neg h2, if_neg h3, if_neg h1] at c
  exact of_decide_eq_true c
theorem mCan_xr {L F S T : Int} {V : zNt} (h : L = 120) (c : cUp V F) : mCan L F S T V = true := by subst h; exact decide_eq_true c
theorem mCan_ur {L F S T : Int} {V : zNt} (h : L = 117) (c : ¬ cUp V F) : mCan L F S T V = true := by subst h; exact decide_eq_true c
theorem mCan_dr {L F S T : Int} {V : zNt} (h : L = 100) (c : cHas V F ∧ cCanDecide V F) : mCan L F S T V = true := by subst h; exact decide_eq_true c
theorem mCan_gr {L F S T : Int} {V : zNt} (h : L = 103) (c : cHas V F ∧ cCanTell V F S) : mCan L F S T V = true := by subst h; exact decide_eq_true c
theorem mCan_ar {L F S T : Int} {V : zNt} (h : L = 97) (c : cHas V F ∧ (cUp V S ∧ cUp V T ∧ cSt V F S = 1)) : mCan L F S T V = true := by subst h; exact decide_eq_true c
theorem mCan_tr {L F S T : Int} {V : zNt} (h : L = 116) : mCan L F S T V = true := by subst h; rfl
theorem mCan_vr {L F S T : Int} {V : zNt} (h : L ≠ 97 ∧ L ≠ 100 ∧ L ≠ 103 ∧ L ≠ 116 ∧ L ≠ 117 ∧ L ≠ 120) (c : cHas V F ∧ cCanVote V F S) : mCan L F S T V = true := by
  obtain ⟨h1, h2, h3, h4, h5, h6⟩ := h
  unfold mCan
  rw [if_neg h4, if_neg h6, if_neg h5, if_neg h2, if_neg h3, if_neg h1]
  exact decide_eq_true c
theorem ite_iff {P Q : Prop} [Decidable P] [Decidable Q] (h : P ↔ Q) : (if P then (1 : Int) else 0) = if Q then 1 else 0 := by
  by_cases p : P
  · rw [if_pos p, if_pos (h.mp p)]
  · rw [if_neg p, if_neg (fun q => p (h.mpr q))]
theorem mDo_t {L F S T : Int} {V : zNt} (h : L = 116) : aPassL V F.toNat = mDo L F S T V := by subst h; rfl
theorem mDo_x {L F S T : Int} {V : zNt} (h : L = 120) : cSil V F = mDo L F S T V := by subst h; rfl
theorem mDo_u {L F S T : Int} {V : zNt} (h : L = 117) : aWkN V F = mDo L F S T V := by subst h; rfl
theorem mDo_d {L F S T : Int} {V : zNt} (h : L = 100) : cSettle V F (cDecV V F) = mDo L F S T V := by subst h; rfl
theorem mDo_g {L F S T : Int} {V : zNt} (h : L = 103) : aTell V F S = mDo L F S T V := by subst h; rfl
theorem mDo_a {L F S T : Int} {V : zNt} (h : L = 97) : aAsk V F S T = mDo L F S T V := by subst h; rfl
theorem mDo_v {L F S T : Int} {V : zNt} (h : L ≠ 97 ∧ L ≠ 100 ∧ L ≠ 103 ∧ L ≠ 116 ∧ L ≠ 117 ∧ L ≠ 120) : aEnter V F S (mVoteV V F S (if L = 121 then 1 else 0)) = mDo L F S T V := by
  obtain ⟨h1, h2, h3, h4, h5, h6⟩ := h
  unfold mDo
  rw [if_neg h4, if_neg h6, if_neg h5, if_neg h2, if_neg h3, if_neg h1]
theorem mDo_v1 {L F S T : Int} {V : zNt} (h : L ≠ 97 ∧ L ≠ 100 ∧ L ≠ 103 ∧ L ≠ 116 ∧ L ≠ 117 ∧ L ≠ 120) (e : L = 121) : aEnter V F S (mVoteV V F S 1) = mDo L F S T V := by rw [← mDo_v h, if_pos e]
theorem mDo_v0 {L F S T : Int} {V : zNt} (h : L ≠ 97 ∧ L ≠ 100 ∧ L ≠ 103 ∧ L ≠ 116 ∧ L ≠ 117 ∧ L ≠ 120) (e : ¬ L = 121) : aEnter V F S (mVoteV V F S 0) = mDo L F S T V := by rw [← mDo_v h, if_neg e]
theorem cEnd_iff {v : Int} (h : cEnd v) : v = 2 ∨ v = 3 := by revert h; unfold cEnd; omega
theorem px_48 {N : zNt} (h : pX N 48) : pOk N := ⟨h.1, fun j hj => h.2 j hj (by omega)⟩
theorem iv_aWk1 {N : zNt} (ok : rOk N) (bd : Bud N) (px : pX N 48) {d s : Int} : rOk (aWk1 N d s) ∧ Bud (aWk1 N d s) ∧ pX (aWk1 N d s) 48 := by
  unfold aWk1; split
  · rename_i h
    exact ⟨rk_aEnter ok (by decide) (by rw [h]; decide), bd_aEnter (rk_n ok) bd (Or.inl ⟨h, by decide⟩), px_aEnter px _ _ _⟩
  · exact ⟨ok, bd, px⟩
theorem iv_cWk2 {N : zNt} (ok : rOk N) (bd : Bud N) (px : pX N 48) {d s : Int} (hd : cHas N d) : rOk (cWk2 N d s) ∧ Bud (cWk2 N d s) ∧ pX (cWk2 N d s) 48 := by
  unfold cWk2; split
  · rename_i h
    exact ⟨rk_settle ok (by decide), bd_settle ok bd hd h.2 (by decide), px_settle px _ _⟩
  · exact ⟨ok, bd, px⟩
theorem n_aWk1 (N : zNt) (d s : Int) : aWk1 N d s 0 0 = N 0 0 := by unfold aWk1; split; exact n_aEnter _ _ _ _ 0; rfl
theorem n_cWk2 (N : zNt) (d s : Int) : cWk2 N d s 0 0 = N 0 0 := by unfold cWk2; split; exact n_settle _ _ _ 0; rfl
theorem iv_aWkL {N : zNt} (ok : rOk N) (bd : Bud N) (px : pX N 48) (s : Int) : ∀ k : Nat, (k : Int) ≤ N 0 0 → (rOk (aWkL N s k) ∧ Bud (aWkL N s k) ∧ pX (aWkL N s k) 48) ∧ aWkL N s k 0 0 = N 0 0
  | 0, _ => ⟨⟨ok, bd, px⟩, rfl⟩
  | k + 1, h => by
    obtain ⟨⟨h1, h2, h3⟩, h4⟩ := iv_aWkL ok bd px s k (by omega)
    have q := iv_aWk1 h1 h2 h3 (d := k) (s := s)
    have e := n_aWk1 (aWkL N s k) k s
    rw [aWkL]
    exact ⟨iv_cWk2 q.1 q.2.1 q.2.2 ⟨by omega, by rw [e, h4]; omega⟩, by rw [n_cWk2, e, h4]⟩
theorem iv_aWkN {N : zNt} (ok : rOk N) (bd : Bud N) (pk : pOk N) (s : Int) : rOk (aWkN N s) ∧ Bud (aWkN N s) ∧ pOk (aWkN N s) := by
  have h := (iv_aWkL (N := cWk N s) (rk_up ok _) (bd_up bd _) (px_cg (pk_px pk 48) rfl (fun _ => rfl) (fun _ => rfl)) s (N 0 0).toNat (by have := rk_n ok; show _ ≤ N 0 0; omega)).1
  exact ⟨h.1, h.2.1, px_48 h.2.2⟩
theorem px_aTell {N : zNt} {j0 : Nat} (h : pX N j0) (d s : Int) : pX (aTell N d s) j0 := by
  unfold aTell; split
  · exact px_aEnter h _ _ _
  · exact h
theorem iv_mDo {N V : zNt} (ok : rOk V) (bd : Bud V) (pk : pOk V) (pr : rPr N) (cn : mCan (N 0 6) (N 0 7) (N 0 8) (N 0 9) V = true) : rOk (mDo (N 0 6) (N 0 7) (N 0 8) (N 0 9) V) ∧ Bud (mDo (N 0 6) (N 0 7) (N 0 8) (N 0 9) V) ∧ pOk (mDo (N 0 6) (N 0 7) (N 0 8) (N 0 9) V) := by
  have px := pk_px pk 48
  rcases (show N 0 6 = 97 ∨ N 0 6 = 100 ∨ N 0 6 = 103 ∨ N 0 6 = 116 ∨ N 0 6 = 117 ∨ N 0 6 = 120 ∨ (N 0 6 ≠ 97 ∧ N 0 6 ≠ 100 ∧ N 0 6 ≠ 103 ∧ N 0 6 ≠ 116 ∧ N 0 6 ≠ 117 ∧ N 0 6 ≠ 120) by omega) with h | h | h | h | h | h | h
  · rw [← mDo_a h]
    have c := mCan_a h cn
    exact ⟨rk_aAsk ok c.1 c.2.2.2, bd_aAsk ok bd c.1 c.2.2.2, px_48 (px_aAsk px _ _ _)⟩
  · rw [← mDo_d h]
    have c := mCan_d h cn
    have hv := rg_decV V (N 0 7)
    exact ⟨rk_settle ok ⟨by omega, by omega⟩, bd_settle ok bd c.1 c.2.2 (by omega), px_48 (px_settle px _ _)⟩
  · rw [← mDo_g h]
    have c := mCan_g h cn
    exact ⟨rk_aTell ok c.1, bd_aTell ok bd c.1 (cEnd_iff c.2.2.2.2), px_48 (px_aTell px _ _)⟩
  · rw [← mDo_t h]; exact iv_aPassL ok bd pk _
  · rw [← mDo_u h]; exact iv_aWkN ok bd pk _
  · rw [← mDo_x h]; exact ⟨rk_up ok _, bd_up bd _, px_48 (px_cg px rfl (fun _ => rfl) (fun _ => rfl))⟩
  · rw [← mDo_v h]
    have c := mCan_v h cn
    have hv : mVoteV V (N 0 7) (N 0 8) (if N 0 6 = 121 then 1 else 0) = 1 ∨ mVoteV V (N 0 7) (N 0 8) (if N 0 6 = 121 then 1 else 0) = 3 := by unfold mVoteV; split <;> omega
    exact ⟨rk_aEnter ok (by omega) (by rw [c.2.2]; decide), bd_aEnter (rk_n ok) bd (Or.inl ⟨c.2.2, by omega⟩), px_48 (px_aEnter px _ _ _)⟩
set_option maxHeartbeats 4000000 in
set_option maxRecDepth 100000 in
theorem c_X4_can {l : Launch} {D : va_G} {G : zG} {ad : Nat → Nat} (hJ : zInj ad) (σ : zM) {N : Nat → Nat → Int}   (ok : rOk (mV N 0)) (pr : rPr N) : zKI l D G ad yX4_can cX4_can 1 (some .boolean) 4 [.ref (ad 5)] (zBk σ 5 3 N) (fun z σ9 => z = (if mCan (N 0 6) (N 0 7) (N 0 8) (N 0 9) (mV N 0) = true then 1 else 0) ∧ σ9 = (zBk σ 5 3 N)) := by
  intro sz
  refine z_open hJ (by decide +kernel) (Nat.le_of_ble_eq_true rfl) ?_
  intro p e s0 m args below meth c hsz X hr hlocks
  have pr1 := pr
  unfold rPr at pr1
  have hn := rk_n ok
  refine z_sub [(0, .ref (ad 5))] (zSub_cons rfl zSub_nil) ?_
  refine z_aload_n X dX4_can_0 rfl ?_
  refine y_gMod6 X fX4_155 dX4_can_1 ?_
  have hb_2 : zB (N 0 6) := (by unfold zB; omega)
  rcases (show (N 0 6) = 97 ∨ (N 0 6) = 100 ∨ (N 0 6) = 103 ∨ (N 0 6) = 116 ∨ (N 0 6) = 117 ∨ (N 0 6) = 120 ∨ ((N 0 6) ≠ 97 ∧ (N 0 6) ≠ 100 ∧ (N 0 6) ≠ 103 ∧ (N 0 6) ≠ 116 ∧ (N 0 6) ≠ 117 ∧ (N 0 6) ≠ 120) by omega) with lk97_2 | lk100_2 | lk103_2 | lk116_2 | lk117_2 | lk120_2 | lkD_2
  · refine z_lookIn X 97 154 150 lk97_2 dX4_can_4 (by decide) (by decide) (by decide) ?_
    refine z_aload_n X dX4_can_154 rfl ?_
    refine z_aload_n X dX4_can_155 rfl ?_
    refine y_gMod7 X fX4_152 dX4_can_156 ?_
    refine z_callVI1 X (c_X4_isDeal hJ _ (by unfold zB; omega) ok) kX4_96 rfl (by decide) rfl ⟨(Nat.le_of_ble_eq_true rfl), (Nat.le_of_ble_eq_true rfl)⟩ (Nat.le_of_ble_eq_true rfl) ⟨Nat.zero_le _, Nat.zero_le _⟩ dX4_can_159 (fun z9 σ1 hz9 => ?_)
    obtain ⟨rfl, rfl⟩ := hz9
    refine z_ifb_eq X 188 dX4_can_162 (by decide) (fun c_4 => ?_) (fun c_4 => ?_)
    · refine z_iconst X dX4_can_188 ?_
      exact z_zret X hsz hr hlocks dX4_can_189 (Or.inl rfl) ⟨(if_neg (fun q => c_4 (mCan_a lk97_2 q).1)).symm, rfl⟩
    · refine z_aload_n X dX4_can_165 rfl ?_
      refine z_aload_n X dX4_can_166 rfl ?_
      refine y_gMod7 X fX4_152 dX4_can_167 ?_
      refine z_aload_n X dX4_can_170 rfl ?_
      refine y_gMod8 X fX4_165 dX4_can_171 ?_
      refine z_aload_n X dX4_can_174 rfl ?_
      refine y_gMod9 X fX4_168 dX4_can_175 ?_
      refine z_callVI3 X (c_X4_canAsk hJ _ (by unfold zB; omega) (by unfold zB; omega) (by unfold zB; omega) ok (by first | omega | assumption | grind) (by omega) (by omega)) kX4_115 rfl (by decide) rfl ⟨(Nat.le_of_ble_eq_true rfl), (Nat.le_of_ble_eq_true rfl)⟩ (Nat.le_of_ble_eq_true rfl) ⟨Nat.zero_le _, Nat.zero_le _⟩ dX4_can_178 (fun z9 σ1 hz9 => ?_)
      obtain ⟨rfl, rfl⟩ := hz9
      refine z_ifb_eq X 188 dX4_can_181 (by decide) (fun c_6 => ?_) (fun c_6 => ?_)
      · refine z_iconst X dX4_can_188 ?_
        exact z_zret X hsz hr hlocks dX4_can_189 (Or.inl rfl) ⟨(if_neg (fun q => c_6 (mCan_a lk97_2 q).2)).symm, rfl⟩
      · refine z_iconst X dX4_can_184 ?_
        refine z_goto X 189 dX4_can_185 (by decide) ?_
        exact z_zret X hsz hr hlocks dX4_can_189 (Or.inr rfl) ⟨(if_pos (mCan_ar lk97_2 ⟨c_4, c_6⟩)).symm, rfl⟩
  · refine z_lookIn X 100 94 90 lk100_2 dX4_can_4 (by decide) (by decide) (by decide) ?_
    refine z_aload_n X dX4_can_94 rfl ?_
    refine z_aload_n X dX4_can_95 rfl ?_
    refine y_gMod7 X fX4_152 dX4_can_96 ?_
    refine z_callVI1 X (c_X4_isDeal hJ _ (by unfold zB; omega) ok) kX4_96 rfl (by decide) rfl ⟨(Nat.le_of_ble_eq_true rfl), (Nat.le_of_ble_eq_true rfl)⟩ (Nat.le_of_ble_eq_true rfl) ⟨Nat.zero_le _, Nat.zero_le _⟩ dX4_can_99 (fun z9 σ1 hz9 => ?_)
    obtain ⟨rfl, rfl⟩ := hz9
    refine z_ifb_eq X 120 dX4_can_102 (by decide) (fun c_8 => ?_) (fun c_8 => ?_)
    · refine z_iconst X dX4_can_120 ?_
      exact z_zret X hsz hr hlocks dX4_can_121 (Or.inl rfl) ⟨(if_neg (fun q => c_8 (mCan_d lk100_2 q).1)).symm, rfl⟩
    · refine z_aload_n X dX4_can_105 rfl ?_
      refine z_aload_n X dX4_can_106 rfl ?_
      refine y_gMod7 X fX4_152 dX4_can_107 ?_
      refine z_callVI1 X (c_X4_canDecide hJ _ (by unfold zB; omega) ok (by first | omega | assumption | grind)) kX4_106 rfl (by decide) rfl ⟨(Nat.le_of_ble_eq_true rfl), (Nat.le_of_ble_eq_true rfl)⟩ (Nat.le_of_ble_eq_true rfl) ⟨Nat.zero_le _, Nat.zero_le _⟩ dX4_can_110 (fun z9 σ1 hz9 => ?_)
      obtain ⟨rfl, rfl⟩ := hz9
      refine z_ifb_eq X 120 dX4_can_113 (by decide) (fun c_10 => ?_) (fun c_10 => ?_)
      · refine z_iconst X dX4_can_120 ?_
        exact z_zret X hsz hr hlocks dX4_can_121 (Or.inl rfl) ⟨(if_neg (fun q => c_10 (mCan_d lk100_2 q).2)).symm, rfl⟩
      · refine z_iconst X dX4_can_116 ?_
        refine z_goto X 121 dX4_can_117 (by decide) ?_
        exact z_zret X hsz hr hlocks dX4_can_121 (Or.inr rfl) ⟨(if_pos (mCan_dr lk100_2 ⟨c_8, c_10⟩)).symm, rfl⟩
  · refine z_lookIn X 103 122 118 lk103_2 dX4_can_4 (by decide) (by decide) (by decide) ?_
    refine z_aload_n X dX4_can_122 rfl ?_
    refine z_aload_n X dX4_can_123 rfl ?_
    refine y_gMod7 X fX4_152 dX4_can_124 ?_
    refine z_callVI1 X (c_X4_isDeal hJ _ (by unfold zB; omega) ok) kX4_96 rfl (by decide) rfl ⟨(Nat.le_of_ble_eq_true rfl), (Nat.le_of_ble_eq_true rfl)⟩ (Nat.le_of_ble_eq_true rfl) ⟨Nat.zero_le _, Nat.zero_le _⟩ dX4_can_127 (fun z9 σ1 hz9 => ?_)
    obtain ⟨rfl, rfl⟩ := hz9
    refine z_ifb_eq X 152 dX4_can_130 (by decide) (fun c_12 => ?_) (fun c_12 => ?_)
    · refine z_iconst X dX4_can_152 ?_
      exact z_zret X hsz hr hlocks dX4_can_153 (Or.inl rfl) ⟨(if_neg (fun q => c_12 (mCan_g lk103_2 q).1)).symm, rfl⟩
    · refine z_aload_n X dX4_can_133 rfl ?_
      refine z_aload_n X dX4_can_134 rfl ?_
      refine y_gMod7 X fX4_152 dX4_can_135 ?_
      refine z_aload_n X dX4_can_138 rfl ?_
      refine y_gMod8 X fX4_165 dX4_can_139 ?_
      refine z_callVI2 X (c_X4_canTell hJ _ (by unfold zB; omega) (by unfold zB; omega) ok (by first | omega | assumption | grind) (by omega)) kX4_112 rfl (by decide) rfl ⟨(Nat.le_of_ble_eq_true rfl), (Nat.le_of_ble_eq_true rfl)⟩ (Nat.le_of_ble_eq_true rfl) ⟨Nat.zero_le _, Nat.zero_le _⟩ dX4_can_142 (fun z9 σ1 hz9 => ?_)
      obtain ⟨rfl, rfl⟩ := hz9
      refine z_ifb_eq X 152 dX4_can_145 (by decide) (fun c_14 => ?_) (fun c_14 => ?_)
      · refine z_iconst X dX4_can_152 ?_
        exact z_zret X hsz hr hlocks dX4_can_153 (Or.inl rfl) ⟨(if_neg (fun q => c_14 (mCan_g lk103_2 q).2)).symm, rfl⟩
      · refine z_iconst X dX4_can_148 ?_
        refine z_goto X 153 dX4_can_149 (by decide) ?_
        exact z_zret X hsz hr hlocks dX4_can_153 (Or.inr rfl) ⟨(if_pos (mCan_gr lk103_2 ⟨c_12, c_14⟩)).symm, rfl⟩
  · refine z_lookIn X 116 64 60 lk116_2 dX4_can_4 (by decide) (by decide) (by decide) ?_
    refine z_iconst X dX4_can_64 ?_
    exact z_zret X hsz hr hlocks dX4_can_65 (Or.inr rfl) ⟨(if_pos (mCan_tr lk116_2)).symm, rfl⟩
  · refine z_lookIn X 117 76 72 lk117_2 dX4_can_4 (by decide) (by decide) (by decide) ?_
    refine z_aload_n X dX4_can_76 rfl ?_
    refine z_iconst X dX4_can_77 ?_
    refine z_aload_n X dX4_can_78 rfl ?_
    refine y_gMod7 X fX4_152 dX4_can_79 ?_
    refine z_callVI2 X (c_X4_isUpNow hJ _ ⟨by decide, by decide⟩ (by unfold zB; omega) (by omega) (by omega)) kX4_58 rfl (by decide) rfl ⟨(Nat.le_of_ble_eq_true rfl), (Nat.le_of_ble_eq_true rfl)⟩ (Nat.le_of_ble_eq_true rfl) ⟨Nat.zero_le _, Nat.zero_le _⟩ dX4_can_82 (fun z9 σ1 hz9 => ?_)
    obtain ⟨rfl, rfl⟩ := hz9
    refine z_ifb_ne X 92 dX4_can_85 (by decide) (fun c_16 => ?_) (fun c_16 => ?_)
    · refine z_iconst X dX4_can_92 ?_
      exact z_zret X hsz hr hlocks dX4_can_93 (Or.inl rfl) ⟨(if_neg (fun q => mCan_u lk117_2 q c_16)).symm, rfl⟩
    · refine z_iconst X dX4_can_88 ?_
      refine z_goto X 93 dX4_can_89 (by decide) ?_
      exact z_zret X hsz hr hlocks dX4_can_93 (Or.inr rfl) ⟨(if_pos (mCan_ur lk117_2 c_16)).symm, rfl⟩
  · refine z_lookIn X 120 66 62 lk120_2 dX4_can_4 (by decide) (by decide) (by decide) ?_
    refine z_aload_n X dX4_can_66 rfl ?_
    refine z_iconst X dX4_can_67 ?_
    refine z_aload_n X dX4_can_68 rfl ?_
    refine y_gMod7 X fX4_152 dX4_can_69 ?_
    refine z_callVI2 X (c_X4_isUpNow hJ _ ⟨by decide, by decide⟩ (by unfold zB; omega) (by omega) (by omega)) kX4_58 rfl (by decide) rfl ⟨(Nat.le_of_ble_eq_true rfl), (Nat.le_of_ble_eq_true rfl)⟩ (Nat.le_of_ble_eq_true rfl) ⟨Nat.zero_le _, Nat.zero_le _⟩ dX4_can_72 (fun z9 σ1 hz9 => ?_)
    obtain ⟨rfl, rfl⟩ := hz9
    exact z_zret X hsz hr hlocks dX4_can_75 zB01 ⟨(ite_iff ⟨fun z => mCan_xr lk120_2 z, fun z => mCan_x lk120_2 z⟩), rfl⟩
  · refine z_lookOut X hb_2 190 dX4_can_4 (by decide) (zLk6 lkD_2) (by decide) ?_
    refine z_aload_n X dX4_can_190 rfl ?_
    refine z_aload_n X dX4_can_191 rfl ?_
    refine y_gMod7 X fX4_152 dX4_can_192 ?_
    refine z_callVI1 X (c_X4_isDeal hJ _ (by unfold zB; omega) ok) kX4_96 rfl (by decide) rfl ⟨(Nat.le_of_ble_eq_true rfl), (Nat.le_of_ble_eq_true rfl)⟩ (Nat.le_of_ble_eq_true rfl) ⟨Nat.zero_le _, Nat.zero_le _⟩ dX4_can_195 (fun z9 σ1 hz9 => ?_)
    obtain ⟨rfl, rfl⟩ := hz9
    refine z_ifb_eq X 220 dX4_can_198 (by decide) (fun c_19 => ?_) (fun c_19 => ?_)
    · refine z_iconst X dX4_can_220 ?_
      exact z_zret X hsz hr hlocks dX4_can_221 (Or.inl rfl) ⟨(if_neg (fun q => c_19 (mCan_v lkD_2 q).1)).symm, rfl⟩
    · refine z_aload_n X dX4_can_201 rfl ?_
      refine z_aload_n X dX4_can_202 rfl ?_
      refine y_gMod7 X fX4_152 dX4_can_203 ?_
      refine z_aload_n X dX4_can_206 rfl ?_
      refine y_gMod8 X fX4_165 dX4_can_207 ?_
      refine z_callVI2 X (c_X4_canVote hJ _ (by unfold zB; omega) (by unfold zB; omega) ok (by first | omega | assumption | grind) (by omega)) kX4_99 rfl (by decide) rfl ⟨(Nat.le_of_ble_eq_true rfl), (Nat.le_of_ble_eq_true rfl)⟩ (Nat.le_of_ble_eq_true rfl) ⟨Nat.zero_le _, Nat.zero_le _⟩ dX4_can_210 (fun z9 σ1 hz9 => ?_)
      obtain ⟨rfl, rfl⟩ := hz9
      refine z_ifb_eq X 220 dX4_can_213 (by decide) (fun c_21 => ?_) (fun c_21 => ?_)
      · refine z_iconst X dX4_can_220 ?_
        exact z_zret X hsz hr hlocks dX4_can_221 (Or.inl rfl) ⟨(if_neg (fun q => c_21 (mCan_v lkD_2 q).2)).symm, rfl⟩
      · refine z_iconst X dX4_can_216 ?_
        refine z_goto X 221 dX4_can_217 (by decide) ?_
        exact z_zret X hsz hr hlocks dX4_can_221 (Or.inr rfl) ⟨(if_pos (mCan_vr lkD_2 ⟨c_19, c_21⟩)).symm, rfl⟩

set_option maxHeartbeats 4000000 in
set_option maxRecDepth 100000 in
theorem c_X4_does {l : Launch} {D : va_G} {G : zG} {ad : Nat → Nat} (hJ : zInj ad) (σ : zM) {N : Nat → Nat → Int}   (ok : rOk (mV N 0)) (bd : Bud (mV N 0)) (pk : pOk (mV N 0)) (pr : rPr N) (cn : mCan (N 0 6) (N 0 7) (N 0 8) (N 0 9) (mV N 0) = true) : zKV l D G ad yX4_does cX4_does 1 none 8 [.ref (ad 5)] (zBk σ 5 3 N) (fun σ9 => ∃ N9, σ9 = zBk σ 5 3 N9 ∧ mTo N N9 0 (mDo (N 0 6) (N 0 7) (N 0 8) (N 0 9) (mV N 0))) := by
  intro sz
  refine z_open hJ (by decide +kernel) (Nat.le_of_ble_eq_true rfl) ?_
  intro p e s0 m args below meth c hsz X hr hlocks
  have pr1 := pr
  unfold rPr at pr1
  have hn := rk_n ok
  refine z_sub [(0, .ref (ad 5))] (zSub_cons rfl zSub_nil) ?_
  refine z_aload_n X dX4_does_0 rfl ?_
  refine y_gMod6 X fX4_155 dX4_does_1 ?_
  have hb_2 : zB (N 0 6) := (by unfold zB; omega)
  rcases (show (N 0 6) = 97 ∨ (N 0 6) = 100 ∨ (N 0 6) = 103 ∨ (N 0 6) = 116 ∨ (N 0 6) = 117 ∨ (N 0 6) = 120 ∨ ((N 0 6) ≠ 97 ∧ (N 0 6) ≠ 100 ∧ (N 0 6) ≠ 103 ∧ (N 0 6) ≠ 116 ∧ (N 0 6) ≠ 117 ∧ (N 0 6) ≠ 120) by omega) with lk97_2 | lk100_2 | lk103_2 | lk116_2 | lk117_2 | lk120_2 | lkD_2
  · refine z_lookIn X 97 144 140 lk97_2 dX4_does_4 (by decide) (by decide) (by decide) ?_
    have hcn := mCan_a lk97_2 cn
    refine z_aload_n X dX4_does_144 rfl ?_
    refine z_iconst X dX4_does_145 ?_
    refine z_aload_n X dX4_does_146 rfl ?_
    refine y_gMod7 X fX4_152 dX4_does_147 ?_
    refine z_aload_n X dX4_does_150 rfl ?_
    refine y_gMod8 X fX4_165 dX4_does_151 ?_
    refine z_aload_n X dX4_does_154 rfl ?_
    refine y_gMod9 X fX4_168 dX4_does_155 ?_
    refine z_callVV4 X (c_X4_asks hJ _ ⟨by decide, by decide⟩ (by unfold zB; omega) (by unfold zB; omega) (by unfold zB; omega) (by omega) ok bd (by first | omega | assumption | grind) (by omega) (by omega) (by omega) (by first | omega | assumption | grind)) kX4_62 rfl (by decide) rfl ⟨(Nat.le_of_ble_eq_true rfl), (Nat.le_of_ble_eq_true rfl)⟩ (Nat.le_of_ble_eq_true rfl) ⟨Nat.zero_le _, Nat.zero_le _⟩ dX4_does_158 (fun σ1 hz9 => ?_)
    obtain ⟨N1, rfl, hT1⟩ := hz9
    have hnN1 : mV N1 0 0 0 = mV N 0 0 0 := by rw [hT1.1]; exact n_aAsk _ _ _ _ 0 (by decide)
    have okN1 : rOk (mV N1 0) := (by rw [hT1.1]; exact rk_aAsk ok (by first | omega | grind) (by first | omega | grind))
    have bdN1 : Bud (mV N1 0) := (by rw [hT1.1]; exact bd_aAsk ok bd (by first | omega | grind) (by first | omega | grind))
    refine z_goto X 190 dX4_does_161 (by decide) ?_
    exact z_vret X hsz hr hlocks dX4_does_190 ⟨N1, rfl, mDo_a lk97_2 ▸ hT1⟩
  · refine z_lookIn X 100 108 104 lk100_2 dX4_does_4 (by decide) (by decide) (by decide) ?_
    have hcn := mCan_d lk100_2 cn
    have hdv := rg_decV (mV N 0) (N 0 7)
    have hroom := bud_dc ok bd hcn.1 hcn.2.2
    refine z_aload_n X dX4_does_108 rfl ?_
    refine z_iconst X dX4_does_109 ?_
    refine z_aload_n X dX4_does_110 rfl ?_
    refine y_gMod7 X fX4_152 dX4_does_111 ?_
    refine z_aload_n X dX4_does_114 rfl ?_
    refine z_aload_n X dX4_does_115 rfl ?_
    refine y_gMod7 X fX4_152 dX4_does_116 ?_
    refine z_callVI1 X (c_X4_verdict hJ _ (by unfold zB; omega) ok (by first | omega | assumption | grind)) kX4_109 rfl (by decide) rfl ⟨(Nat.le_of_ble_eq_true rfl), (Nat.le_of_ble_eq_true rfl)⟩ (Nat.le_of_ble_eq_true rfl) ⟨Nat.zero_le _, Nat.zero_le _⟩ dX4_does_119 (fun z9 σ1 hz9 => ?_)
    obtain ⟨rfl, rfl⟩ := hz9
    refine z_callVV3 X (c_X4_decides hJ _ ⟨by decide, by decide⟩ (by unfold zB; omega) (zB_sm (rg_decV _ _)) (by omega) ok (by first | omega | grind) (by first | omega | assumption | grind) (bud_dc ok bd (by first | omega | assumption | grind) (by first | omega | grind))) kX4_49 rfl (by decide) rfl ⟨(Nat.le_of_ble_eq_true rfl), (Nat.le_of_ble_eq_true rfl)⟩ (Nat.le_of_ble_eq_true rfl) ⟨Nat.zero_le _, Nat.zero_le _⟩ dX4_does_122 (fun σ1 hz9 => ?_)
    obtain ⟨N2, rfl, hT2⟩ := hz9
    have hnN2 : mV N2 0 0 0 = mV N 0 0 0 := by rw [hT2.1]; exact n_settle _ _ _ 0
    have okN2 : rOk (mV N2 0) := (by rw [hT2.1]; exact rk_settle ok (by first | omega | grind))
    have bdN2 : Bud (mV N2 0) := (by rw [hT2.1]; exact bd_settle ok bd (by first | omega | assumption) (by first | omega | grind) (by first | omega | grind))
    refine z_goto X 190 dX4_does_125 (by decide) ?_
    exact z_vret X hsz hr hlocks dX4_does_190 ⟨N2, rfl, mDo_d lk100_2 ▸ hT2⟩
  · refine z_lookIn X 103 128 124 lk103_2 dX4_does_4 (by decide) (by decide) (by decide) ?_
    have hcn := mCan_g lk103_2 cn
    have hdc := cEnd_iff hcn.2.2.2.2
    refine z_aload_n X dX4_does_128 rfl ?_
    refine z_iconst X dX4_does_129 ?_
    refine z_aload_n X dX4_does_130 rfl ?_
    refine y_gMod7 X fX4_152 dX4_does_131 ?_
    refine z_aload_n X dX4_does_134 rfl ?_
    refine y_gMod8 X fX4_165 dX4_does_135 ?_
    refine z_callVV3 X (c_X4_tells hJ _ ⟨by decide, by decide⟩ (by unfold zB; omega) (by unfold zB; omega) (by omega) ok bd (by first | omega | assumption | grind) (by omega) (by first | omega | grind)) kX4_52 rfl (by decide) rfl ⟨(Nat.le_of_ble_eq_true rfl), (Nat.le_of_ble_eq_true rfl)⟩ (Nat.le_of_ble_eq_true rfl) ⟨Nat.zero_le _, Nat.zero_le _⟩ dX4_does_138 (fun σ1 hz9 => ?_)
    obtain ⟨N3, rfl, hT3⟩ := hz9
    have hnN3 : mV N3 0 0 0 = mV N 0 0 0 := by rw [hT3.1]; exact n_aTell _ _ _ 0
    have okN3 : rOk (mV N3 0) := (by rw [hT3.1]; exact rk_aTell ok (by first | omega | assumption))
    have bdN3 : Bud (mV N3 0) := (by rw [hT3.1]; exact bd_aTell ok bd (by first | omega | assumption) (by first | omega | grind))
    refine z_goto X 190 dX4_does_141 (by decide) ?_
    exact z_vret X hsz hr hlocks dX4_does_190 ⟨N3, rfl, mDo_g lk103_2 ▸ hT3⟩
  · refine z_lookIn X 116 64 60 lk116_2 dX4_does_4 (by decide) (by decide) (by decide) ?_
    refine z_aload_n X dX4_does_64 rfl ?_
    refine z_aload_n X dX4_does_65 rfl ?_
    refine y_gMod7 X fX4_152 dX4_does_66 ?_
    refine z_callVI1 X (c_X4_passes hJ _ (by unfold zB; omega) ok bd pk (by omega)) kX4_124 rfl (by decide) rfl ⟨(Nat.le_of_ble_eq_true rfl), (Nat.le_of_ble_eq_true rfl)⟩ (Nat.le_of_ble_eq_true rfl) ⟨Nat.zero_le _, Nat.zero_le _⟩ dX4_does_69 (fun z9 σ1 hz9 => ?_)
    obtain ⟨rfl, N4, rfl, hT4⟩ := hz9
    refine z_pop X dX4_does_72 rfl ?_
    refine z_goto X 190 dX4_does_73 (by decide) ?_
    exact z_vret X hsz hr hlocks dX4_does_190 ⟨N4, rfl, mDo_t lk116_2 ▸ hT4⟩
  · refine z_lookIn X 117 96 92 lk117_2 dX4_does_4 (by decide) (by decide) (by decide) ?_
    have hcn := mCan_u lk117_2 cn
    refine z_aload_n X dX4_does_96 rfl ?_
    refine z_aload_n X dX4_does_97 rfl ?_
    refine y_gMod7 X fX4_152 dX4_does_98 ?_
    refine z_callVI1 X (c_X4_comes hJ _ (by unfold zB; omega) ok bd (by omega)) kX4_121 rfl (by decide) rfl ⟨(Nat.le_of_ble_eq_true rfl), (Nat.le_of_ble_eq_true rfl)⟩ (Nat.le_of_ble_eq_true rfl) ⟨Nat.zero_le _, Nat.zero_le _⟩ dX4_does_101 (fun z9 σ1 hz9 => ?_)
    obtain ⟨rfl, N5, rfl, hT5⟩ := hz9
    refine z_pop X dX4_does_104 rfl ?_
    refine z_goto X 190 dX4_does_105 (by decide) ?_
    exact z_vret X hsz hr hlocks dX4_does_190 ⟨N5, rfl, mDo_u lk117_2 ▸ hT5⟩
  · refine z_lookIn X 120 76 72 lk120_2 dX4_does_4 (by decide) (by decide) (by decide) ?_
    have hcn := mCan_x lk120_2 cn
    refine z_aload_n X dX4_does_76 rfl ?_
    refine y_gMod1 X fX4_7 dX4_does_77 ?_
    refine z_iconst X dX4_does_80 ?_
    refine z_dup2 X dX4_does_81 rfl rfl ?_
    refine y_iald X 1 (zArr_6) (by decide) (by omega) (by omega) (by decide) dX4_does_82 ?_
    refine z_iconst X dX4_does_83 ?_
    refine z_aload_n X dX4_does_84 rfl ?_
    refine y_gMod7 X fX4_152 dX4_does_85 ?_
    refine z_shl X dX4_does_88 (zShl_eq 1 (N 0 7)) ?_
    refine z_iconst X dX4_does_89 ?_
    refine z_xor X dX4_does_90 (zXor_eq (zShl 1 (N 0 7)) (-1)) ?_
    refine z_and X dX4_does_91 (zAnd_eq (N 1 (0 : Int).toNat) (zXor (zShl 1 (N 0 7)) (-1))) ?_
    refine y_iast X 1 (zArr_6) (by decide) (by omega) (by omega) (by decide) dX4_does_92 ?_
    obtain ⟨Nw, hNw⟩ : ∃ Nw, Nw = (up2 N 1 (0 : Int).toNat (zAnd (N 1 (0 : Int).toNat) (zXor (zShl 1 (N 0 7)) (-1)))) := ⟨_, rfl⟩
    rw [← hNw]
    have hTw : mTo N Nw 0 (cSil (mV N 0) (N 0 7)) := by rw [hNw]; exact ml_sil (N 0 7)
    refine z_goto X 190 dX4_does_93 (by decide) ?_
    exact z_vret X hsz hr hlocks dX4_does_190 ⟨Nw, rfl, mDo_x lk120_2 ▸ hTw⟩
  · refine z_lookOut X hb_2 164 dX4_does_4 (by decide) (zLk6 lkD_2) (by decide) ?_
    have hcn := mCan_v lkD_2 cn
    refine z_aload_n X dX4_does_164 rfl ?_
    refine z_aload_n X dX4_does_165 rfl ?_
    refine y_gMod7 X fX4_152 dX4_does_166 ?_
    refine z_aload_n X dX4_does_169 rfl ?_
    refine y_gMod8 X fX4_165 dX4_does_170 ?_
    refine z_aload_n X dX4_does_173 rfl ?_
    refine y_gMod6 X fX4_155 dX4_does_174 ?_
    refine z_bipush X dX4_does_177 rfl ?_
    refine z_icmp_ne X 186 dX4_does_179 (by decide) (by first | assumption | (unfold zB at *; omega)) ⟨by decide, by decide⟩ (fun c_9 => ?_) (fun c_9 => ?_)
    · refine z_iconst X dX4_does_186 ?_
      refine z_callVV3 X (c_X4_votes hJ _ (by first | assumption | (unfold zB at *; omega)) (by unfold zB; omega) ⟨by decide, by decide⟩ ok bd (by first | omega | assumption | grind)) kX4_102 rfl (by decide) rfl ⟨(Nat.le_of_ble_eq_true rfl), (Nat.le_of_ble_eq_true rfl)⟩ (Nat.le_of_ble_eq_true rfl) ⟨Nat.zero_le _, Nat.zero_le _⟩ dX4_does_187 (fun σ1 hz9 => ?_)
      obtain ⟨N6, rfl, hT6⟩ := hz9
      have hnN6 : mV N6 0 0 0 = mV N 0 0 0 := by rw [hT6.1]; exact n_aEnter _ _ _ _ 0
      have okN6 : rOk (mV N6 0) := (by rw [hT6.1]; exact rk_aEnter ok (by unfold mVoteV; split <;> decide) (by first | omega | grind))
      exact z_vret X hsz hr hlocks dX4_does_190 ⟨N6, rfl, mDo_v0 lkD_2 c_9 ▸ hT6⟩
    · refine z_iconst X dX4_does_182 ?_
      refine z_goto X 187 dX4_does_183 (by decide) ?_
      refine z_callVV3 X (c_X4_votes hJ _ (by first | assumption | (unfold zB at *; omega)) (by unfold zB; omega) ⟨by decide, by decide⟩ ok bd (by first | omega | assumption | grind)) kX4_102 rfl (by decide) rfl ⟨(Nat.le_of_ble_eq_true rfl), (Nat.le_of_ble_eq_true rfl)⟩ (Nat.le_of_ble_eq_true rfl) ⟨Nat.zero_le _, Nat.zero_le _⟩ dX4_does_187 (fun σ1 hz9 => ?_)
      obtain ⟨N7, rfl, hT7⟩ := hz9
      have hnN7 : mV N7 0 0 0 = mV N 0 0 0 := by rw [hT7.1]; exact n_aEnter _ _ _ _ 0
      have okN7 : rOk (mV N7 0) := (by rw [hT7.1]; exact rk_aEnter ok (by unfold mVoteV; split <;> decide) (by first | omega | grind))
      exact z_vret X hsz hr hlocks dX4_does_190 ⟨N7, rfl, mDo_v1 lkD_2 c_9 ▸ hT7⟩
