theorem n_aTkLx (N : zNt) : ∀ k : Nat, aTkL N k 0 0 = N 0 0
  | 0 => rfl
  | k + 1 => by rw [aTkL, n_aTk, n_aTkLx N k]
theorem nr_tickL {A B : zNt} (ok : cOk A) (rk : rOk B) (bd : Bud B) (pk : pOk B) {d : Nat} (hd : (d : Int) < B 0 0) (h : nRel A (aTkL B (6 * d))) : ∀ s : Nat, s ≤ 6 → nRel (cTickL A d s) (aTkL B (6 * d + s))
  | 0, _ => h
  | s + 1, hs => by
    have q := nr_tickL ok rk bd pk hd h s (by omega)
    have iv := iv_aTkL rk bd pk (6 * d + s) (by omega)
    have e1 : cTickL A d s 0 0 = B 0 0 := by rw [n_tickL, nr_n h, n_aTkLx]
    rw [cTickL, show 6 * d + (s + 1) = (6 * d + s) + 1 by omega, aTkL]
    exact nr_tickS (ok_tickL ok d s) iv.1 iv.2.1 iv.2.2 q ⟨by omega, by rw [e1]; exact hd⟩ ⟨by omega, by omega⟩ (by omega)
theorem nr_tickA {A B : zNt} (ok : cOk A) (rk : rOk B) (bd : Bud B) (pk : pOk B) (h : nRel A B) : ∀ d : Nat, (d : Int) ≤ B 0 0 → nRel (cTickA A d) (aTkL B (6 * d))
  | 0, _ => h
  | d + 1, hd => by
    have q := nr_tickA ok rk bd pk h d (by omega)
    rw [cTickA, show 6 * (d + 1) = 6 * d + 6 by omega]
    exact nr_tickL (ok_tickA ok d) rk bd pk (by omega) q 6 (by decide)
/-- one tick of all deals -/
theorem nr_tick {A B : zNt} (ok : cOk A) (rk : rOk B) (bd : Bud B) (pk : pOk B) (h : nRel A B) : nRel (cTickA A (A 0 0).toNat) (aTick B) := by
  have hn := rk_n rk
  unfold aTick
  rw [nr_n h, show (6 * B 0 0).toNat = 6 * (B 0 0).toNat by omega]
  exact nr_tickA ok rk bd pk h _ (by omega)
theorem nr_passL {A B : zNt} (ok : cOk A) (rk : rOk B) (bd : Bud B) (pk : pOk B) (h : nRel A B) : ∀ t : Nat, nRel (cPassL A t) (aPassL B t)
  | 0 => h
  | t + 1 => by
    have q := nr_passL ok rk bd pk h t
    have iv := iv_aPassL rk bd pk t
    have e : cPassL A t 0 0 = A 0 0 := n_passL A t
    rw [cPassL, aPassL, ← e]
    exact nr_tick (ok_passL ok t) iv.1 iv.2.1 iv.2.2 q
