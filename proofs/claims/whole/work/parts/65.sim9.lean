/-! counts: the class's, deal by deal, against the reference's, place by place -/
theorem zSum_add (f g : Int → Int) : ∀ n : Nat, zSum (fun i => f i + g i) n = zSum f n + zSum g n
  | 0 => rfl
  | n + 1 => by rw [zSum, zSum, zSum, zSum_add f g n]; omega
theorem cnt_flat (N : zNt) (hn : 0 ≤ N 0 0) (v : Int) : cCnt N v = zSum (fun k => if cSt N (k / 6) (k % 6) = v then 1 else 0) (6 * N 0 0).toNat := by
  have q := zSum_flat (fun d s => if cSt N d s = v then 1 else 0) (N 0 0).toNat
  rw [show (6 * N 0 0).toNat = 6 * (N 0 0).toNat by omega]
  exact q.symm
theorem nr_cnt {A B : zNt} (h : nRel A B) (v : Int) : cCnt A v = cCnt B v := by
  unfold cCnt
  rw [← nr_n h]
  exact zSum_cg (fun i _ => zSum_cg (fun j _ => if_congr_i (by rw [nr_st h])))
theorem ended_cnt {N : zNt} (hn : 0 ≤ N 0 0) (hr : ∀ d s, cSt N d s ≤ 3) : cCnt N 2 + cCnt N 3 = mEnded N := by
  rw [cnt_flat N hn, cnt_flat N hn, ← zSum_add]
  unfold mEnded
  refine zSum_cg (fun i _ => ?_)
  have := hr ((i : Int) / 6) ((i : Int) % 6)
  show (if cSt N ((i : Int) / 6) ((i : Int) % 6) = 2 then (1 : Int) else 0) + (if cSt N ((i : Int) / 6) ((i : Int) % 6) = 3 then 1 else 0) = if 2 ≤ cSt N ((i : Int) / 6) ((i : Int) % 6) then 1 else 0
  (repeat' split) <;> omega
theorem zSum_one : ∀ n : Nat, zSum (fun _ => 1) n = n
  | 0 => rfl
  | n + 1 => by rw [zSum, zSum_one n]; omega
theorem mems_cnt {N : zNt} (hn : 0 ≤ N 0 0) : cMems N = mMems N := by
  have e : mMems N + cCnt N (-1) = N 0 0 * 6 := by
    rw [cnt_flat N hn]
    unfold mMems
    rw [← zSum_add, zSum_cg (g := fun _ => 1) (fun i _ => by
      show (if cSt N ((i : Int) / 6) ((i : Int) % 6) ≠ -1 then (1 : Int) else 0) + (if cSt N ((i : Int) / 6) ((i : Int) % 6) = -1 then 1 else 0) = 1
      by_cases z : cSt N ((i : Int) / 6) ((i : Int) % 6) = -1
      · rw [if_neg (fun w => w z), if_pos z]; rfl
      · rw [if_pos z, if_neg z]; rfl), zSum_one]
    omega
  unfold cMems
  omega
theorem dbs_cnt {N : zNt} (hn : 0 ≤ N 0 0) : cCnt N 1 = mDbs N := cnt_flat N hn 1
