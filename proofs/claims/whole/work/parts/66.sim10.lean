theorem rk_s3 {N : zNt} (rk : rOk N) (d s : Int) : cSt N d s ≤ 3 := by
  have hn := rk_n rk
  unfold cSt
  split
  · exact (rk_st rk (by omega)).2
  · decide
/-- what pass answers -/
theorem nr_passR {A B : zNt} (ok : cOk A) (rk : rOk B) (bd : Bud B) (pk : pOk B) (h : nRel A B) (t : Int) : cPassR A t = mEnded (aPassL B t.toNat) - mEnded B := by
  have q := nr_passL ok rk bd pk h t.toNat
  have iv := iv_aPassL rk bd pk t.toNat
  unfold cPassR cPassN
  rw [nr_cnt q 2, nr_cnt q 3, nr_cnt h 2, nr_cnt h 3, ended_cnt (rk_n iv.1).1 (rk_s3 iv.1), ended_cnt (rk_n rk).1 (rk_s3 rk)]
/-- what doubtShare divides -/
theorem nr_mems {A B : zNt} (rk : rOk B) (h : nRel A B) : cMems A = mMems B := by
  rw [← mems_cnt (rk_n rk).1]
  unfold cMems
  rw [nr_cnt h, nr_n h]
theorem nr_dbs {A B : zNt} (rk : rOk B) (h : nRel A B) : cCnt A 1 = mDbs B := by rw [← dbs_cnt (rk_n rk).1, nr_cnt h]
