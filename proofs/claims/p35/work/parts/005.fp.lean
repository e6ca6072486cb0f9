/-! the facts of doubles that lie in the rest of the library -/
theorem fp_refl {x : UInt64} (h : FP.dIsNaN x = false) : FP.dcmp x x = some .eq := FP.Core.dcmp_refl h
theorem fp_ddiv {x y : Int32} (h : y ≠ 0) : FP.dIsNaN (FP.ddiv (FP.i2d x) (FP.i2d y)) = false :=
  FP.Core.ddiv_out (FP.Core.i2d_fin _).notNaN (FP.Core.i2d_fin _) (fun z => FP.Core.i2d_ne_zero h ((FP.Core.zero_bits2 _).mp z))
