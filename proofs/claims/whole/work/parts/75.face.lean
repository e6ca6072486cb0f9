def tX_app (T : zNt) (x : Int) : Int := if ¬ (33 ≤ x ∧ x ≤ 126) then 1 else if 60 ≤ T 0 1 then 2 else 0
set_option maxHeartbeats 4000000 in
set_option maxRecDepth 100000 in
theorem c_X3_begin {l : Launch} {D : va_G} {G : zG} {ad : Nat → Nat} (hJ : zInj ad) (hl : l.stackTraces = false) (σ : zM) (fi : fI σ) {ld : Int} (hld : zB ld) {mk : Int} (hmk : zB mk) {it : Int} (hit : zB it)  : zKXI l D G ad yX3_begin cX3_begin 4 (some .int) 8 4 [.ref (ad 0), vI ld, vI mk, vI it] σ (fPo (zBk (fSv σ) 8 8 (cAddN (gA σ) ld mk it)) (mX_begin (gA σ) ld mk it) (cAddR (gA σ) ld mk)) (fEx σ (mX_begin (gA σ) ld mk it) e123) := by
  intro sz
  refine zx_open hJ (by decide +kernel) (Nat.le_of_ble_eq_true rfl) ?_
  intro p e s0 m args below meth c hsz X F hxt hr hlocks
  subst hsz
  refine z_sub [(0, .ref (ad 0)), (1, vI ld), (2, vI mk), (3, vI it)] (zSub_cons rfl (zSub_cons rfl (zSub_cons rfl (zSub_cons rfl zSub_nil)))) ?_
  refine z_iload_n X dX3_begin_0 rfl ?_
  refine zx_callSV1 X F (c_X3_checkSite hJ hl σ hld) kX3_33 ⟨(Nat.le_of_ble_eq_true rfl), (Nat.le_of_ble_eq_true rfl)⟩ (Nat.le_of_ble_eq_true rfl) ⟨(Nat.le_of_ble_eq_true rfl), (Nat.le_of_ble_eq_true rfl)⟩ dX3_begin_1 (fun E σ1 hx => ?_) (fun σ1 hz => ?_)
  · obtain ⟨e9, hx, rfl⟩ := hx
    rw [e9]
    exact zx_out hxt hlocks (fEx_i (n := 1) (if_pos (c := ¬ (0 ≤ ld ∧ ld ≤ 5)) hx) (by decide) rfl) (Nat.le_of_ble_eq_true rfl) (Nat.le_of_ble_eq_true rfl)
  obtain ⟨e9, h_1⟩ := hz
  rw [e9]
  refine z_iload_n X dX3_begin_4 rfl ?_
  refine z_iconst X dX3_begin_5 ?_
  refine z_icmp_lt X 23 dX3_begin_6 (by decide) hmk ⟨by decide, by decide⟩ (fun c_2 => ?_) (fun c_2 => ?_)
  · exact zx_throw X F hxt hl hlocks zth_2 (List.mem_of_getElem? (i := 1) rfl) dX3_begin_23 dX3_begin_26 dX3_begin_27 dX3_begin_29 dX3_begin_32 (Nat.le_of_ble_eq_true rfl) (by decide) (Nat.le_of_ble_eq_true rfl) (Nat.le_of_ble_eq_true rfl) (fEx_i (n := 2) ((if_neg (c := ¬ (0 ≤ ld ∧ ld ≤ 5)) (fun z => z h_1)).trans (if_pos (c := ¬ ((1 ≤ mk ∧ mk ≤ 63) ∧ 2 ≤ mBits mk 6 ∧ (0 ≤ it ∧ it ≤ 9))) (fun z => by have hb := jBc_eq z.1; omega))) (by decide) rfl)
  · refine z_iload_n X dX3_begin_9 rfl ?_
    refine z_bipush X dX3_begin_10 rfl ?_
    refine z_icmp_gt X 23 dX3_begin_12 (by decide) hmk ⟨by decide, by decide⟩ (fun c_3 => ?_) (fun c_3 => ?_)
    · exact zx_throw X F hxt hl hlocks zth_2 (List.mem_of_getElem? (i := 1) rfl) dX3_begin_23 dX3_begin_26 dX3_begin_27 dX3_begin_29 dX3_begin_32 (Nat.le_of_ble_eq_true rfl) (by decide) (Nat.le_of_ble_eq_true rfl) (Nat.le_of_ble_eq_true rfl) (fEx_i (n := 2) ((if_neg (c := ¬ (0 ≤ ld ∧ ld ≤ 5)) (fun z => z h_1)).trans (if_pos (c := ¬ ((1 ≤ mk ∧ mk ≤ 63) ∧ 2 ≤ mBits mk 6 ∧ (0 ≤ it ∧ it ≤ 9))) (fun z => by have hb := jBc_eq z.1; omega))) (by decide) rfl)
    · refine z_iload_n X dX3_begin_15 rfl ?_
      refine z_callOI1 X (c_J6_bitCount hJ σ hmk) kX3_37 ⟨(Nat.le_of_ble_eq_true rfl), (Nat.le_of_ble_eq_true rfl)⟩ (Nat.le_of_ble_eq_true rfl) ⟨(Nat.le_of_ble_eq_true rfl), (Nat.le_of_ble_eq_true rfl)⟩ dX3_begin_16 (fun z9 σ1 hz9 => ?_)
      obtain ⟨rfl, e9⟩ := hz9
      rw [e9]
      refine z_iconst X dX3_begin_19 ?_
      refine z_icmp_ge X 33 dX3_begin_20 (by decide) (zB_toInt _) ⟨by decide, by decide⟩ (fun c_4 => ?_) (fun c_4 => ?_)
      · refine z_iload_n X dX3_begin_33 rfl ?_
        refine z_if_lt X 43 dX3_begin_34 (by decide) hit (fun c_5 => ?_) (fun c_5 => ?_)
        · exact zx_throw X F hxt hl hlocks zth_2 (List.mem_of_getElem? (i := 2) rfl) dX3_begin_43 dX3_begin_46 dX3_begin_47 dX3_begin_49 dX3_begin_52 (Nat.le_of_ble_eq_true rfl) (by decide) (Nat.le_of_ble_eq_true rfl) (Nat.le_of_ble_eq_true rfl) (fEx_i (n := 2) ((if_neg (c := ¬ (0 ≤ ld ∧ ld ≤ 5)) (fun z => z h_1)).trans (if_pos (c := ¬ ((1 ≤ mk ∧ mk ≤ 63) ∧ 2 ≤ mBits mk 6 ∧ (0 ≤ it ∧ it ≤ 9))) (fun z => by have hb := jBc_eq z.1; omega))) (by decide) rfl)
        · refine z_iload_n X dX3_begin_37 rfl ?_
          refine z_bipush X dX3_begin_38 rfl ?_
          refine z_icmp_lt X 53 dX3_begin_40 (by decide) hit ⟨by decide, by decide⟩ (fun c_6 => ?_) (fun c_6 => ?_)
          · refine z_aload_n X dX3_begin_53 rfl ?_
            refine y_gDea0 X fX3_12 dX3_begin_54 ?_
            refine z_iload_n X dX3_begin_57 rfl ?_
            refine z_iload_n X dX3_begin_58 rfl ?_
            refine z_callVI2 X (zKI_at (gA_bk σ) (c_X2_canBegin hJ zn8 σ (N := gA σ) fi.1 hld hmk)) kX3_52 rfl (by decide) (zNet_obj zn8 ad G _ _) ⟨(Nat.le_of_ble_eq_true rfl), (Nat.le_of_ble_eq_true rfl)⟩ (Nat.le_of_ble_eq_true rfl) ⟨(Nat.le_of_ble_eq_true rfl), (Nat.le_of_ble_eq_true rfl)⟩ dX3_begin_59 (fun z9 σ1 hz9 => ?_)
            obtain ⟨rfl, rfl⟩ := hz9
            rw [gA_bk]
            refine z_ifb_ne X 75 dX3_begin_62 (by decide) (fun c_7 => ?_) (fun c_7 => ?_)
            · refine z_aload_n X dX3_begin_75 rfl ?_
              refine y_gDea2 X fX3_22 dX3_begin_76 ?_
              refine z_aload_n X dX3_begin_79 rfl ?_
              refine y_gDea0 X fX3_12 dX3_begin_80 ?_
              refine z_callVV1 X (zKV_at (gH_bk σ) (c_X1_save hJ σ (N := gH σ) fi.2.1)) kX3_61 rfl (by decide) rfl ⟨(Nat.le_of_ble_eq_true rfl), (Nat.le_of_ble_eq_true rfl)⟩ (Nat.le_of_ble_eq_true rfl) ⟨(Nat.le_of_ble_eq_true rfl), (Nat.le_of_ble_eq_true rfl)⟩ dX3_begin_83 (fun σ1 hz9 => ?_)
              obtain rfl : σ1 = fSv σ := hz9
              refine z_aload_n X dX3_begin_86 rfl ?_
              refine y_gDea0 X fX3_12 dX3_begin_87 ?_
              refine z_iload_n X dX3_begin_90 rfl ?_
              refine z_iload_n X dX3_begin_91 rfl ?_
              refine z_iload_n X dX3_begin_92 rfl ?_
              refine z_callVI3 X (zKI_at (fSv_bk8 fi.2.1) (c_X2_addDeal hJ zn8 (fSv σ) (N := gA σ) fi.1 hld hmk hit)) kX3_65 rfl (by decide) (zNet_obj zn8 ad G _ _) ⟨(Nat.le_of_ble_eq_true rfl), (Nat.le_of_ble_eq_true rfl)⟩ (Nat.le_of_ble_eq_true rfl) ⟨(Nat.le_of_ble_eq_true rfl), (Nat.le_of_ble_eq_true rfl)⟩ dX3_begin_93 (fun z9 σ1 hz9 => ?_)
              obtain ⟨rfl, rfl⟩ := hz9
              exact zx_iret X hr hlocks dX3_begin_96 ⟨rfl, rfl, ((if_neg (c := ¬ (0 ≤ ld ∧ ld ≤ 5)) (fun z => z h_1)).trans ((if_neg (c := ¬ ((1 ≤ mk ∧ mk ≤ 63) ∧ 2 ≤ mBits mk 6 ∧ (0 ≤ it ∧ it ≤ 9))) (fun z => z ⟨⟨by omega, by omega⟩, (by have hb := jBc_eq (x := mk) ⟨by omega, by omega⟩; omega), by omega, by omega⟩)).trans (if_neg (c := ¬ (cCanBegin (gA σ) ld mk)) (fun z => z c_7))))⟩ (Nat.le_of_ble_eq_true rfl) (Nat.le_of_ble_eq_true rfl)
            · exact zx_throw X F hxt hl hlocks zth_3 (List.mem_of_getElem? (i := 3) rfl) dX3_begin_65 dX3_begin_68 dX3_begin_69 dX3_begin_71 dX3_begin_74 (Nat.le_of_ble_eq_true rfl) (by decide) (Nat.le_of_ble_eq_true rfl) (Nat.le_of_ble_eq_true rfl) (fEx_i (n := 3) ((if_neg (c := ¬ (0 ≤ ld ∧ ld ≤ 5)) (fun z => z h_1)).trans ((if_neg (c := ¬ ((1 ≤ mk ∧ mk ≤ 63) ∧ 2 ≤ mBits mk 6 ∧ (0 ≤ it ∧ it ≤ 9))) (fun z => z ⟨⟨by omega, by omega⟩, (by have hb := jBc_eq (x := mk) ⟨by omega, by omega⟩; omega), by omega, by omega⟩)).trans (if_pos (c := ¬ (cCanBegin (gA σ) ld mk)) c_7))) (by decide) rfl)
          · exact zx_throw X F hxt hl hlocks zth_2 (List.mem_of_getElem? (i := 2) rfl) dX3_begin_43 dX3_begin_46 dX3_begin_47 dX3_begin_49 dX3_begin_52 (Nat.le_of_ble_eq_true rfl) (by decide) (Nat.le_of_ble_eq_true rfl) (Nat.le_of_ble_eq_true rfl) (fEx_i (n := 2) ((if_neg (c := ¬ (0 ≤ ld ∧ ld ≤ 5)) (fun z => z h_1)).trans (if_pos (c := ¬ ((1 ≤ mk ∧ mk ≤ 63) ∧ 2 ≤ mBits mk 6 ∧ (0 ≤ it ∧ it ≤ 9))) (fun z => by have hb := jBc_eq z.1; omega))) (by decide) rfl)
      · exact zx_throw X F hxt hl hlocks zth_2 (List.mem_of_getElem? (i := 1) rfl) dX3_begin_23 dX3_begin_26 dX3_begin_27 dX3_begin_29 dX3_begin_32 (Nat.le_of_ble_eq_true rfl) (by decide) (Nat.le_of_ble_eq_true rfl) (Nat.le_of_ble_eq_true rfl) (fEx_i (n := 2) ((if_neg (c := ¬ (0 ≤ ld ∧ ld ≤ 5)) (fun z => z h_1)).trans (if_pos (c := ¬ ((1 ≤ mk ∧ mk ≤ 63) ∧ 2 ≤ mBits mk 6 ∧ (0 ≤ it ∧ it ≤ 9))) (fun z => by have hb := jBc_eq z.1; omega))) (by decide) rfl)

set_option maxHeartbeats 4000000 in
set_option maxRecDepth 100000 in
theorem c_X3_vote {l : Launch} {D : va_G} {G : zG} {ad : Nat → Nat} (hJ : zInj ad) (hl : l.stackTraces = false) (σ : zM) (fi : fI σ) {d : Int} (hd : zB d) {s : Int} (hs : zB s) {y : Int} (hy : zB y)  : zKXI l D G ad yX3_vote cX3_vote 4 (some .int) 8 4 [.ref (ad 0), vI d, vI s, vI y] σ (fPo (zBk (fSv σ) 8 8 (cVoteN (gA σ) d s y)) (mX_vote (gA σ) d s y) (cVoteR (gA σ) d s y)) (fEx σ (mX_vote (gA σ) d s y) e13) := by
  intro sz
  refine zx_open hJ (by decide +kernel) (Nat.le_of_ble_eq_true rfl) ?_
  intro p e s0 m args below meth c hsz X F hxt hr hlocks
  subst hsz
  refine z_sub [(0, .ref (ad 0)), (1, vI d), (2, vI s), (3, vI y)] (zSub_cons rfl (zSub_cons rfl (zSub_cons rfl (zSub_cons rfl zSub_nil)))) ?_
  refine z_aload_n X dX3_vote_0 rfl ?_
  refine z_iload_n X dX3_vote_1 rfl ?_
  refine z_iload_n X dX3_vote_2 rfl ?_
  refine zx_callVV2 X F (c_X3_checkDealAndSite hJ hl σ fi hd hs) kX3_69 rfl (by decide) rfl ⟨(Nat.le_of_ble_eq_true rfl), (Nat.le_of_ble_eq_true rfl)⟩ (Nat.le_of_ble_eq_true rfl) ⟨(Nat.le_of_ble_eq_true rfl), (Nat.le_of_ble_eq_true rfl)⟩ dX3_vote_3 (fun E σ1 hx => ?_) (fun σ1 hz => ?_)
  · obtain ⟨e9, hx, rfl⟩ := hx
    rw [e9]
    exact zx_out hxt hlocks (fEx_i (n := 1) (if_pos (c := ¬ (cHas (gA σ) d ∧ (0 ≤ s ∧ s ≤ 5))) hx) (by decide) rfl) (Nat.le_of_ble_eq_true rfl) (Nat.le_of_ble_eq_true rfl)
  obtain ⟨e9, h_1⟩ := hz
  rw [e9]
  refine z_aload_n X dX3_vote_6 rfl ?_
  refine y_gDea0 X fX3_12 dX3_vote_7 ?_
  refine z_iload_n X dX3_vote_10 rfl ?_
  refine z_iload_n X dX3_vote_11 rfl ?_
  refine z_callVI2 X (zKI_at (gA_bk σ) (c_X2_canVote hJ zn8 σ (N := gA σ) fi.1 hd hs)) kX3_73 rfl (by decide) (zNet_obj zn8 ad G _ _) ⟨(Nat.le_of_ble_eq_true rfl), (Nat.le_of_ble_eq_true rfl)⟩ (Nat.le_of_ble_eq_true rfl) ⟨(Nat.le_of_ble_eq_true rfl), (Nat.le_of_ble_eq_true rfl)⟩ dX3_vote_12 (fun z9 σ1 hz9 => ?_)
  obtain ⟨rfl, rfl⟩ := hz9
  rw [gA_bk]
  refine z_ifb_ne X 28 dX3_vote_15 (by decide) (fun c_2 => ?_) (fun c_2 => ?_)
  · refine z_aload_n X dX3_vote_28 rfl ?_
    refine y_gDea2 X fX3_22 dX3_vote_29 ?_
    refine z_aload_n X dX3_vote_32 rfl ?_
    refine y_gDea0 X fX3_12 dX3_vote_33 ?_
    refine z_callVV1 X (zKV_at (gH_bk σ) (c_X1_save hJ σ (N := gH σ) fi.2.1)) kX3_61 rfl (by decide) rfl ⟨(Nat.le_of_ble_eq_true rfl), (Nat.le_of_ble_eq_true rfl)⟩ (Nat.le_of_ble_eq_true rfl) ⟨(Nat.le_of_ble_eq_true rfl), (Nat.le_of_ble_eq_true rfl)⟩ dX3_vote_36 (fun σ1 hz9 => ?_)
    obtain rfl : σ1 = fSv σ := hz9
    refine z_aload_n X dX3_vote_39 rfl ?_
    refine y_gDea0 X fX3_12 dX3_vote_40 ?_
    refine z_iload_n X dX3_vote_43 rfl ?_
    refine z_iload_n X dX3_vote_44 rfl ?_
    refine z_iload_n X dX3_vote_45 rfl ?_
    refine z_callVI3 X (zKI_at (fSv_bk8 fi.2.1) (c_X2_castVote hJ zn8 (fSv σ) (N := gA σ) fi.1 hd hs hy)) kX3_78 rfl (by decide) (zNet_obj zn8 ad G _ _) ⟨(Nat.le_of_ble_eq_true rfl), (Nat.le_of_ble_eq_true rfl)⟩ (Nat.le_of_ble_eq_true rfl) ⟨(Nat.le_of_ble_eq_true rfl), (Nat.le_of_ble_eq_true rfl)⟩ dX3_vote_46 (fun z9 σ1 hz9 => ?_)
    obtain ⟨rfl, rfl⟩ := hz9
    exact zx_iret X hr hlocks dX3_vote_49 ⟨rfl, rfl, ((if_neg (c := ¬ (cHas (gA σ) d ∧ (0 ≤ s ∧ s ≤ 5))) (fun z => z h_1)).trans (if_neg (c := ¬ (cCanVote (gA σ) d s)) (fun z => z c_2)))⟩ (Nat.le_of_ble_eq_true rfl) (Nat.le_of_ble_eq_true rfl)
  · exact zx_throw X F hxt hl hlocks zth_3 (List.mem_of_getElem? (i := 5) rfl) dX3_vote_18 dX3_vote_21 dX3_vote_22 dX3_vote_24 dX3_vote_27 (Nat.le_of_ble_eq_true rfl) (by decide) (Nat.le_of_ble_eq_true rfl) (Nat.le_of_ble_eq_true rfl) (fEx_i (n := 2) ((if_neg (c := ¬ (cHas (gA σ) d ∧ (0 ≤ s ∧ s ≤ 5))) (fun z => z h_1)).trans (if_pos (c := ¬ (cCanVote (gA σ) d s)) c_2)) (by decide) rfl)

set_option maxHeartbeats 4000000 in
set_option maxRecDepth 100000 in
theorem c_X3_decide {l : Launch} {D : va_G} {G : zG} {ad : Nat → Nat} (hJ : zInj ad) (hl : l.stackTraces = false) (σ : zM) (fi : fI σ) {d : Int} (hd : zB d)  : zKXI l D G ad yX3_decide cX3_decide 2 (some .int) 8 4 [.ref (ad 0), vI d] σ (fPo (zBk (fSv σ) 8 8 (cDecideN (gA σ) d)) (mX_decide (gA σ) d) (cDecideR (gA σ) d)) (fEx σ (mX_decide (gA σ) d) e13) := by
  intro sz
  refine zx_open hJ (by decide +kernel) (Nat.le_of_ble_eq_true rfl) ?_
  intro p e s0 m args below meth c hsz X F hxt hr hlocks
  subst hsz
  refine z_sub [(0, .ref (ad 0)), (1, vI d)] (zSub_cons rfl (zSub_cons rfl zSub_nil)) ?_
  refine z_aload_n X dX3_decide_0 rfl ?_
  refine z_iload_n X dX3_decide_1 rfl ?_
  refine zx_callVV1 X F (c_X3_checkDeal hJ hl σ fi hd) kX3_82 rfl (by decide) rfl ⟨(Nat.le_of_ble_eq_true rfl), (Nat.le_of_ble_eq_true rfl)⟩ (Nat.le_of_ble_eq_true rfl) ⟨(Nat.le_of_ble_eq_true rfl), (Nat.le_of_ble_eq_true rfl)⟩ dX3_decide_2 (fun E σ1 hx => ?_) (fun σ1 hz => ?_)
  · obtain ⟨e9, hx, rfl⟩ := hx
    rw [e9]
    exact zx_out hxt hlocks (fEx_i (n := 1) (if_pos (c := ¬ (cHas (gA σ) d)) hx) (by decide) rfl) (Nat.le_of_ble_eq_true rfl) (Nat.le_of_ble_eq_true rfl)
  obtain ⟨e9, h_1⟩ := hz
  rw [e9]
  refine z_aload_n X dX3_decide_5 rfl ?_
  refine y_gDea0 X fX3_12 dX3_decide_6 ?_
  refine z_iload_n X dX3_decide_9 rfl ?_
  refine z_callVI1 X (zKI_at (gA_bk σ) (c_X2_canDecide hJ zn8 σ (N := gA σ) fi.1 hd)) kX3_85 rfl (by decide) (zNet_obj zn8 ad G _ _) ⟨(Nat.le_of_ble_eq_true rfl), (Nat.le_of_ble_eq_true rfl)⟩ (Nat.le_of_ble_eq_true rfl) ⟨(Nat.le_of_ble_eq_true rfl), (Nat.le_of_ble_eq_true rfl)⟩ dX3_decide_10 (fun z9 σ1 hz9 => ?_)
  obtain ⟨rfl, rfl⟩ := hz9
  rw [gA_bk]
  refine z_ifb_ne X 26 dX3_decide_13 (by decide) (fun c_2 => ?_) (fun c_2 => ?_)
  · refine z_aload_n X dX3_decide_26 rfl ?_
    refine y_gDea2 X fX3_22 dX3_decide_27 ?_
    refine z_aload_n X dX3_decide_30 rfl ?_
    refine y_gDea0 X fX3_12 dX3_decide_31 ?_
    refine z_callVV1 X (zKV_at (gH_bk σ) (c_X1_save hJ σ (N := gH σ) fi.2.1)) kX3_61 rfl (by decide) rfl ⟨(Nat.le_of_ble_eq_true rfl), (Nat.le_of_ble_eq_true rfl)⟩ (Nat.le_of_ble_eq_true rfl) ⟨(Nat.le_of_ble_eq_true rfl), (Nat.le_of_ble_eq_true rfl)⟩ dX3_decide_34 (fun σ1 hz9 => ?_)
    obtain rfl : σ1 = fSv σ := hz9
    refine z_aload_n X dX3_decide_37 rfl ?_
    refine y_gDea0 X fX3_12 dX3_decide_38 ?_
    refine z_iload_n X dX3_decide_41 rfl ?_
    refine z_callVI1 X (zKI_at (fSv_bk8 fi.2.1) (c_X2_makeDecision hJ zn8 (fSv σ) (N := gA σ) fi.1 hd)) kX3_91 rfl (by decide) (zNet_obj zn8 ad G _ _) ⟨(Nat.le_of_ble_eq_true rfl), (Nat.le_of_ble_eq_true rfl)⟩ (Nat.le_of_ble_eq_true rfl) ⟨(Nat.le_of_ble_eq_true rfl), (Nat.le_of_ble_eq_true rfl)⟩ dX3_decide_42 (fun z9 σ1 hz9 => ?_)
    obtain ⟨rfl, rfl⟩ := hz9
    exact zx_iret X hr hlocks dX3_decide_45 ⟨rfl, rfl, ((if_neg (c := ¬ (cHas (gA σ) d)) (fun z => z h_1)).trans (if_neg (c := ¬ (cCanDecide (gA σ) d)) (fun z => z c_2)))⟩ (Nat.le_of_ble_eq_true rfl) (Nat.le_of_ble_eq_true rfl)
  · exact zx_throw X F hxt hl hlocks zth_3 (List.mem_of_getElem? (i := 6) rfl) dX3_decide_16 dX3_decide_19 dX3_decide_20 dX3_decide_22 dX3_decide_25 (Nat.le_of_ble_eq_true rfl) (by decide) (Nat.le_of_ble_eq_true rfl) (Nat.le_of_ble_eq_true rfl) (fEx_i (n := 2) ((if_neg (c := ¬ (cHas (gA σ) d)) (fun z => z h_1)).trans (if_pos (c := ¬ (cCanDecide (gA σ) d)) c_2)) (by decide) rfl)

set_option maxHeartbeats 4000000 in
set_option maxRecDepth 100000 in
theorem c_X3_tell {l : Launch} {D : va_G} {G : zG} {ad : Nat → Nat} (hJ : zInj ad) (hl : l.stackTraces = false) (σ : zM) (fi : fI σ) {d : Int} (hd : zB d) {s : Int} (hs : zB s)  : zKXI l D G ad yX3_tell cX3_tell 3 (some .int) 8 4 [.ref (ad 0), vI d, vI s] σ (fPo (zBk (fSv σ) 8 8 (cTellN (gA σ) d s)) (mX_tell (gA σ) d s) (cTellR (gA σ) d s)) (fEx σ (mX_tell (gA σ) d s) e13) := by
  intro sz
  refine zx_open hJ (by decide +kernel) (Nat.le_of_ble_eq_true rfl) ?_
  intro p e s0 m args below meth c hsz X F hxt hr hlocks
  subst hsz
  refine z_sub [(0, .ref (ad 0)), (1, vI d), (2, vI s)] (zSub_cons rfl (zSub_cons rfl (zSub_cons rfl zSub_nil))) ?_
  refine z_aload_n X dX3_tell_0 rfl ?_
  refine z_iload_n X dX3_tell_1 rfl ?_
  refine z_iload_n X dX3_tell_2 rfl ?_
  refine zx_callVV2 X F (c_X3_checkDealAndSite hJ hl σ fi hd hs) kX3_69 rfl (by decide) rfl ⟨(Nat.le_of_ble_eq_true rfl), (Nat.le_of_ble_eq_true rfl)⟩ (Nat.le_of_ble_eq_true rfl) ⟨(Nat.le_of_ble_eq_true rfl), (Nat.le_of_ble_eq_true rfl)⟩ dX3_tell_3 (fun E σ1 hx => ?_) (fun σ1 hz => ?_)
  · obtain ⟨e9, hx, rfl⟩ := hx
    rw [e9]
    exact zx_out hxt hlocks (fEx_i (n := 1) (if_pos (c := ¬ (cHas (gA σ) d ∧ (0 ≤ s ∧ s ≤ 5))) hx) (by decide) rfl) (Nat.le_of_ble_eq_true rfl) (Nat.le_of_ble_eq_true rfl)
  obtain ⟨e9, h_1⟩ := hz
  rw [e9]
  refine z_aload_n X dX3_tell_6 rfl ?_
  refine y_gDea0 X fX3_12 dX3_tell_7 ?_
  refine z_iload_n X dX3_tell_10 rfl ?_
  refine z_iload_n X dX3_tell_11 rfl ?_
  refine z_callVI2 X (zKI_at (gA_bk σ) (c_X2_canTell hJ zn8 σ (N := gA σ) fi.1 hd hs)) kX3_94 rfl (by decide) (zNet_obj zn8 ad G _ _) ⟨(Nat.le_of_ble_eq_true rfl), (Nat.le_of_ble_eq_true rfl)⟩ (Nat.le_of_ble_eq_true rfl) ⟨(Nat.le_of_ble_eq_true rfl), (Nat.le_of_ble_eq_true rfl)⟩ dX3_tell_12 (fun z9 σ1 hz9 => ?_)
  obtain ⟨rfl, rfl⟩ := hz9
  rw [gA_bk]
  refine z_ifb_ne X 28 dX3_tell_15 (by decide) (fun c_2 => ?_) (fun c_2 => ?_)
  · refine z_aload_n X dX3_tell_28 rfl ?_
    refine y_gDea2 X fX3_22 dX3_tell_29 ?_
    refine z_aload_n X dX3_tell_32 rfl ?_
    refine y_gDea0 X fX3_12 dX3_tell_33 ?_
    refine z_callVV1 X (zKV_at (gH_bk σ) (c_X1_save hJ σ (N := gH σ) fi.2.1)) kX3_61 rfl (by decide) rfl ⟨(Nat.le_of_ble_eq_true rfl), (Nat.le_of_ble_eq_true rfl)⟩ (Nat.le_of_ble_eq_true rfl) ⟨(Nat.le_of_ble_eq_true rfl), (Nat.le_of_ble_eq_true rfl)⟩ dX3_tell_36 (fun σ1 hz9 => ?_)
    obtain rfl : σ1 = fSv σ := hz9
    refine z_aload_n X dX3_tell_39 rfl ?_
    refine y_gDea0 X fX3_12 dX3_tell_40 ?_
    refine z_iload_n X dX3_tell_43 rfl ?_
    refine z_iload_n X dX3_tell_44 rfl ?_
    refine z_callVI2 X (zKI_at (fSv_bk8 fi.2.1) (c_X2_tellMember hJ zn8 (fSv σ) (N := gA σ) fi.1 hd hs)) kX3_99 rfl (by decide) (zNet_obj zn8 ad G _ _) ⟨(Nat.le_of_ble_eq_true rfl), (Nat.le_of_ble_eq_true rfl)⟩ (Nat.le_of_ble_eq_true rfl) ⟨(Nat.le_of_ble_eq_true rfl), (Nat.le_of_ble_eq_true rfl)⟩ dX3_tell_45 (fun z9 σ1 hz9 => ?_)
    obtain ⟨rfl, rfl⟩ := hz9
    exact zx_iret X hr hlocks dX3_tell_48 ⟨rfl, rfl, ((if_neg (c := ¬ (cHas (gA σ) d ∧ (0 ≤ s ∧ s ≤ 5))) (fun z => z h_1)).trans (if_neg (c := ¬ (cCanTell (gA σ) d s)) (fun z => z c_2)))⟩ (Nat.le_of_ble_eq_true rfl) (Nat.le_of_ble_eq_true rfl)
  · exact zx_throw X F hxt hl hlocks zth_3 (List.mem_of_getElem? (i := 7) rfl) dX3_tell_18 dX3_tell_21 dX3_tell_22 dX3_tell_24 dX3_tell_27 (Nat.le_of_ble_eq_true rfl) (by decide) (Nat.le_of_ble_eq_true rfl) (Nat.le_of_ble_eq_true rfl) (fEx_i (n := 2) ((if_neg (c := ¬ (cHas (gA σ) d ∧ (0 ≤ s ∧ s ≤ 5))) (fun z => z h_1)).trans (if_pos (c := ¬ (cCanTell (gA σ) d s)) c_2)) (by decide) rfl)

set_option maxHeartbeats 4000000 in
set_option maxRecDepth 100000 in
theorem c_X3_ask {l : Launch} {D : va_G} {G : zG} {ad : Nat → Nat} (hJ : zInj ad) (hl : l.stackTraces = false) (σ : zM) (fi : fI σ) {d : Int} (hd : zB d) {s : Int} (hs : zB s) {o : Int} (ho : zB o)  : zKXI l D G ad yX3_ask cX3_ask 4 (some .int) 8 4 [.ref (ad 0), vI d, vI s, vI o] σ (fPo (zBk (fSv σ) 8 8 (cAskN (gA σ) d s o)) (mX_ask (gA σ) d s o) (cAskR (gA σ) d s o)) (fEx σ (mX_ask (gA σ) d s o) e123) := by
  intro sz
  refine zx_open hJ (by decide +kernel) (Nat.le_of_ble_eq_true rfl) ?_
  intro p e s0 m args below meth c hsz X F hxt hr hlocks
  subst hsz
  refine z_sub [(0, .ref (ad 0)), (1, vI d), (2, vI s), (3, vI o)] (zSub_cons rfl (zSub_cons rfl (zSub_cons rfl (zSub_cons rfl zSub_nil)))) ?_
  refine z_aload_n X dX3_ask_0 rfl ?_
  refine z_iload_n X dX3_ask_1 rfl ?_
  refine z_iload_n X dX3_ask_2 rfl ?_
  refine zx_callVV2 X F (c_X3_checkDealAndSite hJ hl σ fi hd hs) kX3_69 rfl (by decide) rfl ⟨(Nat.le_of_ble_eq_true rfl), (Nat.le_of_ble_eq_true rfl)⟩ (Nat.le_of_ble_eq_true rfl) ⟨(Nat.le_of_ble_eq_true rfl), (Nat.le_of_ble_eq_true rfl)⟩ dX3_ask_3 (fun E σ1 hx => ?_) (fun σ1 hz => ?_)
  · obtain ⟨e9, hx, rfl⟩ := hx
    rw [e9]
    exact zx_out hxt hlocks (fEx_i (n := 1) (if_pos (c := ¬ (cHas (gA σ) d ∧ (0 ≤ s ∧ s ≤ 5) ∧ (0 ≤ o ∧ o ≤ 5))) (fun z => hx ⟨z.1, z.2.1⟩)) (by decide) rfl) (Nat.le_of_ble_eq_true rfl) (Nat.le_of_ble_eq_true rfl)
  obtain ⟨e9, h_1⟩ := hz
  rw [e9]
  refine z_iload_n X dX3_ask_6 rfl ?_
  refine zx_callSV1 X F (c_X3_checkSite hJ hl σ ho) kX3_33 ⟨(Nat.le_of_ble_eq_true rfl), (Nat.le_of_ble_eq_true rfl)⟩ (Nat.le_of_ble_eq_true rfl) ⟨(Nat.le_of_ble_eq_true rfl), (Nat.le_of_ble_eq_true rfl)⟩ dX3_ask_7 (fun E σ1 hx => ?_) (fun σ1 hz => ?_)
  · obtain ⟨e9, hx, rfl⟩ := hx
    rw [e9]
    exact zx_out hxt hlocks (fEx_i (n := 1) (if_pos (c := ¬ (cHas (gA σ) d ∧ (0 ≤ s ∧ s ≤ 5) ∧ (0 ≤ o ∧ o ≤ 5))) (fun z => hx z.2.2)) (by decide) rfl) (Nat.le_of_ble_eq_true rfl) (Nat.le_of_ble_eq_true rfl)
  obtain ⟨e9, h_2⟩ := hz
  rw [e9]
  refine z_iload_n X dX3_ask_10 rfl ?_
  refine z_iload_n X dX3_ask_11 rfl ?_
  refine z_icmp_ne X 25 dX3_ask_12 (by decide) hs ho (fun c_3 => ?_) (fun c_3 => ?_)
  · refine z_aload_n X dX3_ask_25 rfl ?_
    refine y_gDea0 X fX3_12 dX3_ask_26 ?_
    refine z_iload_n X dX3_ask_29 rfl ?_
    refine z_iload_n X dX3_ask_30 rfl ?_
    refine z_iload_n X dX3_ask_31 rfl ?_
    refine z_callVI3 X (zKI_at (gA_bk σ) (c_X2_canAsk hJ zn8 σ (N := gA σ) fi.1 hd hs ho)) kX3_105 rfl (by decide) (zNet_obj zn8 ad G _ _) ⟨(Nat.le_of_ble_eq_true rfl), (Nat.le_of_ble_eq_true rfl)⟩ (Nat.le_of_ble_eq_true rfl) ⟨(Nat.le_of_ble_eq_true rfl), (Nat.le_of_ble_eq_true rfl)⟩ dX3_ask_32 (fun z9 σ1 hz9 => ?_)
    obtain ⟨rfl, rfl⟩ := hz9
    rw [gA_bk]
    refine z_ifb_ne X 48 dX3_ask_35 (by decide) (fun c_4 => ?_) (fun c_4 => ?_)
    · refine z_aload_n X dX3_ask_48 rfl ?_
      refine y_gDea2 X fX3_22 dX3_ask_49 ?_
      refine z_aload_n X dX3_ask_52 rfl ?_
      refine y_gDea0 X fX3_12 dX3_ask_53 ?_
      refine z_callVV1 X (zKV_at (gH_bk σ) (c_X1_save hJ σ (N := gH σ) fi.2.1)) kX3_61 rfl (by decide) rfl ⟨(Nat.le_of_ble_eq_true rfl), (Nat.le_of_ble_eq_true rfl)⟩ (Nat.le_of_ble_eq_true rfl) ⟨(Nat.le_of_ble_eq_true rfl), (Nat.le_of_ble_eq_true rfl)⟩ dX3_ask_56 (fun σ1 hz9 => ?_)
      obtain rfl : σ1 = fSv σ := hz9
      refine z_aload_n X dX3_ask_59 rfl ?_
      refine y_gDea0 X fX3_12 dX3_ask_60 ?_
      refine z_iload_n X dX3_ask_63 rfl ?_
      refine z_iload_n X dX3_ask_64 rfl ?_
      refine z_iload_n X dX3_ask_65 rfl ?_
      refine z_callVI3 X (zKI_at (fSv_bk8 fi.2.1) (c_X2_putQuestion hJ zn8 (fSv σ) (N := gA σ) fi.1 hd hs ho)) kX3_111 rfl (by decide) (zNet_obj zn8 ad G _ _) ⟨(Nat.le_of_ble_eq_true rfl), (Nat.le_of_ble_eq_true rfl)⟩ (Nat.le_of_ble_eq_true rfl) ⟨(Nat.le_of_ble_eq_true rfl), (Nat.le_of_ble_eq_true rfl)⟩ dX3_ask_66 (fun z9 σ1 hz9 => ?_)
      obtain ⟨rfl, rfl⟩ := hz9
      exact zx_iret X hr hlocks dX3_ask_69 ⟨rfl, rfl, ((if_neg (c := ¬ (cHas (gA σ) d ∧ (0 ≤ s ∧ s ≤ 5) ∧ (0 ≤ o ∧ o ≤ 5))) (fun z => z ⟨h_1.1, h_1.2, h_2⟩)).trans ((if_neg (c := s = o) c_3).trans (if_neg (c := ¬ (cUp (gA σ) s ∧ cUp (gA σ) o ∧ cSt (gA σ) d s = 1)) (fun z => z c_4.2))))⟩ (Nat.le_of_ble_eq_true rfl) (Nat.le_of_ble_eq_true rfl)
    · exact zx_throw X F hxt hl hlocks zth_3 (List.mem_of_getElem? (i := 9) rfl) dX3_ask_38 dX3_ask_41 dX3_ask_42 dX3_ask_44 dX3_ask_47 (Nat.le_of_ble_eq_true rfl) (by decide) (Nat.le_of_ble_eq_true rfl) (Nat.le_of_ble_eq_true rfl) (fEx_i (n := 3) ((if_neg (c := ¬ (cHas (gA σ) d ∧ (0 ≤ s ∧ s ≤ 5) ∧ (0 ≤ o ∧ o ≤ 5))) (fun z => z ⟨h_1.1, h_1.2, h_2⟩)).trans ((if_neg (c := s = o) c_3).trans (if_pos (c := ¬ (cUp (gA σ) s ∧ cUp (gA σ) o ∧ cSt (gA σ) d s = 1)) (fun z => c_4 ⟨c_3, z⟩)))) (by decide) rfl)
  · exact zx_throw X F hxt hl hlocks zth_2 (List.mem_of_getElem? (i := 8) rfl) dX3_ask_15 dX3_ask_18 dX3_ask_19 dX3_ask_21 dX3_ask_24 (Nat.le_of_ble_eq_true rfl) (by decide) (Nat.le_of_ble_eq_true rfl) (Nat.le_of_ble_eq_true rfl) (fEx_i (n := 2) ((if_neg (c := ¬ (cHas (gA σ) d ∧ (0 ≤ s ∧ s ≤ 5) ∧ (0 ≤ o ∧ o ≤ 5))) (fun z => z ⟨h_1.1, h_1.2, h_2⟩)).trans (if_pos (c := s = o) c_3)) (by decide) rfl)

set_option maxHeartbeats 4000000 in
set_option maxRecDepth 100000 in
theorem c_X3_fallSilent {l : Launch} {D : va_G} {G : zG} {ad : Nat → Nat} (hJ : zInj ad) (hl : l.stackTraces = false) (σ : zM) (fi : fI σ) {s : Int} (hs : zB s)  : zKXI l D G ad yX3_fallSilent cX3_fallSilent 2 (some .int) 8 4 [.ref (ad 0), vI s] σ (fPo (zBk (fSv σ) 8 8 (cSilN (gA σ) s)) (mX_fallSilent (gA σ) s) (cSilR (gA σ) s)) (fEx σ (mX_fallSilent (gA σ) s) e13) := by
  intro sz
  refine zx_open hJ (by decide +kernel) (Nat.le_of_ble_eq_true rfl) ?_
  intro p e s0 m args below meth c hsz X F hxt hr hlocks
  subst hsz
  refine z_sub [(0, .ref (ad 0)), (1, vI s)] (zSub_cons rfl (zSub_cons rfl zSub_nil)) ?_
  refine z_iload_n X dX3_fallSilent_0 rfl ?_
  refine zx_callSV1 X F (c_X3_checkSite hJ hl σ hs) kX3_33 ⟨(Nat.le_of_ble_eq_true rfl), (Nat.le_of_ble_eq_true rfl)⟩ (Nat.le_of_ble_eq_true rfl) ⟨(Nat.le_of_ble_eq_true rfl), (Nat.le_of_ble_eq_true rfl)⟩ dX3_fallSilent_1 (fun E σ1 hx => ?_) (fun σ1 hz => ?_)
  · obtain ⟨e9, hx, rfl⟩ := hx
    rw [e9]
    exact zx_out hxt hlocks (fEx_i (n := 1) (if_pos (c := ¬ (0 ≤ s ∧ s ≤ 5)) hx) (by decide) rfl) (Nat.le_of_ble_eq_true rfl) (Nat.le_of_ble_eq_true rfl)
  obtain ⟨e9, h_1⟩ := hz
  rw [e9]
  refine z_aload_n X dX3_fallSilent_4 rfl ?_
  refine y_gDea0 X fX3_12 dX3_fallSilent_5 ?_
  refine z_iload_n X dX3_fallSilent_8 rfl ?_
  refine z_callVI1 X (zKI_at (gA_bk σ) (c_X2_isAwake hJ zn8 σ (N := gA σ) fi.1 hs)) kX3_114 rfl (by decide) (zNet_obj zn8 ad G _ _) ⟨(Nat.le_of_ble_eq_true rfl), (Nat.le_of_ble_eq_true rfl)⟩ (Nat.le_of_ble_eq_true rfl) ⟨(Nat.le_of_ble_eq_true rfl), (Nat.le_of_ble_eq_true rfl)⟩ dX3_fallSilent_9 (fun z9 σ1 hz9 => ?_)
  obtain ⟨rfl, rfl⟩ := hz9
  rw [gA_bk]
  refine z_ifb_ne X 25 dX3_fallSilent_12 (by decide) (fun c_2 => ?_) (fun c_2 => ?_)
  · refine z_aload_n X dX3_fallSilent_25 rfl ?_
    refine y_gDea2 X fX3_22 dX3_fallSilent_26 ?_
    refine z_aload_n X dX3_fallSilent_29 rfl ?_
    refine y_gDea0 X fX3_12 dX3_fallSilent_30 ?_
    refine z_callVV1 X (zKV_at (gH_bk σ) (c_X1_save hJ σ (N := gH σ) fi.2.1)) kX3_61 rfl (by decide) rfl ⟨(Nat.le_of_ble_eq_true rfl), (Nat.le_of_ble_eq_true rfl)⟩ (Nat.le_of_ble_eq_true rfl) ⟨(Nat.le_of_ble_eq_true rfl), (Nat.le_of_ble_eq_true rfl)⟩ dX3_fallSilent_33 (fun σ1 hz9 => ?_)
    obtain rfl : σ1 = fSv σ := hz9
    refine z_aload_n X dX3_fallSilent_36 rfl ?_
    refine y_gDea0 X fX3_12 dX3_fallSilent_37 ?_
    refine z_iload_n X dX3_fallSilent_40 rfl ?_
    refine z_callVI1 X (zKI_at (fSv_bk8 fi.2.1) (c_X2_silence hJ zn8 (fSv σ) (N := gA σ) fi.1 hs)) kX3_119 rfl (by decide) (zNet_obj zn8 ad G _ _) ⟨(Nat.le_of_ble_eq_true rfl), (Nat.le_of_ble_eq_true rfl)⟩ (Nat.le_of_ble_eq_true rfl) ⟨(Nat.le_of_ble_eq_true rfl), (Nat.le_of_ble_eq_true rfl)⟩ dX3_fallSilent_41 (fun z9 σ1 hz9 => ?_)
    obtain ⟨rfl, rfl⟩ := hz9
    exact zx_iret X hr hlocks dX3_fallSilent_44 ⟨rfl, rfl, ((if_neg (c := ¬ (0 ≤ s ∧ s ≤ 5)) (fun z => z h_1)).trans (if_neg (c := ¬ (cUp (gA σ) s)) (fun z => z c_2)))⟩ (Nat.le_of_ble_eq_true rfl) (Nat.le_of_ble_eq_true rfl)
  · exact zx_throw X F hxt hl hlocks zth_3 (List.mem_of_getElem? (i := 10) rfl) dX3_fallSilent_15 dX3_fallSilent_18 dX3_fallSilent_19 dX3_fallSilent_21 dX3_fallSilent_24 (Nat.le_of_ble_eq_true rfl) (by decide) (Nat.le_of_ble_eq_true rfl) (Nat.le_of_ble_eq_true rfl) (fEx_i (n := 2) ((if_neg (c := ¬ (0 ≤ s ∧ s ≤ 5)) (fun z => z h_1)).trans (if_pos (c := ¬ (cUp (gA σ) s)) c_2)) (by decide) rfl)

set_option maxHeartbeats 4000000 in
set_option maxRecDepth 100000 in
theorem c_X3_comeBack {l : Launch} {D : va_G} {G : zG} {ad : Nat → Nat} (hJ : zInj ad) (hl : l.stackTraces = false) (σ : zM) (fi : fI σ) {s : Int} (hs : zB s)  : zKXI l D G ad yX3_comeBack cX3_comeBack 2 (some .int) 8 4 [.ref (ad 0), vI s] σ (fPo (zBk (fSv σ) 8 8 (cWkN (gA σ) s)) (mX_comeBack (gA σ) s) (cWkR (gA σ) s)) (fEx σ (mX_comeBack (gA σ) s) e13) := by
  intro sz
  refine zx_open hJ (by decide +kernel) (Nat.le_of_ble_eq_true rfl) ?_
  intro p e s0 m args below meth c hsz X F hxt hr hlocks
  subst hsz
  refine z_sub [(0, .ref (ad 0)), (1, vI s)] (zSub_cons rfl (zSub_cons rfl zSub_nil)) ?_
  refine z_iload_n X dX3_comeBack_0 rfl ?_
  refine zx_callSV1 X F (c_X3_checkSite hJ hl σ hs) kX3_33 ⟨(Nat.le_of_ble_eq_true rfl), (Nat.le_of_ble_eq_true rfl)⟩ (Nat.le_of_ble_eq_true rfl) ⟨(Nat.le_of_ble_eq_true rfl), (Nat.le_of_ble_eq_true rfl)⟩ dX3_comeBack_1 (fun E σ1 hx => ?_) (fun σ1 hz => ?_)
  · obtain ⟨e9, hx, rfl⟩ := hx
    rw [e9]
    exact zx_out hxt hlocks (fEx_i (n := 1) (if_pos (c := ¬ (0 ≤ s ∧ s ≤ 5)) hx) (by decide) rfl) (Nat.le_of_ble_eq_true rfl) (Nat.le_of_ble_eq_true rfl)
  obtain ⟨e9, h_1⟩ := hz
  rw [e9]
  refine z_aload_n X dX3_comeBack_4 rfl ?_
  refine y_gDea0 X fX3_12 dX3_comeBack_5 ?_
  refine z_iload_n X dX3_comeBack_8 rfl ?_
  refine z_callVI1 X (zKI_at (gA_bk σ) (c_X2_isAwake hJ zn8 σ (N := gA σ) fi.1 hs)) kX3_114 rfl (by decide) (zNet_obj zn8 ad G _ _) ⟨(Nat.le_of_ble_eq_true rfl), (Nat.le_of_ble_eq_true rfl)⟩ (Nat.le_of_ble_eq_true rfl) ⟨(Nat.le_of_ble_eq_true rfl), (Nat.le_of_ble_eq_true rfl)⟩ dX3_comeBack_9 (fun z9 σ1 hz9 => ?_)
  obtain ⟨rfl, rfl⟩ := hz9
  rw [gA_bk]
  refine z_ifb_eq X 25 dX3_comeBack_12 (by decide) (fun c_2 => ?_) (fun c_2 => ?_)
  · refine z_aload_n X dX3_comeBack_25 rfl ?_
    refine y_gDea2 X fX3_22 dX3_comeBack_26 ?_
    refine z_aload_n X dX3_comeBack_29 rfl ?_
    refine y_gDea0 X fX3_12 dX3_comeBack_30 ?_
    refine z_callVV1 X (zKV_at (gH_bk σ) (c_X1_save hJ σ (N := gH σ) fi.2.1)) kX3_61 rfl (by decide) rfl ⟨(Nat.le_of_ble_eq_true rfl), (Nat.le_of_ble_eq_true rfl)⟩ (Nat.le_of_ble_eq_true rfl) ⟨(Nat.le_of_ble_eq_true rfl), (Nat.le_of_ble_eq_true rfl)⟩ dX3_comeBack_33 (fun σ1 hz9 => ?_)
    obtain rfl : σ1 = fSv σ := hz9
    refine z_aload_n X dX3_comeBack_36 rfl ?_
    refine y_gDea0 X fX3_12 dX3_comeBack_37 ?_
    refine z_iload_n X dX3_comeBack_40 rfl ?_
    refine z_callVI1 X (zKI_at (fSv_bk8 fi.2.1) (c_X2_wake hJ zn8 (fSv σ) (N := gA σ) fi.1 hs)) kX3_124 rfl (by decide) (zNet_obj zn8 ad G _ _) ⟨(Nat.le_of_ble_eq_true rfl), (Nat.le_of_ble_eq_true rfl)⟩ (Nat.le_of_ble_eq_true rfl) ⟨(Nat.le_of_ble_eq_true rfl), (Nat.le_of_ble_eq_true rfl)⟩ dX3_comeBack_41 (fun z9 σ1 hz9 => ?_)
    obtain ⟨rfl, rfl⟩ := hz9
    exact zx_iret X hr hlocks dX3_comeBack_44 ⟨rfl, rfl, ((if_neg (c := ¬ (0 ≤ s ∧ s ≤ 5)) (fun z => z h_1)).trans (if_neg (c := cUp (gA σ) s) c_2))⟩ (Nat.le_of_ble_eq_true rfl) (Nat.le_of_ble_eq_true rfl)
  · exact zx_throw X F hxt hl hlocks zth_3 (List.mem_of_getElem? (i := 11) rfl) dX3_comeBack_15 dX3_comeBack_18 dX3_comeBack_19 dX3_comeBack_21 dX3_comeBack_24 (Nat.le_of_ble_eq_true rfl) (by decide) (Nat.le_of_ble_eq_true rfl) (Nat.le_of_ble_eq_true rfl) (fEx_i (n := 2) ((if_neg (c := ¬ (0 ≤ s ∧ s ≤ 5)) (fun z => z h_1)).trans (if_pos (c := cUp (gA σ) s) c_2)) (by decide) rfl)

set_option maxHeartbeats 4000000 in
set_option maxRecDepth 100000 in
theorem c_X3_pass {l : Launch} {D : va_G} {G : zG} {ad : Nat → Nat} (hJ : zInj ad) (hl : l.stackTraces = false) (σ : zM) (fi : fI σ) {t : Int} (ht : zB t)  : zKXI l D G ad yX3_pass cX3_pass 2 (some .int) 8 4 [.ref (ad 0), vI t] σ (fPo (zBk (fSv σ) 8 8 (cPassN (gA σ) t)) (mX_pass (gA σ) t) (cPassR (gA σ) t)) (fEx σ (mX_pass (gA σ) t) e2) := by
  intro sz
  refine zx_open hJ (by decide +kernel) (Nat.le_of_ble_eq_true rfl) ?_
  intro p e s0 m args below meth c hsz X F hxt hr hlocks
  subst hsz
  refine z_sub [(0, .ref (ad 0)), (1, vI t)] (zSub_cons rfl (zSub_cons rfl zSub_nil)) ?_
  refine z_iload_n X dX3_pass_0 rfl ?_
  refine z_iconst X dX3_pass_1 ?_
  refine z_icmp_lt X 11 dX3_pass_2 (by decide) ht ⟨by decide, by decide⟩ (fun c_1 => ?_) (fun c_1 => ?_)
  · exact zx_throw X F hxt hl hlocks zth_2 (List.mem_of_getElem? (i := 12) rfl) dX3_pass_11 dX3_pass_14 dX3_pass_15 dX3_pass_17 dX3_pass_20 (Nat.le_of_ble_eq_true rfl) (by decide) (Nat.le_of_ble_eq_true rfl) (Nat.le_of_ble_eq_true rfl) (fEx_i (n := 1) (if_pos (c := ¬ (1 ≤ t ∧ t ≤ 20)) (fun z => by omega)) (by decide) rfl)
  · refine z_iload_n X dX3_pass_5 rfl ?_
    refine z_bipush X dX3_pass_6 rfl ?_
    refine z_icmp_le X 21 dX3_pass_8 (by decide) ht ⟨by decide, by decide⟩ (fun c_2 => ?_) (fun c_2 => ?_)
    · refine z_aload_n X dX3_pass_21 rfl ?_
      refine y_gDea2 X fX3_22 dX3_pass_22 ?_
      refine z_aload_n X dX3_pass_25 rfl ?_
      refine y_gDea0 X fX3_12 dX3_pass_26 ?_
      refine z_callVV1 X (zKV_at (gH_bk σ) (c_X1_save hJ σ (N := gH σ) fi.2.1)) kX3_61 rfl (by decide) rfl ⟨(Nat.le_of_ble_eq_true rfl), (Nat.le_of_ble_eq_true rfl)⟩ (Nat.le_of_ble_eq_true rfl) ⟨(Nat.le_of_ble_eq_true rfl), (Nat.le_of_ble_eq_true rfl)⟩ dX3_pass_29 (fun σ1 hz9 => ?_)
      obtain rfl : σ1 = fSv σ := hz9
      refine z_aload_n X dX3_pass_32 rfl ?_
      refine y_gDea0 X fX3_12 dX3_pass_33 ?_
      refine z_iload_n X dX3_pass_36 rfl ?_
      refine z_callVI1 X (zKI_at (fSv_bk8 fi.2.1) (c_X2_letPass hJ zn8 (fSv σ) (N := gA σ) fi.1 ht (by omega))) kX3_129 rfl (by decide) (zNet_obj zn8 ad G _ _) ⟨(Nat.le_of_ble_eq_true rfl), (Nat.le_of_ble_eq_true rfl)⟩ (Nat.le_of_ble_eq_true rfl) ⟨(Nat.le_of_ble_eq_true rfl), (Nat.le_of_ble_eq_true rfl)⟩ dX3_pass_37 (fun z9 σ1 hz9 => ?_)
      obtain ⟨rfl, rfl⟩ := hz9
      exact zx_iret X hr hlocks dX3_pass_40 ⟨rfl, rfl, (if_neg (c := ¬ (1 ≤ t ∧ t ≤ 20)) (fun z => z ⟨by omega, by omega⟩))⟩ (Nat.le_of_ble_eq_true rfl) (Nat.le_of_ble_eq_true rfl)
    · exact zx_throw X F hxt hl hlocks zth_2 (List.mem_of_getElem? (i := 12) rfl) dX3_pass_11 dX3_pass_14 dX3_pass_15 dX3_pass_17 dX3_pass_20 (Nat.le_of_ble_eq_true rfl) (by decide) (Nat.le_of_ble_eq_true rfl) (Nat.le_of_ble_eq_true rfl) (fEx_i (n := 1) (if_pos (c := ¬ (1 ≤ t ∧ t ≤ 20)) (fun z => by omega)) (by decide) rfl)

set_option maxHeartbeats 4000000 in
set_option maxRecDepth 100000 in
theorem c_X3_setPatience {l : Launch} {D : va_G} {G : zG} {ad : Nat → Nat} (hJ : zInj ad) (hl : l.stackTraces = false) (σ : zM) (fi : fI σ) {pt : Int} (hpt : zB pt)  : zKXI l D G ad yX3_setPatience cX3_setPatience 2 (some .int) 8 4 [.ref (ad 0), vI pt] σ (fPo (zBk (fSv σ) 8 8 (up2 (gA σ) 0 3 pt)) (mX_setPatience (gA σ) pt) ((gA σ) 0 3)) (fEx σ (mX_setPatience (gA σ) pt) e2) := by
  intro sz
  refine zx_open hJ (by decide +kernel) (Nat.le_of_ble_eq_true rfl) ?_
  intro p e s0 m args below meth c hsz X F hxt hr hlocks
  subst hsz
  refine z_sub [(0, .ref (ad 0)), (1, vI pt)] (zSub_cons rfl (zSub_cons rfl zSub_nil)) ?_
  refine z_iload_n X dX3_setPatience_0 rfl ?_
  refine z_iconst X dX3_setPatience_1 ?_
  refine z_icmp_lt X 11 dX3_setPatience_2 (by decide) hpt ⟨by decide, by decide⟩ (fun c_1 => ?_) (fun c_1 => ?_)
  · exact zx_throw X F hxt hl hlocks zth_2 (List.mem_of_getElem? (i := 13) rfl) dX3_setPatience_11 dX3_setPatience_14 dX3_setPatience_15 dX3_setPatience_17 dX3_setPatience_20 (Nat.le_of_ble_eq_true rfl) (by decide) (Nat.le_of_ble_eq_true rfl) (Nat.le_of_ble_eq_true rfl) (fEx_i (n := 1) (if_pos (c := ¬ (1 ≤ pt ∧ pt ≤ 20)) (fun z => by omega)) (by decide) rfl)
  · refine z_iload_n X dX3_setPatience_5 rfl ?_
    refine z_bipush X dX3_setPatience_6 rfl ?_
    refine z_icmp_le X 21 dX3_setPatience_8 (by decide) hpt ⟨by decide, by decide⟩ (fun c_2 => ?_) (fun c_2 => ?_)
    · refine z_aload_n X dX3_setPatience_21 rfl ?_
      refine y_gDea2 X fX3_22 dX3_setPatience_22 ?_
      refine z_aload_n X dX3_setPatience_25 rfl ?_
      refine y_gDea0 X fX3_12 dX3_setPatience_26 ?_
      refine z_callVV1 X (zKV_at (gH_bk σ) (c_X1_save hJ σ (N := gH σ) fi.2.1)) kX3_61 rfl (by decide) rfl ⟨(Nat.le_of_ble_eq_true rfl), (Nat.le_of_ble_eq_true rfl)⟩ (Nat.le_of_ble_eq_true rfl) ⟨(Nat.le_of_ble_eq_true rfl), (Nat.le_of_ble_eq_true rfl)⟩ dX3_setPatience_29 (fun σ1 hz9 => ?_)
      obtain rfl : σ1 = fSv σ := hz9
      refine z_aload_n X dX3_setPatience_32 rfl ?_
      refine y_gDea0 X fX3_12 dX3_setPatience_33 ?_
      refine z_iload_n X dX3_setPatience_36 rfl ?_
      refine z_callVI1 X (zKI_at (fSv_bk8 fi.2.1) (c_X2_changePatience hJ zn8 (fSv σ) (N := gA σ) fi.1 hpt)) kX3_134 rfl (by decide) (zNet_obj zn8 ad G _ _) ⟨(Nat.le_of_ble_eq_true rfl), (Nat.le_of_ble_eq_true rfl)⟩ (Nat.le_of_ble_eq_true rfl) ⟨(Nat.le_of_ble_eq_true rfl), (Nat.le_of_ble_eq_true rfl)⟩ dX3_setPatience_37 (fun z9 σ1 hz9 => ?_)
      obtain ⟨rfl, rfl⟩ := hz9
      exact zx_iret X hr hlocks dX3_setPatience_40 ⟨rfl, rfl, (if_neg (c := ¬ (1 ≤ pt ∧ pt ≤ 20)) (fun z => z ⟨by omega, by omega⟩))⟩ (Nat.le_of_ble_eq_true rfl) (Nat.le_of_ble_eq_true rfl)
    · exact zx_throw X F hxt hl hlocks zth_2 (List.mem_of_getElem? (i := 13) rfl) dX3_setPatience_11 dX3_setPatience_14 dX3_setPatience_15 dX3_setPatience_17 dX3_setPatience_20 (Nat.le_of_ble_eq_true rfl) (by decide) (Nat.le_of_ble_eq_true rfl) (Nat.le_of_ble_eq_true rfl) (fEx_i (n := 1) (if_pos (c := ¬ (1 ≤ pt ∧ pt ≤ 20)) (fun z => by omega)) (by decide) rfl)

set_option maxHeartbeats 4000000 in
set_option maxRecDepth 100000 in
theorem c_X3_isUp {l : Launch} {D : va_G} {G : zG} {ad : Nat → Nat} (hJ : zInj ad) (hl : l.stackTraces = false) (σ : zM) (fi : fI σ) {s : Int} (hs : zB s)  : zKXI l D G ad yX3_isUp cX3_isUp 2 (some .boolean) 8 4 [.ref (ad 0), vI s] σ (fPo σ (if 0 ≤ s ∧ s ≤ 5 then 0 else 1) (if cUp (gA σ) s then 1 else 0)) (fEx σ (if 0 ≤ s ∧ s ≤ 5 then 0 else 1) e1) := by
  intro sz
  refine zx_open hJ (by decide +kernel) (Nat.le_of_ble_eq_true rfl) ?_
  intro p e s0 m args below meth c hsz X F hxt hr hlocks
  subst hsz
  refine z_sub [(0, .ref (ad 0)), (1, vI s)] (zSub_cons rfl (zSub_cons rfl zSub_nil)) ?_
  refine z_iload_n X dX3_isUp_0 rfl ?_
  refine zx_callSV1 X F (c_X3_checkSite hJ hl σ hs) kX3_33 ⟨(Nat.le_of_ble_eq_true rfl), (Nat.le_of_ble_eq_true rfl)⟩ (Nat.le_of_ble_eq_true rfl) ⟨(Nat.le_of_ble_eq_true rfl), (Nat.le_of_ble_eq_true rfl)⟩ dX3_isUp_1 (fun E σ1 hx => ?_) (fun σ1 hz => ?_)
  · obtain ⟨e9, hx, rfl⟩ := hx
    rw [e9]
    exact zx_out hxt hlocks (fEx_i (n := 1) (if_neg (c := 0 ≤ s ∧ s ≤ 5) hx) (by decide) rfl) (Nat.le_of_ble_eq_true rfl) (Nat.le_of_ble_eq_true rfl)
  obtain ⟨e9, h_1⟩ := hz
  rw [e9]
  refine z_aload_n X dX3_isUp_4 rfl ?_
  refine y_gDea0 X fX3_12 dX3_isUp_5 ?_
  refine z_iload_n X dX3_isUp_8 rfl ?_
  refine z_callVI1 X (zKI_at (gA_bk σ) (c_X2_isAwake hJ zn8 σ (N := gA σ) fi.1 hs)) kX3_114 rfl (by decide) (zNet_obj zn8 ad G _ _) ⟨(Nat.le_of_ble_eq_true rfl), (Nat.le_of_ble_eq_true rfl)⟩ (Nat.le_of_ble_eq_true rfl) ⟨(Nat.le_of_ble_eq_true rfl), (Nat.le_of_ble_eq_true rfl)⟩ dX3_isUp_9 (fun z9 σ1 hz9 => ?_)
  obtain ⟨rfl, rfl⟩ := hz9
  rw [gA_bk]
  exact zx_zret X hr hlocks dX3_isUp_12 zB01 ⟨rfl, rfl, (if_pos (c := 0 ≤ s ∧ s ≤ 5) h_1)⟩ (Nat.le_of_ble_eq_true rfl) (Nat.le_of_ble_eq_true rfl)

set_option maxHeartbeats 4000000 in
set_option maxRecDepth 100000 in
theorem c_X3_state {l : Launch} {D : va_G} {G : zG} {ad : Nat → Nat} (hJ : zInj ad) (hl : l.stackTraces = false) (σ : zM) (fi : fI σ) {d : Int} (hd : zB d) {s : Int} (hs : zB s)  : zKXI l D G ad yX3_state cX3_state 3 (some .int) 8 4 [.ref (ad 0), vI d, vI s] σ (fPo σ (if cHas (gA σ) d ∧ (0 ≤ s ∧ s ≤ 5) then 0 else 1) (cSt (gA σ) d s)) (fEx σ (if cHas (gA σ) d ∧ (0 ≤ s ∧ s ≤ 5) then 0 else 1) e1) := by
  intro sz
  refine zx_open hJ (by decide +kernel) (Nat.le_of_ble_eq_true rfl) ?_
  intro p e s0 m args below meth c hsz X F hxt hr hlocks
  subst hsz
  refine z_sub [(0, .ref (ad 0)), (1, vI d), (2, vI s)] (zSub_cons rfl (zSub_cons rfl (zSub_cons rfl zSub_nil))) ?_
  refine z_aload_n X dX3_state_0 rfl ?_
  refine z_iload_n X dX3_state_1 rfl ?_
  refine z_iload_n X dX3_state_2 rfl ?_
  refine zx_callVV2 X F (c_X3_checkDealAndSite hJ hl σ fi hd hs) kX3_69 rfl (by decide) rfl ⟨(Nat.le_of_ble_eq_true rfl), (Nat.le_of_ble_eq_true rfl)⟩ (Nat.le_of_ble_eq_true rfl) ⟨(Nat.le_of_ble_eq_true rfl), (Nat.le_of_ble_eq_true rfl)⟩ dX3_state_3 (fun E σ1 hx => ?_) (fun σ1 hz => ?_)
  · obtain ⟨e9, hx, rfl⟩ := hx
    rw [e9]
    exact zx_out hxt hlocks (fEx_i (n := 1) (if_neg (c := cHas (gA σ) d ∧ (0 ≤ s ∧ s ≤ 5)) hx) (by decide) rfl) (Nat.le_of_ble_eq_true rfl) (Nat.le_of_ble_eq_true rfl)
  obtain ⟨e9, h_1⟩ := hz
  rw [e9]
  refine z_aload_n X dX3_state_6 rfl ?_
  refine y_gDea0 X fX3_12 dX3_state_7 ?_
  refine z_iload_n X dX3_state_10 rfl ?_
  refine z_iload_n X dX3_state_11 rfl ?_
  refine z_callVI2 X (zKI_at (gA_bk σ) (c_X2_stateOf hJ zn8 σ (N := gA σ) fi.1 hd hs)) kX3_141 rfl (by decide) (zNet_obj zn8 ad G _ _) ⟨(Nat.le_of_ble_eq_true rfl), (Nat.le_of_ble_eq_true rfl)⟩ (Nat.le_of_ble_eq_true rfl) ⟨(Nat.le_of_ble_eq_true rfl), (Nat.le_of_ble_eq_true rfl)⟩ dX3_state_12 (fun z9 σ1 hz9 => ?_)
  obtain ⟨rfl, rfl⟩ := hz9
  rw [gA_bk]
  exact zx_iret X hr hlocks dX3_state_15 ⟨rfl, rfl, (if_pos (c := cHas (gA σ) d ∧ (0 ≤ s ∧ s ≤ 5)) h_1)⟩ (Nat.le_of_ble_eq_true rfl) (Nat.le_of_ble_eq_true rfl)

set_option maxHeartbeats 4000000 in
set_option maxRecDepth 100000 in
theorem c_X3_decision {l : Launch} {D : va_G} {G : zG} {ad : Nat → Nat} (hJ : zInj ad) (hl : l.stackTraces = false) (σ : zM) (fi : fI σ) {d : Int} (hd : zB d)  : zKXI l D G ad yX3_decision cX3_decision 2 (some .int) 8 4 [.ref (ad 0), vI d] σ (fPo σ (if cHas (gA σ) d then 0 else 1) (cDec (gA σ) d)) (fEx σ (if cHas (gA σ) d then 0 else 1) e1) := by
  intro sz
  refine zx_open hJ (by decide +kernel) (Nat.le_of_ble_eq_true rfl) ?_
  intro p e s0 m args below meth c hsz X F hxt hr hlocks
  subst hsz
  refine z_sub [(0, .ref (ad 0)), (1, vI d)] (zSub_cons rfl (zSub_cons rfl zSub_nil)) ?_
  refine z_aload_n X dX3_decision_0 rfl ?_
  refine z_iload_n X dX3_decision_1 rfl ?_
  refine zx_callVV1 X F (c_X3_checkDeal hJ hl σ fi hd) kX3_82 rfl (by decide) rfl ⟨(Nat.le_of_ble_eq_true rfl), (Nat.le_of_ble_eq_true rfl)⟩ (Nat.le_of_ble_eq_true rfl) ⟨(Nat.le_of_ble_eq_true rfl), (Nat.le_of_ble_eq_true rfl)⟩ dX3_decision_2 (fun E σ1 hx => ?_) (fun σ1 hz => ?_)
  · obtain ⟨e9, hx, rfl⟩ := hx
    rw [e9]
    exact zx_out hxt hlocks (fEx_i (n := 1) (if_neg (c := cHas (gA σ) d) hx) (by decide) rfl) (Nat.le_of_ble_eq_true rfl) (Nat.le_of_ble_eq_true rfl)
  obtain ⟨e9, h_1⟩ := hz
  rw [e9]
  refine z_aload_n X dX3_decision_5 rfl ?_
  refine y_gDea0 X fX3_12 dX3_decision_6 ?_
  refine z_iload_n X dX3_decision_9 rfl ?_
  refine z_callVI1 X (zKI_at (gA_bk σ) (c_X2_decisionOf hJ zn8 σ (N := gA σ) fi.1 hd)) kX3_144 rfl (by decide) (zNet_obj zn8 ad G _ _) ⟨(Nat.le_of_ble_eq_true rfl), (Nat.le_of_ble_eq_true rfl)⟩ (Nat.le_of_ble_eq_true rfl) ⟨(Nat.le_of_ble_eq_true rfl), (Nat.le_of_ble_eq_true rfl)⟩ dX3_decision_10 (fun z9 σ1 hz9 => ?_)
  obtain ⟨rfl, rfl⟩ := hz9
  rw [gA_bk]
  exact zx_iret X hr hlocks dX3_decision_13 ⟨rfl, rfl, (if_pos (c := cHas (gA σ) d) h_1)⟩ (Nat.le_of_ble_eq_true rfl) (Nat.le_of_ble_eq_true rfl)

set_option maxHeartbeats 4000000 in
set_option maxRecDepth 100000 in
theorem c_X3_leader {l : Launch} {D : va_G} {G : zG} {ad : Nat → Nat} (hJ : zInj ad) (hl : l.stackTraces = false) (σ : zM) (fi : fI σ) {d : Int} (hd : zB d)  : zKXI l D G ad yX3_leader cX3_leader 2 (some .int) 8 4 [.ref (ad 0), vI d] σ (fPo σ (if cHas (gA σ) d then 0 else 1) (cLead (gA σ) d)) (fEx σ (if cHas (gA σ) d then 0 else 1) e1) := by
  intro sz
  refine zx_open hJ (by decide +kernel) (Nat.le_of_ble_eq_true rfl) ?_
  intro p e s0 m args below meth c hsz X F hxt hr hlocks
  subst hsz
  refine z_sub [(0, .ref (ad 0)), (1, vI d)] (zSub_cons rfl (zSub_cons rfl zSub_nil)) ?_
  refine z_aload_n X dX3_leader_0 rfl ?_
  refine z_iload_n X dX3_leader_1 rfl ?_
  refine zx_callVV1 X F (c_X3_checkDeal hJ hl σ fi hd) kX3_82 rfl (by decide) rfl ⟨(Nat.le_of_ble_eq_true rfl), (Nat.le_of_ble_eq_true rfl)⟩ (Nat.le_of_ble_eq_true rfl) ⟨(Nat.le_of_ble_eq_true rfl), (Nat.le_of_ble_eq_true rfl)⟩ dX3_leader_2 (fun E σ1 hx => ?_) (fun σ1 hz => ?_)
  · obtain ⟨e9, hx, rfl⟩ := hx
    rw [e9]
    exact zx_out hxt hlocks (fEx_i (n := 1) (if_neg (c := cHas (gA σ) d) hx) (by decide) rfl) (Nat.le_of_ble_eq_true rfl) (Nat.le_of_ble_eq_true rfl)
  obtain ⟨e9, h_1⟩ := hz
  rw [e9]
  refine z_aload_n X dX3_leader_5 rfl ?_
  refine y_gDea0 X fX3_12 dX3_leader_6 ?_
  refine z_iload_n X dX3_leader_9 rfl ?_
  refine z_callVI1 X (zKI_at (gA_bk σ) (c_X2_leaderOf hJ zn8 σ (N := gA σ) fi.1 hd)) kX3_147 rfl (by decide) (zNet_obj zn8 ad G _ _) ⟨(Nat.le_of_ble_eq_true rfl), (Nat.le_of_ble_eq_true rfl)⟩ (Nat.le_of_ble_eq_true rfl) ⟨(Nat.le_of_ble_eq_true rfl), (Nat.le_of_ble_eq_true rfl)⟩ dX3_leader_10 (fun z9 σ1 hz9 => ?_)
  obtain ⟨rfl, rfl⟩ := hz9
  rw [gA_bk]
  exact zx_iret X hr hlocks dX3_leader_13 ⟨rfl, rfl, (if_pos (c := cHas (gA σ) d) h_1)⟩ (Nat.le_of_ble_eq_true rfl) (Nat.le_of_ble_eq_true rfl)

set_option maxHeartbeats 4000000 in
set_option maxRecDepth 100000 in
theorem c_X3_patience {l : Launch} {D : va_G} {G : zG} {ad : Nat → Nat} (hJ : zInj ad) (hl : l.stackTraces = false) (σ : zM) (fi : fI σ) {d : Int} (hd : zB d) {s : Int} (hs : zB s)  : zKXI l D G ad yX3_patience cX3_patience 3 (some .int) 8 4 [.ref (ad 0), vI d, vI s] σ (fPo σ (if cHas (gA σ) d ∧ (0 ≤ s ∧ s ≤ 5) then 0 else 1) (cPat (gA σ) d s)) (fEx σ (if cHas (gA σ) d ∧ (0 ≤ s ∧ s ≤ 5) then 0 else 1) e1) := by
  intro sz
  refine zx_open hJ (by decide +kernel) (Nat.le_of_ble_eq_true rfl) ?_
  intro p e s0 m args below meth c hsz X F hxt hr hlocks
  subst hsz
  refine z_sub [(0, .ref (ad 0)), (1, vI d), (2, vI s)] (zSub_cons rfl (zSub_cons rfl (zSub_cons rfl zSub_nil))) ?_
  refine z_aload_n X dX3_patience_0 rfl ?_
  refine z_iload_n X dX3_patience_1 rfl ?_
  refine z_iload_n X dX3_patience_2 rfl ?_
  refine zx_callVV2 X F (c_X3_checkDealAndSite hJ hl σ fi hd hs) kX3_69 rfl (by decide) rfl ⟨(Nat.le_of_ble_eq_true rfl), (Nat.le_of_ble_eq_true rfl)⟩ (Nat.le_of_ble_eq_true rfl) ⟨(Nat.le_of_ble_eq_true rfl), (Nat.le_of_ble_eq_true rfl)⟩ dX3_patience_3 (fun E σ1 hx => ?_) (fun σ1 hz => ?_)
  · obtain ⟨e9, hx, rfl⟩ := hx
    rw [e9]
    exact zx_out hxt hlocks (fEx_i (n := 1) (if_neg (c := cHas (gA σ) d ∧ (0 ≤ s ∧ s ≤ 5)) hx) (by decide) rfl) (Nat.le_of_ble_eq_true rfl) (Nat.le_of_ble_eq_true rfl)
  obtain ⟨e9, h_1⟩ := hz
  rw [e9]
  refine z_aload_n X dX3_patience_6 rfl ?_
  refine y_gDea0 X fX3_12 dX3_patience_7 ?_
  refine z_iload_n X dX3_patience_10 rfl ?_
  refine z_iload_n X dX3_patience_11 rfl ?_
  refine z_callVI2 X (zKI_at (gA_bk σ) (c_X2_patienceOf hJ zn8 σ (N := gA σ) fi.1 hd hs)) kX3_150 rfl (by decide) (zNet_obj zn8 ad G _ _) ⟨(Nat.le_of_ble_eq_true rfl), (Nat.le_of_ble_eq_true rfl)⟩ (Nat.le_of_ble_eq_true rfl) ⟨(Nat.le_of_ble_eq_true rfl), (Nat.le_of_ble_eq_true rfl)⟩ dX3_patience_12 (fun z9 σ1 hz9 => ?_)
  obtain ⟨rfl, rfl⟩ := hz9
  rw [gA_bk]
  exact zx_iret X hr hlocks dX3_patience_15 ⟨rfl, rfl, (if_pos (c := cHas (gA σ) d ∧ (0 ≤ s ∧ s ≤ 5)) h_1)⟩ (Nat.le_of_ble_eq_true rfl) (Nat.le_of_ble_eq_true rfl)

set_option maxHeartbeats 4000000 in
set_option maxRecDepth 100000 in
theorem c_X3_logLength {l : Launch} {D : va_G} {G : zG} {ad : Nat → Nat} (hJ : zInj ad) (hl : l.stackTraces = false) (σ : zM) (fi : fI σ) {s : Int} (hs : zB s)  : zKXI l D G ad yX3_logLength cX3_logLength 2 (some .int) 8 4 [.ref (ad 0), vI s] σ (fPo σ (if 0 ≤ s ∧ s ≤ 5 then 0 else 1) (cEnt (gA σ) s)) (fEx σ (if 0 ≤ s ∧ s ≤ 5 then 0 else 1) e1) := by
  intro sz
  refine zx_open hJ (by decide +kernel) (Nat.le_of_ble_eq_true rfl) ?_
  intro p e s0 m args below meth c hsz X F hxt hr hlocks
  subst hsz
  refine z_sub [(0, .ref (ad 0)), (1, vI s)] (zSub_cons rfl (zSub_cons rfl zSub_nil)) ?_
  refine z_iload_n X dX3_logLength_0 rfl ?_
  refine zx_callSV1 X F (c_X3_checkSite hJ hl σ hs) kX3_33 ⟨(Nat.le_of_ble_eq_true rfl), (Nat.le_of_ble_eq_true rfl)⟩ (Nat.le_of_ble_eq_true rfl) ⟨(Nat.le_of_ble_eq_true rfl), (Nat.le_of_ble_eq_true rfl)⟩ dX3_logLength_1 (fun E σ1 hx => ?_) (fun σ1 hz => ?_)
  · obtain ⟨e9, hx, rfl⟩ := hx
    rw [e9]
    exact zx_out hxt hlocks (fEx_i (n := 1) (if_neg (c := 0 ≤ s ∧ s ≤ 5) hx) (by decide) rfl) (Nat.le_of_ble_eq_true rfl) (Nat.le_of_ble_eq_true rfl)
  obtain ⟨e9, h_1⟩ := hz
  rw [e9]
  refine z_aload_n X dX3_logLength_4 rfl ?_
  refine y_gDea0 X fX3_12 dX3_logLength_5 ?_
  refine z_iload_n X dX3_logLength_8 rfl ?_
  refine z_callVI1 X (zKI_at (gA_bk σ) (c_X2_entriesOf hJ zn8 σ (N := gA σ) fi.1 hs)) kX3_159 rfl (by decide) (zNet_obj zn8 ad G _ _) ⟨(Nat.le_of_ble_eq_true rfl), (Nat.le_of_ble_eq_true rfl)⟩ (Nat.le_of_ble_eq_true rfl) ⟨(Nat.le_of_ble_eq_true rfl), (Nat.le_of_ble_eq_true rfl)⟩ dX3_logLength_9 (fun z9 σ1 hz9 => ?_)
  obtain ⟨rfl, rfl⟩ := hz9
  rw [gA_bk]
  exact zx_iret X hr hlocks dX3_logLength_12 ⟨rfl, rfl, (if_pos (c := 0 ≤ s ∧ s ≤ 5) h_1)⟩ (Nat.le_of_ble_eq_true rfl) (Nat.le_of_ble_eq_true rfl)

set_option maxHeartbeats 4000000 in
set_option maxRecDepth 100000 in
theorem c_X3_log {l : Launch} {D : va_G} {G : zG} {ad : Nat → Nat} (hJ : zInj ad) (hl : l.stackTraces = false) (σ : zM) (fi : fI σ) {s : Int} (hs : zB s) {i : Int} (hi : zB i)  : zKXI l D G ad yX3_log cX3_log 3 (some .int) 8 4 [.ref (ad 0), vI s, vI i] σ (fPo σ (if (0 ≤ s ∧ s ≤ 5) ∧ 0 ≤ i then 0 else 1) (cEntry (gA σ) s i)) (fEx σ (if (0 ≤ s ∧ s ≤ 5) ∧ 0 ≤ i then 0 else 1) e1) := by
  intro sz
  refine zx_open hJ (by decide +kernel) (Nat.le_of_ble_eq_true rfl) ?_
  intro p e s0 m args below meth c hsz X F hxt hr hlocks
  subst hsz
  refine z_sub [(0, .ref (ad 0)), (1, vI s), (2, vI i)] (zSub_cons rfl (zSub_cons rfl (zSub_cons rfl zSub_nil))) ?_
  refine z_iload_n X dX3_log_0 rfl ?_
  refine zx_callSV1 X F (c_X3_checkSite hJ hl σ hs) kX3_33 ⟨(Nat.le_of_ble_eq_true rfl), (Nat.le_of_ble_eq_true rfl)⟩ (Nat.le_of_ble_eq_true rfl) ⟨(Nat.le_of_ble_eq_true rfl), (Nat.le_of_ble_eq_true rfl)⟩ dX3_log_1 (fun E σ1 hx => ?_) (fun σ1 hz => ?_)
  · obtain ⟨e9, hx, rfl⟩ := hx
    rw [e9]
    exact zx_out hxt hlocks (fEx_i (n := 1) (if_neg (c := (0 ≤ s ∧ s ≤ 5) ∧ 0 ≤ i) (fun z => hx z.1)) (by decide) rfl) (Nat.le_of_ble_eq_true rfl) (Nat.le_of_ble_eq_true rfl)
  obtain ⟨e9, h_1⟩ := hz
  rw [e9]
  refine z_iload_n X dX3_log_4 rfl ?_
  refine z_if_ge X 18 dX3_log_5 (by decide) hi (fun c_2 => ?_) (fun c_2 => ?_)
  · refine z_aload_n X dX3_log_18 rfl ?_
    refine y_gDea0 X fX3_12 dX3_log_19 ?_
    refine z_iload_n X dX3_log_22 rfl ?_
    refine z_iload_n X dX3_log_23 rfl ?_
    refine z_callVI2 X (zKI_at (gA_bk σ) (c_X2_entryAt hJ zn8 σ (N := gA σ) fi.1 hs hi)) kX3_167 rfl (by decide) (zNet_obj zn8 ad G _ _) ⟨(Nat.le_of_ble_eq_true rfl), (Nat.le_of_ble_eq_true rfl)⟩ (Nat.le_of_ble_eq_true rfl) ⟨(Nat.le_of_ble_eq_true rfl), (Nat.le_of_ble_eq_true rfl)⟩ dX3_log_24 (fun z9 σ1 hz9 => ?_)
    obtain ⟨rfl, rfl⟩ := hz9
    rw [gA_bk]
    exact zx_iret X hr hlocks dX3_log_27 ⟨rfl, rfl, (if_pos (c := (0 ≤ s ∧ s ≤ 5) ∧ 0 ≤ i) ⟨h_1, c_2⟩)⟩ (Nat.le_of_ble_eq_true rfl) (Nat.le_of_ble_eq_true rfl)
  · exact zx_throw X F hxt hl hlocks zth_1 (List.mem_of_getElem? (i := 14) rfl) dX3_log_8 dX3_log_11 dX3_log_12 dX3_log_14 dX3_log_17 (Nat.le_of_ble_eq_true rfl) (by decide) (Nat.le_of_ble_eq_true rfl) (Nat.le_of_ble_eq_true rfl) (fEx_i (n := 1) (if_neg (c := (0 ≤ s ∧ s ≤ 5) ∧ 0 ≤ i) (fun z => by omega)) (by decide) rfl)

set_option maxHeartbeats 4000000 in
set_option maxRecDepth 100000 in
theorem c_X3_held {l : Launch} {D : va_G} {G : zG} {ad : Nat → Nat} (hJ : zInj ad) (hl : l.stackTraces = false) (σ : zM) (fi : fI σ) {s : Int} (hs : zB s)  : zKXI l D G ad yX3_held cX3_held 2 (some .int) 8 4 [.ref (ad 0), vI s] σ (fPo σ (if 0 ≤ s ∧ s ≤ 5 then 0 else 1) (cHeld (gA σ) s ((gA σ) 0 0).toNat)) (fEx σ (if 0 ≤ s ∧ s ≤ 5 then 0 else 1) e1) := by
  intro sz
  refine zx_open hJ (by decide +kernel) (Nat.le_of_ble_eq_true rfl) ?_
  intro p e s0 m args below meth c hsz X F hxt hr hlocks
  subst hsz
  refine z_sub [(0, .ref (ad 0)), (1, vI s)] (zSub_cons rfl (zSub_cons rfl zSub_nil)) ?_
  refine z_iload_n X dX3_held_0 rfl ?_
  refine zx_callSV1 X F (c_X3_checkSite hJ hl σ hs) kX3_33 ⟨(Nat.le_of_ble_eq_true rfl), (Nat.le_of_ble_eq_true rfl)⟩ (Nat.le_of_ble_eq_true rfl) ⟨(Nat.le_of_ble_eq_true rfl), (Nat.le_of_ble_eq_true rfl)⟩ dX3_held_1 (fun E σ1 hx => ?_) (fun σ1 hz => ?_)
  · obtain ⟨e9, hx, rfl⟩ := hx
    rw [e9]
    exact zx_out hxt hlocks (fEx_i (n := 1) (if_neg (c := 0 ≤ s ∧ s ≤ 5) hx) (by decide) rfl) (Nat.le_of_ble_eq_true rfl) (Nat.le_of_ble_eq_true rfl)
  obtain ⟨e9, h_1⟩ := hz
  rw [e9]
  refine z_aload_n X dX3_held_4 rfl ?_
  refine y_gDea0 X fX3_12 dX3_held_5 ?_
  refine z_iload_n X dX3_held_8 rfl ?_
  refine z_callVI1 X (zKI_at (gA_bk σ) (c_X2_itemsHeldBy hJ zn8 σ (N := gA σ) fi.1 hs)) kX3_170 rfl (by decide) (zNet_obj zn8 ad G _ _) ⟨(Nat.le_of_ble_eq_true rfl), (Nat.le_of_ble_eq_true rfl)⟩ (Nat.le_of_ble_eq_true rfl) ⟨(Nat.le_of_ble_eq_true rfl), (Nat.le_of_ble_eq_true rfl)⟩ dX3_held_9 (fun z9 σ1 hz9 => ?_)
  obtain ⟨rfl, rfl⟩ := hz9
  rw [gA_bk]
  exact zx_iret X hr hlocks dX3_held_12 ⟨rfl, rfl, (if_pos (c := 0 ≤ s ∧ s ≤ 5) h_1)⟩ (Nat.le_of_ble_eq_true rfl) (Nat.le_of_ble_eq_true rfl)

set_option maxHeartbeats 4000000 in
set_option maxRecDepth 100000 in
theorem c_X3_reason {l : Launch} {D : va_G} {G : zG} {ad : Nat → Nat} (hJ : zInj ad) (hl : l.stackTraces = false) (σ : zM) (fi : fI σ) {d : Int} (hd : zB d) {s : Int} (hs : zB s)  : zKXI l D G ad yX3_reason cX3_reason 3 (some .int) 8 4 [.ref (ad 0), vI d, vI s] σ (fPo σ (if cHas (gA σ) d ∧ (0 ≤ s ∧ s ≤ 5) then 0 else 1) (cReas (gA σ) d s)) (fEx σ (if cHas (gA σ) d ∧ (0 ≤ s ∧ s ≤ 5) then 0 else 1) e1) := by
  intro sz
  refine zx_open hJ (by decide +kernel) (Nat.le_of_ble_eq_true rfl) ?_
  intro p e s0 m args below meth c hsz X F hxt hr hlocks
  subst hsz
  refine z_sub [(0, .ref (ad 0)), (1, vI d), (2, vI s)] (zSub_cons rfl (zSub_cons rfl (zSub_cons rfl zSub_nil))) ?_
  refine z_aload_n X dX3_reason_0 rfl ?_
  refine z_iload_n X dX3_reason_1 rfl ?_
  refine z_iload_n X dX3_reason_2 rfl ?_
  refine zx_callVV2 X F (c_X3_checkDealAndSite hJ hl σ fi hd hs) kX3_69 rfl (by decide) rfl ⟨(Nat.le_of_ble_eq_true rfl), (Nat.le_of_ble_eq_true rfl)⟩ (Nat.le_of_ble_eq_true rfl) ⟨(Nat.le_of_ble_eq_true rfl), (Nat.le_of_ble_eq_true rfl)⟩ dX3_reason_3 (fun E σ1 hx => ?_) (fun σ1 hz => ?_)
  · obtain ⟨e9, hx, rfl⟩ := hx
    rw [e9]
    exact zx_out hxt hlocks (fEx_i (n := 1) (if_neg (c := cHas (gA σ) d ∧ (0 ≤ s ∧ s ≤ 5)) hx) (by decide) rfl) (Nat.le_of_ble_eq_true rfl) (Nat.le_of_ble_eq_true rfl)
  obtain ⟨e9, h_1⟩ := hz
  rw [e9]
  refine z_aload_n X dX3_reason_6 rfl ?_
  refine y_gDea0 X fX3_12 dX3_reason_7 ?_
  refine z_iload_n X dX3_reason_10 rfl ?_
  refine z_iload_n X dX3_reason_11 rfl ?_
  refine z_callVI2 X (zKI_at (gA_bk σ) (c_X2_reasonAgainstYes hJ zn8 σ (N := gA σ) fi.1 hd hs)) kX3_182 rfl (by decide) (zNet_obj zn8 ad G _ _) ⟨(Nat.le_of_ble_eq_true rfl), (Nat.le_of_ble_eq_true rfl)⟩ (Nat.le_of_ble_eq_true rfl) ⟨(Nat.le_of_ble_eq_true rfl), (Nat.le_of_ble_eq_true rfl)⟩ dX3_reason_12 (fun z9 σ1 hz9 => ?_)
  obtain ⟨rfl, rfl⟩ := hz9
  rw [gA_bk]
  exact zx_iret X hr hlocks dX3_reason_15 ⟨rfl, rfl, (if_pos (c := cHas (gA σ) d ∧ (0 ≤ s ∧ s ≤ 5)) h_1)⟩ (Nat.le_of_ble_eq_true rfl) (Nat.le_of_ble_eq_true rfl)

set_option maxHeartbeats 4000000 in
set_option maxRecDepth 100000 in
theorem c_X3_helper {l : Launch} {D : va_G} {G : zG} {ad : Nat → Nat} (hJ : zInj ad) (hl : l.stackTraces = false) (σ : zM) (fi : fI σ) {d : Int} (hd : zB d) {s : Int} (hs : zB s)  : zKXI l D G ad yX3_helper cX3_helper 3 (some .int) 8 4 [.ref (ad 0), vI d, vI s] σ (fPo σ (if cHas (gA σ) d ∧ (0 ≤ s ∧ s ≤ 5) then 0 else 1) (cHelp (gA σ) d s)) (fEx σ (if cHas (gA σ) d ∧ (0 ≤ s ∧ s ≤ 5) then 0 else 1) e1) := by
  intro sz
  refine zx_open hJ (by decide +kernel) (Nat.le_of_ble_eq_true rfl) ?_
  intro p e s0 m args below meth c hsz X F hxt hr hlocks
  subst hsz
  refine z_sub [(0, .ref (ad 0)), (1, vI d), (2, vI s)] (zSub_cons rfl (zSub_cons rfl (zSub_cons rfl zSub_nil))) ?_
  refine z_aload_n X dX3_helper_0 rfl ?_
  refine z_iload_n X dX3_helper_1 rfl ?_
  refine z_iload_n X dX3_helper_2 rfl ?_
  refine zx_callVV2 X F (c_X3_checkDealAndSite hJ hl σ fi hd hs) kX3_69 rfl (by decide) rfl ⟨(Nat.le_of_ble_eq_true rfl), (Nat.le_of_ble_eq_true rfl)⟩ (Nat.le_of_ble_eq_true rfl) ⟨(Nat.le_of_ble_eq_true rfl), (Nat.le_of_ble_eq_true rfl)⟩ dX3_helper_3 (fun E σ1 hx => ?_) (fun σ1 hz => ?_)
  · obtain ⟨e9, hx, rfl⟩ := hx
    rw [e9]
    exact zx_out hxt hlocks (fEx_i (n := 1) (if_neg (c := cHas (gA σ) d ∧ (0 ≤ s ∧ s ≤ 5)) hx) (by decide) rfl) (Nat.le_of_ble_eq_true rfl) (Nat.le_of_ble_eq_true rfl)
  obtain ⟨e9, h_1⟩ := hz
  rw [e9]
  refine z_aload_n X dX3_helper_6 rfl ?_
  refine y_gDea0 X fX3_12 dX3_helper_7 ?_
  refine z_iload_n X dX3_helper_10 rfl ?_
  refine z_iload_n X dX3_helper_11 rfl ?_
  refine z_callVI2 X (zKI_at (gA_bk σ) (c_X2_helperFor hJ zn8 σ (N := gA σ) fi.1 hd hs)) kX3_185 rfl (by decide) (zNet_obj zn8 ad G _ _) ⟨(Nat.le_of_ble_eq_true rfl), (Nat.le_of_ble_eq_true rfl)⟩ (Nat.le_of_ble_eq_true rfl) ⟨(Nat.le_of_ble_eq_true rfl), (Nat.le_of_ble_eq_true rfl)⟩ dX3_helper_12 (fun z9 σ1 hz9 => ?_)
  obtain ⟨rfl, rfl⟩ := hz9
  rw [gA_bk]
  exact zx_iret X hr hlocks dX3_helper_15 ⟨rfl, rfl, (if_pos (c := cHas (gA σ) d ∧ (0 ≤ s ∧ s ≤ 5)) h_1)⟩ (Nat.le_of_ble_eq_true rfl) (Nat.le_of_ble_eq_true rfl)

set_option maxHeartbeats 4000000 in
set_option maxRecDepth 100000 in
theorem c_X3_append {l : Launch} {D : va_G} {G : zG} {ad : Nat → Nat} (hJ : zInj ad) (hl : l.stackTraces = false) (σ : zM) (fi : fI σ) {x : Int} (hx : zB x)  : zKXI l D G ad yX3_append cX3_append 2 (some .int) 8 4 [.ref (ad 0), vI x] σ (fPo (zBk σ 3 2 (tAddN (gT σ) x)) (tX_app (gT σ) x) ((tAddN (gT σ) x) 0 1)) (fEx σ (tX_app (gT σ) x) e23) := by
  intro sz
  refine zx_open hJ (by decide +kernel) (Nat.le_of_ble_eq_true rfl) ?_
  intro p e s0 m args below meth c hsz X F hxt hr hlocks
  subst hsz
  refine z_sub [(0, .ref (ad 0)), (1, vI x)] (zSub_cons rfl (zSub_cons rfl zSub_nil)) ?_
  refine z_iload_n X dX3_append_0 rfl ?_
  refine z_bipush X dX3_append_1 rfl ?_
  refine z_icmp_lt X 12 dX3_append_3 (by decide) hx ⟨by decide, by decide⟩ (fun c_1 => ?_) (fun c_1 => ?_)
  · exact zx_throw X F hxt hl hlocks zth_2 (List.mem_of_getElem? (i := 15) rfl) dX3_append_12 dX3_append_15 dX3_append_16 dX3_append_18 dX3_append_21 (Nat.le_of_ble_eq_true rfl) (by decide) (Nat.le_of_ble_eq_true rfl) (Nat.le_of_ble_eq_true rfl) (fEx_i (n := 1) (if_pos (c := ¬ (33 ≤ x ∧ x ≤ 126)) (fun z => by omega)) (by decide) rfl)
  · refine z_iload_n X dX3_append_6 rfl ?_
    refine z_bipush X dX3_append_7 rfl ?_
    refine z_icmp_le X 22 dX3_append_9 (by decide) hx ⟨by decide, by decide⟩ (fun c_2 => ?_) (fun c_2 => ?_)
    · refine z_aload_n X dX3_append_22 rfl ?_
      refine y_gDea3 X fX3_29 dX3_append_23 ?_
      refine z_callVI0 X (zKI_at (gT_bk σ) (c_X0_isFull hJ σ (N := gT σ) fi.2.2)) kX3_199 rfl (by decide) rfl ⟨(Nat.le_of_ble_eq_true rfl), (Nat.le_of_ble_eq_true rfl)⟩ (Nat.le_of_ble_eq_true rfl) ⟨(Nat.le_of_ble_eq_true rfl), (Nat.le_of_ble_eq_true rfl)⟩ dX3_append_26 (fun z9 σ1 hz9 => ?_)
      obtain ⟨rfl, rfl⟩ := hz9
      rw [gT_bk]
      refine z_ifb_eq X 42 dX3_append_29 (by decide) (fun c_3 => ?_) (fun c_3 => ?_)
      · refine z_aload_n X dX3_append_42 rfl ?_
        refine y_gDea3 X fX3_29 dX3_append_43 ?_
        refine z_iload_n X dX3_append_46 rfl ?_
        refine z_callVI1 X (zKI_at (gT_bk σ) (c_X0_add hJ σ (N := gT σ) fi.2.2 hx)) kX3_205 rfl (by decide) rfl ⟨(Nat.le_of_ble_eq_true rfl), (Nat.le_of_ble_eq_true rfl)⟩ (Nat.le_of_ble_eq_true rfl) ⟨(Nat.le_of_ble_eq_true rfl), (Nat.le_of_ble_eq_true rfl)⟩ dX3_append_47 (fun z9 σ1 hz9 => ?_)
        obtain ⟨rfl, rfl⟩ := hz9
        exact zx_iret X hr hlocks dX3_append_50 ⟨rfl, rfl, ((if_neg (c := ¬ (33 ≤ x ∧ x ≤ 126)) (fun z => z ⟨by omega, by omega⟩)).trans (if_neg (c := 60 ≤ (gT σ) 0 1) c_3))⟩ (Nat.le_of_ble_eq_true rfl) (Nat.le_of_ble_eq_true rfl)
      · exact zx_throw X F hxt hl hlocks zth_3 (List.mem_of_getElem? (i := 16) rfl) dX3_append_32 dX3_append_35 dX3_append_36 dX3_append_38 dX3_append_41 (Nat.le_of_ble_eq_true rfl) (by decide) (Nat.le_of_ble_eq_true rfl) (Nat.le_of_ble_eq_true rfl) (fEx_i (n := 2) ((if_neg (c := ¬ (33 ≤ x ∧ x ≤ 126)) (fun z => z ⟨by omega, by omega⟩)).trans (if_pos (c := 60 ≤ (gT σ) 0 1) c_3)) (by decide) rfl)
    · exact zx_throw X F hxt hl hlocks zth_2 (List.mem_of_getElem? (i := 15) rfl) dX3_append_12 dX3_append_15 dX3_append_16 dX3_append_18 dX3_append_21 (Nat.le_of_ble_eq_true rfl) (by decide) (Nat.le_of_ble_eq_true rfl) (Nat.le_of_ble_eq_true rfl) (fEx_i (n := 1) (if_pos (c := ¬ (33 ≤ x ∧ x ≤ 126)) (fun z => by omega)) (by decide) rfl)

set_option maxHeartbeats 4000000 in
set_option maxRecDepth 100000 in
theorem c_X3_undo {l : Launch} {D : va_G} {G : zG} {ad : Nat → Nat} (hJ : zInj ad) (hl : l.stackTraces = false) (σ : zM) (fi : fI σ)   : zKXI l D G ad yX3_undo cX3_undo 1 (some .int) 8 4 [.ref (ad 0)] σ (fPo (zBk (zBk σ 8 8 (zRd σ ((gH σ) 1 ((gH σ) 0 1 - 1).toNat).toNat)) 1 2 (up2 (gH σ) 0 1 ((gH σ) 0 1 - 1))) (if (gH σ) 0 1 = 0 then 1 else 0) ((gH σ) 0 1 - 1)) (fEx σ (if (gH σ) 0 1 = 0 then 1 else 0) e3) := by
  intro sz
  refine zx_open hJ (by decide +kernel) (Nat.le_of_ble_eq_true rfl) ?_
  intro p e s0 m args below meth c hsz X F hxt hr hlocks
  subst hsz
  refine z_sub [(0, .ref (ad 0))] (zSub_cons rfl zSub_nil) ?_
  refine z_aload_n X dX3_undo_0 rfl ?_
  refine y_gDea2 X fX3_22 dX3_undo_1 ?_
  refine z_callVI0 X (zKI_at (gH_bk σ) (c_X1_size hJ σ (N := gH σ) fi.2.1)) kX3_228 rfl (by decide) rfl ⟨(Nat.le_of_ble_eq_true rfl), (Nat.le_of_ble_eq_true rfl)⟩ (Nat.le_of_ble_eq_true rfl) ⟨(Nat.le_of_ble_eq_true rfl), (Nat.le_of_ble_eq_true rfl)⟩ dX3_undo_4 (fun z9 σ1 hz9 => ?_)
  obtain ⟨rfl, rfl⟩ := hz9
  rw [gH_bk]
  refine z_if_ne X 20 dX3_undo_7 (by decide) (zB_sm fi.2.1.1) (fun c_1 => ?_) (fun c_1 => ?_)
  · refine z_aload_n X dX3_undo_20 rfl ?_
    refine y_gDea2 X fX3_22 dX3_undo_21 ?_
    refine z_aload_n X dX3_undo_24 rfl ?_
    refine y_gDea0 X fX3_12 dX3_undo_25 ?_
    refine z_callVV1 X (zKV_at (gH_bk σ) (c_X1_restore hJ σ (N := gH σ) fi.2.1)) kX3_231 rfl (by decide) rfl ⟨(Nat.le_of_ble_eq_true rfl), (Nat.le_of_ble_eq_true rfl)⟩ (Nat.le_of_ble_eq_true rfl) ⟨(Nat.le_of_ble_eq_true rfl), (Nat.le_of_ble_eq_true rfl)⟩ dX3_undo_28 (fun σ1 hz9 => ?_)
    have hc0 := hk_c fi.2.1
    obtain rfl : σ1 = zBk (zBk σ 8 8 (zRd σ ((gH σ) 1 ((gH σ) 0 1 - 1).toNat).toNat)) 1 2 (up2 (gH σ) 0 1 ((gH σ) 0 1 - 1)) := hz9.trans (if_pos (by omega))
    refine z_aload_n X dX3_undo_31 rfl ?_
    refine y_gDea2 X fX3_22 dX3_undo_32 ?_
    refine z_callVI0 X (c_X1_size hJ _ (N := up2 (gH σ) 0 1 ((gH σ) 0 1 - 1)) (hk_up fi.2.1 (by omega))) kX3_228 rfl (by decide) rfl ⟨(Nat.le_of_ble_eq_true rfl), (Nat.le_of_ble_eq_true rfl)⟩ (Nat.le_of_ble_eq_true rfl) ⟨(Nat.le_of_ble_eq_true rfl), (Nat.le_of_ble_eq_true rfl)⟩ dX3_undo_35 (fun z9 σ1 hz9 => ?_)
    obtain ⟨rfl, rfl⟩ := hz9
    exact zx_iret X hr hlocks dX3_undo_38 ⟨up2_at _ _ _ _, rfl, (if_neg (c := (gH σ) 0 1 = 0) c_1)⟩ (Nat.le_of_ble_eq_true rfl) (Nat.le_of_ble_eq_true rfl)
  · exact zx_throw X F hxt hl hlocks zth_3 (List.mem_of_getElem? (i := 18) rfl) dX3_undo_10 dX3_undo_13 dX3_undo_14 dX3_undo_16 dX3_undo_19 (Nat.le_of_ble_eq_true rfl) (by decide) (Nat.le_of_ble_eq_true rfl) (Nat.le_of_ble_eq_true rfl) (fEx_i (n := 1) (if_pos (c := (gH σ) 0 1 = 0) c_1) (by decide) rfl)

set_option maxHeartbeats 4000000 in
set_option maxRecDepth 100000 in
theorem c_X3_deals {l : Launch} {D : va_G} {G : zG} {ad : Nat → Nat} (hJ : zInj ad) (σ : zM) (fi : fI σ)   : zKI l D G ad yX3_deals cX3_deals 1 (some .int) 8 [.ref (ad 0)] σ (fun z σ9 => z = (gA σ) 0 0 ∧ σ9 = σ) := by
  intro sz
  refine z_open hJ (by decide +kernel) (Nat.le_of_ble_eq_true rfl) ?_
  intro p e s0 m args below meth c hsz X hr hlocks
  refine z_sub [(0, .ref (ad 0))] (zSub_cons rfl zSub_nil) ?_
  refine z_aload_n X dX3_deals_0 rfl ?_
  refine y_gDea0 X fX3_12 dX3_deals_1 ?_
  refine z_callVI0 X (zKI_at (gA_bk σ) (c_X2_dealCount hJ zn8 σ (N := gA σ) )) kX3_137 rfl (by decide) (zNet_obj zn8 ad G _ _) ⟨(Nat.le_of_ble_eq_true rfl), (Nat.le_of_ble_eq_true rfl)⟩ (Nat.le_of_ble_eq_true rfl) ⟨(Nat.le_of_ble_eq_true rfl), (Nat.le_of_ble_eq_true rfl)⟩ dX3_deals_4 (fun z9 σ1 hz9 => ?_)
  obtain ⟨rfl, rfl⟩ := hz9
  rw [gA_bk]
  exact z_iret X hsz hr hlocks dX3_deals_7 ⟨rfl, rfl⟩

set_option maxHeartbeats 4000000 in
set_option maxRecDepth 100000 in
theorem c_X3_open {l : Launch} {D : va_G} {G : zG} {ad : Nat → Nat} (hJ : zInj ad) (σ : zM) (fi : fI σ)   : zKI l D G ad yX3_open cX3_open 1 (some .int) 8 [.ref (ad 0)] σ (fun z σ9 => z = cOpens (gA σ) ∧ σ9 = σ) := by
  intro sz
  refine z_open hJ (by decide +kernel) (Nat.le_of_ble_eq_true rfl) ?_
  intro p e s0 m args below meth c hsz X hr hlocks
  refine z_sub [(0, .ref (ad 0))] (zSub_cons rfl zSub_nil) ?_
  refine z_aload_n X dX3_open_0 rfl ?_
  refine y_gDea0 X fX3_12 dX3_open_1 ?_
  refine z_callVI0 X (zKI_at (gA_bk σ) (c_X2_countOpen hJ zn8 σ (N := gA σ) fi.1)) kX3_153 rfl (by decide) (zNet_obj zn8 ad G _ _) ⟨(Nat.le_of_ble_eq_true rfl), (Nat.le_of_ble_eq_true rfl)⟩ (Nat.le_of_ble_eq_true rfl) ⟨(Nat.le_of_ble_eq_true rfl), (Nat.le_of_ble_eq_true rfl)⟩ dX3_open_4 (fun z9 σ1 hz9 => ?_)
  obtain ⟨rfl, rfl⟩ := hz9
  rw [gA_bk]
  exact z_iret X hsz hr hlocks dX3_open_7 ⟨rfl, rfl⟩

set_option maxHeartbeats 4000000 in
set_option maxRecDepth 100000 in
theorem c_X3_stuck {l : Launch} {D : va_G} {G : zG} {ad : Nat → Nat} (hJ : zInj ad) (σ : zM) (fi : fI σ)   : zKI l D G ad yX3_stuck cX3_stuck 1 (some .int) 8 [.ref (ad 0)] σ (fun z σ9 => z = cStucks (gA σ) ∧ σ9 = σ) := by
  intro sz
  refine z_open hJ (by decide +kernel) (Nat.le_of_ble_eq_true rfl) ?_
  intro p e s0 m args below meth c hsz X hr hlocks
  refine z_sub [(0, .ref (ad 0))] (zSub_cons rfl zSub_nil) ?_
  refine z_aload_n X dX3_stuck_0 rfl ?_
  refine y_gDea0 X fX3_12 dX3_stuck_1 ?_
  refine z_callVI0 X (zKI_at (gA_bk σ) (c_X2_countStuck hJ zn8 σ (N := gA σ) fi.1)) kX3_156 rfl (by decide) (zNet_obj zn8 ad G _ _) ⟨(Nat.le_of_ble_eq_true rfl), (Nat.le_of_ble_eq_true rfl)⟩ (Nat.le_of_ble_eq_true rfl) ⟨(Nat.le_of_ble_eq_true rfl), (Nat.le_of_ble_eq_true rfl)⟩ dX3_stuck_4 (fun z9 σ1 hz9 => ?_)
  obtain ⟨rfl, rfl⟩ := hz9
  rw [gA_bk]
  exact z_iret X hsz hr hlocks dX3_stuck_7 ⟨rfl, rfl⟩

set_option maxHeartbeats 4000000 in
set_option maxRecDepth 100000 in
theorem c_X3_asked {l : Launch} {D : va_G} {G : zG} {ad : Nat → Nat} (hJ : zInj ad) (σ : zM) (fi : fI σ)   : zKI l D G ad yX3_asked cX3_asked 1 (some .int) 8 [.ref (ad 0)] σ (fun z σ9 => z = (gA σ) 0 2 ∧ σ9 = σ) := by
  intro sz
  refine z_open hJ (by decide +kernel) (Nat.le_of_ble_eq_true rfl) ?_
  intro p e s0 m args below meth c hsz X hr hlocks
  refine z_sub [(0, .ref (ad 0))] (zSub_cons rfl zSub_nil) ?_
  refine z_aload_n X dX3_asked_0 rfl ?_
  refine y_gDea0 X fX3_12 dX3_asked_1 ?_
  refine z_callVI0 X (zKI_at (gA_bk σ) (c_X2_questionCount hJ zn8 σ (N := gA σ) )) kX3_173 rfl (by decide) (zNet_obj zn8 ad G _ _) ⟨(Nat.le_of_ble_eq_true rfl), (Nat.le_of_ble_eq_true rfl)⟩ (Nat.le_of_ble_eq_true rfl) ⟨(Nat.le_of_ble_eq_true rfl), (Nat.le_of_ble_eq_true rfl)⟩ dX3_asked_4 (fun z9 σ1 hz9 => ?_)
  obtain ⟨rfl, rfl⟩ := hz9
  rw [gA_bk]
  exact z_iret X hsz hr hlocks dX3_asked_7 ⟨rfl, rfl⟩

set_option maxHeartbeats 4000000 in
set_option maxRecDepth 100000 in
theorem c_X3_firstError {l : Launch} {D : va_G} {G : zG} {ad : Nat → Nat} (hJ : zInj ad) (σ : zM) (fi : fI σ)   : zKI l D G ad yX3_firstError cX3_firstError 1 (some .int) 8 [.ref (ad 0)] σ (fun z σ9 => z = tErr (gT σ) ∧ σ9 = σ) := by
  intro sz
  refine z_open hJ (by decide +kernel) (Nat.le_of_ble_eq_true rfl) ?_
  intro p e s0 m args below meth c hsz X hr hlocks
  refine z_sub [(0, .ref (ad 0))] (zSub_cons rfl zSub_nil) ?_
  refine z_aload_n X dX3_firstError_0 rfl ?_
  refine y_gDea3 X fX3_29 dX3_firstError_1 ?_
  refine z_callVI0 X (zKI_at (gT_bk σ) (c_X0_errorIndex hJ σ (N := gT σ) fi.2.2)) kX3_211 rfl (by decide) rfl ⟨(Nat.le_of_ble_eq_true rfl), (Nat.le_of_ble_eq_true rfl)⟩ (Nat.le_of_ble_eq_true rfl) ⟨(Nat.le_of_ble_eq_true rfl), (Nat.le_of_ble_eq_true rfl)⟩ dX3_firstError_4 (fun z9 σ1 hz9 => ?_)
  obtain ⟨rfl, rfl⟩ := hz9
  rw [gT_bk]
  exact z_iret X hsz hr hlocks dX3_firstError_7 ⟨rfl, rfl⟩

set_option maxHeartbeats 4000000 in
set_option maxRecDepth 100000 in
theorem c_X3_savedStates {l : Launch} {D : va_G} {G : zG} {ad : Nat → Nat} (hJ : zInj ad) (σ : zM) (fi : fI σ)   : zKI l D G ad yX3_savedStates cX3_savedStates 1 (some .int) 8 [.ref (ad 0)] σ (fun z σ9 => z = (gH σ) 0 1 ∧ σ9 = σ) := by
  intro sz
  refine z_open hJ (by decide +kernel) (Nat.le_of_ble_eq_true rfl) ?_
  intro p e s0 m args below meth c hsz X hr hlocks
  refine z_sub [(0, .ref (ad 0))] (zSub_cons rfl zSub_nil) ?_
  refine z_aload_n X dX3_savedStates_0 rfl ?_
  refine y_gDea2 X fX3_22 dX3_savedStates_1 ?_
  refine z_callVI0 X (zKI_at (gH_bk σ) (c_X1_size hJ σ (N := gH σ) fi.2.1)) kX3_228 rfl (by decide) rfl ⟨(Nat.le_of_ble_eq_true rfl), (Nat.le_of_ble_eq_true rfl)⟩ (Nat.le_of_ble_eq_true rfl) ⟨(Nat.le_of_ble_eq_true rfl), (Nat.le_of_ble_eq_true rfl)⟩ dX3_savedStates_4 (fun z9 σ1 hz9 => ?_)
  obtain ⟨rfl, rfl⟩ := hz9
  rw [gH_bk]
  exact z_iret X hsz hr hlocks dX3_savedStates_7 ⟨rfl, rfl⟩

set_option maxHeartbeats 4000000 in
set_option maxRecDepth 100000 in
theorem c_X3_clearText {l : Launch} {D : va_G} {G : zG} {ad : Nat → Nat} (hJ : zInj ad) (σ : zM) (fi : fI σ)   : zKI l D G ad yX3_clearText cX3_clearText 1 (some .int) 8 [.ref (ad 0)] σ (fun z σ9 => z = (gT σ) 0 1 ∧ σ9 = zBk σ 3 2 (up2 (gT σ) 0 1 0)) := by
  intro sz
  refine z_open hJ (by decide +kernel) (Nat.le_of_ble_eq_true rfl) ?_
  intro p e s0 m args below meth c hsz X hr hlocks
  refine z_sub [(0, .ref (ad 0))] (zSub_cons rfl zSub_nil) ?_
  refine z_aload_n X dX3_clearText_0 rfl ?_
  refine y_gDea3 X fX3_29 dX3_clearText_1 ?_
  refine z_callVI0 X (zKI_at (gT_bk σ) (c_X0_clear hJ σ (N := gT σ) fi.2.2)) kX3_208 rfl (by decide) rfl ⟨(Nat.le_of_ble_eq_true rfl), (Nat.le_of_ble_eq_true rfl)⟩ (Nat.le_of_ble_eq_true rfl) ⟨(Nat.le_of_ble_eq_true rfl), (Nat.le_of_ble_eq_true rfl)⟩ dX3_clearText_4 (fun z9 σ1 hz9 => ?_)
  obtain ⟨rfl, rfl⟩ := hz9
  exact z_iret X hsz hr hlocks dX3_clearText_7 ⟨rfl, rfl⟩

set_option maxHeartbeats 4000000 in
set_option maxRecDepth 100000 in
theorem c_X3_digest {l : Launch} {D : va_G} {G : zG} {ad : Nat → Nat} (hJ : zInj ad) (σ : zM) (fi : fI σ)   : zKL l D G ad yX3_digest cX3_digest 1 (some .long) 8 [.ref (ad 0)] σ (fun z σ9 => z = cHash (gA σ) ∧ σ9 = σ) := by
  intro sz
  refine z_open hJ (by decide +kernel) (Nat.le_of_ble_eq_true rfl) ?_
  intro p e s0 m args below meth c hsz X hr hlocks
  refine z_sub [(0, .ref (ad 0))] (zSub_cons rfl zSub_nil) ?_
  refine z_aload_n X dX3_digest_0 rfl ?_
  refine y_gDea0 X fX3_12 dX3_digest_1 ?_
  refine z_callVL0 X (zKL_at (gA_bk σ) (c_X2_hash hJ zn8 σ (N := gA σ) fi.1)) kX3_234 rfl (by decide) (zNet_obj zn8 ad G _ _) ⟨(Nat.le_of_ble_eq_true rfl), (Nat.le_of_ble_eq_true rfl)⟩ (Nat.le_of_ble_eq_true rfl) ⟨(Nat.le_of_ble_eq_true rfl), (Nat.le_of_ble_eq_true rfl)⟩ dX3_digest_4 (fun z9 σ1 hz9 => ?_)
  obtain ⟨rfl, rfl⟩ := hz9
  rw [gA_bk]
  exact z_lret X hsz hr hlocks dX3_digest_7 ⟨rfl, rfl⟩
