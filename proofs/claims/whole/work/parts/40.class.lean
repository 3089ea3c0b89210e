-- the class: its first methods
theorem fF0 (M : Mem) (f : Nat) : fF M 0 f = M f := by show M (12 * 0 + f) = M f; rw [Nat.mul_zero, Nat.zero_add]
theorem cov_b {x : Int32} (h : x = 0 ∨ x = 1) : x = b2i (decide (x = 1)) := by rcases h with h | h <;> subst h <;> decide

set_option maxHeartbeats 4000000 in
set_option maxRecDepth 20000 in
theorem qX9_refuse (l : Launch) (g : GT) (M : Mem) (e : Int32) {k : Nat} (h1 : 1 ≤ k) (h7 : k < 7) (he : (-1000000000) - e = nI k) : CtrE l g yX9_refuse cX9_refuse 3 (some .int) 0 [.ref (ga g 90), .int e] M e (mu M 89 k (M 89 k + 1)) := by
  refine ctrI_of (by decide +kernel) (Nat.le_of_ble_eq_true rfl) ?_
  intro pP eE RR sS mI aG bB mE cD C
  refine k_lo (lo' := [(0, .ref (ga g 90)), (1, .int e)]) rfl ?_
  refine k_ldcw C 3 cwX9_343 dX9_refuse_0 rfl ?_
  refine k_iload_n C 4 1 rfl rfl dX9_refuse_3 rfl ?_
  refine k_isub C 5 dX9_refuse_4 rfl ?_
  refine k_teq (y := nI k) he ?_
  refine k_istore_n C 6 [(2, .int (nI k)), (0, .ref (ga g 90)), (1, .int e)] rfl (by decide) rfl dX9_refuse_5 rfl ?_
  refine k_iload_n C 7 0 rfl rfl dX9_refuse_6 rfl ?_
  refine k_iconst C 8 (v := 1) (by decide) dX9_refuse_7 rfl ?_
  refine k_icmp_lt C 27 11 dX9_refuse_8 (by decide) rfl (fun c8 => ?_) (fun d8 => ?_)
  · skip
    have c8 := (nI_ltI (by omega) (by omega)).mp (show nI k < nI 1 from c8)
    exact absurd c8 (by omega)
  · skip
    have d8 := mt (nI_ltI (by omega) (by omega)).mpr (show ¬ (nI k < nI 1) from d8)
    refine k_iload_n C 12 0 rfl rfl dX9_refuse_11 rfl ?_
    refine k_bipush C 14 (v := 6) (by decide) dX9_refuse_12 rfl ?_
    refine k_icmp_gt C 27 17 dX9_refuse_14 (by decide) rfl (fun c14 => ?_) (fun d14 => ?_)
    · skip
      have c14 := (nI_ltI (by omega) (by omega)).mp (show nI 6 < nI k from c14)
      exact absurd c14 (by omega)
    · skip
      have d14 := mt (nI_ltI (by omega) (by omega)).mpr (show ¬ (nI 6 < nI k) from d14)
      refine k_aload_n C 18 1 rfl rfl dX9_refuse_17 rfl ?_
      refine k_get C 21 flX9_72 90 (by decide) (v := .ref (ga g 89)) (ce_90 g _) rfl dX9_refuse_18 rfl ?_
      refine k_iload_n C 22 0 rfl rfl dX9_refuse_21 rfl ?_
      refine k_dup2 C 23 rfl rfl dX9_refuse_22 rfl ?_
      refine k_iald C 24 89 k (by decide) (ce_89 g) (by decide) rfl (by omega) dX9_refuse_23 rfl ?_
      refine k_iconst C 25 (v := 1) (by decide) dX9_refuse_24 rfl ?_
      refine k_iadd C 26 dX9_refuse_25 rfl ?_
      refine k_iast C 27 89 k (by decide) (ce_89 g) (by decide) rfl (by omega) dX9_refuse_26 rfl ?_
      refine k_iload_n C 28 2 rfl rfl dX9_refuse_27 rfl ?_
      refine k_ret C rfl dX9_refuse_28 ?_
      exact ⟨rfl, rfl⟩
set_option maxHeartbeats 4000000 in
set_option maxRecDepth 20000 in
theorem qX9_isFurrow (l : Launch) (g : GT) (M : Mem) {n : Nat} (hn : M 37 1 = nI n) (h12 : n ≤ 12) (f : Int32) : CtrE l g yX9_isFurrow cX9_isFurrow 2 (some .boolean) 0 [.ref (ga g 90), .int f] M (b2i (pIsF n f)) M := by
  refine ctrI_of (by decide +kernel) (Nat.le_of_ble_eq_true rfl) ?_
  intro pP eE RR sS mI aG bB mE cD C
  refine k_lo (lo' := [(0, .ref (ga g 90)), (1, .int f)]) rfl ?_
  refine k_iload_n C 1 1 rfl rfl dX9_isFurrow_0 rfl ?_
  refine k_if_lt C 22 4 dX9_isFurrow_1 (by decide) rfl (fun c1 => ?_) (fun d1 => ?_)
  · skip
    refine k_iconst C 23 (v := 0) (by decide) dX9_isFurrow_22 rfl ?_
    refine k_ret C rfl dX9_isFurrow_23 ?_
    exact ⟨b2i_neg (by unfold pIsF; rw [decide_eq_false (Int32.not_le.mpr c1)]; rfl), rfl⟩
  · skip
    refine k_iload_n C 5 1 rfl rfl dX9_isFurrow_4 rfl ?_
    refine k_aload_n C 6 0 rfl rfl dX9_isFurrow_5 rfl ?_
    refine k_get C 9 flX9_12 90 (by decide) (v := .ref (ga g 43)) (ce_90 g _) rfl dX9_isFurrow_6 rfl ?_
    refine k_get C 12 flX9_92 43 (by decide) (v := .ref (ga g 37)) (ce_wld g _ (show 0 < 2 by decide)) rfl dX9_isFurrow_9 rfl ?_
    refine k_get C 15 flX9_95 37 (by decide) (v := .int ((M) 37 1)) (ce_fld g _ (show 0 < 3 by decide)) rfl dX9_isFurrow_12 rfl ?_
    refine k_teq (y := nI n) hn ?_
    refine k_icmp_ge C 22 18 dX9_isFurrow_15 (by decide) rfl (fun c15 => ?_) (fun d15 => ?_)
    · skip
      refine k_iconst C 23 (v := 0) (by decide) dX9_isFurrow_22 rfl ?_
      refine k_ret C rfl dX9_isFurrow_23 ?_
      exact ⟨b2i_neg (by unfold pIsF; rw [decide_eq_false (Int32.not_lt.mpr c15)]; exact Bool.and_false _), rfl⟩
    · skip
      refine k_iconst C 19 (v := 1) (by decide) dX9_isFurrow_18 rfl ?_
      refine k_goto C 23 dX9_isFurrow_19 (by decide) ?_
      refine k_ret C rfl dX9_isFurrow_23 ?_
      exact ⟨b2i_pos (by unfold pIsF; rw [decide_eq_true (Int32.not_lt.mp d1), decide_eq_true (Int32.not_le.mp d15)]; rfl), rfl⟩
set_option maxHeartbeats 4000000 in
set_option maxRecDepth 20000 in
theorem qX9_plough_f (l : Launch) (g : GT) (M : Mem) (km lc h : Int32) (hf : (pKm km && pLine lc && (decide (0 ≤ h) && decide (h < 6))) = false) : CtrE l g yX9_plough cX9_plough 4 (some .int) 3 [.ref (ga g 90), .int km, .int lc, .int h] M (-1000000001) (mu M 89 1 (M 89 1 + 1)) := by
  refine ctrI_of (by decide +kernel) (Nat.le_of_ble_eq_true rfl) ?_
  intro pP eE RR sS mI aG bB mE cD C
  refine k_lo (lo' := [(0, .ref (ga g 90)), (1, .int km), (2, .int lc), (3, .int h)]) rfl ?_
  refine k_iload_n C 1 1 rfl rfl dX9_plough_0 rfl ?_
  refine k_callSE C 4 (As := [.int km]) (st := []) mwX9_77 skX9_isKindWithNumber (qX9_isKindWithNumber l g M km) mlX9_isKindWithNumber (by decide) (by decide) rfl rfl (Nat.le_of_ble_eq_true rfl) dX9_plough_1 rfl ?_
  refine k_if_eqB C 21 7 dX9_plough_4 (by decide) rfl (fun c4 => ?_) (fun d4 => ?_)
  · skip
    refine k_aload_n C 22 0 rfl rfl dX9_plough_21 rfl ?_
    refine k_ldc C 24 cwX9_87 dX9_plough_22 rfl ?_
    refine k_callVE C 27 (As := [.int (-1000000001)]) (st := []) 90 (by decide) (ce_90 g _) rfl rfl mwX9_88 vlX9_refuse (qX9_refuse l g M (-1000000001) (k := 1) (by decide) (by decide) (by decide)) mlX9_refuse (by decide) (by decide) rfl rfl (Nat.le_of_ble_eq_true rfl) dX9_plough_24 rfl ?_
    refine k_ret C rfl dX9_plough_27 ?_
    exact ⟨rfl, rfl⟩
  · skip
    refine k_iload_n C 8 2 rfl rfl dX9_plough_7 rfl ?_
    refine k_callSE C 11 (As := [.int lc]) (st := []) mwX9_81 skX9_isLine (qX9_isLine l g M lc) mlX9_isLine (by decide) (by decide) rfl rfl (Nat.le_of_ble_eq_true rfl) dX9_plough_8 rfl ?_
    refine k_if_eqB C 21 14 dX9_plough_11 (by decide) rfl (fun c11 => ?_) (fun d11 => ?_)
    · skip
      refine k_aload_n C 22 0 rfl rfl dX9_plough_21 rfl ?_
      refine k_ldc C 24 cwX9_87 dX9_plough_22 rfl ?_
      refine k_callVE C 27 (As := [.int (-1000000001)]) (st := []) 90 (by decide) (ce_90 g _) rfl rfl mwX9_88 vlX9_refuse (qX9_refuse l g M (-1000000001) (k := 1) (by decide) (by decide) (by decide)) mlX9_refuse (by decide) (by decide) rfl rfl (Nat.le_of_ble_eq_true rfl) dX9_plough_24 rfl ?_
      refine k_ret C rfl dX9_plough_27 ?_
      exact ⟨rfl, rfl⟩
    · skip
      refine k_iload_n C 15 3 rfl rfl dX9_plough_14 rfl ?_
      refine k_callSE C 18 (As := [.int h]) (st := []) mwX9_84 skX9_isHand (qX9_isHand l g M h) mlX9_isHand (by decide) (by decide) rfl rfl (Nat.le_of_ble_eq_true rfl) dX9_plough_15 rfl ?_
      refine k_if_neB C 28 21 dX9_plough_18 (by decide) rfl (fun c18 => ?_) (fun d18 => ?_)
      · skip
        exact (bz hf (by simp [pKm, pLine, d4, d11, c18])).elim
      · skip
        refine k_aload_n C 22 0 rfl rfl dX9_plough_21 rfl ?_
        refine k_ldc C 24 cwX9_87 dX9_plough_22 rfl ?_
        refine k_callVE C 27 (As := [.int (-1000000001)]) (st := []) 90 (by decide) (ce_90 g _) rfl rfl mwX9_88 vlX9_refuse (qX9_refuse l g M (-1000000001) (k := 1) (by decide) (by decide) (by decide)) mlX9_refuse (by decide) (by decide) rfl rfl (Nat.le_of_ble_eq_true rfl) dX9_plough_24 rfl ?_
        refine k_ret C rfl dX9_plough_27 ?_
        exact ⟨rfl, rfl⟩
set_option maxHeartbeats 4000000 in
set_option maxRecDepth 20000 in
theorem qX9_plough_t (l : Launch) (g : GT) (M : Mem) {n : Nat} (hn : M 37 1 = nI n) (h12 : n < 12) (km lc : Int32) (h1 : pKm km = true) (h2 : pLine lc = true) {h : Nat} (hh : h < 6) : CtrE l g yX9_plough cX9_plough 4 (some .int) 3 [.ref (ga g 90), .int km, .int lc, .int (nI h)] M (nI n) (pAdd M 0 n km lc (nI h)) := by
  refine ctrI_of (by decide +kernel) (Nat.le_of_ble_eq_true rfl) ?_
  intro pP eE RR sS mI aG bB mE cD C
  refine k_lo (lo' := [(0, .ref (ga g 90)), (1, .int km), (2, .int lc), (3, .int (nI h))]) rfl ?_
  refine k_iload_n C 1 1 rfl rfl dX9_plough_0 rfl ?_
  refine k_callSE C 4 (As := [.int km]) (st := []) mwX9_77 skX9_isKindWithNumber (qX9_isKindWithNumber l g M km) mlX9_isKindWithNumber (by decide) (by decide) rfl rfl (Nat.le_of_ble_eq_true rfl) dX9_plough_1 rfl ?_
  refine k_if_eqB C 21 7 dX9_plough_4 (by decide) rfl (fun c4 => ?_) (fun d4 => ?_)
  · skip
    exact (bz c4 h1).elim
  · skip
    refine k_iload_n C 8 2 rfl rfl dX9_plough_7 rfl ?_
    refine k_callSE C 11 (As := [.int lc]) (st := []) mwX9_81 skX9_isLine (qX9_isLine l g M lc) mlX9_isLine (by decide) (by decide) rfl rfl (Nat.le_of_ble_eq_true rfl) dX9_plough_8 rfl ?_
    refine k_if_eqB C 21 14 dX9_plough_11 (by decide) rfl (fun c11 => ?_) (fun d11 => ?_)
    · skip
      exact (bz c11 h2).elim
    · skip
      refine k_iload_n C 15 3 rfl rfl dX9_plough_14 rfl ?_
      refine k_callSE C 18 (As := [.int (nI h)]) (st := []) mwX9_84 skX9_isHand (qX9_isHand l g M (nI h)) mlX9_isHand (by decide) (by decide) rfl rfl (Nat.le_of_ble_eq_true rfl) dX9_plough_15 rfl ?_
      refine k_if_neB C 28 21 dX9_plough_18 (by decide) rfl (fun c18 => ?_) (fun d18 => ?_)
      · skip
        refine k_aload_n C 29 0 rfl rfl dX9_plough_28 rfl ?_
        refine k_get C 32 flX9_12 90 (by decide) (v := .ref (ga g 43)) (ce_90 g _) rfl dX9_plough_29 rfl ?_
        refine k_get C 35 flX9_92 43 (by decide) (v := .ref (ga g 37)) (ce_wld g _ (show 0 < 2 by decide)) rfl dX9_plough_32 rfl ?_
        refine k_get C 38 flX9_95 37 (by decide) (v := .int ((M) 37 1)) (ce_fld g _ (show 0 < 3 by decide)) rfl dX9_plough_35 rfl ?_
        refine k_teq (y := nI n) hn ?_
        refine k_bipush C 40 (v := 12) (by decide) dX9_plough_38 rfl ?_
        refine k_icmp_lt C 50 43 dX9_plough_40 (by decide) rfl (fun c40 => ?_) (fun d40 => ?_)
        · skip
          have c40 := (nI_ltI (by omega) (by omega)).mp (show nI n < nI 12 from c40)
          refine k_aload_n C 51 0 rfl rfl dX9_plough_50 rfl ?_
          refine k_get C 54 flX9_12 90 (by decide) (v := .ref (ga g 43)) (ce_90 g _) rfl dX9_plough_51 rfl ?_
          refine k_get C 57 flX9_92 43 (by decide) (v := .ref (ga g 37)) (ce_wld g _ (show 0 < 2 by decide)) rfl dX9_plough_54 rfl ?_
          refine k_iload_n C 58 1 rfl rfl dX9_plough_57 rfl ?_
          refine k_iload_n C 59 2 rfl rfl dX9_plough_58 rfl ?_
          refine k_iload_n C 60 3 rfl rfl dX9_plough_59 rfl ?_
          refine k_callVE C 63 (As := [.int km, .int lc, .int (nI h)]) (st := []) 37 (by decide) (ce_fld g _ (show 0 < 3 by decide)) rfl rfl mwX9_100 vlX1_add (qX1_add l g M (show 0 < 3 by decide) (n := n) hn h12 km lc (nI h)) mlX1_add (by decide) (by decide) rfl rfl (Nat.le_of_ble_eq_true rfl) dX9_plough_60 rfl ?_
          refine k_ret C rfl dX9_plough_63 ?_
          exact ⟨rfl, rfl⟩
        · skip
          have d40 := mt (nI_ltI (by omega) (by omega)).mpr (show ¬ (nI n < nI 12) from d40)
          exact absurd d40 (by omega)
      · skip
        exact (bz d18 (rg_lt (b := 6) hh (by decide))).elim
set_option maxHeartbeats 4000000 in
set_option maxRecDepth 20000 in
theorem qX9_plough_full (l : Launch) (g : GT) (M : Mem) (hn : M 37 1 = 12) (km lc : Int32) (h1 : pKm km = true) (h2 : pLine lc = true) {h : Nat} (hh : h < 6) : CtrE l g yX9_plough cX9_plough 4 (some .int) 3 [.ref (ga g 90), .int km, .int lc, .int (nI h)] M (-1000000004) (mu M 89 4 (M 89 4 + 1)) := by
  refine ctrI_of (by decide +kernel) (Nat.le_of_ble_eq_true rfl) ?_
  intro pP eE RR sS mI aG bB mE cD C
  refine k_lo (lo' := [(0, .ref (ga g 90)), (1, .int km), (2, .int lc), (3, .int (nI h))]) rfl ?_
  refine k_iload_n C 1 1 rfl rfl dX9_plough_0 rfl ?_
  refine k_callSE C 4 (As := [.int km]) (st := []) mwX9_77 skX9_isKindWithNumber (qX9_isKindWithNumber l g M km) mlX9_isKindWithNumber (by decide) (by decide) rfl rfl (Nat.le_of_ble_eq_true rfl) dX9_plough_1 rfl ?_
  refine k_if_eqB C 21 7 dX9_plough_4 (by decide) rfl (fun c4 => ?_) (fun d4 => ?_)
  · skip
    exact (bz c4 h1).elim
  · skip
    refine k_iload_n C 8 2 rfl rfl dX9_plough_7 rfl ?_
    refine k_callSE C 11 (As := [.int lc]) (st := []) mwX9_81 skX9_isLine (qX9_isLine l g M lc) mlX9_isLine (by decide) (by decide) rfl rfl (Nat.le_of_ble_eq_true rfl) dX9_plough_8 rfl ?_
    refine k_if_eqB C 21 14 dX9_plough_11 (by decide) rfl (fun c11 => ?_) (fun d11 => ?_)
    · skip
      exact (bz c11 h2).elim
    · skip
      refine k_iload_n C 15 3 rfl rfl dX9_plough_14 rfl ?_
      refine k_callSE C 18 (As := [.int (nI h)]) (st := []) mwX9_84 skX9_isHand (qX9_isHand l g M (nI h)) mlX9_isHand (by decide) (by decide) rfl rfl (Nat.le_of_ble_eq_true rfl) dX9_plough_15 rfl ?_
      refine k_if_neB C 28 21 dX9_plough_18 (by decide) rfl (fun c18 => ?_) (fun d18 => ?_)
      · skip
        refine k_aload_n C 29 0 rfl rfl dX9_plough_28 rfl ?_
        refine k_get C 32 flX9_12 90 (by decide) (v := .ref (ga g 43)) (ce_90 g _) rfl dX9_plough_29 rfl ?_
        refine k_get C 35 flX9_92 43 (by decide) (v := .ref (ga g 37)) (ce_wld g _ (show 0 < 2 by decide)) rfl dX9_plough_32 rfl ?_
        refine k_get C 38 flX9_95 37 (by decide) (v := .int ((M) 37 1)) (ce_fld g _ (show 0 < 3 by decide)) rfl dX9_plough_35 rfl ?_
        refine k_teq (y := 12) hn ?_
        refine k_bipush C 40 (v := 12) (by decide) dX9_plough_38 rfl ?_
        refine k_icmp_lt C 50 43 dX9_plough_40 (by decide) rfl (fun c40 => ?_) (fun d40 => ?_)
        · skip
          exact absurd c40 (by decide)
        · skip
          refine k_aload_n C 44 0 rfl rfl dX9_plough_43 rfl ?_
          refine k_ldc C 46 cwX9_99 dX9_plough_44 rfl ?_
          refine k_callVE C 49 (As := [.int (-1000000004)]) (st := []) 90 (by decide) (ce_90 g _) rfl rfl mwX9_88 vlX9_refuse (qX9_refuse l g M (-1000000004) (k := 4) (by decide) (by decide) (by decide)) mlX9_refuse (by decide) (by decide) rfl rfl (Nat.le_of_ble_eq_true rfl) dX9_plough_46 rfl ?_
          refine k_ret C rfl dX9_plough_49 ?_
          exact ⟨rfl, rfl⟩
      · skip
        exact (bz d18 (rg_lt (b := 6) hh (by decide))).elim
set_option maxHeartbeats 4000000 in
set_option maxRecDepth 20000 in
theorem qX9_furrowIs_t (l : Launch) (g : GT) (M : Mem) {n : Nat} (hn : M 37 1 = nI n) (h12 : n ≤ 12) {f : Nat} (hf : f < n) (hc : M f 6 = 0 ∨ M f 6 = 1) {w : Nat} (hw : w < 10) (hw8 : w ≠ 8) : CtrE l g yX9_furrowIs cX9_furrowIs 4 (some .int) 5 [.ref (ga g 90), .int (nI f), .int (nI w)] M (pFur (fF M 0) n f w) M := by
  refine ctrI_of (by decide +kernel) (Nat.le_of_ble_eq_true rfl) ?_
  intro pP eE RR sS mI aG bB mE cD C
  refine k_lo (lo' := [(0, .ref (ga g 90)), (1, .int (nI f)), (2, .int (nI w))]) rfl ?_
  refine k_aload_n C 1 0 rfl rfl dX9_furrowIs_0 rfl ?_
  refine k_iload_n C 2 1 rfl rfl dX9_furrowIs_1 rfl ?_
  refine k_callVE C 5 (As := [.int (nI f)]) (st := []) 90 (by decide) (ce_90 g _) rfl rfl mwX9_104 vlX9_isFurrow (qX9_isFurrow l g M (n := n) hn h12 (nI f)) mlX9_isFurrow (by decide) (by decide) rfl rfl (Nat.le_of_ble_eq_true rfl) dX9_furrowIs_2 rfl ?_
  refine k_if_neB C 15 8 dX9_furrowIs_5 (by decide) rfl (fun c5 => ?_) (fun d5 => ?_)
  · skip
    refine k_aload_n C 16 0 rfl rfl dX9_furrowIs_15 rfl ?_
    refine k_get C 19 flX9_12 90 (by decide) (v := .ref (ga g 43)) (ce_90 g _) rfl dX9_furrowIs_16 rfl ?_
    refine k_get C 22 flX9_92 43 (by decide) (v := .ref (ga g 37)) (ce_wld g _ (show 0 < 2 by decide)) rfl dX9_furrowIs_19 rfl ?_
    refine k_get C 25 flX9_107 37 (by decide) (v := .ref (ga g 40)) (ce_fld g _ (show 0 < 3 by decide)) rfl dX9_furrowIs_22 rfl ?_
    refine k_iload_n C 26 1 rfl rfl dX9_furrowIs_25 rfl ?_
    refine k_aald C 27 40 f 3 (by decide) (ce_fa g _ (show 0 < 3 by decide)) rfl (by decide) rfl (by omega) dX9_furrowIs_26 rfl ?_
    refine k_st (st' := [.ref (ga g f)]) (by simp only [Nat.mul_zero, Nat.zero_add]) ?_
    refine k_astore_n C 28 [(3, .ref (ga g f)), (0, .ref (ga g 90)), (1, .int (nI f)), (2, .int (nI w))] rfl (by decide) rfl dX9_furrowIs_27 rfl ?_
    rcases (show w = 0 ∨ w = 1 ∨ w = 2 ∨ w = 3 ∨ w = 4 ∨ w = 5 ∨ w = 6 ∨ w = 7 ∨ w = 9 by omega) with rfl | rfl | rfl | rfl | rfl | rfl | rfl | rfl | rfl
    · skip
      refine k_iload_n C 29 3 rfl rfl dX9_furrowIs_28 rfl ?_
      refine k_tin C 84 (by decide) (by decide) (by rfl) dX9_furrowIs_29 (by decide) ?_
      refine k_aload_n C 85 0 rfl rfl dX9_furrowIs_84 rfl ?_
      refine k_get C 88 flX9_111 f (lt105_fu (by omega)) (v := .int ((M) f 0)) (ce_fu g _ (by omega)) rfl dX9_furrowIs_85 rfl ?_
      refine k_ret C rfl dX9_furrowIs_88 ?_
      exact ⟨by simp [pFur, fF0], rfl⟩
    · skip
      refine k_iload_n C 29 3 rfl rfl dX9_furrowIs_28 rfl ?_
      refine k_tin C 89 (by decide) (by decide) (by rfl) dX9_furrowIs_29 (by decide) ?_
      refine k_aload_n C 90 0 rfl rfl dX9_furrowIs_89 rfl ?_
      refine k_get C 93 flX9_114 f (lt105_fu (by omega)) (v := .int ((M) f 1)) (ce_fu g _ (by omega)) rfl dX9_furrowIs_90 rfl ?_
      refine k_ret C rfl dX9_furrowIs_93 ?_
      exact ⟨by simp [pFur, fF0], rfl⟩
    · skip
      refine k_iload_n C 29 3 rfl rfl dX9_furrowIs_28 rfl ?_
      refine k_tin C 94 (by decide) (by decide) (by rfl) dX9_furrowIs_29 (by decide) ?_
      refine k_aload_n C 95 0 rfl rfl dX9_furrowIs_94 rfl ?_
      refine k_get C 98 flX9_117 f (lt105_fu (by omega)) (v := .int ((M) f 2)) (ce_fu g _ (by omega)) rfl dX9_furrowIs_95 rfl ?_
      refine k_ret C rfl dX9_furrowIs_98 ?_
      exact ⟨by simp [pFur, fF0], rfl⟩
    · skip
      refine k_iload_n C 29 3 rfl rfl dX9_furrowIs_28 rfl ?_
      refine k_tin C 99 (by decide) (by decide) (by rfl) dX9_furrowIs_29 (by decide) ?_
      refine k_aload_n C 100 0 rfl rfl dX9_furrowIs_99 rfl ?_
      refine k_get C 103 flX9_120 f (lt105_fu (by omega)) (v := .int ((M) f 3)) (ce_fu g _ (by omega)) rfl dX9_furrowIs_100 rfl ?_
      refine k_ret C rfl dX9_furrowIs_103 ?_
      exact ⟨by simp [pFur, fF0], rfl⟩
    · skip
      refine k_iload_n C 29 3 rfl rfl dX9_furrowIs_28 rfl ?_
      refine k_tin C 104 (by decide) (by decide) (by rfl) dX9_furrowIs_29 (by decide) ?_
      refine k_aload_n C 105 0 rfl rfl dX9_furrowIs_104 rfl ?_
      refine k_get C 108 flX9_123 f (lt105_fu (by omega)) (v := .int ((M) f 4)) (ce_fu g _ (by omega)) rfl dX9_furrowIs_105 rfl ?_
      refine k_ret C rfl dX9_furrowIs_108 ?_
      exact ⟨by simp [pFur, fF0], rfl⟩
    · skip
      refine k_iload_n C 29 3 rfl rfl dX9_furrowIs_28 rfl ?_
      refine k_tin C 109 (by decide) (by decide) (by rfl) dX9_furrowIs_29 (by decide) ?_
      refine k_aload_n C 110 0 rfl rfl dX9_furrowIs_109 rfl ?_
      refine k_get C 113 flX9_126 f (lt105_fu (by omega)) (v := .int ((M) f 5)) (ce_fu g _ (by omega)) rfl dX9_furrowIs_110 rfl ?_
      refine k_ret C rfl dX9_furrowIs_113 ?_
      exact ⟨by simp [pFur, fF0], rfl⟩
    · skip
      refine k_iload_n C 29 3 rfl rfl dX9_furrowIs_28 rfl ?_
      refine k_tin C 114 (by decide) (by decide) (by rfl) dX9_furrowIs_29 (by decide) ?_
      refine k_aload_n C 115 0 rfl rfl dX9_furrowIs_114 rfl ?_
      refine k_get C 118 flX9_129 f (lt105_fu (by omega)) (v := .int ((M) f 6)) (ce_fu g _ (by omega)) rfl dX9_furrowIs_115 rfl ?_
      refine k_teq (y := b2i (decide (M f 6 = 1))) (cov_b hc) ?_
      refine k_callSE C 121 (As := [.int (b2i (decide (M f 6 = 1)))]) (st := []) mwX9_133 skX9_asNumber (qX9_asNumber l g M (decide (M f 6 = 1))) mlX9_asNumber (by decide) (by decide) rfl rfl (Nat.le_of_ble_eq_true rfl) dX9_furrowIs_118 rfl ?_
      refine k_ret C rfl dX9_furrowIs_121 ?_
      exact ⟨(cov_b hc).symm.trans (by simp [pFur, fF0]), rfl⟩
    · skip
      refine k_iload_n C 29 3 rfl rfl dX9_furrowIs_28 rfl ?_
      refine k_tin C 122 (by decide) (by decide) (by rfl) dX9_furrowIs_29 (by decide) ?_
      refine k_aload_n C 123 0 rfl rfl dX9_furrowIs_122 rfl ?_
      refine k_callVE C 126 (As := []) (st := []) f (lt105_fu (by omega)) (ce_fu g _ (by omega)) rfl rfl mwX9_137 vlX2_depth (qX2_depth l g M (by omega)) mlX2_depth (by decide) (by decide) rfl rfl (Nat.le_of_ble_eq_true rfl) dX9_furrowIs_123 rfl ?_
      refine k_ret C rfl dX9_furrowIs_126 ?_
      exact ⟨by simp [pFur, fF0], rfl⟩
    · skip
      refine k_iload_n C 29 3 rfl rfl dX9_furrowIs_28 rfl ?_
      refine k_tin C 136 (by decide) (by decide) (by rfl) dX9_furrowIs_29 (by decide) ?_
      refine k_aload_n C 137 1 rfl rfl dX9_furrowIs_136 rfl ?_
      refine k_get C 140 flX9_12 90 (by decide) (v := .ref (ga g 43)) (ce_90 g _) rfl dX9_furrowIs_137 rfl ?_
      refine k_get C 143 flX9_92 43 (by decide) (v := .ref (ga g 37)) (ce_wld g _ (show 0 < 2 by decide)) rfl dX9_furrowIs_140 rfl ?_
      refine k_iload_n C 144 2 rfl rfl dX9_furrowIs_143 rfl ?_
      refine k_callVE C 147 (As := [.int (nI f)]) (st := []) 37 (by decide) (ce_fld g _ (show 0 < 3 by decide)) rfl rfl mwX9_145 vlX1_isHeard (qX1_isHeard l g M (show 0 < 3 by decide) hn h12 (f := f) (by omega)) mlX1_isHeard (by decide) (by decide) rfl rfl (Nat.le_of_ble_eq_true rfl) dX9_furrowIs_144 rfl ?_
      refine k_callSE C 150 (As := [.int (b2i (pHeard (fF M 0) n f))]) (st := []) mwX9_133 skX9_asNumber (qX9_asNumber l g M (pHeard (fF M 0) n f)) mlX9_asNumber (by decide) (by decide) rfl rfl (Nat.le_of_ble_eq_true rfl) dX9_furrowIs_147 rfl ?_
      refine k_ret C rfl dX9_furrowIs_150 ?_
      exact ⟨by simp [pFur, fF0], rfl⟩
  · skip
    exact (bz d5 (pIsF_lt h12 hf)).elim
set_option maxHeartbeats 4000000 in
set_option maxRecDepth 20000 in
theorem qX9_become_f (l : Launch) (g : GT) (M : Mem) {n : Nat} (hn : M 37 1 = nI n) (h12 : n ≤ 12) (f km : Int32) (hf : (pIsF n f && pKm km) = false) : CtrE l g yX9_become cX9_become 5 (some .int) 3 [.ref (ga g 90), .int f, .int km] M (-1000000001) (mu M 89 1 (M 89 1 + 1)) := by
  refine ctrI_of (by decide +kernel) (Nat.le_of_ble_eq_true rfl) ?_
  intro pP eE RR sS mI aG bB mE cD C
  refine k_lo (lo' := [(0, .ref (ga g 90)), (1, .int f), (2, .int km)]) rfl ?_
  refine k_aload_n C 1 0 rfl rfl dX9_become_0 rfl ?_
  refine k_iload_n C 2 1 rfl rfl dX9_become_1 rfl ?_
  refine k_callVE C 5 (As := [.int f]) (st := []) 90 (by decide) (ce_90 g _) rfl rfl mwX9_104 vlX9_isFurrow (qX9_isFurrow l g M (n := n) hn h12 f) mlX9_isFurrow (by decide) (by decide) rfl rfl (Nat.le_of_ble_eq_true rfl) dX9_become_2 rfl ?_
  refine k_if_eqB C 15 8 dX9_become_5 (by decide) rfl (fun c5 => ?_) (fun d5 => ?_)
  · skip
    refine k_aload_n C 16 0 rfl rfl dX9_become_15 rfl ?_
    refine k_ldc C 18 cwX9_87 dX9_become_16 rfl ?_
    refine k_callVE C 21 (As := [.int (-1000000001)]) (st := []) 90 (by decide) (ce_90 g _) rfl rfl mwX9_88 vlX9_refuse (qX9_refuse l g M (-1000000001) (k := 1) (by decide) (by decide) (by decide)) mlX9_refuse (by decide) (by decide) rfl rfl (Nat.le_of_ble_eq_true rfl) dX9_become_18 rfl ?_
    refine k_ret C rfl dX9_become_21 ?_
    exact ⟨rfl, rfl⟩
  · skip
    refine k_iload_n C 9 2 rfl rfl dX9_become_8 rfl ?_
    refine k_callSE C 12 (As := [.int km]) (st := []) mwX9_77 skX9_isKindWithNumber (qX9_isKindWithNumber l g M km) mlX9_isKindWithNumber (by decide) (by decide) rfl rfl (Nat.le_of_ble_eq_true rfl) dX9_become_9 rfl ?_
    refine k_if_neB C 22 15 dX9_become_12 (by decide) rfl (fun c12 => ?_) (fun d12 => ?_)
    · skip
      exact (bz hf (by simp [pKm, pLine, d5, c12])).elim
    · skip
      refine k_aload_n C 16 0 rfl rfl dX9_become_15 rfl ?_
      refine k_ldc C 18 cwX9_87 dX9_become_16 rfl ?_
      refine k_callVE C 21 (As := [.int (-1000000001)]) (st := []) 90 (by decide) (ce_90 g _) rfl rfl mwX9_88 vlX9_refuse (qX9_refuse l g M (-1000000001) (k := 1) (by decide) (by decide) (by decide)) mlX9_refuse (by decide) (by decide) rfl rfl (Nat.le_of_ble_eq_true rfl) dX9_become_18 rfl ?_
      refine k_ret C rfl dX9_become_21 ?_
      exact ⟨rfl, rfl⟩
set_option maxHeartbeats 4000000 in
set_option maxRecDepth 20000 in
theorem qX9_become_t (l : Launch) (g : GT) (M : Mem) {n : Nat} (hn : M 37 1 = nI n) (h12 : n ≤ 12) {f : Nat} (hf : f < n) (km : Int32) (h1 : pKm km = true) : CtrE l g yX9_become cX9_become 5 (some .int) 3 [.ref (ga g 90), .int (nI f), .int km] M (M f 0) (mu (mu M f 0 (km / 10)) f 1 (km - km / 10 * 10)) := by
  refine ctrI_of (by decide +kernel) (Nat.le_of_ble_eq_true rfl) ?_
  intro pP eE RR sS mI aG bB mE cD C
  refine k_lo (lo' := [(0, .ref (ga g 90)), (1, .int (nI f)), (2, .int km)]) rfl ?_
  refine k_aload_n C 1 0 rfl rfl dX9_become_0 rfl ?_
  refine k_iload_n C 2 1 rfl rfl dX9_become_1 rfl ?_
  refine k_callVE C 5 (As := [.int (nI f)]) (st := []) 90 (by decide) (ce_90 g _) rfl rfl mwX9_104 vlX9_isFurrow (qX9_isFurrow l g M (n := n) hn h12 (nI f)) mlX9_isFurrow (by decide) (by decide) rfl rfl (Nat.le_of_ble_eq_true rfl) dX9_become_2 rfl ?_
  refine k_if_eqB C 15 8 dX9_become_5 (by decide) rfl (fun c5 => ?_) (fun d5 => ?_)
  · skip
    exact (bz c5 (pIsF_lt h12 hf)).elim
  · skip
    refine k_iload_n C 9 2 rfl rfl dX9_become_8 rfl ?_
    refine k_callSE C 12 (As := [.int km]) (st := []) mwX9_77 skX9_isKindWithNumber (qX9_isKindWithNumber l g M km) mlX9_isKindWithNumber (by decide) (by decide) rfl rfl (Nat.le_of_ble_eq_true rfl) dX9_become_9 rfl ?_
    refine k_if_neB C 22 15 dX9_become_12 (by decide) rfl (fun c12 => ?_) (fun d12 => ?_)
    · skip
      refine k_aload_n C 23 0 rfl rfl dX9_become_22 rfl ?_
      refine k_get C 26 flX9_12 90 (by decide) (v := .ref (ga g 43)) (ce_90 g _) rfl dX9_become_23 rfl ?_
      refine k_get C 29 flX9_92 43 (by decide) (v := .ref (ga g 37)) (ce_wld g _ (show 0 < 2 by decide)) rfl dX9_become_26 rfl ?_
      refine k_get C 32 flX9_107 37 (by decide) (v := .ref (ga g 40)) (ce_fld g _ (show 0 < 3 by decide)) rfl dX9_become_29 rfl ?_
      refine k_iload_n C 33 1 rfl rfl dX9_become_32 rfl ?_
      refine k_aald C 34 40 f 3 (by decide) (ce_fa g _ (show 0 < 3 by decide)) rfl (by decide) rfl (by omega) dX9_become_33 rfl ?_
      refine k_st (st' := [.ref (ga g f)]) (by simp only [Nat.mul_zero, Nat.zero_add]) ?_
      refine k_astore_n C 35 [(3, .ref (ga g f)), (0, .ref (ga g 90)), (1, .int (nI f)), (2, .int km)] rfl (by decide) rfl dX9_become_34 rfl ?_
      refine k_aload_n C 36 0 rfl rfl dX9_become_35 rfl ?_
      refine k_get C 39 flX9_111 f (lt105_fu (by omega)) (v := .int ((M) f 0)) (ce_fu g _ (by omega)) rfl dX9_become_36 rfl ?_
      refine k_istore C 41 [(4, .int (M f 0)), (3, .ref (ga g f)), (0, .ref (ga g 90)), (1, .int (nI f)), (2, .int km)]  (by decide) rfl dX9_become_39 rfl ?_
      refine k_aload_n C 42 1 rfl rfl dX9_become_41 rfl ?_
      refine k_iload_n C 43 4 rfl rfl dX9_become_42 rfl ?_
      refine k_callVU C 46 (As := [.int km]) (st := []) f (lt105_fu (by omega)) (ce_fu g _ (by omega)) rfl rfl mwX9_148 vlX2_setKindAndNumber (qX2_setKindAndNumber l g M (by omega) km) mlX2_setKindAndNumber (by decide) (by decide) rfl rfl (Nat.le_of_ble_eq_true rfl) dX9_become_43 rfl ?_
      refine k_iload C 48 0  rfl dX9_become_46 rfl ?_
      refine k_ret C rfl dX9_become_48 ?_
      exact ⟨rfl, rfl⟩
    · skip
      exact (bz d12 h1).elim
set_option maxHeartbeats 4000000 in
set_option maxRecDepth 20000 in
theorem qX9_as_f (l : Launch) (g : GT) (M : Mem) {n : Nat} (hn : M 37 1 = nI n) (h12 : n ≤ 12) (f w : Int32) (hf : (pIsF n f && (decide (0 ≤ w) && decide (w < 7))) = false) : CtrE l g yX9_as cX9_as 4 (some .int) 3 [.ref (ga g 90), .int f, .int w] M (-1000000001) (mu M 89 1 (M 89 1 + 1)) := by
  refine ctrI_of (by decide +kernel) (Nat.le_of_ble_eq_true rfl) ?_
  intro pP eE RR sS mI aG bB mE cD C
  refine k_lo (lo' := [(0, .ref (ga g 90)), (1, .int f), (2, .int w)]) rfl ?_
  refine k_aload_n C 1 0 rfl rfl dX9_as_0 rfl ?_
  refine k_iload_n C 2 1 rfl rfl dX9_as_1 rfl ?_
  refine k_callVE C 5 (As := [.int f]) (st := []) 90 (by decide) (ce_90 g _) rfl rfl mwX9_104 vlX9_isFurrow (qX9_isFurrow l g M (n := n) hn h12 f) mlX9_isFurrow (by decide) (by decide) rfl rfl (Nat.le_of_ble_eq_true rfl) dX9_as_2 rfl ?_
  refine k_if_eqB C 15 8 dX9_as_5 (by decide) rfl (fun c5 => ?_) (fun d5 => ?_)
  · skip
    refine k_aload_n C 16 0 rfl rfl dX9_as_15 rfl ?_
    refine k_ldc C 18 cwX9_87 dX9_as_16 rfl ?_
    refine k_callVE C 21 (As := [.int (-1000000001)]) (st := []) 90 (by decide) (ce_90 g _) rfl rfl mwX9_88 vlX9_refuse (qX9_refuse l g M (-1000000001) (k := 1) (by decide) (by decide) (by decide)) mlX9_refuse (by decide) (by decide) rfl rfl (Nat.le_of_ble_eq_true rfl) dX9_as_18 rfl ?_
    refine k_ret C rfl dX9_as_21 ?_
    exact ⟨rfl, rfl⟩
  · skip
    refine k_iload_n C 9 2 rfl rfl dX9_as_8 rfl ?_
    refine k_callSE C 12 (As := [.int w]) (st := []) mwX9_151 skX9_isKind (qX9_isKind l g M w) mlX9_isKind (by decide) (by decide) rfl rfl (Nat.le_of_ble_eq_true rfl) dX9_as_9 rfl ?_
    refine k_if_neB C 22 15 dX9_as_12 (by decide) rfl (fun c12 => ?_) (fun d12 => ?_)
    · skip
      exact (bz hf (by simp [pKm, pLine, d5, c12])).elim
    · skip
      refine k_aload_n C 16 0 rfl rfl dX9_as_15 rfl ?_
      refine k_ldc C 18 cwX9_87 dX9_as_16 rfl ?_
      refine k_callVE C 21 (As := [.int (-1000000001)]) (st := []) 90 (by decide) (ce_90 g _) rfl rfl mwX9_88 vlX9_refuse (qX9_refuse l g M (-1000000001) (k := 1) (by decide) (by decide) (by decide)) mlX9_refuse (by decide) (by decide) rfl rfl (Nat.le_of_ble_eq_true rfl) dX9_as_18 rfl ?_
      refine k_ret C rfl dX9_as_21 ?_
      exact ⟨rfl, rfl⟩
set_option maxHeartbeats 4000000 in
set_option maxRecDepth 20000 in
theorem qX9_as_t (l : Launch) (g : GT) (M : Mem) {n : Nat} (hn : M 37 1 = nI n) (h12 : n ≤ 12) {f : Nat} (hf : f < n) (h7 : kind7 (M f 0)) (w : Int32) (hw : (decide (0 ≤ w) && decide (w < 7)) = true) : CtrE l g yX9_as cX9_as 4 (some .int) 3 [.ref (ga g 90), .int (nI f), .int w] M (if pOf (M f 0) w = true then M f 1 else (-1000000005)) (if pOf (M f 0) w = true then M else mu M 89 5 (M 89 5 + 1)) := by
  refine ctrI_of (by decide +kernel) (Nat.le_of_ble_eq_true rfl) ?_
  intro pP eE RR sS mI aG bB mE cD C
  refine k_lo (lo' := [(0, .ref (ga g 90)), (1, .int (nI f)), (2, .int w)]) rfl ?_
  refine k_aload_n C 1 0 rfl rfl dX9_as_0 rfl ?_
  refine k_iload_n C 2 1 rfl rfl dX9_as_1 rfl ?_
  refine k_callVE C 5 (As := [.int (nI f)]) (st := []) 90 (by decide) (ce_90 g _) rfl rfl mwX9_104 vlX9_isFurrow (qX9_isFurrow l g M (n := n) hn h12 (nI f)) mlX9_isFurrow (by decide) (by decide) rfl rfl (Nat.le_of_ble_eq_true rfl) dX9_as_2 rfl ?_
  refine k_if_eqB C 15 8 dX9_as_5 (by decide) rfl (fun c5 => ?_) (fun d5 => ?_)
  · skip
    exact (bz c5 (pIsF_lt h12 hf)).elim
  · skip
    refine k_iload_n C 9 2 rfl rfl dX9_as_8 rfl ?_
    refine k_callSE C 12 (As := [.int w]) (st := []) mwX9_151 skX9_isKind (qX9_isKind l g M w) mlX9_isKind (by decide) (by decide) rfl rfl (Nat.le_of_ble_eq_true rfl) dX9_as_9 rfl ?_
    refine k_if_neB C 22 15 dX9_as_12 (by decide) rfl (fun c12 => ?_) (fun d12 => ?_)
    · skip
      refine k_aload_n C 23 0 rfl rfl dX9_as_22 rfl ?_
      refine k_get C 26 flX9_12 90 (by decide) (v := .ref (ga g 43)) (ce_90 g _) rfl dX9_as_23 rfl ?_
      refine k_get C 29 flX9_92 43 (by decide) (v := .ref (ga g 37)) (ce_wld g _ (show 0 < 2 by decide)) rfl dX9_as_26 rfl ?_
      refine k_get C 32 flX9_107 37 (by decide) (v := .ref (ga g 40)) (ce_fld g _ (show 0 < 3 by decide)) rfl dX9_as_29 rfl ?_
      refine k_iload_n C 33 1 rfl rfl dX9_as_32 rfl ?_
      refine k_aald C 34 40 f 3 (by decide) (ce_fa g _ (show 0 < 3 by decide)) rfl (by decide) rfl (by omega) dX9_as_33 rfl ?_
      refine k_st (st' := [.ref (ga g f)]) (by simp only [Nat.mul_zero, Nat.zero_add]) ?_
      refine k_astore_n C 35 [(3, .ref (ga g f)), (0, .ref (ga g 90)), (1, .int (nI f)), (2, .int w)] rfl (by decide) rfl dX9_as_34 rfl ?_
      refine k_aload_n C 36 0 rfl rfl dX9_as_35 rfl ?_
      refine k_iload_n C 37 3 rfl rfl dX9_as_36 rfl ?_
      refine k_callVE C 40 (As := [.int w]) (st := []) f (lt105_fu (by omega)) (ce_fu g _ (by omega)) rfl rfl mwX9_154 vlX2_isOfKind (qX2_isOfKind l g M (by omega) w h7) mlX2_isOfKind (by decide) (by decide) rfl rfl (Nat.le_of_ble_eq_true rfl) dX9_as_37 rfl ?_
      refine k_if_eqB C 50 43 dX9_as_40 (by decide) rfl (fun c40 => ?_) (fun d40 => ?_)
      · skip
        refine k_aload_n C 51 1 rfl rfl dX9_as_50 rfl ?_
        refine k_ldc C 53 cwX9_157 dX9_as_51 rfl ?_
        refine k_callVE C 56 (As := [.int (-1000000005)]) (st := []) 90 (by decide) (ce_90 g _) rfl rfl mwX9_88 vlX9_refuse (qX9_refuse l g M (-1000000005) (k := 5) (by decide) (by decide) (by decide)) mlX9_refuse (by decide) (by decide) rfl rfl (Nat.le_of_ble_eq_true rfl) dX9_as_53 rfl ?_
        refine k_ret C rfl dX9_as_56 ?_
        have hp : ¬ pOf (M f 0) w = true := by rw [c40]; decide
        exact ⟨by rw [if_neg hp], by rw [if_neg hp]⟩
      · skip
        refine k_aload_n C 44 0 rfl rfl dX9_as_43 rfl ?_
        refine k_get C 47 flX9_114 f (lt105_fu (by omega)) (v := .int ((M) f 1)) (ce_fu g _ (by omega)) rfl dX9_as_44 rfl ?_
        refine k_goto C 56 dX9_as_47 (by decide) ?_
        refine k_ret C rfl dX9_as_56 ?_
        exact ⟨by rw [if_pos d40], by rw [if_pos d40]⟩
    · skip
      exact (bz d12 hw).elim
set_option maxHeartbeats 4000000 in
set_option maxRecDepth 20000 in
theorem qX9_answers_f (l : Launch) (g : GT) (M : Mem) {n : Nat} (hn : M 37 1 = nI n) (h12 : n ≤ 12) (f h : Int32) (hf : (pIsF n f && pIsF n h && !decide (f = h)) = false) : CtrE l g yX9_answers cX9_answers 3 (some .int) 3 [.ref (ga g 90), .int f, .int h] M (-1000000001) (mu M 89 1 (M 89 1 + 1)) := by
  refine ctrI_of (by decide +kernel) (Nat.le_of_ble_eq_true rfl) ?_
  intro pP eE RR sS mI aG bB mE cD C
  refine k_lo (lo' := [(0, .ref (ga g 90)), (1, .int f), (2, .int h)]) rfl ?_
  refine k_aload_n C 1 0 rfl rfl dX9_answers_0 rfl ?_
  refine k_iload_n C 2 1 rfl rfl dX9_answers_1 rfl ?_
  refine k_callVE C 5 (As := [.int f]) (st := []) 90 (by decide) (ce_90 g _) rfl rfl mwX9_104 vlX9_isFurrow (qX9_isFurrow l g M (n := n) hn h12 f) mlX9_isFurrow (by decide) (by decide) rfl rfl (Nat.le_of_ble_eq_true rfl) dX9_answers_2 rfl ?_
  refine k_if_eqB C 21 8 dX9_answers_5 (by decide) rfl (fun c5 => ?_) (fun d5 => ?_)
  · skip
    refine k_aload_n C 22 0 rfl rfl dX9_answers_21 rfl ?_
    refine k_ldc C 24 cwX9_87 dX9_answers_22 rfl ?_
    refine k_callVE C 27 (As := [.int (-1000000001)]) (st := []) 90 (by decide) (ce_90 g _) rfl rfl mwX9_88 vlX9_refuse (qX9_refuse l g M (-1000000001) (k := 1) (by decide) (by decide) (by decide)) mlX9_refuse (by decide) (by decide) rfl rfl (Nat.le_of_ble_eq_true rfl) dX9_answers_24 rfl ?_
    refine k_ret C rfl dX9_answers_27 ?_
    exact ⟨rfl, rfl⟩
  · skip
    refine k_aload_n C 9 0 rfl rfl dX9_answers_8 rfl ?_
    refine k_iload_n C 10 2 rfl rfl dX9_answers_9 rfl ?_
    refine k_callVE C 13 (As := [.int h]) (st := []) 90 (by decide) (ce_90 g _) rfl rfl mwX9_104 vlX9_isFurrow (qX9_isFurrow l g M (n := n) hn h12 h) mlX9_isFurrow (by decide) (by decide) rfl rfl (Nat.le_of_ble_eq_true rfl) dX9_answers_10 rfl ?_
    refine k_if_eqB C 21 16 dX9_answers_13 (by decide) rfl (fun c13 => ?_) (fun d13 => ?_)
    · skip
      refine k_aload_n C 22 0 rfl rfl dX9_answers_21 rfl ?_
      refine k_ldc C 24 cwX9_87 dX9_answers_22 rfl ?_
      refine k_callVE C 27 (As := [.int (-1000000001)]) (st := []) 90 (by decide) (ce_90 g _) rfl rfl mwX9_88 vlX9_refuse (qX9_refuse l g M (-1000000001) (k := 1) (by decide) (by decide) (by decide)) mlX9_refuse (by decide) (by decide) rfl rfl (Nat.le_of_ble_eq_true rfl) dX9_answers_24 rfl ?_
      refine k_ret C rfl dX9_answers_27 ?_
      exact ⟨rfl, rfl⟩
    · skip
      refine k_iload_n C 17 1 rfl rfl dX9_answers_16 rfl ?_
      refine k_iload_n C 18 2 rfl rfl dX9_answers_17 rfl ?_
      refine k_icmp_ne C 28 21 dX9_answers_18 (by decide) rfl (fun c18 => ?_) (fun d18 => ?_)
      · skip
        exact (bz hf (by simp [pKm, pLine, d5, d13, c18])).elim
      · skip
        refine k_aload_n C 22 0 rfl rfl dX9_answers_21 rfl ?_
        refine k_ldc C 24 cwX9_87 dX9_answers_22 rfl ?_
        refine k_callVE C 27 (As := [.int (-1000000001)]) (st := []) 90 (by decide) (ce_90 g _) rfl rfl mwX9_88 vlX9_refuse (qX9_refuse l g M (-1000000001) (k := 1) (by decide) (by decide) (by decide)) mlX9_refuse (by decide) (by decide) rfl rfl (Nat.le_of_ble_eq_true rfl) dX9_answers_24 rfl ?_
        refine k_ret C rfl dX9_answers_27 ?_
        exact ⟨rfl, rfl⟩
set_option maxHeartbeats 4000000 in
set_option maxRecDepth 20000 in
theorem qX9_answers_t (l : Launch) (g : GT) (M : Mem) {n : Nat} (hn : M 37 1 = nI n) (h12 : n ≤ 12) {f : Nat} (hf : f < n) {b : Nat} (hb : b < n) (hne : f ≠ b) : CtrE l g yX9_answers cX9_answers 3 (some .int) 4 [.ref (ga g 90), .int (nI f), .int (nI b)] M (b2i (pAns (fF M 0 f) (fF M 0 b))) M := by
  refine ctrI_of (by decide +kernel) (Nat.le_of_ble_eq_true rfl) ?_
  intro pP eE RR sS mI aG bB mE cD C
  refine k_lo (lo' := [(0, .ref (ga g 90)), (1, .int (nI f)), (2, .int (nI b))]) rfl ?_
  refine k_aload_n C 1 0 rfl rfl dX9_answers_0 rfl ?_
  refine k_iload_n C 2 1 rfl rfl dX9_answers_1 rfl ?_
  refine k_callVE C 5 (As := [.int (nI f)]) (st := []) 90 (by decide) (ce_90 g _) rfl rfl mwX9_104 vlX9_isFurrow (qX9_isFurrow l g M (n := n) hn h12 (nI f)) mlX9_isFurrow (by decide) (by decide) rfl rfl (Nat.le_of_ble_eq_true rfl) dX9_answers_2 rfl ?_
  refine k_if_eqB C 21 8 dX9_answers_5 (by decide) rfl (fun c5 => ?_) (fun d5 => ?_)
  · skip
    exact (bz c5 (pIsF_lt h12 hf)).elim
  · skip
    refine k_aload_n C 9 0 rfl rfl dX9_answers_8 rfl ?_
    refine k_iload_n C 10 2 rfl rfl dX9_answers_9 rfl ?_
    refine k_callVE C 13 (As := [.int (nI b)]) (st := []) 90 (by decide) (ce_90 g _) rfl rfl mwX9_104 vlX9_isFurrow (qX9_isFurrow l g M (n := n) hn h12 (nI b)) mlX9_isFurrow (by decide) (by decide) rfl rfl (Nat.le_of_ble_eq_true rfl) dX9_answers_10 rfl ?_
    refine k_if_eqB C 21 16 dX9_answers_13 (by decide) rfl (fun c13 => ?_) (fun d13 => ?_)
    · skip
      exact (bz c13 (pIsF_lt h12 hb)).elim
    · skip
      refine k_iload_n C 17 1 rfl rfl dX9_answers_16 rfl ?_
      refine k_iload_n C 18 2 rfl rfl dX9_answers_17 rfl ?_
      refine k_icmp_ne C 28 21 dX9_answers_18 (by decide) rfl (fun c18 => ?_) (fun d18 => ?_)
      · skip
        have c18 := mt (nI_eq (by omega) (by omega)).mpr (show ¬ (nI f = nI b) from c18)
        refine k_aload_n C 29 0 rfl rfl dX9_answers_28 rfl ?_
        refine k_get C 32 flX9_12 90 (by decide) (v := .ref (ga g 43)) (ce_90 g _) rfl dX9_answers_29 rfl ?_
        refine k_get C 35 flX9_92 43 (by decide) (v := .ref (ga g 37)) (ce_wld g _ (show 0 < 2 by decide)) rfl dX9_answers_32 rfl ?_
        refine k_iload_n C 36 1 rfl rfl dX9_answers_35 rfl ?_
        refine k_iload_n C 37 2 rfl rfl dX9_answers_36 rfl ?_
        refine k_callVE C 40 (As := [.int (nI f), .int (nI b)]) (st := []) 37 (by decide) (ce_fld g _ (show 0 < 3 by decide)) rfl rfl mwX9_158 vlX1_echoes (qX1_echoes l g M (show 0 < 3 by decide) (a := f) (b := b) (by omega) (by omega)) mlX1_echoes (by decide) (by decide) rfl rfl (Nat.le_of_ble_eq_true rfl) dX9_answers_37 rfl ?_
        refine k_callSE C 43 (As := [.int (b2i (pAns (fF M 0 f) (fF M 0 b)))]) (st := []) mwX9_133 skX9_asNumber (qX9_asNumber l g M (pAns (fF M 0 f) (fF M 0 b))) mlX9_asNumber (by decide) (by decide) rfl rfl (Nat.le_of_ble_eq_true rfl) dX9_answers_40 rfl ?_
        refine k_ret C rfl dX9_answers_43 ?_
        exact ⟨rfl, rfl⟩
      · skip
        have d18 := (nI_eq (by omega) (by omega)).mp (show nI f = nI b from d18)
        exact absurd d18 hne
set_option maxHeartbeats 4000000 in
set_option maxRecDepth 20000 in
theorem qX9_cover_f (l : Launch) (g : GT) (M : Mem) {n : Nat} (hn : M 37 1 = nI n) (h12 : n ≤ 12) (f v : Int32) (hf : (pIsF n f && (decide (0 ≤ v) && decide (v ≤ 1))) = false) : CtrE l g yX9_cover cX9_cover 5 (some .int) 3 [.ref (ga g 90), .int f, .int v] M (-1000000001) (mu M 89 1 (M 89 1 + 1)) := by
  refine ctrI_of (by decide +kernel) (Nat.le_of_ble_eq_true rfl) ?_
  intro pP eE RR sS mI aG bB mE cD C
  refine k_lo (lo' := [(0, .ref (ga g 90)), (1, .int f), (2, .int v)]) rfl ?_
  refine k_aload_n C 1 0 rfl rfl dX9_cover_0 rfl ?_
  refine k_iload_n C 2 1 rfl rfl dX9_cover_1 rfl ?_
  refine k_callVE C 5 (As := [.int f]) (st := []) 90 (by decide) (ce_90 g _) rfl rfl mwX9_104 vlX9_isFurrow (qX9_isFurrow l g M (n := n) hn h12 f) mlX9_isFurrow (by decide) (by decide) rfl rfl (Nat.le_of_ble_eq_true rfl) dX9_cover_2 rfl ?_
  refine k_if_eqB C 17 8 dX9_cover_5 (by decide) rfl (fun c5 => ?_) (fun d5 => ?_)
  · skip
    refine k_aload_n C 18 0 rfl rfl dX9_cover_17 rfl ?_
    refine k_ldc C 20 cwX9_87 dX9_cover_18 rfl ?_
    refine k_callVE C 23 (As := [.int (-1000000001)]) (st := []) 90 (by decide) (ce_90 g _) rfl rfl mwX9_88 vlX9_refuse (qX9_refuse l g M (-1000000001) (k := 1) (by decide) (by decide) (by decide)) mlX9_refuse (by decide) (by decide) rfl rfl (Nat.le_of_ble_eq_true rfl) dX9_cover_20 rfl ?_
    refine k_ret C rfl dX9_cover_23 ?_
    exact ⟨rfl, rfl⟩
  · skip
    refine k_iload_n C 9 2 rfl rfl dX9_cover_8 rfl ?_
    refine k_if_lt C 17 12 dX9_cover_9 (by decide) rfl (fun c9 => ?_) (fun d9 => ?_)
    · skip
      refine k_aload_n C 18 0 rfl rfl dX9_cover_17 rfl ?_
      refine k_ldc C 20 cwX9_87 dX9_cover_18 rfl ?_
      refine k_callVE C 23 (As := [.int (-1000000001)]) (st := []) 90 (by decide) (ce_90 g _) rfl rfl mwX9_88 vlX9_refuse (qX9_refuse l g M (-1000000001) (k := 1) (by decide) (by decide) (by decide)) mlX9_refuse (by decide) (by decide) rfl rfl (Nat.le_of_ble_eq_true rfl) dX9_cover_20 rfl ?_
      refine k_ret C rfl dX9_cover_23 ?_
      exact ⟨rfl, rfl⟩
    · skip
      refine k_iload_n C 13 2 rfl rfl dX9_cover_12 rfl ?_
      refine k_iconst C 14 (v := 1) (by decide) dX9_cover_13 rfl ?_
      refine k_icmp_le C 24 17 dX9_cover_14 (by decide) rfl (fun c14 => ?_) (fun d14 => ?_)
      · skip
        exact (bz hf (by rw [d5, decide_eq_true (Int32.not_lt.mp d9), decide_eq_true c14]; rfl)).elim
      · skip
        refine k_aload_n C 18 0 rfl rfl dX9_cover_17 rfl ?_
        refine k_ldc C 20 cwX9_87 dX9_cover_18 rfl ?_
        refine k_callVE C 23 (As := [.int (-1000000001)]) (st := []) 90 (by decide) (ce_90 g _) rfl rfl mwX9_88 vlX9_refuse (qX9_refuse l g M (-1000000001) (k := 1) (by decide) (by decide) (by decide)) mlX9_refuse (by decide) (by decide) rfl rfl (Nat.le_of_ble_eq_true rfl) dX9_cover_20 rfl ?_
        refine k_ret C rfl dX9_cover_23 ?_
        exact ⟨rfl, rfl⟩
set_option maxHeartbeats 4000000 in
set_option maxRecDepth 20000 in
theorem qX9_cover_t (l : Launch) (g : GT) (M : Mem) {n : Nat} (hn : M 37 1 = nI n) (h12 : n ≤ 12) {f : Nat} (hf : f < n) (hc : M f 6 = 0 ∨ M f 6 = 1) {v : Nat} (hv : v < 2) : CtrE l g yX9_cover cX9_cover 5 (some .int) 3 [.ref (ga g 90), .int (nI f), .int (nI v)] M (M f 6) (mu M f 6 (nI v)) := by
  refine ctrI_of (by decide +kernel) (Nat.le_of_ble_eq_true rfl) ?_
  intro pP eE RR sS mI aG bB mE cD C
  refine k_lo (lo' := [(0, .ref (ga g 90)), (1, .int (nI f)), (2, .int (nI v))]) rfl ?_
  refine k_aload_n C 1 0 rfl rfl dX9_cover_0 rfl ?_
  refine k_iload_n C 2 1 rfl rfl dX9_cover_1 rfl ?_
  refine k_callVE C 5 (As := [.int (nI f)]) (st := []) 90 (by decide) (ce_90 g _) rfl rfl mwX9_104 vlX9_isFurrow (qX9_isFurrow l g M (n := n) hn h12 (nI f)) mlX9_isFurrow (by decide) (by decide) rfl rfl (Nat.le_of_ble_eq_true rfl) dX9_cover_2 rfl ?_
  refine k_if_eqB C 17 8 dX9_cover_5 (by decide) rfl (fun c5 => ?_) (fun d5 => ?_)
  · skip
    exact (bz c5 (pIsF_lt h12 hf)).elim
  · skip
    refine k_iload_n C 9 2 rfl rfl dX9_cover_8 rfl ?_
    refine k_if_lt C 17 12 dX9_cover_9 (by decide) rfl (fun c9 => ?_) (fun d9 => ?_)
    · skip
      have c9 := (nI_ltI (by omega) (by omega)).mp (show nI v < nI 0 from c9)
      exact absurd c9 (by omega)
    · skip
      have d9 := mt (nI_ltI (by omega) (by omega)).mpr (show ¬ (nI v < nI 0) from d9)
      refine k_iload_n C 13 2 rfl rfl dX9_cover_12 rfl ?_
      refine k_iconst C 14 (v := 1) (by decide) dX9_cover_13 rfl ?_
      refine k_icmp_le C 24 17 dX9_cover_14 (by decide) rfl (fun c14 => ?_) (fun d14 => ?_)
      · skip
        have c14 := (nI_leI (by omega) (by omega)).mp (show nI v ≤ nI 1 from c14)
        refine k_aload_n C 25 0 rfl rfl dX9_cover_24 rfl ?_
        refine k_get C 28 flX9_12 90 (by decide) (v := .ref (ga g 43)) (ce_90 g _) rfl dX9_cover_25 rfl ?_
        refine k_get C 31 flX9_92 43 (by decide) (v := .ref (ga g 37)) (ce_wld g _ (show 0 < 2 by decide)) rfl dX9_cover_28 rfl ?_
        refine k_get C 34 flX9_107 37 (by decide) (v := .ref (ga g 40)) (ce_fld g _ (show 0 < 3 by decide)) rfl dX9_cover_31 rfl ?_
        refine k_iload_n C 35 1 rfl rfl dX9_cover_34 rfl ?_
        refine k_aald C 36 40 f 3 (by decide) (ce_fa g _ (show 0 < 3 by decide)) rfl (by decide) rfl (by omega) dX9_cover_35 rfl ?_
        refine k_st (st' := [.ref (ga g f)]) (by simp only [Nat.mul_zero, Nat.zero_add]) ?_
        refine k_astore_n C 37 [(3, .ref (ga g f)), (0, .ref (ga g 90)), (1, .int (nI f)), (2, .int (nI v))] rfl (by decide) rfl dX9_cover_36 rfl ?_
        refine k_aload_n C 38 0 rfl rfl dX9_cover_37 rfl ?_
        refine k_get C 41 flX9_129 f (lt105_fu (by omega)) (v := .int ((M) f 6)) (ce_fu g _ (by omega)) rfl dX9_cover_38 rfl ?_
        refine k_teq (y := b2i (decide (M f 6 = 1))) (cov_b hc) ?_
        refine k_callSE C 44 (As := [.int (b2i (decide (M f 6 = 1)))]) (st := []) mwX9_133 skX9_asNumber (qX9_asNumber l g M (decide (M f 6 = 1))) mlX9_asNumber (by decide) (by decide) rfl rfl (Nat.le_of_ble_eq_true rfl) dX9_cover_41 rfl ?_
        refine k_istore C 46 [(4, .int (b2i (decide (M f 6 = 1)))), (3, .ref (ga g f)), (0, .ref (ga g 90)), (1, .int (nI f)), (2, .int (nI v))]  (by decide) rfl dX9_cover_44 rfl ?_
        refine k_aload_n C 47 1 rfl rfl dX9_cover_46 rfl ?_
        refine k_iload_n C 48 4 rfl rfl dX9_cover_47 rfl ?_
        refine k_iconst C 49 (v := 1) (by decide) dX9_cover_48 rfl ?_
        refine k_icmp_ne C 56 52 dX9_cover_49 (by decide) rfl (fun c49 => ?_) (fun d49 => ?_)
        · skip
          have c49 := mt (nI_eq (by omega) (by omega)).mpr (show ¬ (nI v = nI 1) from c49)
          refine k_iconst C 57 (v := 0) (by decide) dX9_cover_56 rfl ?_
          refine k_put C 60 flX9_129 plX2 f (lt105_fu (by omega)) (ce_fu g _ (by omega)) (ce_fu g _ (by omega)) (Nat.le_of_ble_eq_true rfl) rfl rfl rfl dX9_cover_57 rfl ?_
          refine k_iload C 62 0  rfl dX9_cover_60 rfl ?_
          refine k_ret C rfl dX9_cover_62 ?_
          exact ⟨(cov_b hc).symm, by rw [show v = 0 by omega]; rfl⟩
        · skip
          have d49 := (nI_eq (by omega) (by omega)).mp (show nI v = nI 1 from d49)
          refine k_iconst C 53 (v := 1) (by decide) dX9_cover_52 rfl ?_
          refine k_goto C 57 dX9_cover_53 (by decide) ?_
          refine k_put C 60 flX9_129 plX2 f (lt105_fu (by omega)) (ce_fu g _ (by omega)) (ce_fu g _ (by omega)) (Nat.le_of_ble_eq_true rfl) rfl rfl rfl dX9_cover_57 rfl ?_
          refine k_iload C 62 0  rfl dX9_cover_60 rfl ?_
          refine k_ret C rfl dX9_cover_62 ?_
          exact ⟨(cov_b hc).symm, by rw [show v = 1 by omega]; rfl⟩
      · skip
        have d14 := mt (nI_leI (by omega) (by omega)).mpr (show ¬ (nI v ≤ nI 1) from d14)
        exact absurd d14 (by omega)
set_option maxHeartbeats 4000000 in
set_option maxRecDepth 20000 in
theorem qX9_redraw_f (l : Launch) (g : GT) (M : Mem) {n : Nat} (hn : M 37 1 = nI n) (h12 : n ≤ 12) (f x : Int32) (hf : (pIsF n f && pLine x) = false) : CtrE l g yX9_redraw cX9_redraw 5 (some .int) 3 [.ref (ga g 90), .int f, .int x] M (-1000000001) (mu M 89 1 (M 89 1 + 1)) := by
  refine ctrI_of (by decide +kernel) (Nat.le_of_ble_eq_true rfl) ?_
  intro pP eE RR sS mI aG bB mE cD C
  refine k_lo (lo' := [(0, .ref (ga g 90)), (1, .int f), (2, .int x)]) rfl ?_
  refine k_aload_n C 1 0 rfl rfl dX9_redraw_0 rfl ?_
  refine k_iload_n C 2 1 rfl rfl dX9_redraw_1 rfl ?_
  refine k_callVE C 5 (As := [.int f]) (st := []) 90 (by decide) (ce_90 g _) rfl rfl mwX9_104 vlX9_isFurrow (qX9_isFurrow l g M (n := n) hn h12 f) mlX9_isFurrow (by decide) (by decide) rfl rfl (Nat.le_of_ble_eq_true rfl) dX9_redraw_2 rfl ?_
  refine k_if_eqB C 15 8 dX9_redraw_5 (by decide) rfl (fun c5 => ?_) (fun d5 => ?_)
  · skip
    refine k_aload_n C 16 0 rfl rfl dX9_redraw_15 rfl ?_
    refine k_ldc C 18 cwX9_87 dX9_redraw_16 rfl ?_
    refine k_callVE C 21 (As := [.int (-1000000001)]) (st := []) 90 (by decide) (ce_90 g _) rfl rfl mwX9_88 vlX9_refuse (qX9_refuse l g M (-1000000001) (k := 1) (by decide) (by decide) (by decide)) mlX9_refuse (by decide) (by decide) rfl rfl (Nat.le_of_ble_eq_true rfl) dX9_redraw_18 rfl ?_
    refine k_ret C rfl dX9_redraw_21 ?_
    exact ⟨rfl, rfl⟩
  · skip
    refine k_iload_n C 9 2 rfl rfl dX9_redraw_8 rfl ?_
    refine k_callSE C 12 (As := [.int x]) (st := []) mwX9_81 skX9_isLine (qX9_isLine l g M x) mlX9_isLine (by decide) (by decide) rfl rfl (Nat.le_of_ble_eq_true rfl) dX9_redraw_9 rfl ?_
    refine k_if_neB C 22 15 dX9_redraw_12 (by decide) rfl (fun c12 => ?_) (fun d12 => ?_)
    · skip
      exact (bz hf (by simp [pKm, pLine, d5, c12])).elim
    · skip
      refine k_aload_n C 16 0 rfl rfl dX9_redraw_15 rfl ?_
      refine k_ldc C 18 cwX9_87 dX9_redraw_16 rfl ?_
      refine k_callVE C 21 (As := [.int (-1000000001)]) (st := []) 90 (by decide) (ce_90 g _) rfl rfl mwX9_88 vlX9_refuse (qX9_refuse l g M (-1000000001) (k := 1) (by decide) (by decide) (by decide)) mlX9_refuse (by decide) (by decide) rfl rfl (Nat.le_of_ble_eq_true rfl) dX9_redraw_18 rfl ?_
      refine k_ret C rfl dX9_redraw_21 ?_
      exact ⟨rfl, rfl⟩
set_option maxHeartbeats 4000000 in
set_option maxRecDepth 20000 in
theorem qX9_redraw_t (l : Launch) (g : GT) (M : Mem) {n : Nat} (hn : M 37 1 = nI n) (h12 : n ≤ 12) {f : Nat} (hf : f < n) (x : Int32) (h1 : pLine x = true) : CtrE l g yX9_redraw cX9_redraw 5 (some .int) 3 [.ref (ga g 90), .int (nI f), .int x] M (10 * M f 2 + M f 3) (mu (mu M f 2 (x / 10)) f 3 (x - x / 10 * 10)) := by
  refine ctrI_of (by decide +kernel) (Nat.le_of_ble_eq_true rfl) ?_
  intro pP eE RR sS mI aG bB mE cD C
  refine k_lo (lo' := [(0, .ref (ga g 90)), (1, .int (nI f)), (2, .int x)]) rfl ?_
  refine k_aload_n C 1 0 rfl rfl dX9_redraw_0 rfl ?_
  refine k_iload_n C 2 1 rfl rfl dX9_redraw_1 rfl ?_
  refine k_callVE C 5 (As := [.int (nI f)]) (st := []) 90 (by decide) (ce_90 g _) rfl rfl mwX9_104 vlX9_isFurrow (qX9_isFurrow l g M (n := n) hn h12 (nI f)) mlX9_isFurrow (by decide) (by decide) rfl rfl (Nat.le_of_ble_eq_true rfl) dX9_redraw_2 rfl ?_
  refine k_if_eqB C 15 8 dX9_redraw_5 (by decide) rfl (fun c5 => ?_) (fun d5 => ?_)
  · skip
    exact (bz c5 (pIsF_lt h12 hf)).elim
  · skip
    refine k_iload_n C 9 2 rfl rfl dX9_redraw_8 rfl ?_
    refine k_callSE C 12 (As := [.int x]) (st := []) mwX9_81 skX9_isLine (qX9_isLine l g M x) mlX9_isLine (by decide) (by decide) rfl rfl (Nat.le_of_ble_eq_true rfl) dX9_redraw_9 rfl ?_
    refine k_if_neB C 22 15 dX9_redraw_12 (by decide) rfl (fun c12 => ?_) (fun d12 => ?_)
    · skip
      refine k_aload_n C 23 0 rfl rfl dX9_redraw_22 rfl ?_
      refine k_get C 26 flX9_12 90 (by decide) (v := .ref (ga g 43)) (ce_90 g _) rfl dX9_redraw_23 rfl ?_
      refine k_get C 29 flX9_92 43 (by decide) (v := .ref (ga g 37)) (ce_wld g _ (show 0 < 2 by decide)) rfl dX9_redraw_26 rfl ?_
      refine k_get C 32 flX9_107 37 (by decide) (v := .ref (ga g 40)) (ce_fld g _ (show 0 < 3 by decide)) rfl dX9_redraw_29 rfl ?_
      refine k_iload_n C 33 1 rfl rfl dX9_redraw_32 rfl ?_
      refine k_aald C 34 40 f 3 (by decide) (ce_fa g _ (show 0 < 3 by decide)) rfl (by decide) rfl (by omega) dX9_redraw_33 rfl ?_
      refine k_st (st' := [.ref (ga g f)]) (by simp only [Nat.mul_zero, Nat.zero_add]) ?_
      refine k_astore_n C 35 [(3, .ref (ga g f)), (0, .ref (ga g 90)), (1, .int (nI f)), (2, .int x)] rfl (by decide) rfl dX9_redraw_34 rfl ?_
      refine k_aload_n C 36 0 rfl rfl dX9_redraw_35 rfl ?_
      refine k_callVE C 39 (As := []) (st := []) f (lt105_fu (by omega)) (ce_fu g _ (by omega)) rfl rfl mwX9_162 vlX2_line (qX2_line l g M (by omega)) mlX2_line (by decide) (by decide) rfl rfl (Nat.le_of_ble_eq_true rfl) dX9_redraw_36 rfl ?_
      refine k_istore C 41 [(4, .int (10 * M f 2 + M f 3)), (3, .ref (ga g f)), (0, .ref (ga g 90)), (1, .int (nI f)), (2, .int x)]  (by decide) rfl dX9_redraw_39 rfl ?_
      refine k_aload_n C 42 1 rfl rfl dX9_redraw_41 rfl ?_
      refine k_iload_n C 43 4 rfl rfl dX9_redraw_42 rfl ?_
      refine k_callVU C 46 (As := [.int x]) (st := []) f (lt105_fu (by omega)) (ce_fu g _ (by omega)) rfl rfl mwX9_165 vlX2_setLine (qX2_setLine l g M (by omega) x) mlX2_setLine (by decide) (by decide) rfl rfl (Nat.le_of_ble_eq_true rfl) dX9_redraw_43 rfl ?_
      refine k_iload C 48 0  rfl dX9_redraw_46 rfl ?_
      refine k_ret C rfl dX9_redraw_48 ?_
      exact ⟨rfl, rfl⟩
    · skip
      exact (bz d12 h1).elim
set_option maxHeartbeats 4000000 in
set_option maxRecDepth 20000 in
theorem qX9_patience_f (l : Launch) (g : GT) (M : Mem) (x : Int32) (hf : (decide (1 ≤ x) && decide (x ≤ 20)) = false) : CtrE l g yX9_patience cX9_patience 3 (some .int) 1 [.ref (ga g 90), .int x] M (-1000000001) (mu M 89 1 (M 89 1 + 1)) := by
  refine ctrI_of (by decide +kernel) (Nat.le_of_ble_eq_true rfl) ?_
  intro pP eE RR sS mI aG bB mE cD C
  refine k_lo (lo' := [(0, .ref (ga g 90)), (1, .int x)]) rfl ?_
  refine k_iload_n C 1 1 rfl rfl dX9_patience_0 rfl ?_
  refine k_iconst C 2 (v := 1) (by decide) dX9_patience_1 rfl ?_
  refine k_icmp_lt C 11 5 dX9_patience_2 (by decide) rfl (fun c2 => ?_) (fun d2 => ?_)
  · skip
    refine k_aload_n C 12 0 rfl rfl dX9_patience_11 rfl ?_
    refine k_ldc C 14 cwX9_87 dX9_patience_12 rfl ?_
    refine k_callVE C 17 (As := [.int (-1000000001)]) (st := []) 90 (by decide) (ce_90 g _) rfl rfl mwX9_88 vlX9_refuse (qX9_refuse l g M (-1000000001) (k := 1) (by decide) (by decide) (by decide)) mlX9_refuse (by decide) (by decide) rfl rfl (Nat.le_of_ble_eq_true rfl) dX9_patience_14 rfl ?_
    refine k_ret C rfl dX9_patience_17 ?_
    exact ⟨rfl, rfl⟩
  · skip
    refine k_iload_n C 6 1 rfl rfl dX9_patience_5 rfl ?_
    refine k_bipush C 8 (v := 20) (by decide) dX9_patience_6 rfl ?_
    refine k_icmp_le C 18 11 dX9_patience_8 (by decide) rfl (fun c8 => ?_) (fun d8 => ?_)
    · skip
      exact (bz hf (by rw [decide_eq_true (Int32.not_lt.mp d2), decide_eq_true c8]; rfl)).elim
    · skip
      refine k_aload_n C 12 0 rfl rfl dX9_patience_11 rfl ?_
      refine k_ldc C 14 cwX9_87 dX9_patience_12 rfl ?_
      refine k_callVE C 17 (As := [.int (-1000000001)]) (st := []) 90 (by decide) (ce_90 g _) rfl rfl mwX9_88 vlX9_refuse (qX9_refuse l g M (-1000000001) (k := 1) (by decide) (by decide) (by decide)) mlX9_refuse (by decide) (by decide) rfl rfl (Nat.le_of_ble_eq_true rfl) dX9_patience_14 rfl ?_
      refine k_ret C rfl dX9_patience_17 ?_
      exact ⟨rfl, rfl⟩
set_option maxHeartbeats 4000000 in
set_option maxRecDepth 20000 in
theorem qX9_years_f (l : Launch) (g : GT) (M : Mem) (x : Int32) (hf : (decide (1 ≤ x) && decide (x ≤ 60)) = false) : CtrE l g yX9_years cX9_years 2 (some .int) 1 [.ref (ga g 90), .int x] M (-1000000001) (mu M 89 1 (M 89 1 + 1)) := by
  refine ctrI_of (by decide +kernel) (Nat.le_of_ble_eq_true rfl) ?_
  intro pP eE RR sS mI aG bB mE cD C
  refine k_lo (lo' := [(0, .ref (ga g 90)), (1, .int x)]) rfl ?_
  refine k_iload_n C 1 1 rfl rfl dX9_years_0 rfl ?_
  refine k_iconst C 2 (v := 1) (by decide) dX9_years_1 rfl ?_
  refine k_icmp_lt C 11 5 dX9_years_2 (by decide) rfl (fun c2 => ?_) (fun d2 => ?_)
  · skip
    refine k_aload_n C 12 0 rfl rfl dX9_years_11 rfl ?_
    refine k_ldc C 14 cwX9_87 dX9_years_12 rfl ?_
    refine k_callVE C 17 (As := [.int (-1000000001)]) (st := []) 90 (by decide) (ce_90 g _) rfl rfl mwX9_88 vlX9_refuse (qX9_refuse l g M (-1000000001) (k := 1) (by decide) (by decide) (by decide)) mlX9_refuse (by decide) (by decide) rfl rfl (Nat.le_of_ble_eq_true rfl) dX9_years_14 rfl ?_
    refine k_ret C rfl dX9_years_17 ?_
    exact ⟨rfl, rfl⟩
  · skip
    refine k_iload_n C 6 1 rfl rfl dX9_years_5 rfl ?_
    refine k_bipush C 8 (v := 60) (by decide) dX9_years_6 rfl ?_
    refine k_icmp_le C 18 11 dX9_years_8 (by decide) rfl (fun c8 => ?_) (fun d8 => ?_)
    · skip
      exact (bz hf (by rw [decide_eq_true (Int32.not_lt.mp d2), decide_eq_true c8]; rfl)).elim
    · skip
      refine k_aload_n C 12 0 rfl rfl dX9_years_11 rfl ?_
      refine k_ldc C 14 cwX9_87 dX9_years_12 rfl ?_
      refine k_callVE C 17 (As := [.int (-1000000001)]) (st := []) 90 (by decide) (ce_90 g _) rfl rfl mwX9_88 vlX9_refuse (qX9_refuse l g M (-1000000001) (k := 1) (by decide) (by decide) (by decide)) mlX9_refuse (by decide) (by decide) rfl rfl (Nat.le_of_ble_eq_true rfl) dX9_years_14 rfl ?_
      refine k_ret C rfl dX9_years_17 ?_
      exact ⟨rfl, rfl⟩
set_option maxHeartbeats 4000000 in
set_option maxRecDepth 20000 in
theorem qX9_loose_f (l : Launch) (g : GT) (M : Mem) (x : Int32) (hf : (decide (1 ≤ x) && decide (x ≤ 20)) = false) : CtrE l g yX9_loose cX9_loose 3 (some .int) 1 [.ref (ga g 90), .int x] M (-1000000001) (mu M 89 1 (M 89 1 + 1)) := by
  refine ctrI_of (by decide +kernel) (Nat.le_of_ble_eq_true rfl) ?_
  intro pP eE RR sS mI aG bB mE cD C
  refine k_lo (lo' := [(0, .ref (ga g 90)), (1, .int x)]) rfl ?_
  refine k_iload_n C 1 1 rfl rfl dX9_loose_0 rfl ?_
  refine k_iconst C 2 (v := 1) (by decide) dX9_loose_1 rfl ?_
  refine k_icmp_lt C 11 5 dX9_loose_2 (by decide) rfl (fun c2 => ?_) (fun d2 => ?_)
  · skip
    refine k_aload_n C 12 0 rfl rfl dX9_loose_11 rfl ?_
    refine k_ldc C 14 cwX9_87 dX9_loose_12 rfl ?_
    refine k_callVE C 17 (As := [.int (-1000000001)]) (st := []) 90 (by decide) (ce_90 g _) rfl rfl mwX9_88 vlX9_refuse (qX9_refuse l g M (-1000000001) (k := 1) (by decide) (by decide) (by decide)) mlX9_refuse (by decide) (by decide) rfl rfl (Nat.le_of_ble_eq_true rfl) dX9_loose_14 rfl ?_
    refine k_ret C rfl dX9_loose_17 ?_
    exact ⟨rfl, rfl⟩
  · skip
    refine k_iload_n C 6 1 rfl rfl dX9_loose_5 rfl ?_
    refine k_bipush C 8 (v := 20) (by decide) dX9_loose_6 rfl ?_
    refine k_icmp_le C 18 11 dX9_loose_8 (by decide) rfl (fun c8 => ?_) (fun d8 => ?_)
    · skip
      exact (bz hf (by rw [decide_eq_true (Int32.not_lt.mp d2), decide_eq_true c8]; rfl)).elim
    · skip
      refine k_aload_n C 12 0 rfl rfl dX9_loose_11 rfl ?_
      refine k_ldc C 14 cwX9_87 dX9_loose_12 rfl ?_
      refine k_callVE C 17 (As := [.int (-1000000001)]) (st := []) 90 (by decide) (ce_90 g _) rfl rfl mwX9_88 vlX9_refuse (qX9_refuse l g M (-1000000001) (k := 1) (by decide) (by decide) (by decide)) mlX9_refuse (by decide) (by decide) rfl rfl (Nat.le_of_ble_eq_true rfl) dX9_loose_14 rfl ?_
      refine k_ret C rfl dX9_loose_17 ?_
      exact ⟨rfl, rfl⟩
set_option maxHeartbeats 4000000 in
set_option maxRecDepth 20000 in
theorem qX9_patience_t (l : Launch) (g : GT) (M : Mem) {x : Nat} (h1 : 1 ≤ x) (h2 : x ≤ 20) : CtrE l g yX9_patience cX9_patience 3 (some .int) 1 [.ref (ga g 90), .int (nI x)] M (M 37 3) (mu M 37 3 (nI x)) := by
  refine ctrI_of (by decide +kernel) (Nat.le_of_ble_eq_true rfl) ?_
  intro pP eE RR sS mI aG bB mE cD C
  refine k_lo (lo' := [(0, .ref (ga g 90)), (1, .int (nI x))]) rfl ?_
  refine k_iload_n C 1 1 rfl rfl dX9_patience_0 rfl ?_
  refine k_iconst C 2 (v := 1) (by decide) dX9_patience_1 rfl ?_
  refine k_icmp_lt C 11 5 dX9_patience_2 (by decide) rfl (fun c2 => ?_) (fun d2 => ?_)
  · skip
    have c2 := (nI_ltI (by omega) (by omega)).mp (show nI x < nI 1 from c2)
    exact absurd c2 (by omega)
  · skip
    have d2 := mt (nI_ltI (by omega) (by omega)).mpr (show ¬ (nI x < nI 1) from d2)
    refine k_iload_n C 6 1 rfl rfl dX9_patience_5 rfl ?_
    refine k_bipush C 8 (v := 20) (by decide) dX9_patience_6 rfl ?_
    refine k_icmp_le C 18 11 dX9_patience_8 (by decide) rfl (fun c8 => ?_) (fun d8 => ?_)
    · skip
      have c8 := (nI_leI (by omega) (by omega)).mp (show nI x ≤ nI 20 from c8)
      refine k_aload_n C 19 0 rfl rfl dX9_patience_18 rfl ?_
      refine k_get C 22 flX9_12 90 (by decide) (v := .ref (ga g 43)) (ce_90 g _) rfl dX9_patience_19 rfl ?_
      refine k_get C 25 flX9_92 43 (by decide) (v := .ref (ga g 37)) (ce_wld g _ (show 0 < 2 by decide)) rfl dX9_patience_22 rfl ?_
      refine k_get C 28 flX9_168 37 (by decide) (v := .int ((M) 37 3)) (ce_fld g _ (show 0 < 3 by decide)) rfl dX9_patience_25 rfl ?_
      refine k_istore_n C 29 [(2, .int (M 37 3)), (0, .ref (ga g 90)), (1, .int (nI x))] rfl (by decide) rfl dX9_patience_28 rfl ?_
      refine k_aload_n C 30 1 rfl rfl dX9_patience_29 rfl ?_
      refine k_get C 33 flX9_12 90 (by decide) (v := .ref (ga g 43)) (ce_90 g _) rfl dX9_patience_30 rfl ?_
      refine k_get C 36 flX9_92 43 (by decide) (v := .ref (ga g 37)) (ce_wld g _ (show 0 < 2 by decide)) rfl dX9_patience_33 rfl ?_
      refine k_iload_n C 37 2 rfl rfl dX9_patience_36 rfl ?_
      refine k_put C 40 flX9_168 plX1 37 (by decide) (ce_fld g _ (show 0 < 3 by decide)) (ce_fld g _ (show 0 < 3 by decide)) (Nat.le_of_ble_eq_true rfl) rfl rfl rfl dX9_patience_37 rfl ?_
      refine k_iload_n C 41 0 rfl rfl dX9_patience_40 rfl ?_
      refine k_ret C rfl dX9_patience_41 ?_
      exact ⟨rfl, rfl⟩
    · skip
      have d8 := mt (nI_leI (by omega) (by omega)).mpr (show ¬ (nI x ≤ nI 20) from d8)
      exact absurd d8 (by omega)
set_option maxHeartbeats 4000000 in
set_option maxRecDepth 20000 in
theorem qX9_untell_f (l : Launch) (g : GT) (M : Mem) (u : Int32) (hf : (decide (0 ≤ u) && decide (u < 2)) = false) : CtrE l g yX9_untell cX9_untell 3 (some .int) 2 [.ref (ga g 90), .int u] M (-1000000001) (mu M 89 1 (M 89 1 + 1)) := by
  refine ctrI_of (by decide +kernel) (Nat.le_of_ble_eq_true rfl) ?_
  intro pP eE RR sS mI aG bB mE cD C
  refine k_lo (lo' := [(0, .ref (ga g 90)), (1, .int u)]) rfl ?_
  refine k_iload_n C 1 1 rfl rfl dX9_untell_0 rfl ?_
  refine k_callSE C 4 (As := [.int u]) (st := []) mwX9_178 skX9_isUse (qX9_isUse l g M u) mlX9_isUse (by decide) (by decide) rfl rfl (Nat.le_of_ble_eq_true rfl) dX9_untell_1 rfl ?_
  refine k_if_neB C 14 7 dX9_untell_4 (by decide) rfl (fun c4 => ?_) (fun d4 => ?_)
  · skip
    exact (bz hf (by simp [pKm, pLine, c4])).elim
  · skip
    refine k_aload_n C 8 0 rfl rfl dX9_untell_7 rfl ?_
    refine k_ldc C 10 cwX9_87 dX9_untell_8 rfl ?_
    refine k_callVE C 13 (As := [.int (-1000000001)]) (st := []) 90 (by decide) (ce_90 g _) rfl rfl mwX9_88 vlX9_refuse (qX9_refuse l g M (-1000000001) (k := 1) (by decide) (by decide) (by decide)) mlX9_refuse (by decide) (by decide) rfl rfl (Nat.le_of_ble_eq_true rfl) dX9_untell_10 rfl ?_
    refine k_ret C rfl dX9_untell_13 ?_
    exact ⟨rfl, rfl⟩
set_option maxHeartbeats 4000000 in
set_option maxRecDepth 20000 in
theorem qX9_law_f (l : Launch) (g : GT) (M : Mem) (u a b c : Int32) (hf : (decide (0 ≤ u) && decide (u < 2)) = false) : CtrE l g yX9_law cX9_law 5 (some .int) 2 [.ref (ga g 90), .int u, .int a, .int b, .int c] M (-1000000001) (mu M 89 1 (M 89 1 + 1)) := by
  refine ctrI_of (by decide +kernel) (Nat.le_of_ble_eq_true rfl) ?_
  intro pP eE RR sS mI aG bB mE cD C
  refine k_lo (lo' := [(0, .ref (ga g 90)), (1, .int u), (2, .int a), (3, .int b), (4, .int c)]) rfl ?_
  refine k_iload_n C 1 1 rfl rfl dX9_law_0 rfl ?_
  refine k_callSE C 4 (As := [.int u]) (st := []) mwX9_178 skX9_isUse (qX9_isUse l g M u) mlX9_isUse (by decide) (by decide) rfl rfl (Nat.le_of_ble_eq_true rfl) dX9_law_1 rfl ?_
  refine k_if_neB C 14 7 dX9_law_4 (by decide) rfl (fun c4 => ?_) (fun d4 => ?_)
  · skip
    exact (bz hf (by simp [pKm, pLine, c4])).elim
  · skip
    refine k_aload_n C 8 0 rfl rfl dX9_law_7 rfl ?_
    refine k_ldc C 10 cwX9_87 dX9_law_8 rfl ?_
    refine k_callVE C 13 (As := [.int (-1000000001)]) (st := []) 90 (by decide) (ce_90 g _) rfl rfl mwX9_88 vlX9_refuse (qX9_refuse l g M (-1000000001) (k := 1) (by decide) (by decide) (by decide)) mlX9_refuse (by decide) (by decide) rfl rfl (Nat.le_of_ble_eq_true rfl) dX9_law_10 rfl ?_
    refine k_ret C rfl dX9_law_13 ?_
    exact ⟨rfl, rfl⟩
set_option maxHeartbeats 4000000 in
set_option maxRecDepth 20000 in
theorem qX9_years_full (l : Launch) (g : GT) (M : Mem) {n : Nat} (hn : M 37 1 = nI n) (h12 : n ≤ 12) {y : Nat} (h1 : 1 ≤ y) (h2 : y ≤ 60) {z : Nat} (hz : M 37 2 = nI z) (h9 : z ≤ 9999) (hzy : 9999 < z + y) : CtrE l g yX9_years cX9_years 2 (some .int) 1 [.ref (ga g 90), .int (nI y)] M (-1000000003) (mu M 89 3 (M 89 3 + 1)) := by
  refine ctrI_of (by decide +kernel) (Nat.le_of_ble_eq_true rfl) ?_
  intro pP eE RR sS mI aG bB mE cD C
  refine k_lo (lo' := [(0, .ref (ga g 90)), (1, .int (nI y))]) rfl ?_
  refine k_iload_n C 1 1 rfl rfl dX9_years_0 rfl ?_
  refine k_iconst C 2 (v := 1) (by decide) dX9_years_1 rfl ?_
  refine k_icmp_lt C 11 5 dX9_years_2 (by decide) rfl (fun c2 => ?_) (fun d2 => ?_)
  · skip
    have c2 := (nI_ltI (by omega) (by omega)).mp (show nI y < nI 1 from c2)
    exact absurd c2 (by omega)
  · skip
    have d2 := mt (nI_ltI (by omega) (by omega)).mpr (show ¬ (nI y < nI 1) from d2)
    refine k_iload_n C 6 1 rfl rfl dX9_years_5 rfl ?_
    refine k_bipush C 8 (v := 60) (by decide) dX9_years_6 rfl ?_
    refine k_icmp_le C 18 11 dX9_years_8 (by decide) rfl (fun c8 => ?_) (fun d8 => ?_)
    · skip
      have c8 := (nI_leI (by omega) (by omega)).mp (show nI y ≤ nI 60 from c8)
      refine k_aload_n C 19 0 rfl rfl dX9_years_18 rfl ?_
      refine k_get C 22 flX9_12 90 (by decide) (v := .ref (ga g 43)) (ce_90 g _) rfl dX9_years_19 rfl ?_
      refine k_get C 25 flX9_92 43 (by decide) (v := .ref (ga g 37)) (ce_wld g _ (show 0 < 2 by decide)) rfl dX9_years_22 rfl ?_
      refine k_get C 28 flX9_213 37 (by decide) (v := .int ((M) 37 2)) (ce_fld g _ (show 0 < 3 by decide)) rfl dX9_years_25 rfl ?_
      refine k_teq (y := nI z) hz ?_
      refine k_iload_n C 29 1 rfl rfl dX9_years_28 rfl ?_
      refine k_iadd C 30 dX9_years_29 rfl ?_
      refine k_teq (nI_add z y) ?_
      refine k_sipush C 33 (v := 9999) (by decide) dX9_years_30 rfl ?_
      refine k_icmp_le C 43 36 dX9_years_33 (by decide) rfl (fun c33 => ?_) (fun d33 => ?_)
      · skip
        have c33 := (nI_leI (by omega) (by omega)).mp (show nI (z + y) ≤ nI 9999 from c33)
        exact absurd c33 (by omega)
      · skip
        have d33 := mt (nI_leI (by omega) (by omega)).mpr (show ¬ (nI (z + y) ≤ nI 9999) from d33)
        refine k_aload_n C 37 0 rfl rfl dX9_years_36 rfl ?_
        refine k_ldc C 39 cwX9_216 dX9_years_37 rfl ?_
        refine k_callVE C 42 (As := [.int (-1000000003)]) (st := []) 90 (by decide) (ce_90 g _) rfl rfl mwX9_88 vlX9_refuse (qX9_refuse l g M (-1000000003) (k := 3) (by decide) (by decide) (by decide)) mlX9_refuse (by decide) (by decide) rfl rfl (Nat.le_of_ble_eq_true rfl) dX9_years_39 rfl ?_
        refine k_ret C rfl dX9_years_42 ?_
        exact ⟨rfl, rfl⟩
    · skip
      have d8 := mt (nI_leI (by omega) (by omega)).mpr (show ¬ (nI y ≤ nI 60) from d8)
      exact absurd d8 (by omega)
set_option maxHeartbeats 4000000 in
set_option maxRecDepth 20000 in
theorem qX9_loose_full (l : Launch) (g : GT) (M : Mem) {n : Nat} (hn : M 37 1 = nI n) (h12 : n ≤ 12) {y : Nat} (h1 : 1 ≤ y) (h2 : y ≤ 20) {z : Nat} (hz : M 37 2 = nI z) (h9 : z ≤ 9999) (hzy : 9999 < z + y) : CtrE l g yX9_loose cX9_loose 3 (some .int) 1 [.ref (ga g 90), .int (nI y)] M (-1000000003) (mu M 89 3 (M 89 3 + 1)) := by
  refine ctrI_of (by decide +kernel) (Nat.le_of_ble_eq_true rfl) ?_
  intro pP eE RR sS mI aG bB mE cD C
  refine k_lo (lo' := [(0, .ref (ga g 90)), (1, .int (nI y))]) rfl ?_
  refine k_iload_n C 1 1 rfl rfl dX9_loose_0 rfl ?_
  refine k_iconst C 2 (v := 1) (by decide) dX9_loose_1 rfl ?_
  refine k_icmp_lt C 11 5 dX9_loose_2 (by decide) rfl (fun c2 => ?_) (fun d2 => ?_)
  · skip
    have c2 := (nI_ltI (by omega) (by omega)).mp (show nI y < nI 1 from c2)
    exact absurd c2 (by omega)
  · skip
    have d2 := mt (nI_ltI (by omega) (by omega)).mpr (show ¬ (nI y < nI 1) from d2)
    refine k_iload_n C 6 1 rfl rfl dX9_loose_5 rfl ?_
    refine k_bipush C 8 (v := 20) (by decide) dX9_loose_6 rfl ?_
    refine k_icmp_le C 18 11 dX9_loose_8 (by decide) rfl (fun c8 => ?_) (fun d8 => ?_)
    · skip
      have c8 := (nI_leI (by omega) (by omega)).mp (show nI y ≤ nI 20 from c8)
      refine k_aload_n C 19 0 rfl rfl dX9_loose_18 rfl ?_
      refine k_get C 22 flX9_12 90 (by decide) (v := .ref (ga g 43)) (ce_90 g _) rfl dX9_loose_19 rfl ?_
      refine k_get C 25 flX9_92 43 (by decide) (v := .ref (ga g 37)) (ce_wld g _ (show 0 < 2 by decide)) rfl dX9_loose_22 rfl ?_
      refine k_get C 28 flX9_213 37 (by decide) (v := .int ((M) 37 2)) (ce_fld g _ (show 0 < 3 by decide)) rfl dX9_loose_25 rfl ?_
      refine k_teq (y := nI z) hz ?_
      refine k_iload_n C 29 1 rfl rfl dX9_loose_28 rfl ?_
      refine k_iadd C 30 dX9_loose_29 rfl ?_
      refine k_teq (nI_add z y) ?_
      refine k_sipush C 33 (v := 9999) (by decide) dX9_loose_30 rfl ?_
      refine k_icmp_le C 43 36 dX9_loose_33 (by decide) rfl (fun c33 => ?_) (fun d33 => ?_)
      · skip
        have c33 := (nI_leI (by omega) (by omega)).mp (show nI (z + y) ≤ nI 9999 from c33)
        exact absurd c33 (by omega)
      · skip
        have d33 := mt (nI_leI (by omega) (by omega)).mpr (show ¬ (nI (z + y) ≤ nI 9999) from d33)
        refine k_aload_n C 37 0 rfl rfl dX9_loose_36 rfl ?_
        refine k_ldc C 39 cwX9_216 dX9_loose_37 rfl ?_
        refine k_callVE C 42 (As := [.int (-1000000003)]) (st := []) 90 (by decide) (ce_90 g _) rfl rfl mwX9_88 vlX9_refuse (qX9_refuse l g M (-1000000003) (k := 3) (by decide) (by decide) (by decide)) mlX9_refuse (by decide) (by decide) rfl rfl (Nat.le_of_ble_eq_true rfl) dX9_loose_39 rfl ?_
        refine k_ret C rfl dX9_loose_42 ?_
        exact ⟨rfl, rfl⟩
    · skip
      have d8 := mt (nI_leI (by omega) (by omega)).mpr (show ¬ (nI y ≤ nI 20) from d8)
      exact absurd d8 (by omega)
set_option maxHeartbeats 4000000 in
set_option maxRecDepth 20000 in
theorem qX9_years_t (l : Launch) (g : GT) (M : Mem) {n : Nat} (hn : M 37 1 = nI n) (h12 : n ≤ 12) {y : Nat} (h1 : 1 ≤ y) (h2 : y ≤ 60) {z : Nat} (hz : M 37 2 = nI z) (h9 : z ≤ 9999) (hzy : z + y ≤ 9999) : CtrE l g yX9_years cX9_years 2 (some .int) 6 [.ref (ga g 90), .int (nI y)] M (nI (popc (pSet (fF (pYMs M 0 n (M 37 3) y) 0) n))) (pYMs M 0 n (M 37 3) y) := by
  refine ctrI_of (by decide +kernel) (Nat.le_of_ble_eq_true rfl) ?_
  intro pP eE RR sS mI aG bB mE cD C
  refine k_lo (lo' := [(0, .ref (ga g 90)), (1, .int (nI y))]) rfl ?_
  refine k_iload_n C 1 1 rfl rfl dX9_years_0 rfl ?_
  refine k_iconst C 2 (v := 1) (by decide) dX9_years_1 rfl ?_
  refine k_icmp_lt C 11 5 dX9_years_2 (by decide) rfl (fun c2 => ?_) (fun d2 => ?_)
  · skip
    have c2 := (nI_ltI (by omega) (by omega)).mp (show nI y < nI 1 from c2)
    exact absurd c2 (by omega)
  · skip
    have d2 := mt (nI_ltI (by omega) (by omega)).mpr (show ¬ (nI y < nI 1) from d2)
    refine k_iload_n C 6 1 rfl rfl dX9_years_5 rfl ?_
    refine k_bipush C 8 (v := 60) (by decide) dX9_years_6 rfl ?_
    refine k_icmp_le C 18 11 dX9_years_8 (by decide) rfl (fun c8 => ?_) (fun d8 => ?_)
    · skip
      have c8 := (nI_leI (by omega) (by omega)).mp (show nI y ≤ nI 60 from c8)
      refine k_aload_n C 19 0 rfl rfl dX9_years_18 rfl ?_
      refine k_get C 22 flX9_12 90 (by decide) (v := .ref (ga g 43)) (ce_90 g _) rfl dX9_years_19 rfl ?_
      refine k_get C 25 flX9_92 43 (by decide) (v := .ref (ga g 37)) (ce_wld g _ (show 0 < 2 by decide)) rfl dX9_years_22 rfl ?_
      refine k_get C 28 flX9_213 37 (by decide) (v := .int ((M) 37 2)) (ce_fld g _ (show 0 < 3 by decide)) rfl dX9_years_25 rfl ?_
      refine k_teq (y := nI z) hz ?_
      refine k_iload_n C 29 1 rfl rfl dX9_years_28 rfl ?_
      refine k_iadd C 30 dX9_years_29 rfl ?_
      refine k_teq (nI_add z y) ?_
      refine k_sipush C 33 (v := 9999) (by decide) dX9_years_30 rfl ?_
      refine k_icmp_le C 43 36 dX9_years_33 (by decide) rfl (fun c33 => ?_) (fun d33 => ?_)
      · skip
        have c33 := (nI_leI (by omega) (by omega)).mp (show nI (z + y) ≤ nI 9999 from c33)
        refine k_aload_n C 44 0 rfl rfl dX9_years_43 rfl ?_
        refine k_get C 47 flX9_12 90 (by decide) (v := .ref (ga g 43)) (ce_90 g _) rfl dX9_years_44 rfl ?_
        refine k_get C 50 flX9_92 43 (by decide) (v := .ref (ga g 37)) (ce_wld g _ (show 0 < 2 by decide)) rfl dX9_years_47 rfl ?_
        refine k_iload_n C 51 1 rfl rfl dX9_years_50 rfl ?_
        refine k_callVU C 54 (As := [.int (nI y)]) (st := []) 37 (by decide) (ce_fld g _ (show 0 < 3 by decide)) rfl rfl mwX9_217 vlX1_passYears (qX1_passYears l g M (show 0 < 3 by decide) (n := n) hn h12 (y := y) (by omega)) mlX1_passYears (by decide) (by decide) rfl rfl (Nat.le_of_ble_eq_true rfl) dX9_years_51 rfl ?_
        refine k_aload_n C 55 0 rfl rfl dX9_years_54 rfl ?_
        refine k_get C 58 flX9_12 90 (by decide) (v := .ref (ga g 43)) (ce_90 g _) rfl dX9_years_55 rfl ?_
        refine k_get C 61 flX9_92 43 (by decide) (v := .ref (ga g 37)) (ce_wld g _ (show 0 < 2 by decide)) rfl dX9_years_58 rfl ?_
        refine k_callVE C 64 (As := []) (st := []) 37 (by decide) (ce_fld g _ (show 0 < 3 by decide)) rfl rfl mwX9_220 vlX1_seenCount (qX1_seenCount l g (pYMs M 0 n (M 37 3) y) (show 0 < 3 by decide) ((pYMs_at (fi := 0) (by decide) _ _ _ 1 (by decide) _).trans hn) h12) mlX1_seenCount (by decide) (by decide) rfl rfl (Nat.le_of_ble_eq_true rfl) dX9_years_61 rfl ?_
        refine k_ret C rfl dX9_years_64 ?_
        exact ⟨rfl, rfl⟩
      · skip
        have d33 := mt (nI_leI (by omega) (by omega)).mpr (show ¬ (nI (z + y) ≤ nI 9999) from d33)
        exact absurd d33 (by omega)
    · skip
      have d8 := mt (nI_leI (by omega) (by omega)).mpr (show ¬ (nI y ≤ nI 60) from d8)
      exact absurd d8 (by omega)
set_option maxHeartbeats 4000000 in
set_option maxRecDepth 20000 in
theorem qX9_seed (l : Launch) (g : GT) (M : Mem) (z : Int32) : CtrE l g yX9_seed cX9_seed 3 (some .int) 1 [.ref (ga g 90), .int z] M (M 37 4) (mu M 37 4 z) := by
  refine ctrI_of (by decide +kernel) (Nat.le_of_ble_eq_true rfl) ?_
  intro pP eE RR sS mI aG bB mE cD C
  refine k_lo (lo' := [(0, .ref (ga g 90)), (1, .int z)]) rfl ?_
  refine k_aload_n C 1 0 rfl rfl dX9_seed_0 rfl ?_
  refine k_get C 4 flX9_12 90 (by decide) (v := .ref (ga g 43)) (ce_90 g _) rfl dX9_seed_1 rfl ?_
  refine k_get C 7 flX9_92 43 (by decide) (v := .ref (ga g 37)) (ce_wld g _ (show 0 < 2 by decide)) rfl dX9_seed_4 rfl ?_
  refine k_get C 10 flX9_226 37 (by decide) (v := .int ((M) 37 4)) (ce_fld g _ (show 0 < 3 by decide)) rfl dX9_seed_7 rfl ?_
  refine k_istore_n C 11 [(2, .int (M 37 4)), (0, .ref (ga g 90)), (1, .int z)] rfl (by decide) rfl dX9_seed_10 rfl ?_
  refine k_aload_n C 12 1 rfl rfl dX9_seed_11 rfl ?_
  refine k_get C 15 flX9_12 90 (by decide) (v := .ref (ga g 43)) (ce_90 g _) rfl dX9_seed_12 rfl ?_
  refine k_get C 18 flX9_92 43 (by decide) (v := .ref (ga g 37)) (ce_wld g _ (show 0 < 2 by decide)) rfl dX9_seed_15 rfl ?_
  refine k_iload_n C 19 2 rfl rfl dX9_seed_18 rfl ?_
  refine k_put C 22 flX9_226 plX1 37 (by decide) (ce_fld g _ (show 0 < 3 by decide)) (ce_fld g _ (show 0 < 3 by decide)) (Nat.le_of_ble_eq_true rfl) rfl rfl rfl dX9_seed_19 rfl ?_
  refine k_iload_n C 23 0 rfl rfl dX9_seed_22 rfl ?_
  refine k_ret C rfl dX9_seed_23 ?_
  exact ⟨rfl, rfl⟩
