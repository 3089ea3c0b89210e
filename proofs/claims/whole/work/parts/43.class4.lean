-- the class: then, loose, the sense of furrowIs
def pLs (M : Mem) (n : Nat) : Nat → Mem × Nat
  | 0 => (M, n)
  | k + 1 => (pLoose (pLs M n k).1 0 (pLs M n k).2, if (pLs M n k).2 < 12 then (pLs M n k).2 + 1 else (pLs M n k).2)
theorem pLoose_1 {N : Mem} {m : Nat} (h : N 37 1 = nI m) : pLoose N 0 m 37 1 = nI (if m < 12 then m + 1 else m) := by
  unfold pLoose
  by_cases c : m < 12
  · rw [if_pos c, if_pos c]
    exact (pYM_at (fi := 0) (by decide) _ _ _ 1 (by decide)).trans (by simp only [pDraws, pAdd]; exact mu_s _ _ _ _)
  · rw [if_neg c, if_neg c]
    exact (pYM_at (fi := 0) (by decide) _ _ _ 1 (by decide)).trans h
theorem pLs_ok {M : Mem} {n : Nat} (hn : M 37 1 = nI n) (h12 : n ≤ 12) : ∀ k, (pLs M n k).1 37 1 = nI (pLs M n k).2 ∧ (pLs M n k).2 ≤ 12
  | 0 => ⟨hn, h12⟩
  | k + 1 => by
    have h := pLs_ok hn h12 k
    refine ⟨pLoose_1 h.1, ?_⟩
    show (if (pLs M n k).2 < 12 then (pLs M n k).2 + 1 else (pLs M n k).2) ≤ 12
    split <;> omega

set_option maxHeartbeats 4000000 in
set_option maxRecDepth 20000 in
theorem qX9_furrowIs_s (l : Launch) (g : GT) (M : Mem) {n : Nat} (hn : M 37 1 = nI n) (h12 : n ≤ 12) {f : Nat} (hf : f < n) {n1 : Nat} (hL : lawOk M 1 n1) : CtrI l g yX9_furrowIs cX9_furrowIs 4 (some .int) 5 [.ref (ga g 90), .int (nI f), .int 8] M (fun r M1 => r = pGive 1 n1 (M 53) (M f 2) (M f 3) (pDepth (M f)) ∧ Sc lawS M M1) := by
  refine ctrI_of (by decide +kernel) (Nat.le_of_ble_eq_true rfl) ?_
  intro pP eE RR sS mI aG bB mE cD C
  refine k_lo (lo' := [(0, .ref (ga g 90)), (1, .int (nI f)), (2, .int 8)]) rfl ?_
  refine k_aload_n C 1 0 rfl rfl dX9_furrowIs_0 rfl ?_
  refine k_iload_n C 2 1 rfl rfl dX9_furrowIs_1 rfl ?_
  refine k_callVE C 5 (As := [.int (nI f)]) (st := []) 90 (by decide) (ce_90 g _) rfl rfl mwX9_104 vlX9_isFurrow (qX9_isFurrow l g M (n := n) hn h12 (nI f)) mlX9_isFurrow (by decide) (by decide) rfl rfl (Nat.le_of_ble_eq_true rfl) dX9_furrowIs_2 rfl ?_
  refine k_if_neB C 15 8 dX9_furrowIs_5 (by decide) rfl (fun c5 => ?_) (fun d5 => ?_)
  · skip
    refine k_aload_n C 16 0 rfl rfl dX9_furrowIs_15 rfl ?_
    refine k_get C 19 flX9_12 90 (by decide) (v := .ref (ga g 43)) (ce_90 g _) rfl dX9_furrowIs_16 rfl ?_
    refine k_get C 22 flX9_92 43 (by decide) (v := .ref (ga g 37)) (ce_wld g _ (show 0 < 2 by decide)) rfl dX9_furrowIs_19 rfl ?_
    refine k_get C 25 flX9_107 37 (by decide) (v := .ref (ga g 40)) (ce_fld g _ (show 0 < 3 by decide)) rfl dX9_furrowIs_22 rfl ?_
    refine k_iload_n C 26 1 rfl rfl dX9_furrowIs_25 rfl ?_
    refine k_aald C 27 40 f 3 (by decide) (ce_fa g _ (show 0 < 3 by decide)) rfl (by decide) rfl (by omega) dX9_furrowIs_26 rfl ?_
    refine k_st (st' := [.ref (ga g f)]) (by simp only [Nat.mul_zero, Nat.zero_add]) ?_
    refine k_astore_n C 28 [(3, .ref (ga g f)), (0, .ref (ga g 90)), (1, .int (nI f)), (2, .int 8)] rfl (by decide) rfl dX9_furrowIs_27 rfl ?_
    refine k_iload_n C 29 3 rfl rfl dX9_furrowIs_28 rfl ?_
    refine k_tin C 127 (by decide) (by decide) (by rfl) dX9_furrowIs_29 (by decide) ?_
    refine k_aload_n C 128 1 rfl rfl dX9_furrowIs_127 rfl ?_
    refine k_get C 131 flX9_12 90 (by decide) (v := .ref (ga g 43)) (ce_90 g _) rfl dX9_furrowIs_128 rfl ?_
    refine k_aload_n C 132 0 rfl rfl dX9_furrowIs_131 rfl ?_
    refine k_callVI C 135 (As := [.ref (ga g f)]) (st := []) 43 (by decide) (ce_wld g _ (show 0 < 2 by decide)) rfl rfl mwX9_141 vlX8_senseOf (qX8_senseOf l g M (n := n1) hL (k := f) (by omega)) mlX8_senseOf (by decide) (by decide) rfl rfl (Nat.le_of_ble_eq_true rfl) dX9_furrowIs_132 rfl (fun r1 M1 h1 => ?_)
    obtain ⟨hr1, hs1⟩ := h1
    refine k_ret C rfl dX9_furrowIs_135 ?_
    exact ⟨hr1, hs1⟩
  · skip
    exact (bz d5 (pIsF_lt h12 hf)).elim
set_option maxHeartbeats 4000000 in
set_option maxRecDepth 20000 in
theorem qX9_furrowIs_f (l : Launch) (g : GT) (M : Mem) {n : Nat} (hn : M 37 1 = nI n) (h12 : n ≤ 12) (f w : Int32) (hf : (pIsF n f && (decide (0 ≤ w) && decide (w ≤ 9))) = false) : CtrE l g yX9_furrowIs cX9_furrowIs 4 (some .int) 1 [.ref (ga g 90), .int f, .int w] M (-1000000001) (mu M 89 1 (M 89 1 + 1)) := by
  refine ctrI_of (by decide +kernel) (Nat.le_of_ble_eq_true rfl) ?_
  intro pP eE RR sS mI aG bB mE cD C
  refine k_lo (lo' := [(0, .ref (ga g 90)), (1, .int f), (2, .int w)]) rfl ?_
  refine k_aload_n C 1 0 rfl rfl dX9_furrowIs_0 rfl ?_
  refine k_iload_n C 2 1 rfl rfl dX9_furrowIs_1 rfl ?_
  refine k_callVE C 5 (As := [.int f]) (st := []) 90 (by decide) (ce_90 g _) rfl rfl mwX9_104 vlX9_isFurrow (qX9_isFurrow l g M (n := n) hn h12 f) mlX9_isFurrow (by decide) (by decide) rfl rfl (Nat.le_of_ble_eq_true rfl) dX9_furrowIs_2 rfl ?_
  refine k_if_neB C 15 8 dX9_furrowIs_5 (by decide) rfl (fun c5 => ?_) (fun d5 => ?_)
  · skip
    obtain ⟨j, hj, rfl⟩ := pIsF_in h12 c5
    refine k_aload_n C 16 0 rfl rfl dX9_furrowIs_15 rfl ?_
    refine k_get C 19 flX9_12 90 (by decide) (v := .ref (ga g 43)) (ce_90 g _) rfl dX9_furrowIs_16 rfl ?_
    refine k_get C 22 flX9_92 43 (by decide) (v := .ref (ga g 37)) (ce_wld g _ (show 0 < 2 by decide)) rfl dX9_furrowIs_19 rfl ?_
    refine k_get C 25 flX9_107 37 (by decide) (v := .ref (ga g 40)) (ce_fld g _ (show 0 < 3 by decide)) rfl dX9_furrowIs_22 rfl ?_
    refine k_iload_n C 26 1 rfl rfl dX9_furrowIs_25 rfl ?_
    refine k_aald C 27 40 j 3 (by decide) (ce_fa g _ (show 0 < 3 by decide)) rfl (by decide) rfl (by omega) dX9_furrowIs_26 rfl ?_
    refine k_st (st' := [.ref (ga g j)]) (by simp only [Nat.mul_zero, Nat.zero_add]) ?_
    refine k_astore_n C 28 [(3, .ref (ga g j)), (0, .ref (ga g 90)), (1, .int (nI j)), (2, .int w)] rfl (by decide) rfl dX9_furrowIs_27 rfl ?_
    refine k_iload_n C 29 3 rfl rfl dX9_furrowIs_28 rfl ?_
    by_cases w29_0 : w = 0
    · skip
      refine k_tin C 84 (by rw [w29_0]; decide) (by rw [w29_0]; decide) (by rw [w29_0]; rfl) dX9_furrowIs_29 (by decide) ?_
      exact (bz hf (by rw [c5, w29_0, Bool.true_and]; decide)).elim
    · skip
      by_cases w29_1 : w = 1
      · skip
        refine k_tin C 89 (by rw [w29_1]; decide) (by rw [w29_1]; decide) (by rw [w29_1]; rfl) dX9_furrowIs_29 (by decide) ?_
        exact (bz hf (by rw [c5, w29_1, Bool.true_and]; decide)).elim
      · skip
        by_cases w29_2 : w = 2
        · skip
          refine k_tin C 94 (by rw [w29_2]; decide) (by rw [w29_2]; decide) (by rw [w29_2]; rfl) dX9_furrowIs_29 (by decide) ?_
          exact (bz hf (by rw [c5, w29_2, Bool.true_and]; decide)).elim
        · skip
          by_cases w29_3 : w = 3
          · skip
            refine k_tin C 99 (by rw [w29_3]; decide) (by rw [w29_3]; decide) (by rw [w29_3]; rfl) dX9_furrowIs_29 (by decide) ?_
            exact (bz hf (by rw [c5, w29_3, Bool.true_and]; decide)).elim
          · skip
            by_cases w29_4 : w = 4
            · skip
              refine k_tin C 104 (by rw [w29_4]; decide) (by rw [w29_4]; decide) (by rw [w29_4]; rfl) dX9_furrowIs_29 (by decide) ?_
              exact (bz hf (by rw [c5, w29_4, Bool.true_and]; decide)).elim
            · skip
              by_cases w29_5 : w = 5
              · skip
                refine k_tin C 109 (by rw [w29_5]; decide) (by rw [w29_5]; decide) (by rw [w29_5]; rfl) dX9_furrowIs_29 (by decide) ?_
                exact (bz hf (by rw [c5, w29_5, Bool.true_and]; decide)).elim
              · skip
                by_cases w29_6 : w = 6
                · skip
                  refine k_tin C 114 (by rw [w29_6]; decide) (by rw [w29_6]; decide) (by rw [w29_6]; rfl) dX9_furrowIs_29 (by decide) ?_
                  exact (bz hf (by rw [c5, w29_6, Bool.true_and]; decide)).elim
                · skip
                  by_cases w29_7 : w = 7
                  · skip
                    refine k_tin C 122 (by rw [w29_7]; decide) (by rw [w29_7]; decide) (by rw [w29_7]; rfl) dX9_furrowIs_29 (by decide) ?_
                    exact (bz hf (by rw [c5, w29_7, Bool.true_and]; decide)).elim
                  · skip
                    by_cases w29_8 : w = 8
                    · skip
                      refine k_tin C 127 (by rw [w29_8]; decide) (by rw [w29_8]; decide) (by rw [w29_8]; rfl) dX9_furrowIs_29 (by decide) ?_
                      exact (bz hf (by rw [c5, w29_8, Bool.true_and]; decide)).elim
                    · skip
                      by_cases w29_9 : w = 9
                      · skip
                        refine k_tin C 136 (by rw [w29_9]; decide) (by rw [w29_9]; decide) (by rw [w29_9]; rfl) dX9_furrowIs_29 (by decide) ?_
                        exact (bz hf (by rw [c5, w29_9, Bool.true_and]; decide)).elim
                      · skip
                        refine k_tout C 151 (by have z0 := i_ne w29_0 (k := 0) rfl; have z1 := i_ne w29_1 (k := 1) rfl; have z2 := i_ne w29_2 (k := 2) rfl; have z3 := i_ne w29_3 (k := 3) rfl; have z4 := i_ne w29_4 (k := 4) rfl; have z5 := i_ne w29_5 (k := 5) rfl; have z6 := i_ne w29_6 (k := 6) rfl; have z7 := i_ne w29_7 (k := 7) rfl; have z8 := i_ne w29_8 (k := 8) rfl; have z9 := i_ne w29_9 (k := 9) rfl; omega) dX9_furrowIs_29 (by decide) ?_
                        refine k_aload_n C 152 1 rfl rfl dX9_furrowIs_151 rfl ?_
                        refine k_ldc C 154 cwX9_87 dX9_furrowIs_152 rfl ?_
                        refine k_callVE C 157 (As := [.int (-1000000001)]) (st := []) 90 (by decide) (ce_90 g _) rfl rfl mwX9_88 vlX9_refuse (qX9_refuse l g M (-1000000001) (k := 1) (by decide) (by decide) (by decide)) mlX9_refuse (by decide) (by decide) rfl rfl (Nat.le_of_ble_eq_true rfl) dX9_furrowIs_154 rfl ?_
                        refine k_ret C rfl dX9_furrowIs_157 ?_
                        exact ⟨rfl, rfl⟩
  · skip
    refine k_aload_n C 9 0 rfl rfl dX9_furrowIs_8 rfl ?_
    refine k_ldc C 11 cwX9_87 dX9_furrowIs_9 rfl ?_
    refine k_callVE C 14 (As := [.int (-1000000001)]) (st := []) 90 (by decide) (ce_90 g _) rfl rfl mwX9_88 vlX9_refuse (qX9_refuse l g M (-1000000001) (k := 1) (by decide) (by decide) (by decide)) mlX9_refuse (by decide) (by decide) rfl rfl (Nat.le_of_ble_eq_true rfl) dX9_furrowIs_11 rfl ?_
    refine k_ret C rfl dX9_furrowIs_14 ?_
    exact ⟨rfl, rfl⟩
set_option maxHeartbeats 4000000 in
set_option maxRecDepth 20000 in
theorem qX9_then_f (l : Launch) (g : GT) (M : Mem) (t w : Int32) (hf : ((decide (0 ≤ t) && decide (t ≤ 60)) && (decide (0 ≤ w) && decide (w ≤ 1))) = false) : CtrE l g yX9_then cX9_then 3 (some .int) 1 [.ref (ga g 90), .int t, .int w] M (-1000000001) (mu M 89 1 (M 89 1 + 1)) := by
  refine ctrI_of (by decide +kernel) (Nat.le_of_ble_eq_true rfl) ?_
  intro pP eE RR sS mI aG bB mE cD C
  refine k_lo (lo' := [(0, .ref (ga g 90)), (1, .int t), (2, .int w)]) rfl ?_
  refine k_iload_n C 1 1 rfl rfl dX9_then_0 rfl ?_
  refine k_if_lt C 19 4 dX9_then_1 (by decide) rfl (fun c1 => ?_) (fun d1 => ?_)
  · skip
    refine k_aload_n C 20 0 rfl rfl dX9_then_19 rfl ?_
    refine k_ldc C 22 cwX9_87 dX9_then_20 rfl ?_
    refine k_callVE C 25 (As := [.int (-1000000001)]) (st := []) 90 (by decide) (ce_90 g _) rfl rfl mwX9_88 vlX9_refuse (qX9_refuse l g M (-1000000001) (k := 1) (by decide) (by decide) (by decide)) mlX9_refuse (by decide) (by decide) rfl rfl (Nat.le_of_ble_eq_true rfl) dX9_then_22 rfl ?_
    refine k_ret C rfl dX9_then_25 ?_
    exact ⟨rfl, rfl⟩
  · skip
    refine k_iload_n C 5 1 rfl rfl dX9_then_4 rfl ?_
    refine k_bipush C 7 (v := 60) (by decide) dX9_then_5 rfl ?_
    refine k_icmp_gt C 19 10 dX9_then_7 (by decide) rfl (fun c7 => ?_) (fun d7 => ?_)
    · skip
      refine k_aload_n C 20 0 rfl rfl dX9_then_19 rfl ?_
      refine k_ldc C 22 cwX9_87 dX9_then_20 rfl ?_
      refine k_callVE C 25 (As := [.int (-1000000001)]) (st := []) 90 (by decide) (ce_90 g _) rfl rfl mwX9_88 vlX9_refuse (qX9_refuse l g M (-1000000001) (k := 1) (by decide) (by decide) (by decide)) mlX9_refuse (by decide) (by decide) rfl rfl (Nat.le_of_ble_eq_true rfl) dX9_then_22 rfl ?_
      refine k_ret C rfl dX9_then_25 ?_
      exact ⟨rfl, rfl⟩
    · skip
      refine k_iload_n C 11 2 rfl rfl dX9_then_10 rfl ?_
      refine k_if_lt C 19 14 dX9_then_11 (by decide) rfl (fun c11 => ?_) (fun d11 => ?_)
      · skip
        refine k_aload_n C 20 0 rfl rfl dX9_then_19 rfl ?_
        refine k_ldc C 22 cwX9_87 dX9_then_20 rfl ?_
        refine k_callVE C 25 (As := [.int (-1000000001)]) (st := []) 90 (by decide) (ce_90 g _) rfl rfl mwX9_88 vlX9_refuse (qX9_refuse l g M (-1000000001) (k := 1) (by decide) (by decide) (by decide)) mlX9_refuse (by decide) (by decide) rfl rfl (Nat.le_of_ble_eq_true rfl) dX9_then_22 rfl ?_
        refine k_ret C rfl dX9_then_25 ?_
        exact ⟨rfl, rfl⟩
      · skip
        refine k_iload_n C 15 2 rfl rfl dX9_then_14 rfl ?_
        refine k_iconst C 16 (v := 1) (by decide) dX9_then_15 rfl ?_
        refine k_icmp_le C 26 19 dX9_then_16 (by decide) rfl (fun c16 => ?_) (fun d16 => ?_)
        · skip
          exact (bz hf (by rw [decide_eq_true (Int32.not_lt.mp d1), decide_eq_true (Int32.not_lt.mp d7), decide_eq_true (Int32.not_lt.mp d11), decide_eq_true c16]; rfl)).elim
        · skip
          refine k_aload_n C 20 0 rfl rfl dX9_then_19 rfl ?_
          refine k_ldc C 22 cwX9_87 dX9_then_20 rfl ?_
          refine k_callVE C 25 (As := [.int (-1000000001)]) (st := []) 90 (by decide) (ce_90 g _) rfl rfl mwX9_88 vlX9_refuse (qX9_refuse l g M (-1000000001) (k := 1) (by decide) (by decide) (by decide)) mlX9_refuse (by decide) (by decide) rfl rfl (Nat.le_of_ble_eq_true rfl) dX9_then_22 rfl ?_
          refine k_ret C rfl dX9_then_25 ?_
          exact ⟨rfl, rfl⟩
set_option maxHeartbeats 4000000 in
set_option maxRecDepth 20000 in
theorem qX9_then_t (l : Launch) (g : GT) (M : Mem) {n : Nat} (hn : M 37 1 = nI n) (h12 : n ≤ 12) (hcov : ∀ i, i < n → M (12 * 0 + i) 6 = 0 ∨ M (12 * 0 + i) 6 = 1) {t w : Nat} (h60 : t ≤ 60) (hw : w < 2) : CtrI l g yX9_then cX9_then 3 (some .int) 6 [.ref (ga g 90), .int (nI t), .int (nI w)] M (fun r M2 => ∃ M1, cpF M M1 2 0 n ∧ M2 = pYMs M1 2 n (M1 39 3) t ∧ r = if w = 0 then nI (popc (pSet (fF M2 2) n)) else nI (pSet (fF M2 2) n)) := by
  refine ctrI_of (by decide +kernel) (Nat.le_of_ble_eq_true rfl) ?_
  intro pP eE RR sS mI aG bB mE cD C
  refine k_lo (lo' := [(0, .ref (ga g 90)), (1, .int (nI t)), (2, .int (nI w))]) rfl ?_
  refine k_iload_n C 1 1 rfl rfl dX9_then_0 rfl ?_
  refine k_if_lt C 19 4 dX9_then_1 (by decide) rfl (fun c1 => ?_) (fun d1 => ?_)
  · skip
    have c1 := (nI_ltI (by omega) (by omega)).mp (show nI t < nI 0 from c1)
    exact absurd c1 (by omega)
  · skip
    have d1 := mt (nI_ltI (by omega) (by omega)).mpr (show ¬ (nI t < nI 0) from d1)
    refine k_iload_n C 5 1 rfl rfl dX9_then_4 rfl ?_
    refine k_bipush C 7 (v := 60) (by decide) dX9_then_5 rfl ?_
    refine k_icmp_gt C 19 10 dX9_then_7 (by decide) rfl (fun c7 => ?_) (fun d7 => ?_)
    · skip
      have c7 := (nI_ltI (by omega) (by omega)).mp (show nI 60 < nI t from c7)
      exact absurd c7 (by omega)
    · skip
      have d7 := mt (nI_ltI (by omega) (by omega)).mpr (show ¬ (nI 60 < nI t) from d7)
      refine k_iload_n C 11 2 rfl rfl dX9_then_10 rfl ?_
      refine k_if_lt C 19 14 dX9_then_11 (by decide) rfl (fun c11 => ?_) (fun d11 => ?_)
      · skip
        have c11 := (nI_ltI (by omega) (by omega)).mp (show nI w < nI 0 from c11)
        exact absurd c11 (by omega)
      · skip
        have d11 := mt (nI_ltI (by omega) (by omega)).mpr (show ¬ (nI w < nI 0) from d11)
        refine k_iload_n C 15 2 rfl rfl dX9_then_14 rfl ?_
        refine k_iconst C 16 (v := 1) (by decide) dX9_then_15 rfl ?_
        refine k_icmp_le C 26 19 dX9_then_16 (by decide) rfl (fun c16 => ?_) (fun d16 => ?_)
        · skip
          have c16 := (nI_leI (by omega) (by omega)).mp (show nI w ≤ nI 1 from c16)
          refine k_aload_n C 27 0 rfl rfl dX9_then_26 rfl ?_
          refine k_get C 30 flX9_22 90 (by decide) (v := .ref (ga g 39)) (ce_90 g _) rfl dX9_then_27 rfl ?_
          refine k_aload_n C 31 0 rfl rfl dX9_then_30 rfl ?_
          refine k_get C 34 flX9_12 90 (by decide) (v := .ref (ga g 43)) (ce_90 g _) rfl dX9_then_31 rfl ?_
          refine k_get C 37 flX9_92 43 (by decide) (v := .ref (ga g 37)) (ce_wld g _ (show 0 < 2 by decide)) rfl dX9_then_34 rfl ?_
          refine k_callVV C 40 (As := [.ref (ga g 37)]) (st := []) 39 (by decide) (ce_fld g _ (show 2 < 3 by decide)) rfl rfl mwX9_238 vlX1_copyFrom (qX1_copyFrom l g M (fi := 2) (fo := 0) (by decide) (by decide) (by decide) (n := n) hn h12 hcov) mlX1_copyFrom (by decide) (by decide) rfl rfl (Nat.le_of_ble_eq_true rfl) dX9_then_37 rfl (fun M1 hF => ?_)
          refine k_aload_n C 41 0 rfl rfl dX9_then_40 rfl ?_
          refine k_get C 44 flX9_22 90 (by decide) (v := .ref (ga g 39)) (ce_90 g _) rfl dX9_then_41 rfl ?_
          refine k_iload_n C 45 1 rfl rfl dX9_then_44 rfl ?_
          refine k_callVU C 48 (As := [.int (nI t)]) (st := []) 39 (by decide) (ce_fld g _ (show 2 < 3 by decide)) rfl rfl mwX9_217 vlX1_passYears (qX1_passYears l g M1 (show 2 < 3 by decide) (n := n) ((hF.2.1 1 (by decide) (by decide)).trans hn) h12 (y := t) (by omega)) mlX1_passYears (by decide) (by decide) rfl rfl (Nat.le_of_ble_eq_true rfl) dX9_then_45 rfl ?_
          refine k_iload_n C 49 2 rfl rfl dX9_then_48 rfl ?_
          refine k_if_ne C 62 52 dX9_then_49 (by decide) rfl (fun c49 => ?_) (fun d49 => ?_)
          · skip
            have c49 := mt (nI_eq (by omega) (by omega)).mpr (show ¬ (nI w = nI 0) from c49)
            refine k_aload_n C 63 0 rfl rfl dX9_then_62 rfl ?_
            refine k_get C 66 flX9_22 90 (by decide) (v := .ref (ga g 39)) (ce_90 g _) rfl dX9_then_63 rfl ?_
            refine k_callVE C 69 (As := []) (st := []) 39 (by decide) (ce_fld g _ (show 2 < 3 by decide)) rfl rfl mwX9_241 vlX1_seenSet (qX1_seenSet l g (pYMs M1 2 n (M1 39 3) t) (show 2 < 3 by decide) ((pYMs_at (fi := 2) (by decide) _ _ _ 1 (by decide) _).trans ((hF.2.1 1 (by decide) (by decide)).trans hn)) h12) mlX1_seenSet (by decide) (by decide) rfl rfl (Nat.le_of_ble_eq_true rfl) dX9_then_66 rfl ?_
            refine k_ret C rfl dX9_then_69 ?_
            exact ⟨M1, hF, rfl, (if_neg (show ¬ w = 0 by omega)).symm⟩
          · skip
            have d49 := (nI_eq (by omega) (by omega)).mp (show nI w = nI 0 from d49)
            refine k_aload_n C 53 0 rfl rfl dX9_then_52 rfl ?_
            refine k_get C 56 flX9_22 90 (by decide) (v := .ref (ga g 39)) (ce_90 g _) rfl dX9_then_53 rfl ?_
            refine k_callVE C 59 (As := []) (st := []) 39 (by decide) (ce_fld g _ (show 2 < 3 by decide)) rfl rfl mwX9_220 vlX1_seenCount (qX1_seenCount l g (pYMs M1 2 n (M1 39 3) t) (show 2 < 3 by decide) ((pYMs_at (fi := 2) (by decide) _ _ _ 1 (by decide) _).trans ((hF.2.1 1 (by decide) (by decide)).trans hn)) h12) mlX1_seenCount (by decide) (by decide) rfl rfl (Nat.le_of_ble_eq_true rfl) dX9_then_56 rfl ?_
            refine k_goto C 69 dX9_then_59 (by decide) ?_
            refine k_ret C rfl dX9_then_69 ?_
            exact ⟨M1, hF, rfl, (if_pos (show w = 0 by omega)).symm⟩
        · skip
          have d16 := mt (nI_leI (by omega) (by omega)).mpr (show ¬ (nI w ≤ nI 1) from d16)
          exact absurd d16 (by omega)
set_option maxHeartbeats 4000000 in
set_option maxRecDepth 20000 in
theorem qX9_loose_t (l : Launch) (g : GT) (M : Mem) {n : Nat} (hn : M 37 1 = nI n) (h12 : n ≤ 12) {y : Nat} (h1 : 1 ≤ y) (h2 : y ≤ 20) {z : Nat} (hz : M 37 2 = nI z) (h9 : z ≤ 9999) (hzy : z + y ≤ 9999) : CtrE l g yX9_loose cX9_loose 3 (some .int) 6 [.ref (ga g 90), .int (nI y)] M (nI (popc (pSet (fF (pLs M n y).1 0) (pLs M n y).2))) ((pLs M n y).1) := by
  refine ctrI_of (by decide +kernel) (Nat.le_of_ble_eq_true rfl) ?_
  intro pP eE RR sS mI aG bB mE cD C
  refine k_lo (lo' := [(0, .ref (ga g 90)), (1, .int (nI y))]) rfl ?_
  refine k_iload_n C 1 1 rfl rfl dX9_loose_0 rfl ?_
  refine k_iconst C 2 (v := 1) (by decide) dX9_loose_1 rfl ?_
  refine k_icmp_lt C 11 5 dX9_loose_2 (by decide) rfl (fun c2 => ?_) (fun d2 => ?_)
  · skip
    have c2 := (nI_ltI (by omega) (by omega)).mp (show nI y < nI 1 from c2)
    exact absurd c2 (by omega)
  · skip
    have d2 := mt (nI_ltI (by omega) (by omega)).mpr (show ¬ (nI y < nI 1) from d2)
    refine k_iload_n C 6 1 rfl rfl dX9_loose_5 rfl ?_
    refine k_bipush C 8 (v := 20) (by decide) dX9_loose_6 rfl ?_
    refine k_icmp_le C 18 11 dX9_loose_8 (by decide) rfl (fun c8 => ?_) (fun d8 => ?_)
    · skip
      have c8 := (nI_leI (by omega) (by omega)).mp (show nI y ≤ nI 20 from c8)
      refine k_aload_n C 19 0 rfl rfl dX9_loose_18 rfl ?_
      refine k_get C 22 flX9_12 90 (by decide) (v := .ref (ga g 43)) (ce_90 g _) rfl dX9_loose_19 rfl ?_
      refine k_get C 25 flX9_92 43 (by decide) (v := .ref (ga g 37)) (ce_wld g _ (show 0 < 2 by decide)) rfl dX9_loose_22 rfl ?_
      refine k_get C 28 flX9_213 37 (by decide) (v := .int ((M) 37 2)) (ce_fld g _ (show 0 < 3 by decide)) rfl dX9_loose_25 rfl ?_
      refine k_teq (y := nI z) hz ?_
      refine k_iload_n C 29 1 rfl rfl dX9_loose_28 rfl ?_
      refine k_iadd C 30 dX9_loose_29 rfl ?_
      refine k_teq (nI_add z y) ?_
      refine k_sipush C 33 (v := 9999) (by decide) dX9_loose_30 rfl ?_
      refine k_icmp_le C 43 36 dX9_loose_33 (by decide) rfl (fun c33 => ?_) (fun d33 => ?_)
      · skip
        have c33 := (nI_leI (by omega) (by omega)).mp (show nI (z + y) ≤ nI 9999 from c33)
        refine k_iconst C 44 (v := 0) (by decide) dX9_loose_43 rfl ?_
        refine k_istore_n C 45 [(2, .int 0), (0, .ref (ga g 90)), (1, .int (nI y))] rfl (by decide) rfl dX9_loose_44 rfl ?_
        refine k_sub [(0, .ref (ga g 90)), (1, .int (nI y)), (2, .int 0)] [1, 2, 0] rfl ?_
        refine k_all (M' := (pLs M n 0).1) (lo' := [(0, .ref (ga g 90)), (1, .int (nI y)), (2, .int (nI 0))]) (st' := []) (by rfl) (by rfl) rfl ?_
        refine k_loop (σ := Nat) (fun (k : Nat) => (k ≤ y)) (fun (k : Nat) => y - k) (fun (k : Nat) => (pLs M n k).1) (fun (k : Nat) => [(0, .ref (ga g 90)), (1, .int (nI y)), (2, .int (nI k))]) 0 (show (0 ≤ y) from by exact Nat.zero_le _) ?_
        rintro k hI ih
        have hI : (k ≤ y) := hI
        have hk := hI
        show KW pP l eE RR sS mI aG bB mE cD g 3 _ ((pLs M n k).1) 45 [(0, .ref (ga g 90)), (1, .int (nI y)), (2, .int (nI k))] []
        refine k_iload_n C 46 2 rfl rfl dX9_loose_45 rfl ?_
        refine k_iload_n C 47 1 rfl rfl dX9_loose_46 rfl ?_
        refine k_icmp_ge C 66 50 dX9_loose_47 (by decide) rfl (fun c47 => ?_) (fun d47 => ?_)
        · skip
          have c47 := (nI_leI (by omega) (by omega)).mp (show nI y ≤ nI k from c47)
          refine k_aload_n C 67 0 rfl rfl dX9_loose_66 rfl ?_
          refine k_get C 70 flX9_12 90 (by decide) (v := .ref (ga g 43)) (ce_90 g _) rfl dX9_loose_67 rfl ?_
          refine k_get C 73 flX9_92 43 (by decide) (v := .ref (ga g 37)) (ce_wld g _ (show 0 < 2 by decide)) rfl dX9_loose_70 rfl ?_
          refine k_callVE C 76 (As := []) (st := []) 37 (by decide) (ce_fld g _ (show 0 < 3 by decide)) rfl rfl mwX9_220 vlX1_seenCount (qX1_seenCount l g (pLs M n k).1 (show 0 < 3 by decide) (n := (pLs M n k).2) (pLs_ok hn h12 k).1 (pLs_ok hn h12 k).2) mlX1_seenCount (by decide) (by decide) rfl rfl (Nat.le_of_ble_eq_true rfl) dX9_loose_73 rfl ?_
          refine k_ret C rfl dX9_loose_76 ?_
          have e : k = y := by omega
          subst e
          exact ⟨rfl, rfl⟩
        · skip
          have d47 := mt (nI_leI (by omega) (by omega)).mpr (show ¬ (nI y ≤ nI k) from d47)
          refine k_aload_n C 51 0 rfl rfl dX9_loose_50 rfl ?_
          refine k_get C 54 flX9_12 90 (by decide) (v := .ref (ga g 43)) (ce_90 g _) rfl dX9_loose_51 rfl ?_
          refine k_get C 57 flX9_92 43 (by decide) (v := .ref (ga g 37)) (ce_wld g _ (show 0 < 2 by decide)) rfl dX9_loose_54 rfl ?_
          refine k_callVU C 60 (As := []) (st := []) 37 (by decide) (ce_fld g _ (show 0 < 3 by decide)) rfl rfl mwX9_223 vlX1_passYearByDraws (qX1_passYearByDraws l g (pLs M n k).1 (show 0 < 3 by decide) (n := (pLs M n k).2) (pLs_ok hn h12 k).1 (pLs_ok hn h12 k).2) mlX1_passYearByDraws (by decide) (by decide) rfl rfl (Nat.le_of_ble_eq_true rfl) dX9_loose_57 rfl ?_
          refine k_iinc C 63 (nI (k + 1)) 2 [(2, .int (nI (k + 1))), (0, .ref (ga g 90)), (1, .int (nI y))] rfl (iinc_p k) (by decide) rfl dX9_loose_60 rfl ?_
          refine k_goto C 45 dX9_loose_63 (by decide) ?_
          refine k_sub [(0, .ref (ga g 90)), (1, .int (nI y)), (2, .int (nI (k + 1)))] [1, 2, 0] rfl ?_
          refine k_all (M' := (pLs M n (k + 1)).1) (lo' := [(0, .ref (ga g 90)), (1, .int (nI y)), (2, .int (nI (k + 1)))]) (st' := []) (by rfl) (by rfl) rfl ?_
          exact ih (k + 1) (show ((k + 1) ≤ y) from by omega) (by show y - (k + 1) < _; omega)
      · skip
        have d33 := mt (nI_leI (by omega) (by omega)).mpr (show ¬ (nI (z + y) ≤ nI 9999) from d33)
        exact absurd d33 (by omega)
    · skip
      have d8 := mt (nI_leI (by omega) (by omega)).mpr (show ¬ (nI y ≤ nI 20) from d8)
      exact absurd d8 (by omega)
