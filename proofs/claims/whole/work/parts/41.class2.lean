-- the class: laws, talk, counts, images
def cCount (M : Mem) (n w : Nat) : Int32 := if w = 0 then nI n else if w = 1 then nI (popc (pSet (fF M 0) n)) else if w = 2 then M 37 2 else if w = 3 then M 37 3 else if w = 4 then M 43 3 else if w = 5 then M 43 5 else if w = 6 then M 78 1 else M 37 4

set_option maxHeartbeats 4000000 in
set_option maxRecDepth 20000 in
theorem qX9_untell_t (l : Launch) (g : GT) (M : Mem) {u : Nat} (hu : u < 2) {n0 : Nat} (h0 : M (47 + u) 1 = nI n0) (h60 : n0 ≤ 60) : CtrE l g yX9_untell cX9_untell 3 (some .int) 2 [.ref (ga g 90), .int (nI u)] M (b2i (decide (0 < n0))) (mu M (47 + u) 1 0) := by
  refine ctrI_of (by decide +kernel) (Nat.le_of_ble_eq_true rfl) ?_
  intro pP eE RR sS mI aG bB mE cD C
  refine k_lo (lo' := [(0, .ref (ga g 90)), (1, .int (nI u))]) rfl ?_
  refine k_iload_n C 1 1 rfl rfl dX9_untell_0 rfl ?_
  refine k_callSE C 4 (As := [.int (nI u)]) (st := []) mwX9_178 skX9_isUse (qX9_isUse l g M (nI u)) mlX9_isUse (by decide) (by decide) rfl rfl (Nat.le_of_ble_eq_true rfl) dX9_untell_1 rfl ?_
  refine k_if_neB C 14 7 dX9_untell_4 (by decide) rfl (fun c4 => ?_) (fun d4 => ?_)
  · skip
    refine k_aload_n C 15 0 rfl rfl dX9_untell_14 rfl ?_
    refine k_get C 18 flX9_12 90 (by decide) (v := .ref (ga g 43)) (ce_90 g _) rfl dX9_untell_15 rfl ?_
    refine k_get C 21 flX9_188 43 (by decide) (v := .ref (ga g 45)) (ce_wld g _ (show 0 < 2 by decide)) rfl dX9_untell_18 rfl ?_
    refine k_iload_n C 22 1 rfl rfl dX9_untell_21 rfl ?_
    refine k_aald C 23 45 u 4 (by decide) (ce_la g _ (show 0 < 2 by decide)) rfl (by decide) rfl (by omega) dX9_untell_22 rfl ?_
    refine k_st (st' := [.ref (ga g (47 + u))]) (by simp only [Nat.mul_zero, Nat.zero_add]) ?_
    refine k_callVE C 26 (As := []) (st := []) (47 + u) (lt105_law (show u < 5 by omega)) (ce_law g _ (show u < 5 by omega)) rfl rfl mwX9_202 vlX3_isGiven (qX3_isGiven l g M (show u < 5 by omega) (n := n0) h0 h60) mlX3_isGiven (by decide) (by decide) rfl rfl (Nat.le_of_ble_eq_true rfl) dX9_untell_23 rfl ?_
    refine k_callSE C 29 (As := [.int (b2i (decide (0 < n0)))]) (st := []) mwX9_133 skX9_asNumber (qX9_asNumber l g M (decide (0 < n0))) mlX9_asNumber (by decide) (by decide) rfl rfl (Nat.le_of_ble_eq_true rfl) dX9_untell_26 rfl ?_
    refine k_istore_n C 30 [(2, .int (b2i (decide (0 < n0)))), (0, .ref (ga g 90)), (1, .int (nI u))] rfl (by decide) rfl dX9_untell_29 rfl ?_
    refine k_aload_n C 31 1 rfl rfl dX9_untell_30 rfl ?_
    refine k_get C 34 flX9_12 90 (by decide) (v := .ref (ga g 43)) (ce_90 g _) rfl dX9_untell_31 rfl ?_
    refine k_get C 37 flX9_188 43 (by decide) (v := .ref (ga g 45)) (ce_wld g _ (show 0 < 2 by decide)) rfl dX9_untell_34 rfl ?_
    refine k_iload_n C 38 2 rfl rfl dX9_untell_37 rfl ?_
    refine k_aald C 39 45 u 4 (by decide) (ce_la g _ (show 0 < 2 by decide)) rfl (by decide) rfl (by omega) dX9_untell_38 rfl ?_
    refine k_st (st' := [.ref (ga g (47 + u))]) (by simp only [Nat.mul_zero, Nat.zero_add]) ?_
    refine k_callVU C 42 (As := []) (st := []) (47 + u) (lt105_law (show u < 5 by omega)) (ce_law g _ (show u < 5 by omega)) rfl rfl mwX9_206 vlX3_clear (qX3_clear l g M (show u < 5 by omega)) mlX3_clear (by decide) (by decide) rfl rfl (Nat.le_of_ble_eq_true rfl) dX9_untell_39 rfl ?_
    refine k_iload_n C 43 0 rfl rfl dX9_untell_42 rfl ?_
    refine k_ret C rfl dX9_untell_43 ?_
    exact ⟨rfl, rfl⟩
  · skip
    exact (bz d4 (rg_lt (b := 2) hu (by decide))).elim
set_option maxHeartbeats 4000000 in
set_option maxRecDepth 20000 in
theorem qX9_law_t (l : Launch) (g : GT) (M : Mem) {u : Nat} (hu : u < 2) {n : Nat} (hL : lawOk M u n) (a b c : Int32) : CtrI l g yX9_law cX9_law 5 (some .int) 4 [.ref (ga g 90), .int (nI u), .int a, .int b, .int c] M (fun r M1 => r = pGive u n (M (52 + u)) a b c ∧ Sc lawS M M1) := by
  refine ctrI_of (by decide +kernel) (Nat.le_of_ble_eq_true rfl) ?_
  intro pP eE RR sS mI aG bB mE cD C
  refine k_lo (lo' := [(0, .ref (ga g 90)), (1, .int (nI u)), (2, .int a), (3, .int b), (4, .int c)]) rfl ?_
  rcases (show u = 0 ∨ u = 1 by omega) with rfl | rfl
  · skip
    refine k_iload_n C 1 1 rfl rfl dX9_law_0 rfl ?_
    refine k_callSE C 4 (As := [.int 0]) (st := []) mwX9_178 skX9_isUse (qX9_isUse l g M 0) mlX9_isUse (by decide) (by decide) rfl rfl (Nat.le_of_ble_eq_true rfl) dX9_law_1 rfl ?_
    refine k_teq (show _ = (1 : Int32) by decide) ?_
    refine k_if_ne C 14 7 dX9_law_4 (by decide) rfl (fun c4 => ?_) (fun d4 => ?_)
    · skip
      refine k_aload_n C 15 0 rfl rfl dX9_law_14 rfl ?_
      refine k_get C 18 flX9_12 90 (by decide) (v := .ref (ga g 43)) (ce_90 g _) rfl dX9_law_15 rfl ?_
      refine k_iload_n C 19 1 rfl rfl dX9_law_18 rfl ?_
      refine k_iload_n C 20 2 rfl rfl dX9_law_19 rfl ?_
      refine k_iload_n C 21 3 rfl rfl dX9_law_20 rfl ?_
      refine k_iload C 23 4  rfl dX9_law_21 rfl ?_
      refine k_callVI C 26 (As := [.int 0, .int a, .int b, .int c]) (st := []) 43 (by decide) (ce_wld g _ (show 0 < 2 by decide)) rfl rfl mwX9_209 vlX8_giveUse (qX8_giveUse l g M (show 0 < 2 by decide) (show 0 < 2 by decide) (n := n) hL a b c) mlX8_giveUse (by decide) (by decide) rfl rfl (Nat.le_of_ble_eq_true rfl) dX9_law_23 rfl (fun r1 M1 h1 => ?_)
      obtain ⟨hr1, hs1⟩ := h1
      refine k_ret C rfl dX9_law_26 ?_
      exact ⟨hr1, hs1⟩
    · skip
      exact absurd d4 (by decide)
  · skip
    refine k_iload_n C 1 1 rfl rfl dX9_law_0 rfl ?_
    refine k_callSE C 4 (As := [.int 1]) (st := []) mwX9_178 skX9_isUse (qX9_isUse l g M 1) mlX9_isUse (by decide) (by decide) rfl rfl (Nat.le_of_ble_eq_true rfl) dX9_law_1 rfl ?_
    refine k_teq (show _ = (1 : Int32) by decide) ?_
    refine k_if_ne C 14 7 dX9_law_4 (by decide) rfl (fun c4 => ?_) (fun d4 => ?_)
    · skip
      refine k_aload_n C 15 0 rfl rfl dX9_law_14 rfl ?_
      refine k_get C 18 flX9_12 90 (by decide) (v := .ref (ga g 43)) (ce_90 g _) rfl dX9_law_15 rfl ?_
      refine k_iload_n C 19 1 rfl rfl dX9_law_18 rfl ?_
      refine k_iload_n C 20 2 rfl rfl dX9_law_19 rfl ?_
      refine k_iload_n C 21 3 rfl rfl dX9_law_20 rfl ?_
      refine k_iload C 23 4  rfl dX9_law_21 rfl ?_
      refine k_callVI C 26 (As := [.int 1, .int a, .int b, .int c]) (st := []) 43 (by decide) (ce_wld g _ (show 0 < 2 by decide)) rfl rfl mwX9_209 vlX8_giveUse (qX8_giveUse l g M (show 0 < 2 by decide) (show 1 < 2 by decide) (n := n) hL a b c) mlX8_giveUse (by decide) (by decide) rfl rfl (Nat.le_of_ble_eq_true rfl) dX9_law_23 rfl (fun r2 M2 h2 => ?_)
      obtain ⟨hr2, hs2⟩ := h2
      refine k_ret C rfl dX9_law_26 ?_
      exact ⟨hr2, hs2⟩
    · skip
      exact absurd d4 (by decide)
set_option maxHeartbeats 4000000 in
set_option maxRecDepth 20000 in
theorem qX9_talk_t (l : Launch) (g : GT) (M : Mem) {n : Nat} (hn : M 37 1 = nI n) (h12 : n ≤ 12) {w : Nat} (hw : w < 3) : CtrE l g yX9_talk cX9_talk 2 (some .int) 5 [.ref (ga g 90), .int (nI w)] M (nI (if w = 0 then (pLong (fF M 0) n).1 else if w = 1 then pCnt (fF M 0) n else popc (pSet (fF M 0) n))) M := by
  refine ctrI_of (by decide +kernel) (Nat.le_of_ble_eq_true rfl) ?_
  intro pP eE RR sS mI aG bB mE cD C
  refine k_lo (lo' := [(0, .ref (ga g 90)), (1, .int (nI w))]) rfl ?_
  refine k_iload_n C 1 1 rfl rfl dX9_talk_0 rfl ?_
  rcases (show w = 0 ∨ w = 1 ∨ w = 2 by omega) with rfl | rfl | rfl
  · skip
    refine k_tin C 28 (by decide) (by decide) (by rfl) dX9_talk_1 (by decide) ?_
    refine k_aload_n C 29 0 rfl rfl dX9_talk_28 rfl ?_
    refine k_get C 32 flX9_12 90 (by decide) (v := .ref (ga g 43)) (ce_90 g _) rfl dX9_talk_29 rfl ?_
    refine k_get C 35 flX9_92 43 (by decide) (v := .ref (ga g 37)) (ce_wld g _ (show 0 < 2 by decide)) rfl dX9_talk_32 rfl ?_
    refine k_callVE C 38 (As := []) (st := []) 37 (by decide) (ce_fld g _ (show 0 < 3 by decide)) rfl rfl mwX9_229 vlX1_longestTalk (qX1_longestTalk l g M (show 0 < 3 by decide) hn h12) mlX1_longestTalk (by decide) (by decide) rfl rfl (Nat.le_of_ble_eq_true rfl) dX9_talk_35 rfl ?_
    refine k_ret C rfl dX9_talk_38 ?_
    exact ⟨rfl, rfl⟩
  · skip
    refine k_tin C 39 (by decide) (by decide) (by rfl) dX9_talk_1 (by decide) ?_
    refine k_aload_n C 40 0 rfl rfl dX9_talk_39 rfl ?_
    refine k_get C 43 flX9_12 90 (by decide) (v := .ref (ga g 43)) (ce_90 g _) rfl dX9_talk_40 rfl ?_
    refine k_get C 46 flX9_92 43 (by decide) (v := .ref (ga g 37)) (ce_wld g _ (show 0 < 2 by decide)) rfl dX9_talk_43 rfl ?_
    refine k_callVE C 49 (As := []) (st := []) 37 (by decide) (ce_fld g _ (show 0 < 3 by decide)) rfl rfl mwX9_232 vlX1_answerCount (qX1_answerCount l g M (show 0 < 3 by decide) hn h12) mlX1_answerCount (by decide) (by decide) rfl rfl (Nat.le_of_ble_eq_true rfl) dX9_talk_46 rfl ?_
    refine k_ret C rfl dX9_talk_49 ?_
    exact ⟨rfl, rfl⟩
  · skip
    refine k_tin C 50 (by decide) (by decide) (by rfl) dX9_talk_1 (by decide) ?_
    refine k_aload_n C 51 0 rfl rfl dX9_talk_50 rfl ?_
    refine k_get C 54 flX9_12 90 (by decide) (v := .ref (ga g 43)) (ce_90 g _) rfl dX9_talk_51 rfl ?_
    refine k_get C 57 flX9_92 43 (by decide) (v := .ref (ga g 37)) (ce_wld g _ (show 0 < 2 by decide)) rfl dX9_talk_54 rfl ?_
    refine k_callVE C 60 (As := []) (st := []) 37 (by decide) (ce_fld g _ (show 0 < 3 by decide)) rfl rfl mwX9_220 vlX1_seenCount (qX1_seenCount l g M (show 0 < 3 by decide) hn h12) mlX1_seenCount (by decide) (by decide) rfl rfl (Nat.le_of_ble_eq_true rfl) dX9_talk_57 rfl ?_
    refine k_ret C rfl dX9_talk_60 ?_
    exact ⟨rfl, rfl⟩
set_option maxHeartbeats 4000000 in
set_option maxRecDepth 20000 in
theorem qX9_talk_f (l : Launch) (g : GT) (M : Mem) (w : Int32) (h0 : ¬ w = 0) (h1 : ¬ w = 1) (h2 : ¬ w = 2) : CtrE l g yX9_talk cX9_talk 2 (some .int) 1 [.ref (ga g 90), .int w] M (-1000000001) (mu M 89 1 (M 89 1 + 1)) := by
  refine ctrI_of (by decide +kernel) (Nat.le_of_ble_eq_true rfl) ?_
  intro pP eE RR sS mI aG bB mE cD C
  refine k_lo (lo' := [(0, .ref (ga g 90)), (1, .int w)]) rfl ?_
  refine k_iload_n C 1 1 rfl rfl dX9_talk_0 rfl ?_
  by_cases w1_0 : w = 0
  · skip
    refine k_tin C 28 (by rw [w1_0]; decide) (by rw [w1_0]; decide) (by rw [w1_0]; rfl) dX9_talk_1 (by decide) ?_
    exact absurd w1_0 h0
  · skip
    by_cases w1_1 : w = 1
    · skip
      refine k_tin C 39 (by rw [w1_1]; decide) (by rw [w1_1]; decide) (by rw [w1_1]; rfl) dX9_talk_1 (by decide) ?_
      exact absurd w1_1 h1
    · skip
      by_cases w1_2 : w = 2
      · skip
        refine k_tin C 50 (by rw [w1_2]; decide) (by rw [w1_2]; decide) (by rw [w1_2]; rfl) dX9_talk_1 (by decide) ?_
        exact absurd w1_2 h2
      · skip
        refine k_tout C 61 (by have z0 := i_ne w1_0 (k := 0) rfl; have z1 := i_ne w1_1 (k := 1) rfl; have z2 := i_ne w1_2 (k := 2) rfl; omega) dX9_talk_1 (by decide) ?_
        refine k_aload_n C 62 0 rfl rfl dX9_talk_61 rfl ?_
        refine k_ldc C 64 cwX9_87 dX9_talk_62 rfl ?_
        refine k_callVE C 67 (As := [.int (-1000000001)]) (st := []) 90 (by decide) (ce_90 g _) rfl rfl mwX9_88 vlX9_refuse (qX9_refuse l g M (-1000000001) (k := 1) (by decide) (by decide) (by decide)) mlX9_refuse (by decide) (by decide) rfl rfl (Nat.le_of_ble_eq_true rfl) dX9_talk_64 rfl ?_
        refine k_ret C rfl dX9_talk_67 ?_
        exact ⟨rfl, rfl⟩
set_option maxHeartbeats 4000000 in
set_option maxRecDepth 20000 in
theorem qX9_count_t (l : Launch) (g : GT) (M : Mem) {n : Nat} (hn : M 37 1 = nI n) (h12 : n ≤ 12) {w : Nat} (hw : w < 8) : CtrE l g yX9_count cX9_count 2 (some .int) 5 [.ref (ga g 90), .int (nI w)] M (cCount M n w) M := by
  refine ctrI_of (by decide +kernel) (Nat.le_of_ble_eq_true rfl) ?_
  intro pP eE RR sS mI aG bB mE cD C
  refine k_lo (lo' := [(0, .ref (ga g 90)), (1, .int (nI w))]) rfl ?_
  refine k_iload_n C 1 1 rfl rfl dX9_count_0 rfl ?_
  rcases (show w = 0 ∨ w = 1 ∨ w = 2 ∨ w = 3 ∨ w = 4 ∨ w = 5 ∨ w = 6 ∨ w = 7 by omega) with rfl | rfl | rfl | rfl | rfl | rfl | rfl | rfl
  · skip
    refine k_tin C 48 (by decide) (by decide) (by rfl) dX9_count_1 (by decide) ?_
    refine k_aload_n C 49 0 rfl rfl dX9_count_48 rfl ?_
    refine k_get C 52 flX9_12 90 (by decide) (v := .ref (ga g 43)) (ce_90 g _) rfl dX9_count_49 rfl ?_
    refine k_get C 55 flX9_92 43 (by decide) (v := .ref (ga g 37)) (ce_wld g _ (show 0 < 2 by decide)) rfl dX9_count_52 rfl ?_
    refine k_get C 58 flX9_95 37 (by decide) (v := .int ((M) 37 1)) (ce_fld g _ (show 0 < 3 by decide)) rfl dX9_count_55 rfl ?_
    refine k_teq (y := nI n) hn ?_
    refine k_ret C rfl dX9_count_58 ?_
    exact ⟨rfl, rfl⟩
  · skip
    refine k_tin C 59 (by decide) (by decide) (by rfl) dX9_count_1 (by decide) ?_
    refine k_aload_n C 60 0 rfl rfl dX9_count_59 rfl ?_
    refine k_get C 63 flX9_12 90 (by decide) (v := .ref (ga g 43)) (ce_90 g _) rfl dX9_count_60 rfl ?_
    refine k_get C 66 flX9_92 43 (by decide) (v := .ref (ga g 37)) (ce_wld g _ (show 0 < 2 by decide)) rfl dX9_count_63 rfl ?_
    refine k_callVE C 69 (As := []) (st := []) 37 (by decide) (ce_fld g _ (show 0 < 3 by decide)) rfl rfl mwX9_220 vlX1_seenCount (qX1_seenCount l g M (show 0 < 3 by decide) hn h12) mlX1_seenCount (by decide) (by decide) rfl rfl (Nat.le_of_ble_eq_true rfl) dX9_count_66 rfl ?_
    refine k_ret C rfl dX9_count_69 ?_
    exact ⟨rfl, rfl⟩
  · skip
    refine k_tin C 70 (by decide) (by decide) (by rfl) dX9_count_1 (by decide) ?_
    refine k_aload_n C 71 0 rfl rfl dX9_count_70 rfl ?_
    refine k_get C 74 flX9_12 90 (by decide) (v := .ref (ga g 43)) (ce_90 g _) rfl dX9_count_71 rfl ?_
    refine k_get C 77 flX9_92 43 (by decide) (v := .ref (ga g 37)) (ce_wld g _ (show 0 < 2 by decide)) rfl dX9_count_74 rfl ?_
    refine k_get C 80 flX9_213 37 (by decide) (v := .int ((M) 37 2)) (ce_fld g _ (show 0 < 3 by decide)) rfl dX9_count_77 rfl ?_
    refine k_ret C rfl dX9_count_80 ?_
    exact ⟨rfl, rfl⟩
  · skip
    refine k_tin C 81 (by decide) (by decide) (by rfl) dX9_count_1 (by decide) ?_
    refine k_aload_n C 82 0 rfl rfl dX9_count_81 rfl ?_
    refine k_get C 85 flX9_12 90 (by decide) (v := .ref (ga g 43)) (ce_90 g _) rfl dX9_count_82 rfl ?_
    refine k_get C 88 flX9_92 43 (by decide) (v := .ref (ga g 37)) (ce_wld g _ (show 0 < 2 by decide)) rfl dX9_count_85 rfl ?_
    refine k_get C 91 flX9_168 37 (by decide) (v := .int ((M) 37 3)) (ce_fld g _ (show 0 < 3 by decide)) rfl dX9_count_88 rfl ?_
    refine k_ret C rfl dX9_count_91 ?_
    exact ⟨rfl, rfl⟩
  · skip
    refine k_tin C 92 (by decide) (by decide) (by rfl) dX9_count_1 (by decide) ?_
    refine k_aload_n C 93 0 rfl rfl dX9_count_92 rfl ?_
    refine k_get C 96 flX9_12 90 (by decide) (v := .ref (ga g 43)) (ce_90 g _) rfl dX9_count_93 rfl ?_
    refine k_get C 99 flX9_171 43 (by decide) (v := .int ((M) 43 3)) (ce_wld g _ (show 0 < 2 by decide)) rfl dX9_count_96 rfl ?_
    refine k_ret C rfl dX9_count_99 ?_
    exact ⟨rfl, rfl⟩
  · skip
    refine k_tin C 100 (by decide) (by decide) (by rfl) dX9_count_1 (by decide) ?_
    refine k_aload_n C 101 0 rfl rfl dX9_count_100 rfl ?_
    refine k_get C 104 flX9_12 90 (by decide) (v := .ref (ga g 43)) (ce_90 g _) rfl dX9_count_101 rfl ?_
    refine k_get C 107 flX9_337 43 (by decide) (v := .int ((M) 43 5)) (ce_wld g _ (show 0 < 2 by decide)) rfl dX9_count_104 rfl ?_
    refine k_ret C rfl dX9_count_107 ?_
    exact ⟨rfl, rfl⟩
  · skip
    refine k_tin C 108 (by decide) (by decide) (by rfl) dX9_count_1 (by decide) ?_
    refine k_aload_n C 109 0 rfl rfl dX9_count_108 rfl ?_
    refine k_get C 112 flX9_62 90 (by decide) (v := .ref (ga g 78)) (ce_90 g _) rfl dX9_count_109 rfl ?_
    refine k_get C 115 flX9_296 78 (by decide) (v := .int ((M) 78 1)) (ce_78 g _) rfl dX9_count_112 rfl ?_
    refine k_ret C rfl dX9_count_115 ?_
    exact ⟨rfl, rfl⟩
  · skip
    refine k_tin C 116 (by decide) (by decide) (by rfl) dX9_count_1 (by decide) ?_
    refine k_aload_n C 117 0 rfl rfl dX9_count_116 rfl ?_
    refine k_get C 120 flX9_12 90 (by decide) (v := .ref (ga g 43)) (ce_90 g _) rfl dX9_count_117 rfl ?_
    refine k_get C 123 flX9_92 43 (by decide) (v := .ref (ga g 37)) (ce_wld g _ (show 0 < 2 by decide)) rfl dX9_count_120 rfl ?_
    refine k_get C 126 flX9_226 37 (by decide) (v := .int ((M) 37 4)) (ce_fld g _ (show 0 < 3 by decide)) rfl dX9_count_123 rfl ?_
    refine k_ret C rfl dX9_count_126 ?_
    exact ⟨rfl, rfl⟩
set_option maxHeartbeats 4000000 in
set_option maxRecDepth 20000 in
theorem qX9_count_f (l : Launch) (g : GT) (M : Mem) (w : Int32) (h0 : ¬ w = 0) (h1 : ¬ w = 1) (h2 : ¬ w = 2) (h3 : ¬ w = 3) (h4 : ¬ w = 4) (h5 : ¬ w = 5) (h6 : ¬ w = 6) (h7 : ¬ w = 7) : CtrE l g yX9_count cX9_count 2 (some .int) 1 [.ref (ga g 90), .int w] M (-1000000001) (mu M 89 1 (M 89 1 + 1)) := by
  refine ctrI_of (by decide +kernel) (Nat.le_of_ble_eq_true rfl) ?_
  intro pP eE RR sS mI aG bB mE cD C
  refine k_lo (lo' := [(0, .ref (ga g 90)), (1, .int w)]) rfl ?_
  refine k_iload_n C 1 1 rfl rfl dX9_count_0 rfl ?_
  by_cases w1_0 : w = 0
  · skip
    refine k_tin C 48 (by rw [w1_0]; decide) (by rw [w1_0]; decide) (by rw [w1_0]; rfl) dX9_count_1 (by decide) ?_
    exact absurd w1_0 h0
  · skip
    by_cases w1_1 : w = 1
    · skip
      refine k_tin C 59 (by rw [w1_1]; decide) (by rw [w1_1]; decide) (by rw [w1_1]; rfl) dX9_count_1 (by decide) ?_
      exact absurd w1_1 h1
    · skip
      by_cases w1_2 : w = 2
      · skip
        refine k_tin C 70 (by rw [w1_2]; decide) (by rw [w1_2]; decide) (by rw [w1_2]; rfl) dX9_count_1 (by decide) ?_
        exact absurd w1_2 h2
      · skip
        by_cases w1_3 : w = 3
        · skip
          refine k_tin C 81 (by rw [w1_3]; decide) (by rw [w1_3]; decide) (by rw [w1_3]; rfl) dX9_count_1 (by decide) ?_
          exact absurd w1_3 h3
        · skip
          by_cases w1_4 : w = 4
          · skip
            refine k_tin C 92 (by rw [w1_4]; decide) (by rw [w1_4]; decide) (by rw [w1_4]; rfl) dX9_count_1 (by decide) ?_
            exact absurd w1_4 h4
          · skip
            by_cases w1_5 : w = 5
            · skip
              refine k_tin C 100 (by rw [w1_5]; decide) (by rw [w1_5]; decide) (by rw [w1_5]; rfl) dX9_count_1 (by decide) ?_
              exact absurd w1_5 h5
            · skip
              by_cases w1_6 : w = 6
              · skip
                refine k_tin C 108 (by rw [w1_6]; decide) (by rw [w1_6]; decide) (by rw [w1_6]; rfl) dX9_count_1 (by decide) ?_
                exact absurd w1_6 h6
              · skip
                by_cases w1_7 : w = 7
                · skip
                  refine k_tin C 116 (by rw [w1_7]; decide) (by rw [w1_7]; decide) (by rw [w1_7]; rfl) dX9_count_1 (by decide) ?_
                  exact absurd w1_7 h7
                · skip
                  refine k_tout C 127 (by have z0 := i_ne w1_0 (k := 0) rfl; have z1 := i_ne w1_1 (k := 1) rfl; have z2 := i_ne w1_2 (k := 2) rfl; have z3 := i_ne w1_3 (k := 3) rfl; have z4 := i_ne w1_4 (k := 4) rfl; have z5 := i_ne w1_5 (k := 5) rfl; have z6 := i_ne w1_6 (k := 6) rfl; have z7 := i_ne w1_7 (k := 7) rfl; omega) dX9_count_1 (by decide) ?_
                  refine k_aload_n C 128 0 rfl rfl dX9_count_127 rfl ?_
                  refine k_ldc C 130 cwX9_87 dX9_count_128 rfl ?_
                  refine k_callVE C 133 (As := [.int (-1000000001)]) (st := []) 90 (by decide) (ce_90 g _) rfl rfl mwX9_88 vlX9_refuse (qX9_refuse l g M (-1000000001) (k := 1) (by decide) (by decide) (by decide)) mlX9_refuse (by decide) (by decide) rfl rfl (Nat.le_of_ble_eq_true rfl) dX9_count_130 rfl ?_
                  refine k_ret C rfl dX9_count_133 ?_
                  exact ⟨rfl, rfl⟩
set_option maxHeartbeats 4000000 in
set_option maxRecDepth 20000 in
theorem qX9_told_f (l : Launch) (g : GT) (M : Mem) (x : Int32) (hf : (decide (1 ≤ x) && decide (x ≤ 6)) = false) : CtrE l g yX9_told cX9_told 2 (some .int) 1 [.ref (ga g 90), .int x] M (-1000000001) (mu M 89 1 (M 89 1 + 1)) := by
  refine ctrI_of (by decide +kernel) (Nat.le_of_ble_eq_true rfl) ?_
  intro pP eE RR sS mI aG bB mE cD C
  refine k_lo (lo' := [(0, .ref (ga g 90)), (1, .int x)]) rfl ?_
  refine k_iload_n C 1 1 rfl rfl dX9_told_0 rfl ?_
  refine k_iconst C 2 (v := 1) (by decide) dX9_told_1 rfl ?_
  refine k_icmp_lt C 11 5 dX9_told_2 (by decide) rfl (fun c2 => ?_) (fun d2 => ?_)
  · skip
    refine k_aload_n C 12 0 rfl rfl dX9_told_11 rfl ?_
    refine k_ldc C 14 cwX9_87 dX9_told_12 rfl ?_
    refine k_callVE C 17 (As := [.int (-1000000001)]) (st := []) 90 (by decide) (ce_90 g _) rfl rfl mwX9_88 vlX9_refuse (qX9_refuse l g M (-1000000001) (k := 1) (by decide) (by decide) (by decide)) mlX9_refuse (by decide) (by decide) rfl rfl (Nat.le_of_ble_eq_true rfl) dX9_told_14 rfl ?_
    refine k_ret C rfl dX9_told_17 ?_
    exact ⟨rfl, rfl⟩
  · skip
    refine k_iload_n C 6 1 rfl rfl dX9_told_5 rfl ?_
    refine k_bipush C 8 (v := 6) (by decide) dX9_told_6 rfl ?_
    refine k_icmp_le C 18 11 dX9_told_8 (by decide) rfl (fun c8 => ?_) (fun d8 => ?_)
    · skip
      exact (bz hf (by rw [decide_eq_true (Int32.not_lt.mp d2), decide_eq_true c8]; rfl)).elim
    · skip
      refine k_aload_n C 12 0 rfl rfl dX9_told_11 rfl ?_
      refine k_ldc C 14 cwX9_87 dX9_told_12 rfl ?_
      refine k_callVE C 17 (As := [.int (-1000000001)]) (st := []) 90 (by decide) (ce_90 g _) rfl rfl mwX9_88 vlX9_refuse (qX9_refuse l g M (-1000000001) (k := 1) (by decide) (by decide) (by decide)) mlX9_refuse (by decide) (by decide) rfl rfl (Nat.le_of_ble_eq_true rfl) dX9_told_14 rfl ?_
      refine k_ret C rfl dX9_told_17 ?_
      exact ⟨rfl, rfl⟩
set_option maxHeartbeats 4000000 in
set_option maxRecDepth 20000 in
theorem qX9_told_t (l : Launch) (g : GT) (M : Mem) {k : Nat} (h1 : 1 ≤ k) (h2 : k ≤ 6) : CtrE l g yX9_told cX9_told 2 (some .int) 1 [.ref (ga g 90), .int (nI k)] M (M 89 k) M := by
  refine ctrI_of (by decide +kernel) (Nat.le_of_ble_eq_true rfl) ?_
  intro pP eE RR sS mI aG bB mE cD C
  refine k_lo (lo' := [(0, .ref (ga g 90)), (1, .int (nI k))]) rfl ?_
  refine k_iload_n C 1 1 rfl rfl dX9_told_0 rfl ?_
  refine k_iconst C 2 (v := 1) (by decide) dX9_told_1 rfl ?_
  refine k_icmp_lt C 11 5 dX9_told_2 (by decide) rfl (fun c2 => ?_) (fun d2 => ?_)
  · skip
    have c2 := (nI_ltI (by omega) (by omega)).mp (show nI k < nI 1 from c2)
    exact absurd c2 (by omega)
  · skip
    have d2 := mt (nI_ltI (by omega) (by omega)).mpr (show ¬ (nI k < nI 1) from d2)
    refine k_iload_n C 6 1 rfl rfl dX9_told_5 rfl ?_
    refine k_bipush C 8 (v := 6) (by decide) dX9_told_6 rfl ?_
    refine k_icmp_le C 18 11 dX9_told_8 (by decide) rfl (fun c8 => ?_) (fun d8 => ?_)
    · skip
      have c8 := (nI_leI (by omega) (by omega)).mp (show nI k ≤ nI 6 from c8)
      refine k_aload_n C 19 0 rfl rfl dX9_told_18 rfl ?_
      refine k_get C 22 flX9_72 90 (by decide) (v := .ref (ga g 89)) (ce_90 g _) rfl dX9_told_19 rfl ?_
      refine k_iload_n C 23 1 rfl rfl dX9_told_22 rfl ?_
      refine k_iald C 24 89 k (by decide) (ce_89 g) (by decide) rfl (by omega) dX9_told_23 rfl ?_
      refine k_ret C rfl dX9_told_24 ?_
      exact ⟨rfl, rfl⟩
    · skip
      have d8 := mt (nI_leI (by omega) (by omega)).mpr (show ¬ (nI k ≤ nI 6) from d8)
      exact absurd d8 (by omega)
set_option maxHeartbeats 4000000 in
set_option maxRecDepth 20000 in
theorem qX9_tell_full (l : Launch) (g : GT) (M : Mem) (hw : M 43 5 = 24) (x : Int32) : CtrE l g yX9_tell cX9_tell 2 (some .int) 1 [.ref (ga g 90), .int x] M (-1000000004) (mu M 89 4 (M 89 4 + 1)) := by
  refine ctrI_of (by decide +kernel) (Nat.le_of_ble_eq_true rfl) ?_
  intro pP eE RR sS mI aG bB mE cD C
  refine k_lo (lo' := [(0, .ref (ga g 90)), (1, .int x)]) rfl ?_
  refine k_aload_n C 1 0 rfl rfl dX9_tell_0 rfl ?_
  refine k_get C 4 flX9_12 90 (by decide) (v := .ref (ga g 43)) (ce_90 g _) rfl dX9_tell_1 rfl ?_
  refine k_get C 7 flX9_337 43 (by decide) (v := .int ((M) 43 5)) (ce_wld g _ (show 0 < 2 by decide)) rfl dX9_tell_4 rfl ?_
  refine k_teq (y := 24) hw ?_
  refine k_bipush C 9 (v := 24) (by decide) dX9_tell_7 rfl ?_
  refine k_icmp_lt C 19 12 dX9_tell_9 (by decide) rfl (fun c9 => ?_) (fun d9 => ?_)
  · skip
    exact absurd c9 (by decide)
  · skip
    refine k_aload_n C 13 0 rfl rfl dX9_tell_12 rfl ?_
    refine k_ldc C 15 cwX9_99 dX9_tell_13 rfl ?_
    refine k_callVE C 18 (As := [.int (-1000000004)]) (st := []) 90 (by decide) (ce_90 g _) rfl rfl mwX9_88 vlX9_refuse (qX9_refuse l g M (-1000000004) (k := 4) (by decide) (by decide) (by decide)) mlX9_refuse (by decide) (by decide) rfl rfl (Nat.le_of_ble_eq_true rfl) dX9_tell_15 rfl ?_
    refine k_ret C rfl dX9_tell_18 ?_
    exact ⟨rfl, rfl⟩
set_option maxHeartbeats 4000000 in
set_option maxRecDepth 20000 in
theorem qX9_tell_t (l : Launch) (g : GT) (M : Mem) {w : Nat} (hw : M 43 5 = nI w) (h24 : w < 24) (x : Int32) : CtrE l g yX9_tell cX9_tell 2 (some .int) 1 [.ref (ga g 90), .int x] M (nI (w + 1)) (mu (mu M 65 w x) 43 5 (nI (w + 1))) := by
  refine ctrI_of (by decide +kernel) (Nat.le_of_ble_eq_true rfl) ?_
  intro pP eE RR sS mI aG bB mE cD C
  refine k_lo (lo' := [(0, .ref (ga g 90)), (1, .int x)]) rfl ?_
  refine k_aload_n C 1 0 rfl rfl dX9_tell_0 rfl ?_
  refine k_get C 4 flX9_12 90 (by decide) (v := .ref (ga g 43)) (ce_90 g _) rfl dX9_tell_1 rfl ?_
  refine k_get C 7 flX9_337 43 (by decide) (v := .int ((M) 43 5)) (ce_wld g _ (show 0 < 2 by decide)) rfl dX9_tell_4 rfl ?_
  refine k_teq (y := nI w) hw ?_
  refine k_bipush C 9 (v := 24) (by decide) dX9_tell_7 rfl ?_
  refine k_icmp_lt C 19 12 dX9_tell_9 (by decide) rfl (fun c9 => ?_) (fun d9 => ?_)
  · skip
    have c9 := (nI_ltI (by omega) (by omega)).mp (show nI w < nI 24 from c9)
    refine k_aload_n C 20 0 rfl rfl dX9_tell_19 rfl ?_
    refine k_get C 23 flX9_12 90 (by decide) (v := .ref (ga g 43)) (ce_90 g _) rfl dX9_tell_20 rfl ?_
    refine k_get C 26 flX9_340 43 (by decide) (v := .ref (ga g 65)) (ce_wld g _ (show 0 < 2 by decide)) rfl dX9_tell_23 rfl ?_
    refine k_aload_n C 27 0 rfl rfl dX9_tell_26 rfl ?_
    refine k_get C 30 flX9_12 90 (by decide) (v := .ref (ga g 43)) (ce_90 g _) rfl dX9_tell_27 rfl ?_
    refine k_get C 33 flX9_337 43 (by decide) (v := .int ((M) 43 5)) (ce_wld g _ (show 0 < 2 by decide)) rfl dX9_tell_30 rfl ?_
    refine k_teq (y := nI w) hw ?_
    refine k_iload_n C 34 1 rfl rfl dX9_tell_33 rfl ?_
    refine k_iast C 35 65 w (by decide) (ce_wt g (show 0 < 2 by decide)) (by decide) rfl (by omega) dX9_tell_34 rfl ?_
    refine k_aload_n C 36 0 rfl rfl dX9_tell_35 rfl ?_
    refine k_get C 39 flX9_12 90 (by decide) (v := .ref (ga g 43)) (ce_90 g _) rfl dX9_tell_36 rfl ?_
    refine k_dup C 40 rfl dX9_tell_39 rfl ?_
    refine k_get C 43 flX9_337 43 (by decide) (v := .int ((mu M 65 w x) 43 5)) (ce_wld g _ (show 0 < 2 by decide)) rfl dX9_tell_40 rfl ?_
    refine k_teq (show (mu M 65 w x) 43 5 = M 43 5 by simp [mu_at]) ?_
    refine k_teq (y := nI w) hw ?_
    refine k_iconst C 44 (v := 1) (by decide) dX9_tell_43 rfl ?_
    refine k_iadd C 45 dX9_tell_44 rfl ?_
    refine k_teq (nI_add w 1) ?_
    refine k_put C 48 flX9_337 plX8 43 (by decide) (ce_wld g _ (show 0 < 2 by decide)) (ce_wld g _ (show 0 < 2 by decide)) (Nat.le_of_ble_eq_true rfl) rfl rfl rfl dX9_tell_45 rfl ?_
    refine k_aload_n C 49 0 rfl rfl dX9_tell_48 rfl ?_
    refine k_get C 52 flX9_12 90 (by decide) (v := .ref (ga g 43)) (ce_90 g _) rfl dX9_tell_49 rfl ?_
    refine k_get C 55 flX9_337 43 (by decide) (v := .int ((mu (mu M 65 w x) 43 5 (nI (w + 1))) 43 5)) (ce_wld g _ (show 0 < 2 by decide)) rfl dX9_tell_52 rfl ?_
    refine k_teq (show (mu (mu M 65 w x) 43 5 (nI (w + 1))) 43 5 = nI (w + 1) by simp [mu_at]) ?_
    refine k_ret C rfl dX9_tell_55 ?_
    exact ⟨rfl, rfl⟩
  · skip
    have d9 := mt (nI_ltI (by omega) (by omega)).mpr (show ¬ (nI w < nI 24) from d9)
    exact absurd d9 (by omega)
set_option maxHeartbeats 4000000 in
set_option maxRecDepth 20000 in
theorem qX9_body_f (l : Launch) (g : GT) (M : Mem) {t : Nat} (ht : M 78 1 = nI t) (h30 : t ≤ 30) (i : Int32) (hf : pIsF t i = false) : CtrE l g yX9_body cX9_body 2 (some .int) 1 [.ref (ga g 90), .int i] M (-1000000002) (mu M 89 2 (M 89 2 + 1)) := by
  refine ctrI_of (by decide +kernel) (Nat.le_of_ble_eq_true rfl) ?_
  intro pP eE RR sS mI aG bB mE cD C
  refine k_lo (lo' := [(0, .ref (ga g 90)), (1, .int i)]) rfl ?_
  refine k_iload_n C 1 1 rfl rfl dX9_body_0 rfl ?_
  refine k_if_lt C 27 4 dX9_body_1 (by decide) rfl (fun c1 => ?_) (fun d1 => ?_)
  · skip
    refine k_aload_n C 28 0 rfl rfl dX9_body_27 rfl ?_
    refine k_ldcw C 31 cwX9_280 dX9_body_28 rfl ?_
    refine k_callVE C 34 (As := [.int (-1000000002)]) (st := []) 90 (by decide) (ce_90 g _) rfl rfl mwX9_88 vlX9_refuse (qX9_refuse l g M (-1000000002) (k := 2) (by decide) (by decide) (by decide)) mlX9_refuse (by decide) (by decide) rfl rfl (Nat.le_of_ble_eq_true rfl) dX9_body_31 rfl ?_
    refine k_ret C rfl dX9_body_34 ?_
    exact ⟨rfl, rfl⟩
  · skip
    refine k_iload_n C 5 1 rfl rfl dX9_body_4 rfl ?_
    refine k_aload_n C 6 0 rfl rfl dX9_body_5 rfl ?_
    refine k_get C 9 flX9_62 90 (by decide) (v := .ref (ga g 78)) (ce_90 g _) rfl dX9_body_6 rfl ?_
    refine k_get C 12 flX9_296 78 (by decide) (v := .int ((M) 78 1)) (ce_78 g _) rfl dX9_body_9 rfl ?_
    refine k_teq (y := nI t) ht ?_
    refine k_icmp_ge C 27 15 dX9_body_12 (by decide) rfl (fun c12 => ?_) (fun d12 => ?_)
    · skip
      refine k_aload_n C 28 0 rfl rfl dX9_body_27 rfl ?_
      refine k_ldcw C 31 cwX9_280 dX9_body_28 rfl ?_
      refine k_callVE C 34 (As := [.int (-1000000002)]) (st := []) 90 (by decide) (ce_90 g _) rfl rfl mwX9_88 vlX9_refuse (qX9_refuse l g M (-1000000002) (k := 2) (by decide) (by decide) (by decide)) mlX9_refuse (by decide) (by decide) rfl rfl (Nat.le_of_ble_eq_true rfl) dX9_body_31 rfl ?_
      refine k_ret C rfl dX9_body_34 ?_
      exact ⟨rfl, rfl⟩
    · skip
      exact (bz hf (by unfold pIsF; rw [decide_eq_true (Int32.not_lt.mp d1), decide_eq_true (Int32.not_le.mp d12)]; rfl)).elim
set_option maxHeartbeats 4000000 in
set_option maxRecDepth 20000 in
theorem qX9_body_t (l : Launch) (g : GT) (M : Mem) {t : Nat} (ht : M 78 1 = nI t) (h30 : t ≤ 30) {i : Nat} (hi : i < t) : CtrE l g yX9_body cX9_body 2 (some .int) 1 [.ref (ga g 90), .int (nI i)] M (M 79 i) M := by
  refine ctrI_of (by decide +kernel) (Nat.le_of_ble_eq_true rfl) ?_
  intro pP eE RR sS mI aG bB mE cD C
  refine k_lo (lo' := [(0, .ref (ga g 90)), (1, .int (nI i))]) rfl ?_
  refine k_iload_n C 1 1 rfl rfl dX9_body_0 rfl ?_
  refine k_if_lt C 27 4 dX9_body_1 (by decide) rfl (fun c1 => ?_) (fun d1 => ?_)
  · skip
    have c1 := (nI_ltI (by omega) (by omega)).mp (show nI i < nI 0 from c1)
    exact absurd c1 (by omega)
  · skip
    have d1 := mt (nI_ltI (by omega) (by omega)).mpr (show ¬ (nI i < nI 0) from d1)
    refine k_iload_n C 5 1 rfl rfl dX9_body_4 rfl ?_
    refine k_aload_n C 6 0 rfl rfl dX9_body_5 rfl ?_
    refine k_get C 9 flX9_62 90 (by decide) (v := .ref (ga g 78)) (ce_90 g _) rfl dX9_body_6 rfl ?_
    refine k_get C 12 flX9_296 78 (by decide) (v := .int ((M) 78 1)) (ce_78 g _) rfl dX9_body_9 rfl ?_
    refine k_teq (y := nI t) ht ?_
    refine k_icmp_ge C 27 15 dX9_body_12 (by decide) rfl (fun c12 => ?_) (fun d12 => ?_)
    · skip
      have c12 := (nI_leI (by omega) (by omega)).mp (show nI t ≤ nI i from c12)
      exact absurd c12 (by omega)
    · skip
      have d12 := mt (nI_leI (by omega) (by omega)).mpr (show ¬ (nI t ≤ nI i) from d12)
      refine k_aload_n C 16 0 rfl rfl dX9_body_15 rfl ?_
      refine k_get C 19 flX9_62 90 (by decide) (v := .ref (ga g 78)) (ce_90 g _) rfl dX9_body_16 rfl ?_
      refine k_get C 22 flX9_299 78 (by decide) (v := .ref (ga g 79)) (ce_78 g _) rfl dX9_body_19 rfl ?_
      refine k_iload_n C 23 1 rfl rfl dX9_body_22 rfl ?_
      refine k_iald C 24 79 i (by decide) (ce_79 g) (by decide) rfl (by omega) dX9_body_23 rfl ?_
      refine k_goto C 34 dX9_body_24 (by decide) ?_
      refine k_ret C rfl dX9_body_34 ?_
      exact ⟨rfl, rfl⟩
set_option maxHeartbeats 4000000 in
set_option maxRecDepth 20000 in
theorem qX9_image (l : Launch) (g : GT) (M : Mem) {n n0 n1 t u : Nat} (hn : M 37 1 = nI n) (h12 : n ≤ 12) (hcov : ∀ i, i < n → M (12 * 0 + i) 6 = 0 ∨ M (12 * 0 + i) 6 = 1) (h0 : M 47 1 = nI n0) (h600 : n0 ≤ 60) (h1 : M 48 1 = nI n1) (h601 : n1 ≤ 60) (ht : M 43 3 = nI t) (h60 : t ≤ 60) (hfit : ∀ i, i < t → fits .byte (.int (M 62 i)) = true) (hu : M 43 5 = nI u) (h24 : u ≤ 24) : CtrI l g yX9_image cX9_image 1 (some .int) 4 [.ref (ga g 90)] M (fun r M2 => ∃ M1, cpW M M1 1 0 n n0 n1 t u ∧ r = M 90 2 + 1 ∧ M2 = mu M1 90 2 (M 90 2 + 1)) := by
  refine ctrI_of (by decide +kernel) (Nat.le_of_ble_eq_true rfl) ?_
  intro pP eE RR sS mI aG bB mE cD C
  refine k_lo (lo' := [(0, .ref (ga g 90))]) rfl ?_
  refine k_aload_n C 1 0 rfl rfl dX9_image_0 rfl ?_
  refine k_get C 4 flX9_16 90 (by decide) (v := .ref (ga g 44)) (ce_90 g _) rfl dX9_image_1 rfl ?_
  refine k_aload_n C 5 0 rfl rfl dX9_image_4 rfl ?_
  refine k_get C 8 flX9_12 90 (by decide) (v := .ref (ga g 43)) (ce_90 g _) rfl dX9_image_5 rfl ?_
  refine k_callVV C 11 (As := [.ref (ga g 43)]) (st := []) 44 (by decide) (ce_wld g _ (show 1 < 2 by decide)) rfl rfl mwX9_331 vlX8_copyFrom (qX8_copyFrom_1 l g M hn h12 hcov h0 h600 h1 h601 ht h60 hfit hu h24) mlX8_copyFrom (by decide) (by decide) rfl rfl (Nat.le_of_ble_eq_true rfl) dX9_image_8 rfl (fun M1 hW => ?_)
  refine k_aload_n C 12 0 rfl rfl dX9_image_11 rfl ?_
  refine k_dup C 13 rfl dX9_image_12 rfl ?_
  refine k_get C 16 flX9_334 90 (by decide) (v := .int ((M1) 90 2)) (ce_90 g _) rfl dX9_image_13 rfl ?_
  refine k_teq (y := M 90 2) (by rw [hW.2.2.2.2.2.2 90 (by decide) (by decide) (by decide) (by decide) (by decide) (by decide) (by decide) (by decide) (by decide)]) ?_
  refine k_iconst C 17 (v := 1) (by decide) dX9_image_16 rfl ?_
  refine k_iadd C 18 dX9_image_17 rfl ?_
  refine k_put C 21 flX9_334 plX9 90 (by decide) (ce_90 g _) (ce_90 g _) (Nat.le_of_ble_eq_true rfl) rfl rfl rfl dX9_image_18 rfl ?_
  refine k_aload_n C 22 0 rfl rfl dX9_image_21 rfl ?_
  refine k_get C 25 flX9_334 90 (by decide) (v := .int ((mu M1 90 2 ((M 90 2) + 1)) 90 2)) (ce_90 g _) rfl dX9_image_22 rfl ?_
  refine k_teq (show (mu M1 90 2 ((M 90 2) + 1)) 90 2 = (M 90 2) + 1 by simp [mu_at]) ?_
  refine k_ret C rfl dX9_image_25 ?_
  exact ⟨M1, hW, rfl, rfl⟩
set_option maxHeartbeats 4000000 in
set_option maxRecDepth 20000 in
theorem qX9_restore_0 (l : Launch) (g : GT) (M : Mem) (h : M 90 2 = 0) : CtrE l g yX9_restore cX9_restore 1 (some .int) 1 [.ref (ga g 90)] M (-1000000002) (mu M 89 2 (M 89 2 + 1)) := by
  refine ctrI_of (by decide +kernel) (Nat.le_of_ble_eq_true rfl) ?_
  intro pP eE RR sS mI aG bB mE cD C
  refine k_lo (lo' := [(0, .ref (ga g 90))]) rfl ?_
  refine k_aload_n C 1 0 rfl rfl dX9_restore_0 rfl ?_
  refine k_get C 4 flX9_334 90 (by decide) (v := .int ((M) 90 2)) (ce_90 g _) rfl dX9_restore_1 rfl ?_
  refine k_if_ne C 15 7 dX9_restore_4 (by decide) rfl (fun c4 => ?_) (fun d4 => ?_)
  · skip
    exact absurd h c4
  · skip
    refine k_aload_n C 8 0 rfl rfl dX9_restore_7 rfl ?_
    refine k_ldcw C 11 cwX9_280 dX9_restore_8 rfl ?_
    refine k_callVE C 14 (As := [.int (-1000000002)]) (st := []) 90 (by decide) (ce_90 g _) rfl rfl mwX9_88 vlX9_refuse (qX9_refuse l g M (-1000000002) (k := 2) (by decide) (by decide) (by decide)) mlX9_refuse (by decide) (by decide) rfl rfl (Nat.le_of_ble_eq_true rfl) dX9_restore_11 rfl ?_
    refine k_ret C rfl dX9_restore_14 ?_
    exact ⟨rfl, rfl⟩
set_option maxHeartbeats 4000000 in
set_option maxRecDepth 20000 in
theorem qX9_restore_t (l : Launch) (g : GT) (M : Mem) {n n0 n1 t u : Nat} (hn : M 38 1 = nI n) (h12 : n ≤ 12) (hcov : ∀ i, i < n → M (12 * 1 + i) 6 = 0 ∨ M (12 * 1 + i) 6 = 1) (h0 : M 49 1 = nI n0) (h600 : n0 ≤ 60) (h1 : M 50 1 = nI n1) (h601 : n1 ≤ 60) (ht : M 44 3 = nI t) (h60 : t ≤ 60) (hfit : ∀ i, i < t → fits .byte (.int (M 63 i)) = true) (hu : M 44 5 = nI u) (h24 : u ≤ 24) (h : ¬ M 90 2 = 0) : CtrI l g yX9_restore cX9_restore 1 (some .int) 4 [.ref (ga g 90)] M (fun r M1 => cpW M M1 0 1 n n0 n1 t u ∧ r = M 38 2) := by
  refine ctrI_of (by decide +kernel) (Nat.le_of_ble_eq_true rfl) ?_
  intro pP eE RR sS mI aG bB mE cD C
  refine k_lo (lo' := [(0, .ref (ga g 90))]) rfl ?_
  refine k_aload_n C 1 0 rfl rfl dX9_restore_0 rfl ?_
  refine k_get C 4 flX9_334 90 (by decide) (v := .int ((M) 90 2)) (ce_90 g _) rfl dX9_restore_1 rfl ?_
  refine k_if_ne C 15 7 dX9_restore_4 (by decide) rfl (fun c4 => ?_) (fun d4 => ?_)
  · skip
    refine k_aload_n C 16 0 rfl rfl dX9_restore_15 rfl ?_
    refine k_get C 19 flX9_12 90 (by decide) (v := .ref (ga g 43)) (ce_90 g _) rfl dX9_restore_16 rfl ?_
    refine k_aload_n C 20 0 rfl rfl dX9_restore_19 rfl ?_
    refine k_get C 23 flX9_16 90 (by decide) (v := .ref (ga g 44)) (ce_90 g _) rfl dX9_restore_20 rfl ?_
    refine k_callVV C 26 (As := [.ref (ga g 44)]) (st := []) 43 (by decide) (ce_wld g _ (show 0 < 2 by decide)) rfl rfl mwX9_331 vlX8_copyFrom (qX8_copyFrom_0 l g M hn h12 hcov h0 h600 h1 h601 ht h60 hfit hu h24) mlX8_copyFrom (by decide) (by decide) rfl rfl (Nat.le_of_ble_eq_true rfl) dX9_restore_23 rfl (fun M1 hW => ?_)
    refine k_aload_n C 27 0 rfl rfl dX9_restore_26 rfl ?_
    refine k_get C 30 flX9_12 90 (by decide) (v := .ref (ga g 43)) (ce_90 g _) rfl dX9_restore_27 rfl ?_
    refine k_get C 33 flX9_92 43 (by decide) (v := .ref (ga g 37)) (ce_wld g _ (show 0 < 2 by decide)) rfl dX9_restore_30 rfl ?_
    refine k_get C 36 flX9_213 37 (by decide) (v := .int ((M1) 37 2)) (ce_fld g _ (show 0 < 3 by decide)) rfl dX9_restore_33 rfl ?_
    refine k_teq (y := M 38 2) (hW.2.1 2 (by decide) (by decide)) ?_
    refine k_ret C rfl dX9_restore_36 ?_
    exact ⟨hW, rfl⟩
  · skip
    exact absurd d4 h
