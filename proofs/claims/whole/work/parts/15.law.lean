-- the class: Law
theorem evM_not {j : Nat} (hj : j < 5) (M : Mem) (v : Nat → Int32) (k h : Nat) (h0 : ¬ 0 ≤ M (52 + j) k) (h3 : ¬ -3 ≤ M (52 + j) k) (h33 : M (52 + j) k = -33) (hh : hgt (M (52 + j)) k = h + 1) {b : Bool} (hb : decide (evM M j v k (57 + j) h = 0) = b) : sA (M (52 + j)) v (M (57 + j)) (k + 1) = upd (sA (M (52 + j)) v (M (57 + j)) k) h (b2i b) := by
  have e : hgt (M (52 + j)) k - 1 = h := by omega
  rw [evM_s] at hb
  simp only [sA, if_neg h0, if_neg h3, if_pos h33, e, hb]
theorem evM_bin {j : Nat} (hj : j < 5) (M : Mem) (v : Nat → Int32) (k h : Nat) (h0 : ¬ 0 ≤ M (52 + j) k) (h3 : ¬ -3 ≤ M (52 + j) k) (h33 : ¬ M (52 + j) k = -33) (hh : hgt (M (52 + j)) k = h + 1 + 1) : sA (M (52 + j)) v (M (57 + j)) (k + 1) = upd (sA (M (52 + j)) v (M (57 + j)) k) h (pJoin (-(M (52 + j) k)) (evM M j v k (57 + j) h) (evM M j v k (57 + j) (h + 1))) := by
  have e : hgt (M (52 + j)) k - 2 = h := by omega
  have e1 : hgt (M (52 + j)) k - 1 = h + 1 := by omega
  rw [evM_s]
  simp only [sA, if_neg h0, if_neg h3, if_neg h33, e, e1]
set_option maxHeartbeats 4000000 in
set_option maxRecDepth 20000 in
theorem qX3_isGiven (l : Launch) (g : GT) (M : Mem) {j : Nat} (hj : j < 5) {n : Nat} (hn : M (47 + j) 1 = nI n) (h60 : n ≤ 60) : CtrE l g yX3_isGiven cX3_isGiven 1 (some .boolean) 0 [.ref (ga g (47 + j))] M (b2i (decide (0 < n))) M := by
  refine ctrI_of (by decide +kernel) (Nat.le_of_ble_eq_true rfl) ?_
  intro pP eE RR sS mI aG bB mE cD C
  refine k_lo (lo' := [(0, .ref (ga g (47 + j)))]) rfl ?_
  refine k_aload_n C 1 0 rfl rfl dX3_isGiven_0 rfl ?_
  refine k_get C 4 flX3_18 (47 + j) (lt105_law hj) (v := .int ((M) (47 + j) 1)) (ce_law g _ hj) rfl dX3_isGiven_1 rfl ?_
  refine k_teq (y := nI n) hn ?_
  refine k_if_le C 11 7 dX3_isGiven_4 (by decide) rfl (fun c4 => ?_) (fun d4 => ?_)
  · skip
    have c4 := (nI_leI (by omega) (by omega)).mp (show nI n ≤ nI 0 from c4)
    refine k_iconst C 12 (v := 0) (by decide) dX3_isGiven_11 rfl ?_
    refine k_ret C rfl dX3_isGiven_12 ?_
    exact ⟨b2i_neg (by simp; omega), rfl⟩
  · skip
    have d4 := mt (nI_leI (by omega) (by omega)).mpr (show ¬ (nI n ≤ nI 0) from d4)
    refine k_iconst C 8 (v := 1) (by decide) dX3_isGiven_7 rfl ?_
    refine k_goto C 12 dX3_isGiven_8 (by decide) ?_
    refine k_ret C rfl dX3_isGiven_12 ?_
    exact ⟨b2i_pos (by simp; omega), rfl⟩
set_option maxHeartbeats 4000000 in
set_option maxRecDepth 20000 in
theorem qX3_clear (l : Launch) (g : GT) (M : Mem) {j : Nat} (hj : j < 5)  : CtrU l g yX3_clear cX3_clear 1 0 [.ref (ga g (47 + j))] M (mu M (47 + j) 1 0) := by
  refine ctrV_of (by decide +kernel) (Nat.le_of_ble_eq_true rfl) ?_
  intro pP eE RR sS mI aG bB mE cD C
  refine k_lo (lo' := [(0, .ref (ga g (47 + j)))]) rfl ?_
  refine k_aload_n C 1 0 rfl rfl dX3_clear_0 rfl ?_
  refine k_iconst C 2 (v := 0) (by decide) dX3_clear_1 rfl ?_
  refine k_put C 5 flX3_18 plX3 (47 + j) (lt105_law hj) (ce_law g _ hj) (ce_law g _ hj) (Nat.le_of_ble_eq_true rfl) rfl rfl rfl dX3_clear_2 rfl ?_
  refine k_vret C dX3_clear_5 ?_
  rfl
set_option maxHeartbeats 4000000 in
set_option maxRecDepth 20000 in
theorem qX3_add (l : Launch) (g : GT) (M : Mem) {j : Nat} (hj : j < 5) {n : Nat} (hn : M (47 + j) 1 = nI n) (h60 : n < 60) (x : Int32) : CtrU l g yX3_add cX3_add 2 0 [.ref (ga g (47 + j)), .int x] M (mu (mu M (52 + j) n x) (47 + j) 1 (nI (n + 1))) := by
  refine ctrV_of (by decide +kernel) (Nat.le_of_ble_eq_true rfl) ?_
  intro pP eE RR sS mI aG bB mE cD C
  refine k_lo (lo' := [(0, .ref (ga g (47 + j))), (1, .int x)]) rfl ?_
  have hx : ¬ (47 + j = 52 + j) := by omega
  refine k_aload_n C 1 0 rfl rfl dX3_add_0 rfl ?_
  refine k_get C 4 flX3_18 (47 + j) (lt105_law hj) (v := .int ((M) (47 + j) 1)) (ce_law g _ hj) rfl dX3_add_1 rfl ?_
  refine k_teq (y := nI n) hn ?_
  refine k_aload_n C 5 0 rfl rfl dX3_add_4 rfl ?_
  refine k_get C 8 flX3_9 (47 + j) (lt105_law hj) (v := .ref (ga g (52 + j))) (ce_law g _ hj) rfl dX3_add_5 rfl ?_
  refine k_alen C 9 (52 + j) 0 (lt105_lp hj) (ce_lp g hj _) rfl (v := 60) rfl dX3_add_8 rfl ?_
  refine k_icmp_ge C 32 12 dX3_add_9 (by decide) rfl (fun c9 => ?_) (fun d9 => ?_)
  · skip
    have c9 := (nI_leI (by omega) (by omega)).mp (show nI 60 ≤ nI n from c9)
    exact absurd c9 (by omega)
  · skip
    have d9 := mt (nI_leI (by omega) (by omega)).mpr (show ¬ (nI 60 ≤ nI n) from d9)
    refine k_aload_n C 13 0 rfl rfl dX3_add_12 rfl ?_
    refine k_get C 16 flX3_9 (47 + j) (lt105_law hj) (v := .ref (ga g (52 + j))) (ce_law g _ hj) rfl dX3_add_13 rfl ?_
    refine k_aload_n C 17 0 rfl rfl dX3_add_16 rfl ?_
    refine k_get C 20 flX3_18 (47 + j) (lt105_law hj) (v := .int ((M) (47 + j) 1)) (ce_law g _ hj) rfl dX3_add_17 rfl ?_
    refine k_teq (y := nI n) hn ?_
    refine k_iload_n C 21 1 rfl rfl dX3_add_20 rfl ?_
    refine k_iast C 22 (52 + j) n (lt105_lp hj) (ce_lp g hj) (by decide) rfl (by omega) dX3_add_21 rfl ?_
    refine k_aload_n C 23 0 rfl rfl dX3_add_22 rfl ?_
    refine k_dup C 24 rfl dX3_add_23 rfl ?_
    refine k_get C 27 flX3_18 (47 + j) (lt105_law hj) (v := .int ((mu M (52 + j) n x) (47 + j) 1)) (ce_law g _ hj) rfl dX3_add_24 rfl ?_
    refine k_teq (show (mu M (52 + j) n x) (47 + j) 1 = M (47 + j) 1 by simp [mu_at, hx]) ?_
    refine k_teq (y := nI n) hn ?_
    refine k_iconst C 28 (v := 1) (by decide) dX3_add_27 rfl ?_
    refine k_iadd C 29 dX3_add_28 rfl ?_
    refine k_teq (nI_add n 1) ?_
    refine k_put C 32 flX3_18 plX3 (47 + j) (lt105_law hj) (ce_law g _ hj) (ce_law g _ hj) (Nat.le_of_ble_eq_true rfl) rfl rfl rfl dX3_add_29 rfl ?_
    refine k_vret C dX3_add_32 ?_
    rfl
set_option maxHeartbeats 4000000 in
set_option maxRecDepth 20000 in
theorem qX3_copyFrom (l : Launch) (g : GT) (M : Mem) {j : Nat} (hj : j < 5) {j2 : Nat} (hj2 : j2 < 5) {n : Nat} (hn : M (47 + j2) 1 = nI n) (h60 : n ≤ 60) : CtrU l g yX3_copyFrom cX3_copyFrom 2 0 [.ref (ga g (47 + j)), .ref (ga g (47 + j2))] M (mu (mrow M (52 + j) (va_cpy (M (52 + j2)) (M (52 + j)) 0 0 n)) (47 + j) 1 (nI n)) := by
  refine ctrV_of (by decide +kernel) (Nat.le_of_ble_eq_true rfl) ?_
  intro pP eE RR sS mI aG bB mE cD C
  refine k_lo (lo' := [(0, .ref (ga g (47 + j))), (1, .ref (ga g (47 + j2)))]) rfl ?_
  refine k_aload_n C 1 1 rfl rfl dX3_copyFrom_0 rfl ?_
  refine k_get C 4 flX3_9 (47 + j2) (lt105_law hj2) (v := .ref (ga g (52 + j2))) (ce_law g _ hj2) rfl dX3_copyFrom_1 rfl ?_
  refine k_iconst C 5 (v := 0) (by decide) dX3_copyFrom_4 rfl ?_
  refine k_aload_n C 6 0 rfl rfl dX3_copyFrom_5 rfl ?_
  refine k_get C 9 flX3_9 (47 + j) (lt105_law hj) (v := .ref (ga g (52 + j))) (ce_law g _ hj) rfl dX3_copyFrom_6 rfl ?_
  refine k_iconst C 10 (v := 0) (by decide) dX3_copyFrom_9 rfl ?_
  refine k_aload_n C 11 1 rfl rfl dX3_copyFrom_10 rfl ?_
  refine k_get C 14 flX3_18 (47 + j2) (lt105_law hj2) (v := .int ((M) (47 + j2) 1)) (ce_law g _ hj2) rfl dX3_copyFrom_11 rfl ?_
  refine k_teq (y := nI n) hn ?_
  refine k_copy C 17 (52 + j2) (52 + j) 0 0 n 0 mwX3_22 (lt105_lp hj2) (lt105_lp hj) (ce_lp g hj2) (ce_lp g hj) rfl rfl rfl rfl rfl (by omega) (by omega) (by decide) (by decide) (fun _ _ => rfl) (Nat.le_of_ble_eq_true rfl) dX3_copyFrom_14 rfl ?_
  refine k_aload_n C 18 0 rfl rfl dX3_copyFrom_17 rfl ?_
  refine k_aload_n C 19 1 rfl rfl dX3_copyFrom_18 rfl ?_
  refine k_get C 22 flX3_18 (47 + j2) (lt105_law hj2) (v := .int ((mrow M (52 + j) (va_cpy (M (52 + j2)) (M (52 + j)) 0 0 n)) (47 + j2) 1)) (ce_law g _ hj2) rfl dX3_copyFrom_19 rfl ?_
  refine k_teq (y := nI n) (by rw [mrow_n _ _ (by omega)]; exact hn) ?_
  refine k_put C 25 flX3_18 plX3 (47 + j) (lt105_law hj) (ce_law g _ hj) (ce_law g _ hj) (Nat.le_of_ble_eq_true rfl) rfl rfl rfl dX3_copyFrom_22 rfl ?_
  refine k_vret C dX3_copyFrom_25 ?_
  rfl
set_option maxHeartbeats 4000000 in
set_option maxRecDepth 20000 in
theorem qX3_push (l : Launch) (g : GT) (M : Mem) {j : Nat} (hj : j < 5) {h : Nat} (hh : M (47 + j) 3 = nI h) (h60 : h < 60) (x : Int32) : CtrU l g yX3_push cX3_push 2 0 [.ref (ga g (47 + j)), .int x] M (mu (mu M (57 + j) h x) (47 + j) 3 (nI (h + 1))) := by
  refine ctrV_of (by decide +kernel) (Nat.le_of_ble_eq_true rfl) ?_
  intro pP eE RR sS mI aG bB mE cD C
  refine k_lo (lo' := [(0, .ref (ga g (47 + j))), (1, .int x)]) rfl ?_
  have hx : ¬ (47 + j = 57 + j) := by omega
  refine k_aload_n C 1 0 rfl rfl dX3_push_0 rfl ?_
  refine k_get C 4 flX3_28 (47 + j) (lt105_law hj) (v := .int ((M) (47 + j) 3)) (ce_law g _ hj) rfl dX3_push_1 rfl ?_
  refine k_teq (y := nI h) hh ?_
  refine k_aload_n C 5 0 rfl rfl dX3_push_4 rfl ?_
  refine k_get C 8 flX3_15 (47 + j) (lt105_law hj) (v := .ref (ga g (57 + j))) (ce_law g _ hj) rfl dX3_push_5 rfl ?_
  refine k_alen C 9 (57 + j) 0 (lt105_ls hj) (ce_ls g hj _) rfl (v := 60) rfl dX3_push_8 rfl ?_
  refine k_icmp_ge C 32 12 dX3_push_9 (by decide) rfl (fun c9 => ?_) (fun d9 => ?_)
  · skip
    have c9 := (nI_leI (by omega) (by omega)).mp (show nI 60 ≤ nI h from c9)
    exact absurd c9 (by omega)
  · skip
    have d9 := mt (nI_leI (by omega) (by omega)).mpr (show ¬ (nI 60 ≤ nI h) from d9)
    refine k_aload_n C 13 0 rfl rfl dX3_push_12 rfl ?_
    refine k_get C 16 flX3_15 (47 + j) (lt105_law hj) (v := .ref (ga g (57 + j))) (ce_law g _ hj) rfl dX3_push_13 rfl ?_
    refine k_aload_n C 17 0 rfl rfl dX3_push_16 rfl ?_
    refine k_get C 20 flX3_28 (47 + j) (lt105_law hj) (v := .int ((M) (47 + j) 3)) (ce_law g _ hj) rfl dX3_push_17 rfl ?_
    refine k_teq (y := nI h) hh ?_
    refine k_iload_n C 21 1 rfl rfl dX3_push_20 rfl ?_
    refine k_iast C 22 (57 + j) h (lt105_ls hj) (ce_ls g hj) (by decide) rfl (by omega) dX3_push_21 rfl ?_
    refine k_aload_n C 23 0 rfl rfl dX3_push_22 rfl ?_
    refine k_dup C 24 rfl dX3_push_23 rfl ?_
    refine k_get C 27 flX3_28 (47 + j) (lt105_law hj) (v := .int ((mu M (57 + j) h x) (47 + j) 3)) (ce_law g _ hj) rfl dX3_push_24 rfl ?_
    refine k_teq (show (mu M (57 + j) h x) (47 + j) 3 = M (47 + j) 3 by simp [mu_at, hx]) ?_
    refine k_teq (y := nI h) hh ?_
    refine k_iconst C 28 (v := 1) (by decide) dX3_push_27 rfl ?_
    refine k_iadd C 29 dX3_push_28 rfl ?_
    refine k_teq (nI_add h 1) ?_
    refine k_put C 32 flX3_28 plX3 (47 + j) (lt105_law hj) (ce_law g _ hj) (ce_law g _ hj) (Nat.le_of_ble_eq_true rfl) rfl rfl rfl dX3_push_29 rfl ?_
    refine k_vret C dX3_push_32 ?_
    rfl
set_option maxHeartbeats 4000000 in
set_option maxRecDepth 20000 in
theorem qX3_pop (l : Launch) (g : GT) (M : Mem) {j : Nat} (hj : j < 5) {h : Nat} (hh : M (47 + j) 3 = nI (h + 1)) (h60 : h < 60) : CtrE l g yX3_pop cX3_pop 1 (some .int) 0 [.ref (ga g (47 + j))] M (M (57 + j) h) (mu M (47 + j) 3 (nI h)) := by
  refine ctrI_of (by decide +kernel) (Nat.le_of_ble_eq_true rfl) ?_
  intro pP eE RR sS mI aG bB mE cD C
  refine k_lo (lo' := [(0, .ref (ga g (47 + j)))]) rfl ?_
  have hx : ¬ (57 + j = 47 + j) := by omega
  refine k_aload_n C 1 0 rfl rfl dX3_pop_0 rfl ?_
  refine k_get C 4 flX3_28 (47 + j) (lt105_law hj) (v := .int ((M) (47 + j) 3)) (ce_law g _ hj) rfl dX3_pop_1 rfl ?_
  refine k_teq (y := nI (h + 1)) hh ?_
  refine k_if_ne C 9 7 dX3_pop_4 (by decide) rfl (fun c4 => ?_) (fun d4 => ?_)
  · skip
    have c4 := mt (nI_eq (by omega) (by omega)).mpr (show ¬ (nI (h + 1) = nI 0) from c4)
    refine k_aload_n C 10 0 rfl rfl dX3_pop_9 rfl ?_
    refine k_dup C 11 rfl dX3_pop_10 rfl ?_
    refine k_get C 14 flX3_28 (47 + j) (lt105_law hj) (v := .int ((M) (47 + j) 3)) (ce_law g _ hj) rfl dX3_pop_11 rfl ?_
    refine k_teq (y := nI (h + 1)) hh ?_
    refine k_iconst C 15 (v := 1) (by decide) dX3_pop_14 rfl ?_
    refine k_isub C 16 dX3_pop_15 rfl ?_
    refine k_teq (y := nI h) (nI_pred h) ?_
    refine k_put C 19 flX3_28 plX3 (47 + j) (lt105_law hj) (ce_law g _ hj) (ce_law g _ hj) (Nat.le_of_ble_eq_true rfl) rfl rfl rfl dX3_pop_16 rfl ?_
    refine k_aload_n C 20 0 rfl rfl dX3_pop_19 rfl ?_
    refine k_get C 23 flX3_15 (47 + j) (lt105_law hj) (v := .ref (ga g (57 + j))) (ce_law g _ hj) rfl dX3_pop_20 rfl ?_
    refine k_aload_n C 24 0 rfl rfl dX3_pop_23 rfl ?_
    refine k_get C 27 flX3_28 (47 + j) (lt105_law hj) (v := .int ((mu M (47 + j) 3 (nI h)) (47 + j) 3)) (ce_law g _ hj) rfl dX3_pop_24 rfl ?_
    refine k_teq (show (mu M (47 + j) 3 (nI h)) (47 + j) 3 = nI h by simp [mu_at, hx]) ?_
    refine k_iald C 28 (57 + j) h (lt105_ls hj) (ce_ls g hj) (by decide) rfl (by omega) dX3_pop_27 rfl ?_
    refine k_teq (show (mu M (47 + j) 3 (nI h)) (57 + j) h = M (57 + j) h by simp [mu_at, hx]) ?_
    refine k_ret C rfl dX3_pop_28 ?_
    exact ⟨rfl, rfl⟩
  · skip
    have d4 := (nI_eq (by omega) (by omega)).mp (show nI (h + 1) = nI 0 from d4)
    exact absurd d4 (by omega)
set_option maxHeartbeats 4000000 in
set_option maxRecDepth 20000 in
theorem qX3_join (l : Launch) (g : GT) (M : Mem) (s x y : Int32) : CtrE l g yX3_join cX3_join 3 (some .int) 1 [.int s, .int x, .int y] M (pJoin s x y) M := by
  refine ctrI_of (by decide +kernel) (Nat.le_of_ble_eq_true rfl) ?_
  intro pP eE RR sS mI aG bB mE cD C
  refine k_lo (lo' := [(0, .int s), (1, .int x), (2, .int y)]) rfl ?_
  refine k_iload_n C 1 0 rfl rfl dX3_join_0 rfl ?_
  by_cases w1_37 : s = 37
  · skip
    refine k_look C 192 (by decide) (by rw [w1_37]) dX3_join_1 (by decide) ?_
    refine k_iload_n C 193 2 rfl rfl dX3_join_192 rfl ?_
    refine k_if_ne C 200 196 dX3_join_193 (by decide) rfl (fun c193 => ?_) (fun d193 => ?_)
    · skip
      refine k_iload_n C 201 1 rfl rfl dX3_join_200 rfl ?_
      refine k_iload_n C 202 2 rfl rfl dX3_join_201 rfl ?_
      refine k_irem C 203 c193 dX3_join_202 rfl ?_
      refine k_ret C rfl dX3_join_203 ?_
      exact ⟨by simp [pJoin, b2i, w1_37, c193], rfl⟩
    · skip
      refine k_iconst C 197 (v := 0) (by decide) dX3_join_196 rfl ?_
      refine k_goto C 203 dX3_join_197 (by decide) ?_
      refine k_ret C rfl dX3_join_203 ?_
      exact ⟨by simp [pJoin, b2i, w1_37, d193], rfl⟩
  · skip
    by_cases w1_38 : s = 38
    · skip
      refine k_look C 109 (by decide) (by rw [w1_38]) dX3_join_1 (by decide) ?_
      refine k_iload_n C 110 1 rfl rfl dX3_join_109 rfl ?_
      refine k_if_eq C 121 113 dX3_join_110 (by decide) rfl (fun c110 => ?_) (fun d110 => ?_)
      · skip
        refine k_iconst C 122 (v := 0) (by decide) dX3_join_121 rfl ?_
        refine k_callNE C 125 (As := [.int 0]) (st := []) nwX3_39 skX9_asNumber (qX9_asNumber l g M false) mlX9_asNumber (by decide) (by decide) rfl rfl (Nat.le_of_ble_eq_true rfl) dX3_join_122 rfl ?_
        refine k_ret C rfl dX3_join_125 ?_
        exact ⟨by simp [pJoin, b2i, w1_38, c110], rfl⟩
      · skip
        refine k_iload_n C 114 2 rfl rfl dX3_join_113 rfl ?_
        refine k_if_eq C 121 117 dX3_join_114 (by decide) rfl (fun c114 => ?_) (fun d114 => ?_)
        · skip
          refine k_iconst C 122 (v := 0) (by decide) dX3_join_121 rfl ?_
          refine k_callNE C 125 (As := [.int 0]) (st := []) nwX3_39 skX9_asNumber (qX9_asNumber l g M false) mlX9_asNumber (by decide) (by decide) rfl rfl (Nat.le_of_ble_eq_true rfl) dX3_join_122 rfl ?_
          refine k_ret C rfl dX3_join_125 ?_
          exact ⟨by simp [pJoin, b2i, w1_38, d110, c114], rfl⟩
        · skip
          refine k_iconst C 118 (v := 1) (by decide) dX3_join_117 rfl ?_
          refine k_goto C 122 dX3_join_118 (by decide) ?_
          refine k_callNE C 125 (As := [.int 1]) (st := []) nwX3_39 skX9_asNumber (qX9_asNumber l g M true) mlX9_asNumber (by decide) (by decide) rfl rfl (Nat.le_of_ble_eq_true rfl) dX3_join_122 rfl ?_
          refine k_ret C rfl dX3_join_125 ?_
          exact ⟨by simp [pJoin, b2i, w1_38, d110, d114], rfl⟩
    · skip
      by_cases w1_42 : s = 42
      · skip
        refine k_look C 176 (by decide) (by rw [w1_42]) dX3_join_1 (by decide) ?_
        refine k_iload_n C 177 1 rfl rfl dX3_join_176 rfl ?_
        refine k_iload_n C 178 2 rfl rfl dX3_join_177 rfl ?_
        refine k_imul C 179 dX3_join_178 rfl ?_
        refine k_ret C rfl dX3_join_179 ?_
        exact ⟨by simp [pJoin, b2i, w1_42], rfl⟩
      · skip
        by_cases w1_43 : s = 43
        · skip
          refine k_look C 168 (by decide) (by rw [w1_43]) dX3_join_1 (by decide) ?_
          refine k_iload_n C 169 1 rfl rfl dX3_join_168 rfl ?_
          refine k_iload_n C 170 2 rfl rfl dX3_join_169 rfl ?_
          refine k_iadd C 171 dX3_join_170 rfl ?_
          refine k_ret C rfl dX3_join_171 ?_
          exact ⟨by simp [pJoin, b2i, w1_43], rfl⟩
        · skip
          by_cases w1_45 : s = 45
          · skip
            refine k_look C 172 (by decide) (by rw [w1_45]) dX3_join_1 (by decide) ?_
            refine k_iload_n C 173 1 rfl rfl dX3_join_172 rfl ?_
            refine k_iload_n C 174 2 rfl rfl dX3_join_173 rfl ?_
            refine k_isub C 175 dX3_join_174 rfl ?_
            refine k_ret C rfl dX3_join_175 ?_
            exact ⟨by simp [pJoin, b2i, w1_45], rfl⟩
          · skip
            by_cases w1_47 : s = 47
            · skip
              refine k_look C 180 (by decide) (by rw [w1_47]) dX3_join_1 (by decide) ?_
              refine k_iload_n C 181 2 rfl rfl dX3_join_180 rfl ?_
              refine k_if_ne C 188 184 dX3_join_181 (by decide) rfl (fun c181 => ?_) (fun d181 => ?_)
              · skip
                refine k_iload_n C 189 1 rfl rfl dX3_join_188 rfl ?_
                refine k_iload_n C 190 2 rfl rfl dX3_join_189 rfl ?_
                refine k_idiv C 191 c181 dX3_join_190 rfl ?_
                refine k_ret C rfl dX3_join_191 ?_
                exact ⟨by simp [pJoin, b2i, w1_47, c181], rfl⟩
              · skip
                refine k_iconst C 185 (v := 0) (by decide) dX3_join_184 rfl ?_
                refine k_goto C 191 dX3_join_185 (by decide) ?_
                refine k_ret C rfl dX3_join_191 ?_
                exact ⟨by simp [pJoin, b2i, w1_47, d181], rfl⟩
            · skip
              by_cases w1_60 : s = 60
              · skip
                refine k_look C 126 (by decide) (by rw [w1_60]) dX3_join_1 (by decide) ?_
                refine k_iload_n C 127 1 rfl rfl dX3_join_126 rfl ?_
                refine k_iload_n C 128 2 rfl rfl dX3_join_127 rfl ?_
                refine k_icmp_ge C 135 131 dX3_join_128 (by decide) rfl (fun c128 => ?_) (fun d128 => ?_)
                · skip
                  refine k_iconst C 136 (v := 0) (by decide) dX3_join_135 rfl ?_
                  refine k_callNE C 139 (As := [.int 0]) (st := []) nwX3_39 skX9_asNumber (qX9_asNumber l g M false) mlX9_asNumber (by decide) (by decide) rfl rfl (Nat.le_of_ble_eq_true rfl) dX3_join_136 rfl ?_
                  refine k_ret C rfl dX3_join_139 ?_
                  exact ⟨by simp [pJoin, b2i, w1_60, c128], rfl⟩
                · skip
                  refine k_iconst C 132 (v := 1) (by decide) dX3_join_131 rfl ?_
                  refine k_goto C 136 dX3_join_132 (by decide) ?_
                  refine k_callNE C 139 (As := [.int 1]) (st := []) nwX3_39 skX9_asNumber (qX9_asNumber l g M true) mlX9_asNumber (by decide) (by decide) rfl rfl (Nat.le_of_ble_eq_true rfl) dX3_join_136 rfl ?_
                  refine k_ret C rfl dX3_join_139 ?_
                  exact ⟨by simp [pJoin, b2i, w1_60, d128], rfl⟩
              · skip
                by_cases w1_61 : s = 61
                · skip
                  refine k_look C 140 (by decide) (by rw [w1_61]) dX3_join_1 (by decide) ?_
                  refine k_iload_n C 141 1 rfl rfl dX3_join_140 rfl ?_
                  refine k_iload_n C 142 2 rfl rfl dX3_join_141 rfl ?_
                  refine k_icmp_ne C 149 145 dX3_join_142 (by decide) rfl (fun c142 => ?_) (fun d142 => ?_)
                  · skip
                    refine k_iconst C 150 (v := 0) (by decide) dX3_join_149 rfl ?_
                    refine k_callNE C 153 (As := [.int 0]) (st := []) nwX3_39 skX9_asNumber (qX9_asNumber l g M false) mlX9_asNumber (by decide) (by decide) rfl rfl (Nat.le_of_ble_eq_true rfl) dX3_join_150 rfl ?_
                    refine k_ret C rfl dX3_join_153 ?_
                    exact ⟨by simp [pJoin, b2i, w1_61, c142], rfl⟩
                  · skip
                    refine k_iconst C 146 (v := 1) (by decide) dX3_join_145 rfl ?_
                    refine k_goto C 150 dX3_join_146 (by decide) ?_
                    refine k_callNE C 153 (As := [.int 1]) (st := []) nwX3_39 skX9_asNumber (qX9_asNumber l g M true) mlX9_asNumber (by decide) (by decide) rfl rfl (Nat.le_of_ble_eq_true rfl) dX3_join_150 rfl ?_
                    refine k_ret C rfl dX3_join_153 ?_
                    exact ⟨by simp [pJoin, b2i, w1_61, d142], rfl⟩
                · skip
                  by_cases w1_62 : s = 62
                  · skip
                    refine k_look C 154 (by decide) (by rw [w1_62]) dX3_join_1 (by decide) ?_
                    refine k_iload_n C 155 1 rfl rfl dX3_join_154 rfl ?_
                    refine k_iload_n C 156 2 rfl rfl dX3_join_155 rfl ?_
                    refine k_icmp_le C 163 159 dX3_join_156 (by decide) rfl (fun c156 => ?_) (fun d156 => ?_)
                    · skip
                      refine k_iconst C 164 (v := 0) (by decide) dX3_join_163 rfl ?_
                      refine k_callNE C 167 (As := [.int 0]) (st := []) nwX3_39 skX9_asNumber (qX9_asNumber l g M false) mlX9_asNumber (by decide) (by decide) rfl rfl (Nat.le_of_ble_eq_true rfl) dX3_join_164 rfl ?_
                      refine k_ret C rfl dX3_join_167 ?_
                      exact ⟨by simp [pJoin, b2i, w1_62, c156], rfl⟩
                    · skip
                      refine k_iconst C 160 (v := 1) (by decide) dX3_join_159 rfl ?_
                      refine k_goto C 164 dX3_join_160 (by decide) ?_
                      refine k_callNE C 167 (As := [.int 1]) (st := []) nwX3_39 skX9_asNumber (qX9_asNumber l g M true) mlX9_asNumber (by decide) (by decide) rfl rfl (Nat.le_of_ble_eq_true rfl) dX3_join_164 rfl ?_
                      refine k_ret C rfl dX3_join_167 ?_
                      exact ⟨by simp [pJoin, b2i, w1_62, d156], rfl⟩
                  · skip
                    by_cases w1_124 : s = 124
                    · skip
                      refine k_look C 92 (by decide) (by rw [w1_124]) dX3_join_1 (by decide) ?_
                      refine k_iload_n C 93 1 rfl rfl dX3_join_92 rfl ?_
                      refine k_if_ne C 100 96 dX3_join_93 (by decide) rfl (fun c93 => ?_) (fun d93 => ?_)
                      · skip
                        refine k_iconst C 101 (v := 1) (by decide) dX3_join_100 rfl ?_
                        refine k_goto C 105 dX3_join_101 (by decide) ?_
                        refine k_callNE C 108 (As := [.int 1]) (st := []) nwX3_39 skX9_asNumber (qX9_asNumber l g M true) mlX9_asNumber (by decide) (by decide) rfl rfl (Nat.le_of_ble_eq_true rfl) dX3_join_105 rfl ?_
                        refine k_ret C rfl dX3_join_108 ?_
                        exact ⟨by simp [pJoin, b2i, w1_124, c93], rfl⟩
                      · skip
                        refine k_iload_n C 97 2 rfl rfl dX3_join_96 rfl ?_
                        refine k_if_eq C 104 100 dX3_join_97 (by decide) rfl (fun c97 => ?_) (fun d97 => ?_)
                        · skip
                          refine k_iconst C 105 (v := 0) (by decide) dX3_join_104 rfl ?_
                          refine k_callNE C 108 (As := [.int 0]) (st := []) nwX3_39 skX9_asNumber (qX9_asNumber l g M false) mlX9_asNumber (by decide) (by decide) rfl rfl (Nat.le_of_ble_eq_true rfl) dX3_join_105 rfl ?_
                          refine k_ret C rfl dX3_join_108 ?_
                          exact ⟨by simp [pJoin, b2i, w1_124, d93, c97], rfl⟩
                        · skip
                          refine k_iconst C 101 (v := 1) (by decide) dX3_join_100 rfl ?_
                          refine k_goto C 105 dX3_join_101 (by decide) ?_
                          refine k_callNE C 108 (As := [.int 1]) (st := []) nwX3_39 skX9_asNumber (qX9_asNumber l g M true) mlX9_asNumber (by decide) (by decide) rfl rfl (Nat.le_of_ble_eq_true rfl) dX3_join_105 rfl ?_
                          refine k_ret C rfl dX3_join_108 ?_
                          exact ⟨by simp [pJoin, b2i, w1_124, d93, d97], rfl⟩
                    · skip
                      refine k_look C 204 (off := 203) (by decide) (by have z0 := i_ne w1_37 (k := 37) rfl; have z1 := i_ne w1_38 (k := 38) rfl; have z2 := i_ne w1_42 (k := 42) rfl; have z3 := i_ne w1_43 (k := 43) rfl; have z4 := i_ne w1_45 (k := 45) rfl; have z5 := i_ne w1_47 (k := 47) rfl; have z6 := i_ne w1_60 (k := 60) rfl; have z7 := i_ne w1_61 (k := 61) rfl; have z8 := i_ne w1_62 (k := 62) rfl; have z9 := i_ne w1_124 (k := 124) rfl; simp [Op.lookupswitch.offset, List.find?, beq_false_of_ne (Ne.symm z0), z0, Ne.symm z0, beq_false_of_ne (Ne.symm z1), z1, Ne.symm z1, beq_false_of_ne (Ne.symm z2), z2, Ne.symm z2, beq_false_of_ne (Ne.symm z3), z3, Ne.symm z3, beq_false_of_ne (Ne.symm z4), z4, Ne.symm z4, beq_false_of_ne (Ne.symm z5), z5, Ne.symm z5, beq_false_of_ne (Ne.symm z6), z6, Ne.symm z6, beq_false_of_ne (Ne.symm z7), z7, Ne.symm z7, beq_false_of_ne (Ne.symm z8), z8, Ne.symm z8, beq_false_of_ne (Ne.symm z9), z9, Ne.symm z9]) dX3_join_1 (by decide) ?_
                      refine k_iconst C 205 (v := 0) (by decide) dX3_join_204 rfl ?_
                      refine k_ret C rfl dX3_join_205 ?_
                      exact ⟨by simp [pJoin, b2i, w1_37, w1_38, w1_42, w1_43, w1_45, w1_47, w1_60, w1_61, w1_62, w1_124], rfl⟩
set_option maxHeartbeats 4000000 in
set_option maxRecDepth 20000 in
theorem qX3_workOut (l : Launch) (g : GT) (M : Mem) {j : Nat} (hj : j < 5) {n : Nat} (hn : M (47 + j) 1 = nI n) (h60 : n ≤ 60) (h1 : 0 < n) (hw : WF n (M (52 + j))) (a b c : Int32) : CtrI l g yX3_workOut cX3_workOut 7 (some .int) 2 [.ref (ga g (47 + j)), .int a, .int b, .int c] M (fun r M1 => r = pVal (M (52 + j)) n (vv a b c) ∧ Sc lawS M M1) := by
  refine ctrI_of (by decide +kernel) (Nat.le_of_ble_eq_true rfl) ?_
  intro pP eE RR sS mI aG bB mE cD C
  refine k_lo (lo' := [(0, .ref (ga g (47 + j))), (1, .int a), (2, .int b), (3, .int c)]) rfl ?_
  obtain ⟨v, hv⟩ : ∃ v, v = vv a b c := ⟨_, rfl⟩
  refine k_aload_n C 1 0 rfl rfl dX3_workOut_0 rfl ?_
  refine k_iconst C 2 (v := 0) (by decide) dX3_workOut_1 rfl ?_
  refine k_put C 5 flX3_28 plX3 (47 + j) (lt105_law hj) (ce_law g _ hj) (ce_law g _ hj) (Nat.le_of_ble_eq_true rfl) rfl rfl rfl dX3_workOut_2 rfl ?_
  refine k_iconst C 6 (v := 0) (by decide) dX3_workOut_5 rfl ?_
  refine k_istore C 8 [(4, .int 0), (0, .ref (ga g (47 + j))), (1, .int a), (2, .int b), (3, .int c)]  (by decide) rfl dX3_workOut_6 rfl ?_
  refine k_sub [(0, .ref (ga g (47 + j))), (1, .int a), (2, .int b), (3, .int c), (4, .int 0)] [1, 2, 3, 4, 0] rfl ?_
  refine k_all (M' := evM M j v 0) (lo' := [(0, .ref (ga g (47 + j))), (1, .int a), (2, .int b), (3, .int c), (4, .int (nI 0))]) (st' := []) (by rw [evM_0 hj]) (by rfl) rfl ?_
  refine k_loop (σ := Nat) (fun (k : Nat) => (k ≤ n)) (fun (k : Nat) => n - k) (fun (k : Nat) => evM M j v k) (fun (k : Nat) => [(0, .ref (ga g (47 + j))), (1, .int a), (2, .int b), (3, .int c), (4, .int (nI k))]) 0 (show (0 ≤ n) from by exact Nat.zero_le _) ?_
  rintro k hI ih
  have hI : (k ≤ n) := hI
  have hk := hI
  show KW pP l eE RR sS mI aG bB mE cD g 7 _ (evM M j v k) 8 [(0, .ref (ga g (47 + j))), (1, .int a), (2, .int b), (3, .int c), (4, .int (nI k))] []
  have hle := hgt_le (M (52 + j)) k
  refine k_iload C 10 4  rfl dX3_workOut_8 rfl ?_
  refine k_aload_n C 11 0 rfl rfl dX3_workOut_10 rfl ?_
  refine k_get C 14 flX3_18 (47 + j) (lt105_law hj) (v := .int ((evM M j v k) (47 + j) 1)) (ce_law g _ hj) rfl dX3_workOut_11 rfl ?_
  refine k_teq (y := nI n) (by rw [evM_at _ _ _ (by omega) (by omega)]; exact hn) ?_
  refine k_icmp_ge C 133 17 dX3_workOut_14 (by decide) rfl (fun c14 => ?_) (fun d14 => ?_)
  · skip
    have c14 := (nI_leI (by omega) (by omega)).mp (show nI n ≤ nI k from c14)
    have hkn : k = n := by omega
    have hN : hgt (M (52 + j)) k = 0 + 1 := by rw [hkn]; exact hw.1
    refine k_aload_n C 134 0 rfl rfl dX3_workOut_133 rfl ?_
    refine k_callVE C 137 (As := []) (st := []) (47 + j) (lt105_law hj) (ce_law g _ hj) rfl rfl mwX3_35 vlX3_pop (qX3_pop l g (evM M j v k) hj (h := 0) (by rw [evM_h hj, hN]) (by omega)) mlX3_pop (by decide) (by decide) rfl rfl (Nat.le_of_ble_eq_true rfl) dX3_workOut_134 rfl ?_
    refine k_ret C rfl dX3_workOut_137 ?_
    refine ⟨?_, ?_⟩
    · rw [evM_s, pVal, hkn, hv]
      exact sA_same _ _ _ _ n hw.2 0 (by rw [hw.1]; decide)
    · intro q i hq
      rw [mu_at, if_neg (fun z => hq (Or.inr ⟨by omega, by omega, z.2⟩))]
      exact evM_at _ _ _ (fun z => hq (Or.inl ⟨by omega, by omega⟩)) (fun z => hq (Or.inr ⟨by omega, by omega, z.2⟩))
  · skip
    have d14 := mt (nI_leI (by omega) (by omega)).mpr (show ¬ (nI n ≤ nI k) from d14)
    refine k_aload_n C 18 0 rfl rfl dX3_workOut_17 rfl ?_
    refine k_get C 21 flX3_9 (47 + j) (lt105_law hj) (v := .ref (ga g (52 + j))) (ce_law g _ hj) rfl dX3_workOut_18 rfl ?_
    refine k_iload C 23 4  rfl dX3_workOut_21 rfl ?_
    refine k_iald C 24 (52 + j) k (lt105_lp hj) (ce_lp g hj) (by decide) rfl (by omega) dX3_workOut_23 rfl ?_
    refine k_teq (y := M (52 + j) k) (evM_at _ _ _ (by omega) (by omega)) ?_
    refine k_istore C 26 [(5, .int (M (52 + j) k)), (0, .ref (ga g (47 + j))), (1, .int a), (2, .int b), (3, .int c), (4, .int (nI k))]  (by decide) rfl dX3_workOut_24 rfl ?_
    refine k_iload C 28 0  rfl dX3_workOut_26 rfl ?_
    refine k_if_lt C 40 31 dX3_workOut_28 (by decide) rfl (fun c28 => ?_) (fun d28 => ?_)
    · skip
      have h0 : ¬ 0 ≤ M (52 + j) k := by simp only [Int32.lt_iff_toInt_lt, Int32.le_iff_toInt_le, Int32.reduceToInt] at c28 ⊢; omega
      have hpk := hw.2 k (by omega)
      refine k_iload C 42 0  rfl dX3_workOut_40 rfl ?_
      refine k_bipush C 44 (v := (-3)) (by decide) dX3_workOut_42 rfl ?_
      refine k_icmp_lt C 76 47 dX3_workOut_44 (by decide) rfl (fun c44 => ?_) (fun d44 => ?_)
      · skip
        have h3 : ¬ -3 ≤ M (52 + j) k := Int32.not_le.mpr c44
        refine k_iload C 78 0  rfl dX3_workOut_76 rfl ?_
        refine k_bipush C 80 (v := (-33)) (by decide) dX3_workOut_78 rfl ?_
        refine k_icmp_ne C 105 83 dX3_workOut_80 (by decide) rfl (fun c80 => ?_) (fun d80 => ?_)
        · skip
          obtain ⟨h, hh⟩ : ∃ h, hgt (M (52 + j)) k = h + 1 + 1 := by
            rcases hpk with ⟨q, -⟩ | ⟨q, -⟩ | ⟨-, -, -, q⟩
            · exact absurd q h3
            · exact absurd q c80
            · exact ⟨hgt (M (52 + j)) k - 2, by omega⟩
          refine k_aload_n C 106 1 rfl rfl dX3_workOut_105 rfl ?_
          refine k_callVE C 109 (As := []) (st := []) (47 + j) (lt105_law hj) (ce_law g _ hj) rfl rfl mwX3_35 vlX3_pop (qX3_pop l g (evM M j v k) hj (h := (h + 1)) (by rw [evM_h hj, hh]) (by omega)) mlX3_pop (by decide) (by decide) rfl rfl (Nat.le_of_ble_eq_true rfl) dX3_workOut_106 rfl ?_
          refine k_istore C 111 [(6, .int ((evM M j v k) (57 + j) (h + 1))), (5, .int (M (52 + j) k)), (0, .ref (ga g (47 + j))), (1, .int a), (2, .int b), (3, .int c), (4, .int (nI k))]  (by decide) rfl dX3_workOut_109 rfl ?_
          refine k_aload_n C 112 2 rfl rfl dX3_workOut_111 rfl ?_
          refine k_iload C 114 1  rfl dX3_workOut_112 rfl ?_
          refine k_ineg C 115 dX3_workOut_114 rfl ?_
          refine k_aload_n C 116 2 rfl rfl dX3_workOut_115 rfl ?_
          refine k_callVE C 119 (As := []) (st := [.int (-(M (52 + j) k)), .ref (ga g (47 + j))]) (47 + j) (lt105_law hj) (ce_law g _ hj) rfl rfl mwX3_35 vlX3_pop (qX3_pop l g (mu (evM M j v k) (47 + j) 3 (nI (h + 1))) hj (h := h) (by rw [mu_s]) (by omega)) mlX3_pop (by decide) (by decide) rfl rfl (Nat.le_of_ble_eq_true rfl) dX3_workOut_116 rfl ?_
          refine k_teq (y := (evM M j v k) (57 + j) h) (congrFun (mu_n _ _ _ (by omega)) _) ?_
          refine k_iload C 121 0  rfl dX3_workOut_119 rfl ?_
          refine k_callSE C 124 (As := [.int (-(M (52 + j) k)), .int ((evM M j v k) (57 + j) h), .int ((evM M j v k) (57 + j) (h + 1))]) (st := [.ref (ga g (47 + j))]) mwX3_43 skX3_join (qX3_join l g (mu (mu (evM M j v k) (47 + j) 3 (nI (h + 1))) (47 + j) 3 (nI h)) (-(M (52 + j) k)) ((evM M j v k) (57 + j) h) ((evM M j v k) (57 + j) (h + 1))) mlX3_join (by decide) (by decide) rfl rfl (Nat.le_of_ble_eq_true rfl) dX3_workOut_121 rfl ?_
          refine k_callVU C 127 (As := [.int (pJoin (-(M (52 + j) k)) ((evM M j v k) (57 + j) h) ((evM M j v k) (57 + j) (h + 1)))]) (st := []) (47 + j) (lt105_law hj) (ce_law g _ hj) rfl rfl mwX3_31 vlX3_push (qX3_push l g (mu (mu (evM M j v k) (47 + j) 3 (nI (h + 1))) (47 + j) 3 (nI h)) hj (h := h) (by rw [mu_s]) (by omega) (pJoin (-(M (52 + j) k)) ((evM M j v k) (57 + j) h) ((evM M j v k) (57 + j) (h + 1)))) mlX3_push (by decide) (by decide) rfl rfl (Nat.le_of_ble_eq_true rfl) dX3_workOut_124 rfl ?_
          refine k_iinc C 130 (nI (k + 1)) 6 [(4, .int (nI (k + 1))), (6, .int ((evM M j v k) (57 + j) (h + 1))), (5, .int (M (52 + j) k)), (0, .ref (ga g (47 + j))), (1, .int a), (2, .int b), (3, .int c)] rfl (iinc_p k) (by decide) rfl dX3_workOut_127 rfl ?_
          refine k_goto C 8 dX3_workOut_130 (by decide) ?_
          refine k_sub [(0, .ref (ga g (47 + j))), (1, .int a), (2, .int b), (3, .int c), (4, .int (nI (k + 1)))] [3, 4, 5, 6, 0] rfl ?_
          refine k_all (M' := evM M j v (k + 1)) (lo' := [(0, .ref (ga g (47 + j))), (1, .int a), (2, .int b), (3, .int c), (4, .int (nI (k + 1)))]) (st' := []) (by rw [mu_2, mu_mu _ _ _ _ _ _ _ _ (by omega)]; exact evM_next hj M v k _ _ _ (by simp only [hgt, if_neg h3, if_neg c80]; omega) (evM_bin hj M v k h h0 h3 c80 hh)) (by rfl) rfl ?_
          exact ih (k + 1) (show ((k + 1) ≤ n) from by omega) (by show n - (k + 1) < _; omega)
        · skip
          obtain ⟨h, hh⟩ : ∃ h, hgt (M (52 + j)) k = h + 1 := by
            rcases hpk with ⟨q, -⟩ | ⟨-, q⟩ | ⟨-, -, q, -⟩
            · exact absurd q h3
            · exact ⟨hgt (M (52 + j)) k - 1, by omega⟩
            · exact absurd d80 q
          refine k_aload_n C 84 1 rfl rfl dX3_workOut_83 rfl ?_
          refine k_aload_n C 85 1 rfl rfl dX3_workOut_84 rfl ?_
          refine k_callVE C 88 (As := []) (st := [.ref (ga g (47 + j))]) (47 + j) (lt105_law hj) (ce_law g _ hj) rfl rfl mwX3_35 vlX3_pop (qX3_pop l g (evM M j v k) hj (h := h) (by rw [evM_h hj, hh]) (by omega)) mlX3_pop (by decide) (by decide) rfl rfl (Nat.le_of_ble_eq_true rfl) dX3_workOut_85 rfl ?_
          refine k_if_ne C 95 91 dX3_workOut_88 (by decide) rfl (fun c88 => ?_) (fun d88 => ?_)
          · skip
            refine k_iconst C 96 (v := 0) (by decide) dX3_workOut_95 rfl ?_
            refine k_callNE C 99 (As := [.int 0]) (st := [.ref (ga g (47 + j))]) nwX3_39 skX9_asNumber (qX9_asNumber l g (mu (evM M j v k) (47 + j) 3 (nI h)) false) mlX9_asNumber (by decide) (by decide) rfl rfl (Nat.le_of_ble_eq_true rfl) dX3_workOut_96 rfl ?_
            refine k_callVU C 102 (As := [.int (b2i false)]) (st := []) (47 + j) (lt105_law hj) (ce_law g _ hj) rfl rfl mwX3_31 vlX3_push (qX3_push l g (mu (evM M j v k) (47 + j) 3 (nI h)) hj (h := h) (by rw [mu_s]) (by omega) (b2i false)) mlX3_push (by decide) (by decide) rfl rfl (Nat.le_of_ble_eq_true rfl) dX3_workOut_99 rfl ?_
            refine k_goto C 127 dX3_workOut_102 (by decide) ?_
            refine k_iinc C 130 (nI (k + 1)) 5 [(4, .int (nI (k + 1))), (5, .int (M (52 + j) k)), (0, .ref (ga g (47 + j))), (1, .int a), (2, .int b), (3, .int c)] rfl (iinc_p k) (by decide) rfl dX3_workOut_127 rfl ?_
            refine k_goto C 8 dX3_workOut_130 (by decide) ?_
            refine k_sub [(0, .ref (ga g (47 + j))), (1, .int a), (2, .int b), (3, .int c), (4, .int (nI (k + 1)))] [2, 3, 4, 5, 0] rfl ?_
            refine k_all (M' := evM M j v (k + 1)) (lo' := [(0, .ref (ga g (47 + j))), (1, .int a), (2, .int b), (3, .int c), (4, .int (nI (k + 1)))]) (st' := []) (by rw [mu_mu _ _ _ _ _ _ _ _ (by omega)]; exact evM_next hj M v k _ _ _ (by simp only [hgt, if_neg h3, if_pos d80]; omega) (evM_not hj M v k h h0 h3 d80 hh (by simp [c88]))) (by rfl) rfl ?_
            exact ih (k + 1) (show ((k + 1) ≤ n) from by omega) (by show n - (k + 1) < _; omega)
          · skip
            refine k_iconst C 92 (v := 1) (by decide) dX3_workOut_91 rfl ?_
            refine k_goto C 96 dX3_workOut_92 (by decide) ?_
            refine k_callNE C 99 (As := [.int 1]) (st := [.ref (ga g (47 + j))]) nwX3_39 skX9_asNumber (qX9_asNumber l g (mu (evM M j v k) (47 + j) 3 (nI h)) true) mlX9_asNumber (by decide) (by decide) rfl rfl (Nat.le_of_ble_eq_true rfl) dX3_workOut_96 rfl ?_
            refine k_callVU C 102 (As := [.int (b2i true)]) (st := []) (47 + j) (lt105_law hj) (ce_law g _ hj) rfl rfl mwX3_31 vlX3_push (qX3_push l g (mu (evM M j v k) (47 + j) 3 (nI h)) hj (h := h) (by rw [mu_s]) (by omega) (b2i true)) mlX3_push (by decide) (by decide) rfl rfl (Nat.le_of_ble_eq_true rfl) dX3_workOut_99 rfl ?_
            refine k_goto C 127 dX3_workOut_102 (by decide) ?_
            refine k_iinc C 130 (nI (k + 1)) 5 [(4, .int (nI (k + 1))), (5, .int (M (52 + j) k)), (0, .ref (ga g (47 + j))), (1, .int a), (2, .int b), (3, .int c)] rfl (iinc_p k) (by decide) rfl dX3_workOut_127 rfl ?_
            refine k_goto C 8 dX3_workOut_130 (by decide) ?_
            refine k_sub [(0, .ref (ga g (47 + j))), (1, .int a), (2, .int b), (3, .int c), (4, .int (nI (k + 1)))] [2, 3, 4, 5, 0] rfl ?_
            refine k_all (M' := evM M j v (k + 1)) (lo' := [(0, .ref (ga g (47 + j))), (1, .int a), (2, .int b), (3, .int c), (4, .int (nI (k + 1)))]) (st' := []) (by rw [mu_mu _ _ _ _ _ _ _ _ (by omega)]; exact evM_next hj M v k _ _ _ (by simp only [hgt, if_neg h3, if_pos d80]; omega) (evM_not hj M v k h h0 h3 d80 hh (by simp [d88]))) (by rfl) rfl ?_
            exact ih (k + 1) (show ((k + 1) ≤ n) from by omega) (by show n - (k + 1) < _; omega)
      · skip
        have h3 : -3 ≤ M (52 + j) k := Int32.not_lt.mp d44
        refine k_aload_n C 48 1 rfl rfl dX3_workOut_47 rfl ?_
        refine k_iload C 50 0  rfl dX3_workOut_48 rfl ?_
        refine k_iconst C 51 (v := (-1)) (by decide) dX3_workOut_50 rfl ?_
        refine k_icmp_ne C 58 54 dX3_workOut_51 (by decide) rfl (fun c51 => ?_) (fun d51 => ?_)
        · skip
          refine k_iload C 60 0  rfl dX3_workOut_58 rfl ?_
          refine k_bipush C 62 (v := (-3)) (by decide) dX3_workOut_60 rfl ?_
          refine k_icmp_ne C 69 65 dX3_workOut_62 (by decide) rfl (fun c62 => ?_) (fun d62 => ?_)
          · skip
            refine k_iload_n C 70 3 rfl rfl dX3_workOut_69 rfl ?_
            refine k_callVU C 73 (As := [.int b]) (st := []) (47 + j) (lt105_law hj) (ce_law g _ hj) rfl rfl mwX3_31 vlX3_push (qX3_push l g (evM M j v k) hj (h := hgt (M (52 + j)) k) (by rw [evM_h hj]) (by omega) b) mlX3_push (by decide) (by decide) rfl rfl (Nat.le_of_ble_eq_true rfl) dX3_workOut_70 rfl ?_
            refine k_goto C 127 dX3_workOut_73 (by decide) ?_
            refine k_iinc C 130 (nI (k + 1)) 5 [(4, .int (nI (k + 1))), (5, .int (M (52 + j) k)), (0, .ref (ga g (47 + j))), (1, .int a), (2, .int b), (3, .int c)] rfl (iinc_p k) (by decide) rfl dX3_workOut_127 rfl ?_
            refine k_goto C 8 dX3_workOut_130 (by decide) ?_
            refine k_sub [(0, .ref (ga g (47 + j))), (1, .int a), (2, .int b), (3, .int c), (4, .int (nI (k + 1)))] [2, 3, 4, 5, 0] rfl ?_
            refine k_all (M' := evM M j v (k + 1)) (lo' := [(0, .ref (ga g (47 + j))), (1, .int a), (2, .int b), (3, .int c), (4, .int (nI (k + 1)))]) (st' := []) (by exact evM_next hj M v k _ _ _ (by simp only [hgt, if_pos h3]) (by simp only [sA, if_neg h0, if_pos h3, if_neg c51, if_neg c62]; rw [hv]; rfl)) (by rfl) rfl ?_
            exact ih (k + 1) (show ((k + 1) ≤ n) from by omega) (by show n - (k + 1) < _; omega)
          · skip
            refine k_iload_n C 66 4 rfl rfl dX3_workOut_65 rfl ?_
            refine k_goto C 70 dX3_workOut_66 (by decide) ?_
            refine k_callVU C 73 (As := [.int c]) (st := []) (47 + j) (lt105_law hj) (ce_law g _ hj) rfl rfl mwX3_31 vlX3_push (qX3_push l g (evM M j v k) hj (h := hgt (M (52 + j)) k) (by rw [evM_h hj]) (by omega) c) mlX3_push (by decide) (by decide) rfl rfl (Nat.le_of_ble_eq_true rfl) dX3_workOut_70 rfl ?_
            refine k_goto C 127 dX3_workOut_73 (by decide) ?_
            refine k_iinc C 130 (nI (k + 1)) 5 [(4, .int (nI (k + 1))), (5, .int (M (52 + j) k)), (0, .ref (ga g (47 + j))), (1, .int a), (2, .int b), (3, .int c)] rfl (iinc_p k) (by decide) rfl dX3_workOut_127 rfl ?_
            refine k_goto C 8 dX3_workOut_130 (by decide) ?_
            refine k_sub [(0, .ref (ga g (47 + j))), (1, .int a), (2, .int b), (3, .int c), (4, .int (nI (k + 1)))] [2, 3, 4, 5, 0] rfl ?_
            refine k_all (M' := evM M j v (k + 1)) (lo' := [(0, .ref (ga g (47 + j))), (1, .int a), (2, .int b), (3, .int c), (4, .int (nI (k + 1)))]) (st' := []) (by exact evM_next hj M v k _ _ _ (by simp only [hgt, if_pos h3]) (by simp only [sA, if_neg h0, if_pos h3, if_neg c51, if_pos d62]; rw [hv]; rfl)) (by rfl) rfl ?_
            exact ih (k + 1) (show ((k + 1) ≤ n) from by omega) (by show n - (k + 1) < _; omega)
        · skip
          refine k_iload_n C 55 2 rfl rfl dX3_workOut_54 rfl ?_
          refine k_goto C 70 dX3_workOut_55 (by decide) ?_
          refine k_callVU C 73 (As := [.int a]) (st := []) (47 + j) (lt105_law hj) (ce_law g _ hj) rfl rfl mwX3_31 vlX3_push (qX3_push l g (evM M j v k) hj (h := hgt (M (52 + j)) k) (by rw [evM_h hj]) (by omega) a) mlX3_push (by decide) (by decide) rfl rfl (Nat.le_of_ble_eq_true rfl) dX3_workOut_70 rfl ?_
          refine k_goto C 127 dX3_workOut_73 (by decide) ?_
          refine k_iinc C 130 (nI (k + 1)) 5 [(4, .int (nI (k + 1))), (5, .int (M (52 + j) k)), (0, .ref (ga g (47 + j))), (1, .int a), (2, .int b), (3, .int c)] rfl (iinc_p k) (by decide) rfl dX3_workOut_127 rfl ?_
          refine k_goto C 8 dX3_workOut_130 (by decide) ?_
          refine k_sub [(0, .ref (ga g (47 + j))), (1, .int a), (2, .int b), (3, .int c), (4, .int (nI (k + 1)))] [2, 3, 4, 5, 0] rfl ?_
          refine k_all (M' := evM M j v (k + 1)) (lo' := [(0, .ref (ga g (47 + j))), (1, .int a), (2, .int b), (3, .int c), (4, .int (nI (k + 1)))]) (st' := []) (by exact evM_next hj M v k _ _ _ (by simp only [hgt, if_pos h3]) (by simp only [sA, if_neg h0, if_pos h3, if_pos d51]; rw [hv]; rfl)) (by rfl) rfl ?_
          exact ih (k + 1) (show ((k + 1) ≤ n) from by omega) (by show n - (k + 1) < _; omega)
    · skip
      have h0 : 0 ≤ M (52 + j) k := by simp only [Int32.lt_iff_toInt_lt, Int32.le_iff_toInt_le, Int32.reduceToInt] at d28 ⊢; omega
      have h3 : -3 ≤ M (52 + j) k := Int32.le_trans (by decide) h0
      refine k_aload_n C 32 1 rfl rfl dX3_workOut_31 rfl ?_
      refine k_iload C 34 0  rfl dX3_workOut_32 rfl ?_
      refine k_callVU C 37 (As := [.int (M (52 + j) k)]) (st := []) (47 + j) (lt105_law hj) (ce_law g _ hj) rfl rfl mwX3_31 vlX3_push (qX3_push l g (evM M j v k) hj (h := hgt (M (52 + j)) k) (by rw [evM_h hj]) (by omega) (M (52 + j) k)) mlX3_push (by decide) (by decide) rfl rfl (Nat.le_of_ble_eq_true rfl) dX3_workOut_34 rfl ?_
      refine k_goto C 127 dX3_workOut_37 (by decide) ?_
      refine k_iinc C 130 (nI (k + 1)) 5 [(4, .int (nI (k + 1))), (5, .int (M (52 + j) k)), (0, .ref (ga g (47 + j))), (1, .int a), (2, .int b), (3, .int c)] rfl (iinc_p k) (by decide) rfl dX3_workOut_127 rfl ?_
      refine k_goto C 8 dX3_workOut_130 (by decide) ?_
      refine k_sub [(0, .ref (ga g (47 + j))), (1, .int a), (2, .int b), (3, .int c), (4, .int (nI (k + 1)))] [2, 3, 4, 5, 0] rfl ?_
      refine k_all (M' := evM M j v (k + 1)) (lo' := [(0, .ref (ga g (47 + j))), (1, .int a), (2, .int b), (3, .int c), (4, .int (nI (k + 1)))]) (st' := []) (by exact evM_next hj M v k _ _ _ (by simp only [hgt, if_pos h3]) (by simp only [sA, if_pos h0])) (by rfl) rfl ?_
      exact ih (k + 1) (show ((k + 1) ≤ n) from by omega) (by show n - (k + 1) < _; omega)
