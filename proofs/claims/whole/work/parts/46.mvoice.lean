-- the reference: voices, move: pure words
/-- the reference's memory with a trace -/
def trM (M : Mem) (t : Nat × (Nat → Int32)) : Mem := mrow (mu M 91 19 (nI t.1)) 104 t.2
theorem trM_1 (M : Mem) (t : Nat × (Nat → Int32)) : trM M t 91 19 = nI t.1 := by unfold trM; rw [mrow_n _ _ (by decide), mu_s]
theorem trM_o (M : Mem) (t : Nat × (Nat → Int32)) {j : Nat} (h : j ≠ 19) : trM M t 91 j = M 91 j := by unfold trM; rw [mrow_n _ _ (by decide), mu_o _ _ _ h]
theorem trM_n (M : Mem) (t : Nat × (Nat → Int32)) {a : Nat} (h : a ≠ 91) (h2 : a ≠ 104) : trM M t a = M a := by unfold trM; rw [mrow_n _ _ h2, mu_n _ _ _ h]
theorem trM_bg (M : Mem) (t : Nat × (Nat → Int32)) (b : Int32) (h : t.1 < 30) : mu (mu (trM M t) 104 t.1 b) 91 19 (nI (t.1 + 1)) = trM M (bg t b) := by
  unfold bg; rw [if_pos h]
  funext a
  unfold trM
  by_cases h1 : a = 104
  · subst h1; rw [mu_n _ _ _ (by decide), mu_r, mrow_s, mrow_s]
  · by_cases h2 : a = 91
    · subst h2
      funext j
      rw [mrow_n _ _ h1]
      by_cases hj : j = 19
      · subst hj; rw [mu_s, mu_s]
      · rw [mu_o _ _ _ hj, mu_o _ _ _ hj, mu_n _ _ _ h1, mrow_n _ _ h1, mu_o _ _ _ hj]
    · rw [mu_n _ _ _ h2, mu_n _ _ _ h1, mrow_n _ _ h1, mrow_n _ _ h1, mu_n _ _ _ h2, mu_n _ _ _ h2]
theorem trM_p (M : Mem) (t : Nat × (Nat → Int32)) (x : Int32) : mu (trM M t) 91 20 x = trM (mu M 91 20 x) t := by
  funext a
  unfold trM
  by_cases h2 : a = 91
  · subst h2
    funext j
    rw [mrow_n _ _ (by decide)]
    by_cases hj : j = 19
    · subst hj; rw [mu_o _ _ _ (by decide), mrow_n _ _ (by decide), mu_s, mu_s]
    · rw [mu_o _ _ _ hj]
      by_cases hj2 : j = 20
      · subst hj2; rw [mu_s, mu_s]
      · rw [mu_o _ _ _ hj2, mrow_n _ _ (by decide), mu_o _ _ _ hj, mu_o _ _ _ hj2]
  · rw [mu_n _ _ _ h2]
    by_cases h1 : a = 104
    · subst h1; rw [mrow_s, mrow_s]
    · rw [mrow_n _ _ h1, mrow_n _ _ h1, mu_n _ _ _ h2, mu_n _ _ _ h2, mu_n _ _ _ h2]
theorem mF_tr (M : Mem) (t : Nat × (Nat → Int32)) : mF (trM M t) = mF M := by unfold mF; rw [trM_n _ _ (by decide) (by decide)]
theorem mF_91 (M : Mem) (j : Nat) (x : Int32) : mF (mu M 91 j x) = mF M := by unfold mF; rw [mu_n _ _ _ (by decide)]
theorem tr_0 (M : Mem) : mu (mu M 91 19 0) 91 20 0 = trM (mu M 91 20 0) (0, M 104) := by
  unfold trM
  funext a
  by_cases h1 : a = 104
  · subst h1; rw [mrow_s, mu_n _ _ _ (by decide), mu_n _ _ _ (by decide)]
  · rw [mrow_n _ _ h1]
    by_cases h2 : a = 91
    · subst h2; funext j; simp only [mu_at, true_and]
      by_cases j1 : j = 19
      · subst j1; simp; rfl
      · simp [j1]
    · simp only [mu_n _ _ _ h2]
def mvOk (M : Mem) (s t : Nat) (a b n : Int32) : Bool := !decide (n < 0) && !decide (a < 0) && !decide (b < 0) && !decide (M 97 s - a < n) && !decide (M 97 t - b < n)
theorem nI_sub1 {n i : Nat} (hi : i < n) (h : n < 2 ^ 30) : nI n - 1 - nI i = nI (n - 1 - i) := by
  rw [show nI n - 1 = nI (n - 1) from by rw [show n = (n - 1) + 1 by omega]; exact nI_pred (n - 1)]
  exact pk_sub (by omega)
theorem qX10_of_k (l : Launch) (g : GT) (M : Mem) (t : Nat × (Nat → Int32)) {f w : Nat} (hf : f ≤ 12) (hw : w < 7) {v : Int32} (h : mF M f w = v) : CtrE l g yX10_of cX10_of 3 (some .int) 0 [.ref (ga g 91), .int (nI f), .int (nI w)] (trM M t) v (trM M t) := by
  have z := qX10_of l g (trM M t) hf hw
  rw [mF_tr, h] at z; exact z

set_option maxHeartbeats 4000000 in
set_option maxRecDepth 20000 in
theorem qX10_begins (l : Launch) (g : GT) (M : Mem) (t : Nat × (Nat → Int32)) (ht : t.1 ≤ 30) (b : Int32) : CtrU l g yX10_begins cX10_begins 2 0 [.ref (ga g 91), .int b] (trM M t) (trM M (bg t b)) := by
  refine ctrV_of (by decide +kernel) (Nat.le_of_ble_eq_true rfl) ?_
  intro pP eE RR sS mI aG bB mE cD C
  refine k_lo (lo' := [(0, .ref (ga g 91)), (1, .int b)]) rfl ?_
  refine k_aload_n C 1 0 rfl rfl dX10_begins_0 rfl ?_
  refine k_get C 4 flX10_228 91 (by decide) (v := .int ((trM M t) 91 19)) (ce_91 g _) rfl dX10_begins_1 rfl ?_
  refine k_teq (y := nI t.1) (trM_1 M t) ?_
  refine k_bipush C 6 (v := 30) (by decide) dX10_begins_4 rfl ?_
  refine k_icmp_ge C 29 9 dX10_begins_6 (by decide) rfl (fun c6 => ?_) (fun d6 => ?_)
  · skip
    have c6 := (nI_leI (by omega) (by omega)).mp (show nI 30 ≤ nI t.1 from c6)
    refine k_vret C dX10_begins_29 ?_
    show _ = _
    unfold bg; rw [if_neg (by omega)]
  · skip
    have d6 := mt (nI_leI (by omega) (by omega)).mpr (show ¬ (nI 30 ≤ nI t.1) from d6)
    refine k_aload_n C 10 0 rfl rfl dX10_begins_9 rfl ?_
    refine k_get C 13 flX10_46 91 (by decide) (v := .ref (ga g 104)) (ce_91 g _) rfl dX10_begins_10 rfl ?_
    refine k_aload_n C 14 0 rfl rfl dX10_begins_13 rfl ?_
    refine k_get C 17 flX10_228 91 (by decide) (v := .int ((trM M t) 91 19)) (ce_91 g _) rfl dX10_begins_14 rfl ?_
    refine k_teq (y := nI t.1) (trM_1 M t) ?_
    refine k_iload_n C 18 1 rfl rfl dX10_begins_17 rfl ?_
    refine k_iast C 19 104 t.1 (by decide) (ce_104 g) (by decide) rfl (by omega) dX10_begins_18 rfl ?_
    refine k_aload_n C 20 0 rfl rfl dX10_begins_19 rfl ?_
    refine k_dup C 21 rfl dX10_begins_20 rfl ?_
    refine k_get C 24 flX10_228 91 (by decide) (v := .int ((mu (trM M t) 104 t.1 b) 91 19)) (ce_91 g _) rfl dX10_begins_21 rfl ?_
    refine k_teq (show (mu (trM M t) 104 t.1 b) 91 19 = (trM M t) 91 19 by simp [mu_at]) ?_
    refine k_teq (y := nI t.1) (trM_1 M t) ?_
    refine k_iconst C 25 (v := 1) (by decide) dX10_begins_24 rfl ?_
    refine k_iadd C 26 dX10_begins_25 rfl ?_
    refine k_teq (nI_add t.1 1) ?_
    refine k_put C 29 flX10_228 plX10 91 (by decide) (ce_91 g _) (ce_91 g _) (Nat.le_of_ble_eq_true rfl) rfl rfl rfl dX10_begins_26 rfl ?_
    refine k_vret C dX10_begins_29 ?_
    exact trM_bg M t b (by omega)
set_option maxHeartbeats 4000000 in
set_option maxRecDepth 20000 in
theorem qX10_plainSays (l : Launch) (g : GT) (M : Mem) (t : Nat × (Nat → Int32)) (ht : t.1 ≤ 30) {f : Nat} (hf : f ≤ 12) {kd m : Int32} (hk : mF M f 0 = kd) (hm : mF M f 1 = m) (x : Int32) : CtrE l g yX10_plainSays cX10_plainSays 3 (some .int) 1 [.ref (ga g 91), .int (nI f), .int x] (trM M t) (pSays (nI f) 0 x) (trM M (bgs t (bSays 0))) := by
  refine ctrI_of (by decide +kernel) (Nat.le_of_ble_eq_true rfl) ?_
  intro pP eE RR sS mI aG bB mE cD C
  refine k_lo (lo' := [(0, .ref (ga g 91)), (1, .int (nI f)), (2, .int x)]) rfl ?_
  refine k_aload_n C 1 0 rfl rfl dX10_plainSays_0 rfl ?_
  refine k_bipush C 3 (v := 10) (by decide) dX10_plainSays_1 rfl ?_
  refine k_callVU C 6 (As := [.int 10]) (st := []) 91 (by decide) (ce_91 g _) rfl rfl mwX10_231 vlX10_begins (qX10_begins l g M t ht 10) mlX10_begins (by decide) (by decide) rfl rfl (Nat.le_of_ble_eq_true rfl) dX10_plainSays_3 rfl ?_
  refine k_iload_n C 7 2 rfl rfl dX10_plainSays_6 rfl ?_
  refine k_iload_n C 8 1 rfl rfl dX10_plainSays_7 rfl ?_
  refine k_iadd C 9 dX10_plainSays_8 rfl ?_
  refine k_ret C rfl dX10_plainSays_9 ?_
  exact ⟨by simp [pSays, bSays], by simp [pSays, bSays, bgs]⟩
set_option maxHeartbeats 4000000 in
set_option maxRecDepth 20000 in
theorem qX10_oathSays (l : Launch) (g : GT) (M : Mem) (t : Nat × (Nat → Int32)) (ht : t.1 ≤ 30) {f : Nat} (hf : f ≤ 12) {kd m : Int32} (hk : mF M f 0 = kd) (hm : mF M f 1 = m) (x : Int32) : CtrE l g yX10_oathSays cX10_oathSays 3 (some .int) 2 [.ref (ga g 91), .int (nI f), .int x] (trM M t) (pSays (nI f) 1 x) (trM M (bgs t (bSays 1))) := by
  refine ctrI_of (by decide +kernel) (Nat.le_of_ble_eq_true rfl) ?_
  intro pP eE RR sS mI aG bB mE cD C
  refine k_lo (lo' := [(0, .ref (ga g 91)), (1, .int (nI f)), (2, .int x)]) rfl ?_
  refine k_aload_n C 1 0 rfl rfl dX10_oathSays_0 rfl ?_
  refine k_bipush C 3 (v := 20) (by decide) dX10_oathSays_1 rfl ?_
  refine k_callVU C 6 (As := [.int 20]) (st := []) 91 (by decide) (ce_91 g _) rfl rfl mwX10_231 vlX10_begins (qX10_begins l g M t ht 20) mlX10_begins (by decide) (by decide) rfl rfl (Nat.le_of_ble_eq_true rfl) dX10_oathSays_3 rfl ?_
  refine k_aload_n C 7 0 rfl rfl dX10_oathSays_6 rfl ?_
  refine k_iload_n C 8 1 rfl rfl dX10_oathSays_7 rfl ?_
  refine k_iload_n C 9 2 rfl rfl dX10_oathSays_8 rfl ?_
  refine k_callVE C 12 (As := [.int (nI f), .int x]) (st := []) 91 (by decide) (ce_91 g _) rfl rfl mwX10_234 vlX10_plainSays (qX10_plainSays l g M (bg t 20) (bg_le _ _ ht) hf hk hm x) mlX10_plainSays (by decide) (by decide) rfl rfl (Nat.le_of_ble_eq_true rfl) dX10_oathSays_9 rfl ?_
  refine k_iconst C 13 (v := 4) (by decide) dX10_oathSays_12 rfl ?_
  refine k_isub C 14 dX10_oathSays_13 rfl ?_
  refine k_ret C rfl dX10_oathSays_14 ?_
  exact ⟨by simp [pSays, bSays], by simp [pSays, bSays, bgs]⟩
set_option maxHeartbeats 4000000 in
set_option maxRecDepth 20000 in
theorem qX10_says (l : Launch) (g : GT) (M : Mem) (t : Nat × (Nat → Int32)) (ht : t.1 ≤ 30) {f : Nat} (hf : f ≤ 12) {kd m : Int32} (hk : mF M f 0 = kd) (hm : mF M f 1 = m) (x : Int32) : CtrE l g yX10_says cX10_says 3 (some .int) 3 [.ref (ga g 91), .int (nI f), .int x] (trM M t) (pSays (nI f) kd x) (trM M (bgs t (bSays kd))) := by
  refine ctrI_of (by decide +kernel) (Nat.le_of_ble_eq_true rfl) ?_
  intro pP eE RR sS mI aG bB mE cD C
  refine k_lo (lo' := [(0, .ref (ga g 91)), (1, .int (nI f)), (2, .int x)]) rfl ?_
  refine k_aload_n C 1 0 rfl rfl dX10_says_0 rfl ?_
  refine k_iload_n C 2 1 rfl rfl dX10_says_1 rfl ?_
  refine k_iconst C 3 (v := 0) (by decide) dX10_says_2 rfl ?_
  refine k_callVE C 6 (As := [.int (nI f), .int 0]) (st := []) 91 (by decide) (ce_91 g _) rfl rfl mwX10_58 vlX10_of (qX10_of_k l g M t (w := 0) (by omega) (by decide) hk) mlX10_of (by decide) (by decide) rfl rfl (Nat.le_of_ble_eq_true rfl) dX10_says_3 rfl ?_
  by_cases w6_1 : kd = 1
  · skip
    refine k_look C 40 (by decide) (by rw [w6_1]) dX10_says_6 (by decide) ?_
    refine k_aload_n C 41 0 rfl rfl dX10_says_40 rfl ?_
    refine k_iload_n C 42 1 rfl rfl dX10_says_41 rfl ?_
    refine k_iload_n C 43 2 rfl rfl dX10_says_42 rfl ?_
    refine k_callVE C 46 (As := [.int (nI f), .int x]) (st := []) 91 (by decide) (ce_91 g _) rfl rfl mwX10_237 vlX10_oathSays (qX10_oathSays l g M t ht hf hk hm x) mlX10_oathSays (by decide) (by decide) rfl rfl (Nat.le_of_ble_eq_true rfl) dX10_says_43 rfl ?_
    refine k_ret C rfl dX10_says_46 ?_
    exact ⟨by simp [pSays, bSays, w6_1], by simp [pSays, bSays, bgs, w6_1]⟩
  · skip
    by_cases w6_4 : kd = 4
    · skip
      refine k_look C 47 (by decide) (by rw [w6_4]) dX10_says_6 (by decide) ?_
      refine k_aload_n C 48 0 rfl rfl dX10_says_47 rfl ?_
      refine k_bipush C 50 (v := 50) (by decide) dX10_says_48 rfl ?_
      refine k_callVU C 53 (As := [.int 50]) (st := []) 91 (by decide) (ce_91 g _) rfl rfl mwX10_231 vlX10_begins (qX10_begins l g M t ht 50) mlX10_begins (by decide) (by decide) rfl rfl (Nat.le_of_ble_eq_true rfl) dX10_says_50 rfl ?_
      refine k_aload_n C 54 0 rfl rfl dX10_says_53 rfl ?_
      refine k_iload_n C 55 1 rfl rfl dX10_says_54 rfl ?_
      refine k_iload_n C 56 2 rfl rfl dX10_says_55 rfl ?_
      refine k_callVE C 59 (As := [.int (nI f), .int x]) (st := []) 91 (by decide) (ce_91 g _) rfl rfl mwX10_237 vlX10_oathSays (qX10_oathSays l g M (bg t 50) (bg_le _ _ ht) hf hk hm x) mlX10_oathSays (by decide) (by decide) rfl rfl (Nat.le_of_ble_eq_true rfl) dX10_says_56 rfl ?_
      refine k_iconst C 60 (v := 3) (by decide) dX10_says_59 rfl ?_
      refine k_imul C 61 dX10_says_60 rfl ?_
      refine k_ret C rfl dX10_says_61 ?_
      exact ⟨by simp [pSays, bSays, w6_4], by simp [pSays, bSays, bgs, w6_4]⟩
    · skip
      by_cases w6_6 : kd = 6
      · skip
        refine k_look C 62 (by decide) (by rw [w6_6]) dX10_says_6 (by decide) ?_
        refine k_aload_n C 63 0 rfl rfl dX10_says_62 rfl ?_
        refine k_bipush C 65 (v := 70) (by decide) dX10_says_63 rfl ?_
        refine k_callVU C 68 (As := [.int 70]) (st := []) 91 (by decide) (ce_91 g _) rfl rfl mwX10_231 vlX10_begins (qX10_begins l g M t ht 70) mlX10_begins (by decide) (by decide) rfl rfl (Nat.le_of_ble_eq_true rfl) dX10_says_65 rfl ?_
        refine k_bipush C 70 (v := 9) (by decide) dX10_says_68 rfl ?_
        refine k_ret C rfl dX10_says_70 ?_
        exact ⟨by simp [pSays, bSays, w6_6], by simp [pSays, bSays, bgs, w6_6]⟩
      · skip
        refine k_look C 71 (off := 65) (by decide) (by have z0 := i_ne w6_1 (k := 1) rfl; have z1 := i_ne w6_4 (k := 4) rfl; have z2 := i_ne w6_6 (k := 6) rfl; simp [Op.lookupswitch.offset, List.find?, beq_false_of_ne (Ne.symm z0), z0, Ne.symm z0, beq_false_of_ne (Ne.symm z1), z1, Ne.symm z1, beq_false_of_ne (Ne.symm z2), z2, Ne.symm z2]) dX10_says_6 (by decide) ?_
        refine k_aload_n C 72 0 rfl rfl dX10_says_71 rfl ?_
        refine k_iload_n C 73 1 rfl rfl dX10_says_72 rfl ?_
        refine k_iload_n C 74 2 rfl rfl dX10_says_73 rfl ?_
        refine k_callVE C 77 (As := [.int (nI f), .int x]) (st := []) 91 (by decide) (ce_91 g _) rfl rfl mwX10_234 vlX10_plainSays (qX10_plainSays l g M t ht hf hk hm x) mlX10_plainSays (by decide) (by decide) rfl rfl (Nat.le_of_ble_eq_true rfl) dX10_says_74 rfl ?_
        refine k_ret C rfl dX10_says_77 ?_
        exact ⟨by simp [pSays, bSays, w6_1, w6_4, w6_6], by simp [pSays, bSays, bgs, w6_1, w6_4, w6_6]⟩
set_option maxHeartbeats 4000000 in
set_option maxRecDepth 20000 in
theorem qX10_plainAsks (l : Launch) (g : GT) (M : Mem) (t : Nat × (Nat → Int32)) (ht : t.1 ≤ 30) {f : Nat} (hf : f ≤ 12) {kd m : Int32} (hk : mF M f 0 = kd) (hm : mF M f 1 = m) (x : Int32) : CtrE l g yX10_plainAsks cX10_plainAsks 3 (some .int) 4 [.ref (ga g 91), .int (nI f), .int x] (trM M t) (pAsks0 kd (nI f) x) (trM M (bgs t (bAsks0 kd))) := by
  refine ctrI_of (by decide +kernel) (Nat.le_of_ble_eq_true rfl) ?_
  intro pP eE RR sS mI aG bB mE cD C
  refine k_lo (lo' := [(0, .ref (ga g 91)), (1, .int (nI f)), (2, .int x)]) rfl ?_
  refine k_aload_n C 1 0 rfl rfl dX10_plainAsks_0 rfl ?_
  refine k_bipush C 3 (v := 11) (by decide) dX10_plainAsks_1 rfl ?_
  refine k_callVU C 6 (As := [.int 11]) (st := []) 91 (by decide) (ce_91 g _) rfl rfl mwX10_231 vlX10_begins (qX10_begins l g M t ht 11) mlX10_begins (by decide) (by decide) rfl rfl (Nat.le_of_ble_eq_true rfl) dX10_plainAsks_3 rfl ?_
  refine k_aload_n C 7 0 rfl rfl dX10_plainAsks_6 rfl ?_
  refine k_iload_n C 8 1 rfl rfl dX10_plainAsks_7 rfl ?_
  refine k_iload_n C 9 2 rfl rfl dX10_plainAsks_8 rfl ?_
  refine k_callVE C 12 (As := [.int (nI f), .int x]) (st := []) 91 (by decide) (ce_91 g _) rfl rfl mwX10_240 vlX10_says (qX10_says l g M (bg t 11) (bg_le _ _ ht) hf hk hm x) mlX10_says (by decide) (by decide) rfl rfl (Nat.le_of_ble_eq_true rfl) dX10_plainAsks_9 rfl ?_
  refine k_iconst C 13 (v := 2) (by decide) dX10_plainAsks_12 rfl ?_
  refine k_imul C 14 dX10_plainAsks_13 rfl ?_
  refine k_ret C rfl dX10_plainAsks_14 ?_
  exact ⟨by simp [pAsks0, bAsks0], by simp [pAsks0, bAsks0, bgs]⟩
set_option maxHeartbeats 4000000 in
set_option maxRecDepth 20000 in
theorem qX10_roundAsks (l : Launch) (g : GT) (M : Mem) (t : Nat × (Nat → Int32)) (ht : t.1 ≤ 30) {f : Nat} (hf : f ≤ 12) {kd m : Int32} (hk : mF M f 0 = kd) (hm : mF M f 1 = m) (x : Int32) : CtrE l g yX10_roundAsks cX10_roundAsks 3 (some .int) 5 [.ref (ga g 91), .int (nI f), .int x] (trM M t) (pAsks 2 kd (nI f) m x) (trM M (bgs t (bAsks 2 kd))) := by
  refine ctrI_of (by decide +kernel) (Nat.le_of_ble_eq_true rfl) ?_
  intro pP eE RR sS mI aG bB mE cD C
  refine k_lo (lo' := [(0, .ref (ga g 91)), (1, .int (nI f)), (2, .int x)]) rfl ?_
  refine k_aload_n C 1 0 rfl rfl dX10_roundAsks_0 rfl ?_
  refine k_bipush C 3 (v := 30) (by decide) dX10_roundAsks_1 rfl ?_
  refine k_callVU C 6 (As := [.int 30]) (st := []) 91 (by decide) (ce_91 g _) rfl rfl mwX10_231 vlX10_begins (qX10_begins l g M t ht 30) mlX10_begins (by decide) (by decide) rfl rfl (Nat.le_of_ble_eq_true rfl) dX10_roundAsks_3 rfl ?_
  refine k_aload_n C 7 0 rfl rfl dX10_roundAsks_6 rfl ?_
  refine k_iload_n C 8 1 rfl rfl dX10_roundAsks_7 rfl ?_
  refine k_iload_n C 9 2 rfl rfl dX10_roundAsks_8 rfl ?_
  refine k_callVE C 12 (As := [.int (nI f), .int x]) (st := []) 91 (by decide) (ce_91 g _) rfl rfl mwX10_243 vlX10_plainAsks (qX10_plainAsks l g M (bg t 30) (bg_le _ _ ht) hf hk hm x) mlX10_plainAsks (by decide) (by decide) rfl rfl (Nat.le_of_ble_eq_true rfl) dX10_roundAsks_9 rfl ?_
  refine k_ineg C 13 dX10_roundAsks_12 rfl ?_
  refine k_ret C rfl dX10_roundAsks_13 ?_
  exact ⟨by simp [pAsks, bAsks], by simp [pAsks, bAsks, bgs]⟩
set_option maxHeartbeats 4000000 in
set_option maxRecDepth 20000 in
theorem qX10_asks (l : Launch) (g : GT) (M : Mem) (t : Nat × (Nat → Int32)) (ht : t.1 ≤ 30) {f : Nat} (hf : f ≤ 12) {kd m : Int32} (hk : mF M f 0 = kd) (hm : mF M f 1 = m) (x : Int32) : CtrE l g yX10_asks cX10_asks 3 (some .int) 6 [.ref (ga g 91), .int (nI f), .int x] (trM M t) (pAsks kd kd (nI f) m x) (trM M (bgs t (bAsks kd kd))) := by
  refine ctrI_of (by decide +kernel) (Nat.le_of_ble_eq_true rfl) ?_
  intro pP eE RR sS mI aG bB mE cD C
  refine k_lo (lo' := [(0, .ref (ga g 91)), (1, .int (nI f)), (2, .int x)]) rfl ?_
  refine k_aload_n C 1 0 rfl rfl dX10_asks_0 rfl ?_
  refine k_iload_n C 2 1 rfl rfl dX10_asks_1 rfl ?_
  refine k_iconst C 3 (v := 0) (by decide) dX10_asks_2 rfl ?_
  refine k_callVE C 6 (As := [.int (nI f), .int 0]) (st := []) 91 (by decide) (ce_91 g _) rfl rfl mwX10_58 vlX10_of (qX10_of_k l g M t (w := 0) (by omega) (by decide) hk) mlX10_of (by decide) (by decide) rfl rfl (Nat.le_of_ble_eq_true rfl) dX10_asks_3 rfl ?_
  by_cases w6_2 : kd = 2
  · skip
    refine k_tin C 40 (by rw [w6_2]; decide) (by rw [w6_2]; decide) (by rw [w6_2]; rfl) dX10_asks_6 (by decide) ?_
    refine k_aload_n C 41 0 rfl rfl dX10_asks_40 rfl ?_
    refine k_iload_n C 42 1 rfl rfl dX10_asks_41 rfl ?_
    refine k_iload_n C 43 2 rfl rfl dX10_asks_42 rfl ?_
    refine k_callVE C 46 (As := [.int (nI f), .int x]) (st := []) 91 (by decide) (ce_91 g _) rfl rfl mwX10_246 vlX10_roundAsks (qX10_roundAsks l g M t ht hf hk hm x) mlX10_roundAsks (by decide) (by decide) rfl rfl (Nat.le_of_ble_eq_true rfl) dX10_asks_43 rfl ?_
    refine k_ret C rfl dX10_asks_46 ?_
    refine ⟨?_, ?_⟩ <;> first | (simp [pAsks, bAsks, bgs, w6_2]; done) | (simp [pAsks, bAsks, pAsks0, bAsks0, bgs, w6_2]; done)
  · skip
    by_cases w6_5 : kd = 5
    · skip
      refine k_tin C 47 (by rw [w6_5]; decide) (by rw [w6_5]; decide) (by rw [w6_5]; rfl) dX10_asks_6 (by decide) ?_
      refine k_aload_n C 48 0 rfl rfl dX10_asks_47 rfl ?_
      refine k_bipush C 50 (v := 60) (by decide) dX10_asks_48 rfl ?_
      refine k_callVU C 53 (As := [.int 60]) (st := []) 91 (by decide) (ce_91 g _) rfl rfl mwX10_231 vlX10_begins (qX10_begins l g M t ht 60) mlX10_begins (by decide) (by decide) rfl rfl (Nat.le_of_ble_eq_true rfl) dX10_asks_50 rfl ?_
      refine k_aload_n C 54 0 rfl rfl dX10_asks_53 rfl ?_
      refine k_iload_n C 55 1 rfl rfl dX10_asks_54 rfl ?_
      refine k_iload_n C 56 2 rfl rfl dX10_asks_55 rfl ?_
      refine k_iconst C 57 (v := 1) (by decide) dX10_asks_56 rfl ?_
      refine k_iadd C 58 dX10_asks_57 rfl ?_
      refine k_callVE C 61 (As := [.int (nI f), .int (x + 1)]) (st := []) 91 (by decide) (ce_91 g _) rfl rfl mwX10_246 vlX10_roundAsks (qX10_roundAsks l g M (bg t 60) (bg_le _ _ ht) hf hk hm (x + 1)) mlX10_roundAsks (by decide) (by decide) rfl rfl (Nat.le_of_ble_eq_true rfl) dX10_asks_58 rfl ?_
      refine k_ret C rfl dX10_asks_61 ?_
      refine ⟨?_, ?_⟩ <;> first | (simp [pAsks, bAsks, bgs, w6_5]; done) | (simp [pAsks, bAsks, pAsks0, bAsks0, bgs, w6_5]; done)
    · skip
      by_cases w6_6 : kd = 6
      · skip
        refine k_tin C 62 (by rw [w6_6]; decide) (by rw [w6_6]; decide) (by rw [w6_6]; rfl) dX10_asks_6 (by decide) ?_
        refine k_aload_n C 63 0 rfl rfl dX10_asks_62 rfl ?_
        refine k_bipush C 65 (v := 71) (by decide) dX10_asks_63 rfl ?_
        refine k_callVU C 68 (As := [.int 71]) (st := []) 91 (by decide) (ce_91 g _) rfl rfl mwX10_231 vlX10_begins (qX10_begins l g M t ht 71) mlX10_begins (by decide) (by decide) rfl rfl (Nat.le_of_ble_eq_true rfl) dX10_asks_65 rfl ?_
        refine k_aload_n C 69 0 rfl rfl dX10_asks_68 rfl ?_
        refine k_iload_n C 70 1 rfl rfl dX10_asks_69 rfl ?_
        refine k_iload_n C 71 2 rfl rfl dX10_asks_70 rfl ?_
        refine k_callVE C 74 (As := [.int (nI f), .int x]) (st := []) 91 (by decide) (ce_91 g _) rfl rfl mwX10_243 vlX10_plainAsks (qX10_plainAsks l g M (bg t 71) (bg_le _ _ ht) hf hk hm x) mlX10_plainAsks (by decide) (by decide) rfl rfl (Nat.le_of_ble_eq_true rfl) dX10_asks_71 rfl ?_
        refine k_aload_n C 75 0 rfl rfl dX10_asks_74 rfl ?_
        refine k_iload_n C 76 1 rfl rfl dX10_asks_75 rfl ?_
        refine k_iconst C 77 (v := 1) (by decide) dX10_asks_76 rfl ?_
        refine k_callVE C 80 (As := [.int (nI f), .int 1]) (st := [.int (pAsks0 kd (nI f) x)]) 91 (by decide) (ce_91 g _) rfl rfl mwX10_58 vlX10_of (qX10_of_k l g M (bgs (bg t 71) (bAsks0 kd)) (w := 1) (by omega) (by decide) hm) mlX10_of (by decide) (by decide) rfl rfl (Nat.le_of_ble_eq_true rfl) dX10_asks_77 rfl ?_
        refine k_iadd C 81 dX10_asks_80 rfl ?_
        refine k_ret C rfl dX10_asks_81 ?_
        refine ⟨?_, ?_⟩ <;> first | (simp [pAsks, bAsks, bgs, w6_6]; done) | (simp [pAsks, bAsks, pAsks0, bAsks0, bgs, w6_6]; done)
      · skip
        by_cases w6_3 : kd = 3
        · skip
          refine k_tin C 82 (by rw [w6_3]; decide) (by rw [w6_3]; decide) (by rw [w6_3]; rfl) dX10_asks_6 (by decide) ?_
          refine k_aload_n C 83 0 rfl rfl dX10_asks_82 rfl ?_
          refine k_iload_n C 84 1 rfl rfl dX10_asks_83 rfl ?_
          refine k_iload_n C 85 2 rfl rfl dX10_asks_84 rfl ?_
          refine k_callVE C 88 (As := [.int (nI f), .int x]) (st := []) 91 (by decide) (ce_91 g _) rfl rfl mwX10_243 vlX10_plainAsks (qX10_plainAsks l g M t ht hf hk hm x) mlX10_plainAsks (by decide) (by decide) rfl rfl (Nat.le_of_ble_eq_true rfl) dX10_asks_85 rfl ?_
          refine k_ret C rfl dX10_asks_88 ?_
          refine ⟨?_, ?_⟩ <;> first | (simp [pAsks, bAsks, bgs, w6_2, w6_5, w6_6, w6_3]; done) | (simp [pAsks, bAsks, pAsks0, bAsks0, bgs, w6_2, w6_5, w6_6, w6_3]; done)
        · skip
          by_cases w6_4 : kd = 4
          · skip
            refine k_tin C 82 (by rw [w6_4]; decide) (by rw [w6_4]; decide) (by rw [w6_4]; rfl) dX10_asks_6 (by decide) ?_
            refine k_aload_n C 83 0 rfl rfl dX10_asks_82 rfl ?_
            refine k_iload_n C 84 1 rfl rfl dX10_asks_83 rfl ?_
            refine k_iload_n C 85 2 rfl rfl dX10_asks_84 rfl ?_
            refine k_callVE C 88 (As := [.int (nI f), .int x]) (st := []) 91 (by decide) (ce_91 g _) rfl rfl mwX10_243 vlX10_plainAsks (qX10_plainAsks l g M t ht hf hk hm x) mlX10_plainAsks (by decide) (by decide) rfl rfl (Nat.le_of_ble_eq_true rfl) dX10_asks_85 rfl ?_
            refine k_ret C rfl dX10_asks_88 ?_
            refine ⟨?_, ?_⟩ <;> first | (simp [pAsks, bAsks, bgs, w6_2, w6_5, w6_6, w6_3, w6_4]; done) | (simp [pAsks, bAsks, pAsks0, bAsks0, bgs, w6_2, w6_5, w6_6, w6_3, w6_4]; done)
          · skip
            refine k_tout C 82 (by have z0 := i_ne w6_2 (k := 2) rfl; have z1 := i_ne w6_5 (k := 5) rfl; have z2 := i_ne w6_6 (k := 6) rfl; have z3 := i_ne w6_3 (k := 3) rfl; have z4 := i_ne w6_4 (k := 4) rfl; omega) dX10_asks_6 (by decide) ?_
            refine k_aload_n C 83 0 rfl rfl dX10_asks_82 rfl ?_
            refine k_iload_n C 84 1 rfl rfl dX10_asks_83 rfl ?_
            refine k_iload_n C 85 2 rfl rfl dX10_asks_84 rfl ?_
            refine k_callVE C 88 (As := [.int (nI f), .int x]) (st := []) 91 (by decide) (ce_91 g _) rfl rfl mwX10_243 vlX10_plainAsks (qX10_plainAsks l g M t ht hf hk hm x) mlX10_plainAsks (by decide) (by decide) rfl rfl (Nat.le_of_ble_eq_true rfl) dX10_asks_85 rfl ?_
            refine k_ret C rfl dX10_asks_88 ?_
            refine ⟨?_, ?_⟩ <;> first | (simp [pAsks, bAsks, bgs, w6_2, w6_5, w6_6, w6_3, w6_4]; done) | (simp [pAsks, bAsks, pAsks0, bAsks0, bgs, w6_2, w6_5, w6_6, w6_3, w6_4]; done)
set_option maxHeartbeats 4000000 in
set_option maxRecDepth 20000 in
theorem qX10_plainHums (l : Launch) (g : GT) (M : Mem) (t : Nat × (Nat → Int32)) (ht : t.1 ≤ 30) {f : Nat} (hf : f ≤ 12) {kd m : Int32} (hk : mF M f 0 = kd) (hm : mF M f 1 = m) (x : Int32) : CtrE l g yX10_plainHums cX10_plainHums 3 (some .int) 7 [.ref (ga g 91), .int (nI f), .int x] (trM M t) (pHums0 kd (nI f) m x) (trM M (bgs t (bHums0 kd))) := by
  refine ctrI_of (by decide +kernel) (Nat.le_of_ble_eq_true rfl) ?_
  intro pP eE RR sS mI aG bB mE cD C
  refine k_lo (lo' := [(0, .ref (ga g 91)), (1, .int (nI f)), (2, .int x)]) rfl ?_
  refine k_aload_n C 1 0 rfl rfl dX10_plainHums_0 rfl ?_
  refine k_bipush C 3 (v := 12) (by decide) dX10_plainHums_1 rfl ?_
  refine k_callVU C 6 (As := [.int 12]) (st := []) 91 (by decide) (ce_91 g _) rfl rfl mwX10_231 vlX10_begins (qX10_begins l g M t ht 12) mlX10_begins (by decide) (by decide) rfl rfl (Nat.le_of_ble_eq_true rfl) dX10_plainHums_3 rfl ?_
  refine k_aload_n C 7 0 rfl rfl dX10_plainHums_6 rfl ?_
  refine k_iload_n C 8 1 rfl rfl dX10_plainHums_7 rfl ?_
  refine k_iload_n C 9 2 rfl rfl dX10_plainHums_8 rfl ?_
  refine k_callVE C 12 (As := [.int (nI f), .int x]) (st := []) 91 (by decide) (ce_91 g _) rfl rfl mwX10_249 vlX10_asks (qX10_asks l g M (bg t 12) (bg_le _ _ ht) hf hk hm x) mlX10_asks (by decide) (by decide) rfl rfl (Nat.le_of_ble_eq_true rfl) dX10_plainHums_9 rfl ?_
  refine k_aload_n C 13 0 rfl rfl dX10_plainHums_12 rfl ?_
  refine k_iload_n C 14 1 rfl rfl dX10_plainHums_13 rfl ?_
  refine k_iconst C 15 (v := 1) (by decide) dX10_plainHums_14 rfl ?_
  refine k_callVE C 18 (As := [.int (nI f), .int 1]) (st := [.int (pAsks kd kd (nI f) m x)]) 91 (by decide) (ce_91 g _) rfl rfl mwX10_58 vlX10_of (qX10_of_k l g M (bgs (bg t 12) (bAsks kd kd)) (w := 1) (by omega) (by decide) hm) mlX10_of (by decide) (by decide) rfl rfl (Nat.le_of_ble_eq_true rfl) dX10_plainHums_15 rfl ?_
  refine k_isub C 19 dX10_plainHums_18 rfl ?_
  refine k_ret C rfl dX10_plainHums_19 ?_
  exact ⟨by simp [pHums0, bHums0], by simp [pHums0, bHums0, bgs]⟩
set_option maxHeartbeats 4000000 in
set_option maxRecDepth 20000 in
theorem qX10_hums (l : Launch) (g : GT) (M : Mem) (t : Nat × (Nat → Int32)) (ht : t.1 ≤ 30) {f : Nat} (hf : f ≤ 12) {kd m : Int32} (hk : mF M f 0 = kd) (hm : mF M f 1 = m) (x : Int32) : CtrE l g yX10_hums cX10_hums 3 (some .int) 8 [.ref (ga g 91), .int (nI f), .int x] (trM M t) (pHums kd kd (nI f) m x) (trM M (bgs t (bHums kd kd))) := by
  refine ctrI_of (by decide +kernel) (Nat.le_of_ble_eq_true rfl) ?_
  intro pP eE RR sS mI aG bB mE cD C
  refine k_lo (lo' := [(0, .ref (ga g 91)), (1, .int (nI f)), (2, .int x)]) rfl ?_
  refine k_aload_n C 1 0 rfl rfl dX10_hums_0 rfl ?_
  refine k_iload_n C 2 1 rfl rfl dX10_hums_1 rfl ?_
  refine k_iconst C 3 (v := 0) (by decide) dX10_hums_2 rfl ?_
  refine k_callVE C 6 (As := [.int (nI f), .int 0]) (st := []) 91 (by decide) (ce_91 g _) rfl rfl mwX10_58 vlX10_of (qX10_of_k l g M t (w := 0) (by omega) (by decide) hk) mlX10_of (by decide) (by decide) rfl rfl (Nat.le_of_ble_eq_true rfl) dX10_hums_3 rfl ?_
  by_cases w6_3 : kd = 3
  · skip
    refine k_look C 32 (by decide) (by rw [w6_3]) dX10_hums_6 (by decide) ?_
    refine k_aload_n C 33 0 rfl rfl dX10_hums_32 rfl ?_
    refine k_bipush C 35 (v := 40) (by decide) dX10_hums_33 rfl ?_
    refine k_callVU C 38 (As := [.int 40]) (st := []) 91 (by decide) (ce_91 g _) rfl rfl mwX10_231 vlX10_begins (qX10_begins l g M t ht 40) mlX10_begins (by decide) (by decide) rfl rfl (Nat.le_of_ble_eq_true rfl) dX10_hums_35 rfl ?_
    refine k_aload_n C 39 0 rfl rfl dX10_hums_38 rfl ?_
    refine k_iload_n C 40 1 rfl rfl dX10_hums_39 rfl ?_
    refine k_iload_n C 41 2 rfl rfl dX10_hums_40 rfl ?_
    refine k_iconst C 42 (v := 2) (by decide) dX10_hums_41 rfl ?_
    refine k_idiv C 43 (by decide) dX10_hums_42 rfl ?_
    refine k_callVE C 46 (As := [.int (nI f), .int (x / 2)]) (st := []) 91 (by decide) (ce_91 g _) rfl rfl mwX10_252 vlX10_plainHums (qX10_plainHums l g M (bg t 40) (bg_le _ _ ht) hf hk hm (x / 2)) mlX10_plainHums (by decide) (by decide) rfl rfl (Nat.le_of_ble_eq_true rfl) dX10_hums_43 rfl ?_
    refine k_ret C rfl dX10_hums_46 ?_
    refine ⟨?_, ?_⟩ <;> first | (simp [pHums, bHums, bgs, w6_3]; done) | (simp [pHums, bHums, pHums0, bHums0, bgs, w6_3]; done)
  · skip
    by_cases w6_4 : kd = 4
    · skip
      refine k_look C 47 (by decide) (by rw [w6_4]) dX10_hums_6 (by decide) ?_
      refine k_aload_n C 48 0 rfl rfl dX10_hums_47 rfl ?_
      refine k_bipush C 50 (v := 51) (by decide) dX10_hums_48 rfl ?_
      refine k_callVU C 53 (As := [.int 51]) (st := []) 91 (by decide) (ce_91 g _) rfl rfl mwX10_231 vlX10_begins (qX10_begins l g M t ht 51) mlX10_begins (by decide) (by decide) rfl rfl (Nat.le_of_ble_eq_true rfl) dX10_hums_50 rfl ?_
      refine k_aload_n C 54 0 rfl rfl dX10_hums_53 rfl ?_
      refine k_iload_n C 55 1 rfl rfl dX10_hums_54 rfl ?_
      refine k_iload_n C 56 2 rfl rfl dX10_hums_55 rfl ?_
      refine k_callVE C 59 (As := [.int (nI f), .int x]) (st := []) 91 (by decide) (ce_91 g _) rfl rfl mwX10_252 vlX10_plainHums (qX10_plainHums l g M (bg t 51) (bg_le _ _ ht) hf hk hm x) mlX10_plainHums (by decide) (by decide) rfl rfl (Nat.le_of_ble_eq_true rfl) dX10_hums_56 rfl ?_
      refine k_iload_n C 60 1 rfl rfl dX10_hums_59 rfl ?_
      refine k_ixor C 61 dX10_hums_60 rfl ?_
      refine k_ret C rfl dX10_hums_61 ?_
      refine ⟨?_, ?_⟩ <;> first | (simp [pHums, bHums, bgs, w6_4]; done) | (simp [pHums, bHums, pHums0, bHums0, bgs, w6_4]; done)
    · skip
      refine k_look C 62 (off := 56) (by decide) (by have z0 := i_ne w6_3 (k := 3) rfl; have z1 := i_ne w6_4 (k := 4) rfl; simp [Op.lookupswitch.offset, List.find?, beq_false_of_ne (Ne.symm z0), z0, Ne.symm z0, beq_false_of_ne (Ne.symm z1), z1, Ne.symm z1]) dX10_hums_6 (by decide) ?_
      refine k_aload_n C 63 0 rfl rfl dX10_hums_62 rfl ?_
      refine k_iload_n C 64 1 rfl rfl dX10_hums_63 rfl ?_
      refine k_iload_n C 65 2 rfl rfl dX10_hums_64 rfl ?_
      refine k_callVE C 68 (As := [.int (nI f), .int x]) (st := []) 91 (by decide) (ce_91 g _) rfl rfl mwX10_252 vlX10_plainHums (qX10_plainHums l g M t ht hf hk hm x) mlX10_plainHums (by decide) (by decide) rfl rfl (Nat.le_of_ble_eq_true rfl) dX10_hums_65 rfl ?_
      refine k_ret C rfl dX10_hums_68 ?_
      refine ⟨?_, ?_⟩ <;> first | (simp [pHums, bHums, bgs, w6_3, w6_4]; done) | (simp [pHums, bHums, pHums0, bHums0, bgs, w6_3, w6_4]; done)
set_option maxHeartbeats 4000000 in
set_option maxRecDepth 20000 in
theorem qX10_plainParts (l : Launch) (g : GT) (M : Mem) (t : Nat × (Nat → Int32)) (ht : t.1 ≤ 30) {f : Nat} (hf : f ≤ 12) {kd m : Int32} (hk : mF M f 0 = kd) (hm : mF M f 1 = m) (x : Int32) : CtrE l g yX10_plainParts cX10_plainParts 4 (some .int) 1 [.ref (ga g 91), .int (nI f), .int x] (trM M t) (pParts0 (nI f) m x) (trM (mu M 91 20 (if m = nI f then 1 else 0)) (bgs t [13])) := by
  refine ctrI_of (by decide +kernel) (Nat.le_of_ble_eq_true rfl) ?_
  intro pP eE RR sS mI aG bB mE cD C
  refine k_lo (lo' := [(0, .ref (ga g 91)), (1, .int (nI f)), (2, .int x)]) rfl ?_
  refine k_aload_n C 1 0 rfl rfl dX10_plainParts_0 rfl ?_
  refine k_bipush C 3 (v := 13) (by decide) dX10_plainParts_1 rfl ?_
  refine k_callVU C 6 (As := [.int 13]) (st := []) 91 (by decide) (ce_91 g _) rfl rfl mwX10_231 vlX10_begins (qX10_begins l g M t ht 13) mlX10_begins (by decide) (by decide) rfl rfl (Nat.le_of_ble_eq_true rfl) dX10_plainParts_3 rfl ?_
  refine k_aload_n C 7 0 rfl rfl dX10_plainParts_6 rfl ?_
  refine k_iload_n C 8 1 rfl rfl dX10_plainParts_7 rfl ?_
  refine k_iconst C 9 (v := 1) (by decide) dX10_plainParts_8 rfl ?_
  refine k_callVE C 12 (As := [.int (nI f), .int 1]) (st := []) 91 (by decide) (ce_91 g _) rfl rfl mwX10_58 vlX10_of (qX10_of_k l g M (bg t 13) (w := 1) (by omega) (by decide) hm) mlX10_of (by decide) (by decide) rfl rfl (Nat.le_of_ble_eq_true rfl) dX10_plainParts_9 rfl ?_
  refine k_iload_n C 13 1 rfl rfl dX10_plainParts_12 rfl ?_
  refine k_isub C 14 dX10_plainParts_13 rfl ?_
  refine k_istore_n C 15 [(3, .int (m - (nI f))), (0, .ref (ga g 91)), (1, .int (nI f)), (2, .int x)] rfl (by decide) rfl dX10_plainParts_14 rfl ?_
  refine k_aload_n C 16 1 rfl rfl dX10_plainParts_15 rfl ?_
  refine k_iload_n C 17 0 rfl rfl dX10_plainParts_16 rfl ?_
  refine k_if_ne C 24 20 dX10_plainParts_17 (by decide) rfl (fun c17 => ?_) (fun d17 => ?_)
  · skip
    refine k_iconst C 25 (v := 0) (by decide) dX10_plainParts_24 rfl ?_
    refine k_put C 28 flX10_255 plX10 91 (by decide) (ce_91 g _) (ce_91 g _) (Nat.le_of_ble_eq_true rfl) rfl rfl rfl dX10_plainParts_25 rfl ?_
    refine k_mem (M' := trM (mu M 91 20 0) (bg t 13)) (trM_p _ _ _) ?_
    refine k_aload_n C 29 1 rfl rfl dX10_plainParts_28 rfl ?_
    refine k_get C 32 flX10_255 91 (by decide) (v := .int ((trM (mu M 91 20 0) (bg t 13)) 91 20)) (ce_91 g _) rfl dX10_plainParts_29 rfl ?_
    refine k_teq (y := (mu M 91 20 0) 91 20) (trM_o _ _ (by decide)) ?_
    refine k_teq (y := 0) (mu_s _ _ _ _) ?_
    refine k_if_eq C 39 35 dX10_plainParts_32 (by decide) rfl (fun c32 => ?_) (fun d32 => ?_)
    · skip
      refine k_iload_n C 40 3 rfl rfl dX10_plainParts_39 rfl ?_
      refine k_iload_n C 41 0 rfl rfl dX10_plainParts_40 rfl ?_
      refine k_idiv C 42 c17 dX10_plainParts_41 rfl ?_
      refine k_ret C rfl dX10_plainParts_42 ?_
      have e : ¬ m = nI f := fun q => c17 (by rw [q]; exact Int32.sub_self _)
      exact ⟨by simp [pParts0, e], by simp [e, bgs]⟩
    · skip
      exact absurd d32 (by decide)
  · skip
    refine k_iconst C 21 (v := 1) (by decide) dX10_plainParts_20 rfl ?_
    refine k_goto C 25 dX10_plainParts_21 (by decide) ?_
    refine k_put C 28 flX10_255 plX10 91 (by decide) (ce_91 g _) (ce_91 g _) (Nat.le_of_ble_eq_true rfl) rfl rfl rfl dX10_plainParts_25 rfl ?_
    refine k_mem (M' := trM (mu M 91 20 1) (bg t 13)) (trM_p _ _ _) ?_
    refine k_aload_n C 29 1 rfl rfl dX10_plainParts_28 rfl ?_
    refine k_get C 32 flX10_255 91 (by decide) (v := .int ((trM (mu M 91 20 1) (bg t 13)) 91 20)) (ce_91 g _) rfl dX10_plainParts_29 rfl ?_
    refine k_teq (y := (mu M 91 20 1) 91 20) (trM_o _ _ (by decide)) ?_
    refine k_teq (y := 1) (mu_s _ _ _ _) ?_
    refine k_if_eq C 39 35 dX10_plainParts_32 (by decide) rfl (fun c32 => ?_) (fun d32 => ?_)
    · skip
      exact absurd c32 (by decide)
    · skip
      refine k_iconst C 36 (v := 0) (by decide) dX10_plainParts_35 rfl ?_
      refine k_goto C 42 dX10_plainParts_36 (by decide) ?_
      refine k_ret C rfl dX10_plainParts_42 ?_
      have e : m = nI f := Classical.byContradiction (fun q => Int32_sub_ne q d17)
      exact ⟨by simp [pParts0, e], by simp [e, bgs]⟩
set_option maxHeartbeats 4000000 in
set_option maxRecDepth 20000 in
theorem qX10_parts (l : Launch) (g : GT) (M : Mem) (t : Nat × (Nat → Int32)) (ht : t.1 ≤ 30) {f : Nat} (hf : f ≤ 12) {kd m : Int32} (hk : mF M f 0 = kd) (hm : mF M f 1 = m) (x : Int32) : CtrE l g yX10_parts cX10_parts 4 (some .int) 7 [.ref (ga g 91), .int (nI f), .int x] (trM M t) (pParts kd kd (nI f) m x) (trM (mu M 91 20 (if m = nI f then 1 else 0)) (bgs t (bParts kd kd (nI f) m))) := by
  refine ctrI_of (by decide +kernel) (Nat.le_of_ble_eq_true rfl) ?_
  intro pP eE RR sS mI aG bB mE cD C
  refine k_lo (lo' := [(0, .ref (ga g 91)), (1, .int (nI f)), (2, .int x)]) rfl ?_
  refine k_aload_n C 1 0 rfl rfl dX10_parts_0 rfl ?_
  refine k_iload_n C 2 1 rfl rfl dX10_parts_1 rfl ?_
  refine k_iconst C 3 (v := 0) (by decide) dX10_parts_2 rfl ?_
  refine k_callVE C 6 (As := [.int (nI f), .int 0]) (st := []) 91 (by decide) (ce_91 g _) rfl rfl mwX10_58 vlX10_of (qX10_of_k l g M t (w := 0) (by omega) (by decide) hk) mlX10_of (by decide) (by decide) rfl rfl (Nat.le_of_ble_eq_true rfl) dX10_parts_3 rfl ?_
  refine k_iconst C 7 (v := 1) (by decide) dX10_parts_6 rfl ?_
  refine k_icmp_eq C 20 10 dX10_parts_7 (by decide) rfl (fun c7 => ?_) (fun d7 => ?_)
  · skip
    refine k_aload_n C 21 0 rfl rfl dX10_parts_20 rfl ?_
    refine k_bipush C 23 (v := 21) (by decide) dX10_parts_21 rfl ?_
    refine k_callVU C 26 (As := [.int 21]) (st := []) 91 (by decide) (ce_91 g _) rfl rfl mwX10_231 vlX10_begins (qX10_begins l g M t ht 21) mlX10_begins (by decide) (by decide) rfl rfl (Nat.le_of_ble_eq_true rfl) dX10_parts_23 rfl ?_
    refine k_aload_n C 27 0 rfl rfl dX10_parts_26 rfl ?_
    refine k_iload_n C 28 1 rfl rfl dX10_parts_27 rfl ?_
    refine k_iload_n C 29 2 rfl rfl dX10_parts_28 rfl ?_
    refine k_callVE C 32 (As := [.int (nI f), .int x]) (st := []) 91 (by decide) (ce_91 g _) rfl rfl mwX10_258 vlX10_plainParts (qX10_plainParts l g M (bg t 21) (bg_le _ _ ht) hf hk hm x) mlX10_plainParts (by decide) (by decide) rfl rfl (Nat.le_of_ble_eq_true rfl) dX10_parts_29 rfl ?_
    by_cases hk_ : m = nI f
    · skip
      refine k_mem (M' := trM (mu M 91 20 1) (bgs (bg t 21) [13])) (by simp [hk_]) ?_
      refine k_istore_n C 33 [(3, .int (pParts0 (nI f) m x)), (0, .ref (ga g 91)), (1, .int (nI f)), (2, .int x)] rfl (by decide) rfl dX10_parts_32 rfl ?_
      refine k_aload_n C 34 1 rfl rfl dX10_parts_33 rfl ?_
      refine k_get C 37 flX10_255 91 (by decide) (v := .int ((trM (mu M 91 20 1) (bgs (bg t 21) [13])) 91 20)) (ce_91 g _) rfl dX10_parts_34 rfl ?_
      refine k_teq (y := (mu M 91 20 1) 91 20) (trM_o _ _ (by decide)) ?_
      refine k_teq (y := 1) (mu_s _ _ _ _) ?_
      refine k_if_eq C 44 40 dX10_parts_37 (by decide) rfl (fun c37 => ?_) (fun d37 => ?_)
      · skip
        exact absurd c37 (by decide)
      · skip
        refine k_iconst C 41 (v := 0) (by decide) dX10_parts_40 rfl ?_
        refine k_goto C 52 dX10_parts_41 (by decide) ?_
        refine k_ret C rfl dX10_parts_52 ?_
        refine ⟨?_, ?_⟩ <;> first | (simp [pParts, bParts, bgs, c7, hk_, d37]; done) | (simp [pParts, pParts0, bParts, bgs, c7, hk_, d37]; done)
    · skip
      refine k_mem (M' := trM (mu M 91 20 0) (bgs (bg t 21) [13])) (by simp [hk_]) ?_
      refine k_istore_n C 33 [(3, .int (pParts0 (nI f) m x)), (0, .ref (ga g 91)), (1, .int (nI f)), (2, .int x)] rfl (by decide) rfl dX10_parts_32 rfl ?_
      refine k_aload_n C 34 1 rfl rfl dX10_parts_33 rfl ?_
      refine k_get C 37 flX10_255 91 (by decide) (v := .int ((trM (mu M 91 20 0) (bgs (bg t 21) [13])) 91 20)) (ce_91 g _) rfl dX10_parts_34 rfl ?_
      refine k_teq (y := (mu M 91 20 0) 91 20) (trM_o _ _ (by decide)) ?_
      refine k_teq (y := 0) (mu_s _ _ _ _) ?_
      refine k_if_eq C 44 40 dX10_parts_37 (by decide) rfl (fun c37 => ?_) (fun d37 => ?_)
      · skip
        refine k_iload_n C 45 0 rfl rfl dX10_parts_44 rfl ?_
        refine k_aload_n C 46 1 rfl rfl dX10_parts_45 rfl ?_
        refine k_iload_n C 47 2 rfl rfl dX10_parts_46 rfl ?_
        refine k_iconst C 48 (v := 1) (by decide) dX10_parts_47 rfl ?_
        refine k_callVE C 51 (As := [.int (nI f), .int 1]) (st := [.int (pParts0 (nI f) m x)]) 91 (by decide) (ce_91 g _) rfl rfl mwX10_249 vlX10_asks (qX10_asks l g (mu M 91 20 0) (bgs (bg t 21) [13]) (bgs_le _ _ (bg_le _ _ ht)) hf ((congrFun (congrFun (mF_91 _ _ _) _) _).trans hk) ((congrFun (congrFun (mF_91 _ _ _) _) _).trans hm) 1) mlX10_asks (by decide) (by decide) rfl rfl (Nat.le_of_ble_eq_true rfl) dX10_parts_48 rfl ?_
        refine k_iadd C 52 dX10_parts_51 rfl ?_
        refine k_ret C rfl dX10_parts_52 ?_
        refine ⟨?_, ?_⟩ <;> first | (simp [pParts, bParts, bgs, c7, hk_, c37]; done) | (simp [pParts, pParts0, bParts, bgs, c7, hk_, c37]; done)
      · skip
        exact absurd d37 (by decide)
  · skip
    refine k_aload_n C 11 0 rfl rfl dX10_parts_10 rfl ?_
    refine k_iload_n C 12 1 rfl rfl dX10_parts_11 rfl ?_
    refine k_iconst C 13 (v := 0) (by decide) dX10_parts_12 rfl ?_
    refine k_callVE C 16 (As := [.int (nI f), .int 0]) (st := []) 91 (by decide) (ce_91 g _) rfl rfl mwX10_58 vlX10_of (qX10_of_k l g M t (w := 0) (by omega) (by decide) hk) mlX10_of (by decide) (by decide) rfl rfl (Nat.le_of_ble_eq_true rfl) dX10_parts_13 rfl ?_
    refine k_iconst C 17 (v := 4) (by decide) dX10_parts_16 rfl ?_
    refine k_icmp_ne C 53 20 dX10_parts_17 (by decide) rfl (fun c17 => ?_) (fun d17 => ?_)
    · skip
      refine k_aload_n C 54 0 rfl rfl dX10_parts_53 rfl ?_
      refine k_iload_n C 55 1 rfl rfl dX10_parts_54 rfl ?_
      refine k_iload_n C 56 2 rfl rfl dX10_parts_55 rfl ?_
      refine k_callVE C 59 (As := [.int (nI f), .int x]) (st := []) 91 (by decide) (ce_91 g _) rfl rfl mwX10_258 vlX10_plainParts (qX10_plainParts l g M t ht hf hk hm x) mlX10_plainParts (by decide) (by decide) rfl rfl (Nat.le_of_ble_eq_true rfl) dX10_parts_56 rfl ?_
      refine k_ret C rfl dX10_parts_59 ?_
      refine ⟨?_, ?_⟩ <;> first | (simp [pParts, bParts, bgs, d7, c17]; done) | (simp [pParts, pParts0, bParts, bgs, d7, c17]; done)
    · skip
      refine k_aload_n C 21 0 rfl rfl dX10_parts_20 rfl ?_
      refine k_bipush C 23 (v := 21) (by decide) dX10_parts_21 rfl ?_
      refine k_callVU C 26 (As := [.int 21]) (st := []) 91 (by decide) (ce_91 g _) rfl rfl mwX10_231 vlX10_begins (qX10_begins l g M t ht 21) mlX10_begins (by decide) (by decide) rfl rfl (Nat.le_of_ble_eq_true rfl) dX10_parts_23 rfl ?_
      refine k_aload_n C 27 0 rfl rfl dX10_parts_26 rfl ?_
      refine k_iload_n C 28 1 rfl rfl dX10_parts_27 rfl ?_
      refine k_iload_n C 29 2 rfl rfl dX10_parts_28 rfl ?_
      refine k_callVE C 32 (As := [.int (nI f), .int x]) (st := []) 91 (by decide) (ce_91 g _) rfl rfl mwX10_258 vlX10_plainParts (qX10_plainParts l g M (bg t 21) (bg_le _ _ ht) hf hk hm x) mlX10_plainParts (by decide) (by decide) rfl rfl (Nat.le_of_ble_eq_true rfl) dX10_parts_29 rfl ?_
      by_cases hk_ : m = nI f
      · skip
        refine k_mem (M' := trM (mu M 91 20 1) (bgs (bg t 21) [13])) (by simp [hk_]) ?_
        refine k_istore_n C 33 [(3, .int (pParts0 (nI f) m x)), (0, .ref (ga g 91)), (1, .int (nI f)), (2, .int x)] rfl (by decide) rfl dX10_parts_32 rfl ?_
        refine k_aload_n C 34 1 rfl rfl dX10_parts_33 rfl ?_
        refine k_get C 37 flX10_255 91 (by decide) (v := .int ((trM (mu M 91 20 1) (bgs (bg t 21) [13])) 91 20)) (ce_91 g _) rfl dX10_parts_34 rfl ?_
        refine k_teq (y := (mu M 91 20 1) 91 20) (trM_o _ _ (by decide)) ?_
        refine k_teq (y := 1) (mu_s _ _ _ _) ?_
        refine k_if_eq C 44 40 dX10_parts_37 (by decide) rfl (fun c37 => ?_) (fun d37 => ?_)
        · skip
          exact absurd c37 (by decide)
        · skip
          refine k_iconst C 41 (v := 0) (by decide) dX10_parts_40 rfl ?_
          refine k_goto C 52 dX10_parts_41 (by decide) ?_
          refine k_ret C rfl dX10_parts_52 ?_
          refine ⟨?_, ?_⟩ <;> first | (simp [pParts, bParts, bgs, d7, d17, hk_, d37]; done) | (simp [pParts, pParts0, bParts, bgs, d7, d17, hk_, d37]; done)
      · skip
        refine k_mem (M' := trM (mu M 91 20 0) (bgs (bg t 21) [13])) (by simp [hk_]) ?_
        refine k_istore_n C 33 [(3, .int (pParts0 (nI f) m x)), (0, .ref (ga g 91)), (1, .int (nI f)), (2, .int x)] rfl (by decide) rfl dX10_parts_32 rfl ?_
        refine k_aload_n C 34 1 rfl rfl dX10_parts_33 rfl ?_
        refine k_get C 37 flX10_255 91 (by decide) (v := .int ((trM (mu M 91 20 0) (bgs (bg t 21) [13])) 91 20)) (ce_91 g _) rfl dX10_parts_34 rfl ?_
        refine k_teq (y := (mu M 91 20 0) 91 20) (trM_o _ _ (by decide)) ?_
        refine k_teq (y := 0) (mu_s _ _ _ _) ?_
        refine k_if_eq C 44 40 dX10_parts_37 (by decide) rfl (fun c37 => ?_) (fun d37 => ?_)
        · skip
          refine k_iload_n C 45 0 rfl rfl dX10_parts_44 rfl ?_
          refine k_aload_n C 46 1 rfl rfl dX10_parts_45 rfl ?_
          refine k_iload_n C 47 2 rfl rfl dX10_parts_46 rfl ?_
          refine k_iconst C 48 (v := 1) (by decide) dX10_parts_47 rfl ?_
          refine k_callVE C 51 (As := [.int (nI f), .int 1]) (st := [.int (pParts0 (nI f) m x)]) 91 (by decide) (ce_91 g _) rfl rfl mwX10_249 vlX10_asks (qX10_asks l g (mu M 91 20 0) (bgs (bg t 21) [13]) (bgs_le _ _ (bg_le _ _ ht)) hf ((congrFun (congrFun (mF_91 _ _ _) _) _).trans hk) ((congrFun (congrFun (mF_91 _ _ _) _) _).trans hm) 1) mlX10_asks (by decide) (by decide) rfl rfl (Nat.le_of_ble_eq_true rfl) dX10_parts_48 rfl ?_
          refine k_iadd C 52 dX10_parts_51 rfl ?_
          refine k_ret C rfl dX10_parts_52 ?_
          refine ⟨?_, ?_⟩ <;> first | (simp [pParts, bParts, bgs, d7, d17, hk_, c37]; done) | (simp [pParts, pParts0, bParts, bgs, d7, d17, hk_, c37]; done)
        · skip
          exact absurd d37 (by decide)
set_option maxHeartbeats 4000000 in
set_option maxRecDepth 20000 in
theorem qX10_voice_f (l : Launch) (g : GT) (M : Mem) {n : Nat} (hn : M 92 2 = nI n) (h12 : n ≤ 12) (f v x : Int32) (hf : (pIsF n f && (decide (0 ≤ v) && decide (v ≤ 3))) = false) : CtrE l g yX10_voice cX10_voice 5 (some .int) 9 [.ref (ga g 91), .int f, .int v, .int x] M (-1000000001) (mu M 95 1 (M 95 1 + 1)) := by
  refine ctrI_of (by decide +kernel) (Nat.le_of_ble_eq_true rfl) ?_
  intro pP eE RR sS mI aG bB mE cD C
  refine k_lo (lo' := [(0, .ref (ga g 91)), (1, .int f), (2, .int v), (3, .int x)]) rfl ?_
  refine k_aload_n C 1 0 rfl rfl dX10_voice_0 rfl ?_
  refine k_iload_n C 2 1 rfl rfl dX10_voice_1 rfl ?_
  refine k_callVE C 5 (As := [.int f]) (st := []) 91 (by decide) (ce_91 g _) rfl rfl mwX10_102 vlX10_isFurrow (qX10_isFurrow l g M (n := n) hn h12 f) mlX10_isFurrow (by decide) (by decide) rfl rfl (Nat.le_of_ble_eq_true rfl) dX10_voice_2 rfl ?_
  refine k_if_eqB C 17 8 dX10_voice_5 (by decide) rfl (fun c5 => ?_) (fun d5 => ?_)
  · skip
    refine k_aload_n C 18 0 rfl rfl dX10_voice_17 rfl ?_
    refine k_ldc C 20 cwX10_94 dX10_voice_18 rfl ?_
    refine k_callVE C 23 (As := [.int (-1000000001)]) (st := []) 91 (by decide) (ce_91 g _) rfl rfl mwX10_95 vlX10_error (qX10_error l g M (-1000000001) (k := 1) (by decide) (by decide)) mlX10_error (by decide) (by decide) rfl rfl (Nat.le_of_ble_eq_true rfl) dX10_voice_20 rfl ?_
    refine k_ret C rfl dX10_voice_23 ?_
    exact ⟨rfl, rfl⟩
  · skip
    refine k_iload_n C 9 2 rfl rfl dX10_voice_8 rfl ?_
    refine k_iconst C 10 (v := 0) (by decide) dX10_voice_9 rfl ?_
    refine k_iconst C 11 (v := 3) (by decide) dX10_voice_10 rfl ?_
    refine k_callSE C 14 (As := [.int v, .int 0, .int 3]) (st := []) mwX10_54 skX10_in (qX10_in l g M v 0 3) mlX10_in (by decide) (by decide) rfl rfl (Nat.le_of_ble_eq_true rfl) dX10_voice_11 rfl ?_
    refine k_if_neB C 24 17 dX10_voice_14 (by decide) rfl (fun c14 => ?_) (fun d14 => ?_)
    · skip
      exact (bz hf (by simp [d5, c14])).elim
    · skip
      refine k_aload_n C 18 0 rfl rfl dX10_voice_17 rfl ?_
      refine k_ldc C 20 cwX10_94 dX10_voice_18 rfl ?_
      refine k_callVE C 23 (As := [.int (-1000000001)]) (st := []) 91 (by decide) (ce_91 g _) rfl rfl mwX10_95 vlX10_error (qX10_error l g M (-1000000001) (k := 1) (by decide) (by decide)) mlX10_error (by decide) (by decide) rfl rfl (Nat.le_of_ble_eq_true rfl) dX10_voice_20 rfl ?_
      refine k_ret C rfl dX10_voice_23 ?_
      exact ⟨rfl, rfl⟩
set_option maxHeartbeats 4000000 in
set_option maxRecDepth 20000 in
theorem qX10_voice_t (l : Launch) (g : GT) (M : Mem) {n : Nat} (hn : M 92 2 = nI n) (h12 : n ≤ 12) {f : Nat} (hf2 : f < n) {kd m : Int32} (hk : mF M f 0 = kd) (hm : mF M f 1 = m) (x : Int32) {v : Nat} (hv : v < 4) : CtrE l g yX10_voice cX10_voice 5 (some .int) 9 [.ref (ga g 91), .int (nI f), .int (nI v), .int x] M (if pOff (nI v) (nI f) m then (-1000000006) else pVoice (nI v) kd (nI f) m x) (if pOff (nI v) (nI f) m then mu (trM (mu M 91 20 (if pOff (nI v) (nI f) m then 1 else 0)) (bgs (0, M 104) (bVoice (nI v) kd (nI f) m))) 95 6 (M 95 6 + 1) else trM (mu M 91 20 (if pOff (nI v) (nI f) m then 1 else 0)) (bgs (0, M 104) (bVoice (nI v) kd (nI f) m))) := by
  refine ctrI_of (by decide +kernel) (Nat.le_of_ble_eq_true rfl) ?_
  intro pP eE RR sS mI aG bB mE cD C
  refine k_lo (lo' := [(0, .ref (ga g 91)), (1, .int (nI f)), (2, .int (nI v)), (3, .int x)]) rfl ?_
  have hf : f ≤ 12 := by omega
  refine k_aload_n C 1 0 rfl rfl dX10_voice_0 rfl ?_
  refine k_iload_n C 2 1 rfl rfl dX10_voice_1 rfl ?_
  refine k_callVE C 5 (As := [.int (nI f)]) (st := []) 91 (by decide) (ce_91 g _) rfl rfl mwX10_102 vlX10_isFurrow (qX10_isFurrow l g M (n := n) hn h12 (nI f)) mlX10_isFurrow (by decide) (by decide) rfl rfl (Nat.le_of_ble_eq_true rfl) dX10_voice_2 rfl ?_
  refine k_if_eqB C 17 8 dX10_voice_5 (by decide) rfl (fun c5 => ?_) (fun d5 => ?_)
  · skip
    exact (bz c5 (pIsF_lt h12 hf2)).elim
  · skip
    refine k_iload_n C 9 2 rfl rfl dX10_voice_8 rfl ?_
    refine k_iconst C 10 (v := 0) (by decide) dX10_voice_9 rfl ?_
    refine k_iconst C 11 (v := 3) (by decide) dX10_voice_10 rfl ?_
    refine k_callSE C 14 (As := [.int (nI v), .int 0, .int 3]) (st := []) mwX10_54 skX10_in (qX10_in l g M (nI v) 0 3) mlX10_in (by decide) (by decide) rfl rfl (Nat.le_of_ble_eq_true rfl) dX10_voice_11 rfl ?_
    refine k_if_neB C 24 17 dX10_voice_14 (by decide) rfl (fun c14 => ?_) (fun d14 => ?_)
    · skip
      refine k_aload_n C 25 0 rfl rfl dX10_voice_24 rfl ?_
      refine k_iconst C 26 (v := 0) (by decide) dX10_voice_25 rfl ?_
      refine k_put C 29 flX10_228 plX10 91 (by decide) (ce_91 g _) (ce_91 g _) (Nat.le_of_ble_eq_true rfl) rfl rfl rfl dX10_voice_26 rfl ?_
      refine k_aload_n C 30 0 rfl rfl dX10_voice_29 rfl ?_
      refine k_iconst C 31 (v := 0) (by decide) dX10_voice_30 rfl ?_
      refine k_put C 34 flX10_255 plX10 91 (by decide) (ce_91 g _) (ce_91 g _) (Nat.le_of_ble_eq_true rfl) rfl rfl rfl dX10_voice_31 rfl ?_
      refine k_mem (M' := trM (mu M 91 20 0) (0, M 104)) (tr_0 M) ?_
      refine k_iload_n C 35 2 rfl rfl dX10_voice_34 rfl ?_
      refine k_if_ne C 47 38 dX10_voice_35 (by decide) rfl (fun c35 => ?_) (fun d35 => ?_)
      · skip
        have c35 := mt (nI_eq (by omega) (by omega)).mpr (show ¬ (nI v = nI 0) from c35)
        refine k_iload_n C 48 2 rfl rfl dX10_voice_47 rfl ?_
        refine k_iconst C 49 (v := 1) (by decide) dX10_voice_48 rfl ?_
        refine k_icmp_ne C 61 52 dX10_voice_49 (by decide) rfl (fun c49 => ?_) (fun d49 => ?_)
        · skip
          have c49 := mt (nI_eq (by omega) (by omega)).mpr (show ¬ (nI v = nI 1) from c49)
          refine k_iload_n C 62 2 rfl rfl dX10_voice_61 rfl ?_
          refine k_iconst C 63 (v := 2) (by decide) dX10_voice_62 rfl ?_
          refine k_icmp_ne C 75 66 dX10_voice_63 (by decide) rfl (fun c63 => ?_) (fun d63 => ?_)
          · skip
            have c63 := mt (nI_eq (by omega) (by omega)).mpr (show ¬ (nI v = nI 2) from c63)
            refine k_aload_n C 76 0 rfl rfl dX10_voice_75 rfl ?_
            refine k_iload_n C 77 1 rfl rfl dX10_voice_76 rfl ?_
            refine k_iload_n C 78 3 rfl rfl dX10_voice_77 rfl ?_
            refine k_callVE C 81 (As := [.int (nI f), .int x]) (st := []) 91 (by decide) (ce_91 g _) rfl rfl mwX10_264 vlX10_parts (qX10_parts l g (mu M 91 20 0) (0, M 104) (Nat.zero_le _) hf ((congrFun (congrFun (mF_91 _ _ _) _) _).trans hk) ((congrFun (congrFun (mF_91 _ _ _) _) _).trans hm) x) mlX10_parts (by decide) (by decide) rfl rfl (Nat.le_of_ble_eq_true rfl) dX10_voice_78 rfl ?_
            by_cases hk_ : m = nI f
            · skip
              refine k_mem (M' := trM (mu (mu M 91 20 0) 91 20 1) (bgs (0, M 104) (bParts kd kd (nI f) m))) (by simp [hk_]) ?_
              refine k_istore C 83 [(4, .int (pParts kd kd (nI f) m x)), (0, .ref (ga g 91)), (1, .int (nI f)), (2, .int (nI v)), (3, .int x)]  (by decide) rfl dX10_voice_81 rfl ?_
              refine k_aload_n C 84 1 rfl rfl dX10_voice_83 rfl ?_
              refine k_get C 87 flX10_255 91 (by decide) (v := .int ((trM (mu (mu M 91 20 0) 91 20 1) (bgs (0, M 104) (bParts kd kd (nI f) m))) 91 20)) (ce_91 g _) rfl dX10_voice_84 rfl ?_
              refine k_teq (y := (mu (mu M 91 20 0) 91 20 1) 91 20) (trM_o _ _ (by decide)) ?_
              refine k_teq (y := 1) (mu_s _ _ _ _) ?_
              refine k_if_eq C 100 90 dX10_voice_87 (by decide) rfl (fun c87 => ?_) (fun d87 => ?_)
              · skip
                exact absurd c87 (by decide)
              · skip
                refine k_aload_n C 91 1 rfl rfl dX10_voice_90 rfl ?_
                refine k_ldcw C 94 cwX10_267 dX10_voice_91 rfl ?_
                refine k_callVE C 97 (As := [.int (-1000000006)]) (st := []) 91 (by decide) (ce_91 g _) rfl rfl mwX10_95 vlX10_error (qX10_error l g (trM (mu (mu M 91 20 0) 91 20 1) (bgs (0, M 104) (bParts kd kd (nI f) m))) (-1000000006) (k := 6) (by decide) (by decide)) mlX10_error (by decide) (by decide) rfl rfl (Nat.le_of_ble_eq_true rfl) dX10_voice_94 rfl ?_
                refine k_goto C 102 dX10_voice_97 (by decide) ?_
                refine k_ret C rfl dX10_voice_102 ?_
                have hv3 : v = 3 := by omega
                subst hv3
                have ev : nI 3 = (3 : Int32) := rfl
                exact ⟨by simp [pOff, hk_, ev], by simp [pOff, bVoice, hk_, mu_2, trM_n, mu_n, ev]⟩
            · skip
              refine k_mem (M' := trM (mu (mu M 91 20 0) 91 20 0) (bgs (0, M 104) (bParts kd kd (nI f) m))) (by simp [hk_]) ?_
              refine k_istore C 83 [(4, .int (pParts kd kd (nI f) m x)), (0, .ref (ga g 91)), (1, .int (nI f)), (2, .int (nI v)), (3, .int x)]  (by decide) rfl dX10_voice_81 rfl ?_
              refine k_aload_n C 84 1 rfl rfl dX10_voice_83 rfl ?_
              refine k_get C 87 flX10_255 91 (by decide) (v := .int ((trM (mu (mu M 91 20 0) 91 20 0) (bgs (0, M 104) (bParts kd kd (nI f) m))) 91 20)) (ce_91 g _) rfl dX10_voice_84 rfl ?_
              refine k_teq (y := (mu (mu M 91 20 0) 91 20 0) 91 20) (trM_o _ _ (by decide)) ?_
              refine k_teq (y := 0) (mu_s _ _ _ _) ?_
              refine k_if_eq C 100 90 dX10_voice_87 (by decide) rfl (fun c87 => ?_) (fun d87 => ?_)
              · skip
                refine k_iload C 102 0  rfl dX10_voice_100 rfl ?_
                refine k_ret C rfl dX10_voice_102 ?_
                have hv3 : v = 3 := by omega
                subst hv3
                have ev : nI 3 = (3 : Int32) := rfl
                exact ⟨by simp [pOff, pVoice, hk_, ev], by simp [pOff, bVoice, hk_, mu_2, ev]⟩
              · skip
                exact absurd d87 (by decide)
          · skip
            have d63 := (nI_eq (by omega) (by omega)).mp (show nI v = nI 2 from d63)
            refine k_aload_n C 67 0 rfl rfl dX10_voice_66 rfl ?_
            refine k_iload_n C 68 1 rfl rfl dX10_voice_67 rfl ?_
            refine k_iload_n C 69 3 rfl rfl dX10_voice_68 rfl ?_
            refine k_callVE C 72 (As := [.int (nI f), .int x]) (st := []) 91 (by decide) (ce_91 g _) rfl rfl mwX10_261 vlX10_hums (qX10_hums l g (mu M 91 20 0) (0, M 104) (Nat.zero_le _) hf ((congrFun (congrFun (mF_91 _ _ _) _) _).trans hk) ((congrFun (congrFun (mF_91 _ _ _) _) _).trans hm) x) mlX10_hums (by decide) (by decide) rfl rfl (Nat.le_of_ble_eq_true rfl) dX10_voice_69 rfl ?_
            refine k_goto C 81 dX10_voice_72 (by decide) ?_
            refine k_istore C 83 [(4, .int (pHums kd kd (nI f) m x)), (0, .ref (ga g 91)), (1, .int (nI f)), (2, .int (nI v)), (3, .int x)]  (by decide) rfl dX10_voice_81 rfl ?_
            refine k_aload_n C 84 1 rfl rfl dX10_voice_83 rfl ?_
            refine k_get C 87 flX10_255 91 (by decide) (v := .int ((trM (mu M 91 20 0) (bgs (0, M 104) (bHums kd kd))) 91 20)) (ce_91 g _) rfl dX10_voice_84 rfl ?_
            refine k_teq (y := (mu M 91 20 0) 91 20) (trM_o _ _ (by decide)) ?_
            refine k_teq (y := 0) (mu_s _ _ _ _) ?_
            refine k_if_eq C 100 90 dX10_voice_87 (by decide) rfl (fun c87 => ?_) (fun d87 => ?_)
            · skip
              refine k_iload C 102 0  rfl dX10_voice_100 rfl ?_
              refine k_ret C rfl dX10_voice_102 ?_
              have hv2 : v = 2 := d63
              subst hv2
              have ev : nI 2 = (2 : Int32) := rfl
              exact ⟨by simp [pOff, pVoice, ev], by simp [pOff, bVoice, ev]⟩
            · skip
              exact absurd d87 (by decide)
        · skip
          have d49 := (nI_eq (by omega) (by omega)).mp (show nI v = nI 1 from d49)
          refine k_aload_n C 53 0 rfl rfl dX10_voice_52 rfl ?_
          refine k_iload_n C 54 1 rfl rfl dX10_voice_53 rfl ?_
          refine k_iload_n C 55 3 rfl rfl dX10_voice_54 rfl ?_
          refine k_callVE C 58 (As := [.int (nI f), .int x]) (st := []) 91 (by decide) (ce_91 g _) rfl rfl mwX10_249 vlX10_asks (qX10_asks l g (mu M 91 20 0) (0, M 104) (Nat.zero_le _) hf ((congrFun (congrFun (mF_91 _ _ _) _) _).trans hk) ((congrFun (congrFun (mF_91 _ _ _) _) _).trans hm) x) mlX10_asks (by decide) (by decide) rfl rfl (Nat.le_of_ble_eq_true rfl) dX10_voice_55 rfl ?_
          refine k_goto C 81 dX10_voice_58 (by decide) ?_
          refine k_istore C 83 [(4, .int (pAsks kd kd (nI f) m x)), (0, .ref (ga g 91)), (1, .int (nI f)), (2, .int (nI v)), (3, .int x)]  (by decide) rfl dX10_voice_81 rfl ?_
          refine k_aload_n C 84 1 rfl rfl dX10_voice_83 rfl ?_
          refine k_get C 87 flX10_255 91 (by decide) (v := .int ((trM (mu M 91 20 0) (bgs (0, M 104) (bAsks kd kd))) 91 20)) (ce_91 g _) rfl dX10_voice_84 rfl ?_
          refine k_teq (y := (mu M 91 20 0) 91 20) (trM_o _ _ (by decide)) ?_
          refine k_teq (y := 0) (mu_s _ _ _ _) ?_
          refine k_if_eq C 100 90 dX10_voice_87 (by decide) rfl (fun c87 => ?_) (fun d87 => ?_)
          · skip
            refine k_iload C 102 0  rfl dX10_voice_100 rfl ?_
            refine k_ret C rfl dX10_voice_102 ?_
            have hv1 : v = 1 := d49
            subst hv1
            have ev : nI 1 = (1 : Int32) := rfl
            exact ⟨by simp [pOff, pVoice, ev], by simp [pOff, bVoice, ev]⟩
          · skip
            exact absurd d87 (by decide)
      · skip
        have d35 := (nI_eq (by omega) (by omega)).mp (show nI v = nI 0 from d35)
        refine k_aload_n C 39 0 rfl rfl dX10_voice_38 rfl ?_
        refine k_iload_n C 40 1 rfl rfl dX10_voice_39 rfl ?_
        refine k_iload_n C 41 3 rfl rfl dX10_voice_40 rfl ?_
        refine k_callVE C 44 (As := [.int (nI f), .int x]) (st := []) 91 (by decide) (ce_91 g _) rfl rfl mwX10_240 vlX10_says (qX10_says l g (mu M 91 20 0) (0, M 104) (Nat.zero_le _) hf ((congrFun (congrFun (mF_91 _ _ _) _) _).trans hk) ((congrFun (congrFun (mF_91 _ _ _) _) _).trans hm) x) mlX10_says (by decide) (by decide) rfl rfl (Nat.le_of_ble_eq_true rfl) dX10_voice_41 rfl ?_
        refine k_goto C 81 dX10_voice_44 (by decide) ?_
        refine k_istore C 83 [(4, .int (pSays (nI f) kd x)), (0, .ref (ga g 91)), (1, .int (nI f)), (2, .int (nI v)), (3, .int x)]  (by decide) rfl dX10_voice_81 rfl ?_
        refine k_aload_n C 84 1 rfl rfl dX10_voice_83 rfl ?_
        refine k_get C 87 flX10_255 91 (by decide) (v := .int ((trM (mu M 91 20 0) (bgs (0, M 104) (bSays kd))) 91 20)) (ce_91 g _) rfl dX10_voice_84 rfl ?_
        refine k_teq (y := (mu M 91 20 0) 91 20) (trM_o _ _ (by decide)) ?_
        refine k_teq (y := 0) (mu_s _ _ _ _) ?_
        refine k_if_eq C 100 90 dX10_voice_87 (by decide) rfl (fun c87 => ?_) (fun d87 => ?_)
        · skip
          refine k_iload C 102 0  rfl dX10_voice_100 rfl ?_
          refine k_ret C rfl dX10_voice_102 ?_
          have hv0 : v = 0 := d35
          subst hv0
          have ev : nI 0 = (0 : Int32) := rfl
          exact ⟨by simp [pOff, pVoice, ev], by simp [pOff, bVoice, ev]⟩
        · skip
          exact absurd d87 (by decide)
    · skip
      exact (bz d14 (rg_le (a := 0) (b := 3) (Nat.zero_le _) (by omega) (by decide))).elim
set_option maxHeartbeats 4000000 in
set_option maxRecDepth 20000 in
theorem qX10_notMoved_f (l : Launch) (g : GT) (M : Mem) (s t : Int32) (a b n : Int32) (hf : ((decide (0 ≤ s) && decide (s < 4)) && (decide (0 ≤ t) && decide (t < 4))) = false) : CtrE l g yX10_notMoved cX10_notMoved 7 (some .int) 2 [.ref (ga g 91), .int s, .int a, .int t, .int b, .int n] M (-1000000001) M := by
  refine ctrI_of (by decide +kernel) (Nat.le_of_ble_eq_true rfl) ?_
  intro pP eE RR sS mI aG bB mE cD C
  refine k_lo (lo' := [(0, .ref (ga g 91)), (1, .int s), (2, .int a), (3, .int t), (4, .int b), (5, .int n)]) rfl ?_
  refine k_iload_n C 1 1 rfl rfl dX10_notMoved_0 rfl ?_
  refine k_callSE C 4 (As := [.int s]) (st := []) mwX10_268 skX10_isSheet (qX10_isSheet l g M s) mlX10_isSheet (by decide) (by decide) rfl rfl (Nat.le_of_ble_eq_true rfl) dX10_notMoved_1 rfl ?_
  refine k_if_eqB C 14 7 dX10_notMoved_4 (by decide) rfl (fun c4 => ?_) (fun d4 => ?_)
  · skip
    refine k_ldc C 16 cwX10_94 dX10_notMoved_14 rfl ?_
    refine k_ret C rfl dX10_notMoved_16 ?_
    exact ⟨rfl, rfl⟩
  · skip
    refine k_iload_n C 8 3 rfl rfl dX10_notMoved_7 rfl ?_
    refine k_callSE C 11 (As := [.int t]) (st := []) mwX10_268 skX10_isSheet (qX10_isSheet l g M t) mlX10_isSheet (by decide) (by decide) rfl rfl (Nat.le_of_ble_eq_true rfl) dX10_notMoved_8 rfl ?_
    refine k_if_neB C 17 14 dX10_notMoved_11 (by decide) rfl (fun c11 => ?_) (fun d11 => ?_)
    · skip
      exact (bz hf (by simp [d4, c11])).elim
    · skip
      refine k_ldc C 16 cwX10_94 dX10_notMoved_14 rfl ?_
      refine k_ret C rfl dX10_notMoved_16 ?_
      exact ⟨rfl, rfl⟩
set_option maxHeartbeats 4000000 in
set_option maxRecDepth 20000 in
theorem qX10_notMoved_0 (l : Launch) (g : GT) (M : Mem) {s t : Nat} (hs : s < 4) (ht : t < 4) (a b n : Int32) (h : M 96 s = 0 ∨ M 96 t = 0) : CtrE l g yX10_notMoved cX10_notMoved 7 (some .int) 2 [.ref (ga g 91), .int (nI s), .int a, .int (nI t), .int b, .int n] M (-1000000002) M := by
  refine ctrI_of (by decide +kernel) (Nat.le_of_ble_eq_true rfl) ?_
  intro pP eE RR sS mI aG bB mE cD C
  refine k_lo (lo' := [(0, .ref (ga g 91)), (1, .int (nI s)), (2, .int a), (3, .int (nI t)), (4, .int b), (5, .int n)]) rfl ?_
  refine k_iload_n C 1 1 rfl rfl dX10_notMoved_0 rfl ?_
  refine k_callSE C 4 (As := [.int (nI s)]) (st := []) mwX10_268 skX10_isSheet (qX10_isSheet l g M (nI s)) mlX10_isSheet (by decide) (by decide) rfl rfl (Nat.le_of_ble_eq_true rfl) dX10_notMoved_1 rfl ?_
  refine k_if_eqB C 14 7 dX10_notMoved_4 (by decide) rfl (fun c4 => ?_) (fun d4 => ?_)
  · skip
    exact (bz c4 (rg_lt (b := 4) hs (by decide))).elim
  · skip
    refine k_iload_n C 8 3 rfl rfl dX10_notMoved_7 rfl ?_
    refine k_callSE C 11 (As := [.int (nI t)]) (st := []) mwX10_268 skX10_isSheet (qX10_isSheet l g M (nI t)) mlX10_isSheet (by decide) (by decide) rfl rfl (Nat.le_of_ble_eq_true rfl) dX10_notMoved_8 rfl ?_
    refine k_if_neB C 17 14 dX10_notMoved_11 (by decide) rfl (fun c11 => ?_) (fun d11 => ?_)
    · skip
      refine k_aload_n C 18 0 rfl rfl dX10_notMoved_17 rfl ?_
      refine k_get C 21 flX10_22 91 (by decide) (v := .ref (ga g 96)) (ce_91 g _) rfl dX10_notMoved_18 rfl ?_
      refine k_iload_n C 22 1 rfl rfl dX10_notMoved_21 rfl ?_
      refine k_iald C 23 96 s (by decide) (ce_96 g) (by decide) rfl (by omega) dX10_notMoved_22 rfl ?_
      refine k_if_eq C 35 26 dX10_notMoved_23 (by decide) rfl (fun c23 => ?_) (fun d23 => ?_)
      · skip
        refine k_ldc C 37 cwX10_227 dX10_notMoved_35 rfl ?_
        refine k_ret C rfl dX10_notMoved_37 ?_
        exact ⟨rfl, rfl⟩
      · skip
        refine k_aload_n C 27 0 rfl rfl dX10_notMoved_26 rfl ?_
        refine k_get C 30 flX10_22 91 (by decide) (v := .ref (ga g 96)) (ce_91 g _) rfl dX10_notMoved_27 rfl ?_
        refine k_iload_n C 31 3 rfl rfl dX10_notMoved_30 rfl ?_
        refine k_iald C 32 96 t (by decide) (ce_96 g) (by decide) rfl (by omega) dX10_notMoved_31 rfl ?_
        refine k_if_ne C 38 35 dX10_notMoved_32 (by decide) rfl (fun c32 => ?_) (fun d32 => ?_)
        · skip
          exact (h.elim d23 c32).elim
        · skip
          refine k_ldc C 37 cwX10_227 dX10_notMoved_35 rfl ?_
          refine k_ret C rfl dX10_notMoved_37 ?_
          exact ⟨rfl, rfl⟩
    · skip
      exact (bz d11 (rg_lt (b := 4) ht (by decide))).elim
set_option maxHeartbeats 4000000 in
set_option maxRecDepth 20000 in
theorem qX10_notMoved_d (l : Launch) (g : GT) (M : Mem) {s t : Nat} (hs : s < 4) (ht : t < 4) (a b n : Int32) (h1 : ¬ M 96 s = 0) (h2 : ¬ M 96 t = 0) (h3 : ¬ M 96 s = M 96 t) : CtrE l g yX10_notMoved cX10_notMoved 7 (some .int) 2 [.ref (ga g 91), .int (nI s), .int a, .int (nI t), .int b, .int n] M (-1000000005) M := by
  refine ctrI_of (by decide +kernel) (Nat.le_of_ble_eq_true rfl) ?_
  intro pP eE RR sS mI aG bB mE cD C
  refine k_lo (lo' := [(0, .ref (ga g 91)), (1, .int (nI s)), (2, .int a), (3, .int (nI t)), (4, .int b), (5, .int n)]) rfl ?_
  refine k_iload_n C 1 1 rfl rfl dX10_notMoved_0 rfl ?_
  refine k_callSE C 4 (As := [.int (nI s)]) (st := []) mwX10_268 skX10_isSheet (qX10_isSheet l g M (nI s)) mlX10_isSheet (by decide) (by decide) rfl rfl (Nat.le_of_ble_eq_true rfl) dX10_notMoved_1 rfl ?_
  refine k_if_eqB C 14 7 dX10_notMoved_4 (by decide) rfl (fun c4 => ?_) (fun d4 => ?_)
  · skip
    exact (bz c4 (rg_lt (b := 4) hs (by decide))).elim
  · skip
    refine k_iload_n C 8 3 rfl rfl dX10_notMoved_7 rfl ?_
    refine k_callSE C 11 (As := [.int (nI t)]) (st := []) mwX10_268 skX10_isSheet (qX10_isSheet l g M (nI t)) mlX10_isSheet (by decide) (by decide) rfl rfl (Nat.le_of_ble_eq_true rfl) dX10_notMoved_8 rfl ?_
    refine k_if_neB C 17 14 dX10_notMoved_11 (by decide) rfl (fun c11 => ?_) (fun d11 => ?_)
    · skip
      refine k_aload_n C 18 0 rfl rfl dX10_notMoved_17 rfl ?_
      refine k_get C 21 flX10_22 91 (by decide) (v := .ref (ga g 96)) (ce_91 g _) rfl dX10_notMoved_18 rfl ?_
      refine k_iload_n C 22 1 rfl rfl dX10_notMoved_21 rfl ?_
      refine k_iald C 23 96 s (by decide) (ce_96 g) (by decide) rfl (by omega) dX10_notMoved_22 rfl ?_
      refine k_if_eq C 35 26 dX10_notMoved_23 (by decide) rfl (fun c23 => ?_) (fun d23 => ?_)
      · skip
        exact absurd c23 h1
      · skip
        refine k_aload_n C 27 0 rfl rfl dX10_notMoved_26 rfl ?_
        refine k_get C 30 flX10_22 91 (by decide) (v := .ref (ga g 96)) (ce_91 g _) rfl dX10_notMoved_27 rfl ?_
        refine k_iload_n C 31 3 rfl rfl dX10_notMoved_30 rfl ?_
        refine k_iald C 32 96 t (by decide) (ce_96 g) (by decide) rfl (by omega) dX10_notMoved_31 rfl ?_
        refine k_if_ne C 38 35 dX10_notMoved_32 (by decide) rfl (fun c32 => ?_) (fun d32 => ?_)
        · skip
          refine k_aload_n C 39 0 rfl rfl dX10_notMoved_38 rfl ?_
          refine k_get C 42 flX10_22 91 (by decide) (v := .ref (ga g 96)) (ce_91 g _) rfl dX10_notMoved_39 rfl ?_
          refine k_iload_n C 43 1 rfl rfl dX10_notMoved_42 rfl ?_
          refine k_iald C 44 96 s (by decide) (ce_96 g) (by decide) rfl (by omega) dX10_notMoved_43 rfl ?_
          refine k_aload_n C 45 0 rfl rfl dX10_notMoved_44 rfl ?_
          refine k_get C 48 flX10_22 91 (by decide) (v := .ref (ga g 96)) (ce_91 g _) rfl dX10_notMoved_45 rfl ?_
          refine k_iload_n C 49 3 rfl rfl dX10_notMoved_48 rfl ?_
          refine k_iald C 50 96 t (by decide) (ce_96 g) (by decide) rfl (by omega) dX10_notMoved_49 rfl ?_
          refine k_icmp_eq C 56 53 dX10_notMoved_50 (by decide) rfl (fun c50 => ?_) (fun d50 => ?_)
          · skip
            exact absurd c50 h3
          · skip
            refine k_ldc C 55 cwX10_114 dX10_notMoved_53 rfl ?_
            refine k_ret C rfl dX10_notMoved_55 ?_
            exact ⟨rfl, rfl⟩
        · skip
          exact absurd d32 h2
    · skip
      exact (bz d11 (rg_lt (b := 4) ht (by decide))).elim
set_option maxHeartbeats 4000000 in
set_option maxRecDepth 20000 in
theorem qX10_notMoved_t (l : Launch) (g : GT) (M : Mem) {s t : Nat} (hs : s < 4) (ht : t < 4) (a b n : Int32) (h1 : ¬ M 96 s = 0) (h2 : ¬ M 96 t = 0) (h3 : M 96 s = M 96 t) : CtrE l g yX10_notMoved cX10_notMoved 7 (some .int) 2 [.ref (ga g 91), .int (nI s), .int a, .int (nI t), .int b, .int n] M (if mvOk M s t a b n then 0 else (-1000000001)) M := by
  refine ctrI_of (by decide +kernel) (Nat.le_of_ble_eq_true rfl) ?_
  intro pP eE RR sS mI aG bB mE cD C
  refine k_lo (lo' := [(0, .ref (ga g 91)), (1, .int (nI s)), (2, .int a), (3, .int (nI t)), (4, .int b), (5, .int n)]) rfl ?_
  refine k_iload_n C 1 1 rfl rfl dX10_notMoved_0 rfl ?_
  refine k_callSE C 4 (As := [.int (nI s)]) (st := []) mwX10_268 skX10_isSheet (qX10_isSheet l g M (nI s)) mlX10_isSheet (by decide) (by decide) rfl rfl (Nat.le_of_ble_eq_true rfl) dX10_notMoved_1 rfl ?_
  refine k_if_eqB C 14 7 dX10_notMoved_4 (by decide) rfl (fun c4 => ?_) (fun d4 => ?_)
  · skip
    exact (bz c4 (rg_lt (b := 4) hs (by decide))).elim
  · skip
    refine k_iload_n C 8 3 rfl rfl dX10_notMoved_7 rfl ?_
    refine k_callSE C 11 (As := [.int (nI t)]) (st := []) mwX10_268 skX10_isSheet (qX10_isSheet l g M (nI t)) mlX10_isSheet (by decide) (by decide) rfl rfl (Nat.le_of_ble_eq_true rfl) dX10_notMoved_8 rfl ?_
    refine k_if_neB C 17 14 dX10_notMoved_11 (by decide) rfl (fun c11 => ?_) (fun d11 => ?_)
    · skip
      refine k_aload_n C 18 0 rfl rfl dX10_notMoved_17 rfl ?_
      refine k_get C 21 flX10_22 91 (by decide) (v := .ref (ga g 96)) (ce_91 g _) rfl dX10_notMoved_18 rfl ?_
      refine k_iload_n C 22 1 rfl rfl dX10_notMoved_21 rfl ?_
      refine k_iald C 23 96 s (by decide) (ce_96 g) (by decide) rfl (by omega) dX10_notMoved_22 rfl ?_
      refine k_if_eq C 35 26 dX10_notMoved_23 (by decide) rfl (fun c23 => ?_) (fun d23 => ?_)
      · skip
        exact absurd c23 h1
      · skip
        refine k_aload_n C 27 0 rfl rfl dX10_notMoved_26 rfl ?_
        refine k_get C 30 flX10_22 91 (by decide) (v := .ref (ga g 96)) (ce_91 g _) rfl dX10_notMoved_27 rfl ?_
        refine k_iload_n C 31 3 rfl rfl dX10_notMoved_30 rfl ?_
        refine k_iald C 32 96 t (by decide) (ce_96 g) (by decide) rfl (by omega) dX10_notMoved_31 rfl ?_
        refine k_if_ne C 38 35 dX10_notMoved_32 (by decide) rfl (fun c32 => ?_) (fun d32 => ?_)
        · skip
          refine k_aload_n C 39 0 rfl rfl dX10_notMoved_38 rfl ?_
          refine k_get C 42 flX10_22 91 (by decide) (v := .ref (ga g 96)) (ce_91 g _) rfl dX10_notMoved_39 rfl ?_
          refine k_iload_n C 43 1 rfl rfl dX10_notMoved_42 rfl ?_
          refine k_iald C 44 96 s (by decide) (ce_96 g) (by decide) rfl (by omega) dX10_notMoved_43 rfl ?_
          refine k_aload_n C 45 0 rfl rfl dX10_notMoved_44 rfl ?_
          refine k_get C 48 flX10_22 91 (by decide) (v := .ref (ga g 96)) (ce_91 g _) rfl dX10_notMoved_45 rfl ?_
          refine k_iload_n C 49 3 rfl rfl dX10_notMoved_48 rfl ?_
          refine k_iald C 50 96 t (by decide) (ce_96 g) (by decide) rfl (by omega) dX10_notMoved_49 rfl ?_
          refine k_icmp_eq C 56 53 dX10_notMoved_50 (by decide) rfl (fun c50 => ?_) (fun d50 => ?_)
          · skip
            refine k_iload C 58 5  rfl dX10_notMoved_56 rfl ?_
            refine k_if_lt C 101 61 dX10_notMoved_58 (by decide) rfl (fun c58 => ?_) (fun d58 => ?_)
            · skip
              refine k_iconst C 102 (v := 0) (by decide) dX10_notMoved_101 rfl ?_
              refine k_istore C 104 [(6, .int 0), (0, .ref (ga g 91)), (1, .int (nI s)), (2, .int a), (3, .int (nI t)), (4, .int b), (5, .int n)]  (by decide) rfl dX10_notMoved_102 rfl ?_
              refine k_iload C 106 0  rfl dX10_notMoved_104 rfl ?_
              refine k_if_eq C 113 109 dX10_notMoved_106 (by decide) rfl (fun c106 => ?_) (fun d106 => ?_)
              · skip
                refine k_ldc C 115 cwX10_94 dX10_notMoved_113 rfl ?_
                refine k_ret C rfl dX10_notMoved_115 ?_
                exact ⟨by simp [mvOk, c58], rfl⟩
              · skip
                exact absurd d106 (by decide)
            · skip
              refine k_iload_n C 62 2 rfl rfl dX10_notMoved_61 rfl ?_
              refine k_if_lt C 101 65 dX10_notMoved_62 (by decide) rfl (fun c62 => ?_) (fun d62 => ?_)
              · skip
                refine k_iconst C 102 (v := 0) (by decide) dX10_notMoved_101 rfl ?_
                refine k_istore C 104 [(6, .int 0), (0, .ref (ga g 91)), (1, .int (nI s)), (2, .int a), (3, .int (nI t)), (4, .int b), (5, .int n)]  (by decide) rfl dX10_notMoved_102 rfl ?_
                refine k_iload C 106 0  rfl dX10_notMoved_104 rfl ?_
                refine k_if_eq C 113 109 dX10_notMoved_106 (by decide) rfl (fun c106 => ?_) (fun d106 => ?_)
                · skip
                  refine k_ldc C 115 cwX10_94 dX10_notMoved_113 rfl ?_
                  refine k_ret C rfl dX10_notMoved_115 ?_
                  exact ⟨by simp [mvOk, d58, c62], rfl⟩
                · skip
                  exact absurd d106 (by decide)
              · skip
                refine k_iload C 67 4  rfl dX10_notMoved_65 rfl ?_
                refine k_if_lt C 101 70 dX10_notMoved_67 (by decide) rfl (fun c67 => ?_) (fun d67 => ?_)
                · skip
                  refine k_iconst C 102 (v := 0) (by decide) dX10_notMoved_101 rfl ?_
                  refine k_istore C 104 [(6, .int 0), (0, .ref (ga g 91)), (1, .int (nI s)), (2, .int a), (3, .int (nI t)), (4, .int b), (5, .int n)]  (by decide) rfl dX10_notMoved_102 rfl ?_
                  refine k_iload C 106 0  rfl dX10_notMoved_104 rfl ?_
                  refine k_if_eq C 113 109 dX10_notMoved_106 (by decide) rfl (fun c106 => ?_) (fun d106 => ?_)
                  · skip
                    refine k_ldc C 115 cwX10_94 dX10_notMoved_113 rfl ?_
                    refine k_ret C rfl dX10_notMoved_115 ?_
                    exact ⟨by simp [mvOk, d58, d62, c67], rfl⟩
                  · skip
                    exact absurd d106 (by decide)
                · skip
                  refine k_iload C 72 5  rfl dX10_notMoved_70 rfl ?_
                  refine k_aload_n C 73 0 rfl rfl dX10_notMoved_72 rfl ?_
                  refine k_get C 76 flX10_25 91 (by decide) (v := .ref (ga g 97)) (ce_91 g _) rfl dX10_notMoved_73 rfl ?_
                  refine k_iload_n C 77 1 rfl rfl dX10_notMoved_76 rfl ?_
                  refine k_iald C 78 97 s (by decide) (ce_97 g) (by decide) rfl (by omega) dX10_notMoved_77 rfl ?_
                  refine k_iload_n C 79 2 rfl rfl dX10_notMoved_78 rfl ?_
                  refine k_isub C 80 dX10_notMoved_79 rfl ?_
                  refine k_icmp_gt C 101 83 dX10_notMoved_80 (by decide) rfl (fun c80 => ?_) (fun d80 => ?_)
                  · skip
                    refine k_iconst C 102 (v := 0) (by decide) dX10_notMoved_101 rfl ?_
                    refine k_istore C 104 [(6, .int 0), (0, .ref (ga g 91)), (1, .int (nI s)), (2, .int a), (3, .int (nI t)), (4, .int b), (5, .int n)]  (by decide) rfl dX10_notMoved_102 rfl ?_
                    refine k_iload C 106 0  rfl dX10_notMoved_104 rfl ?_
                    refine k_if_eq C 113 109 dX10_notMoved_106 (by decide) rfl (fun c106 => ?_) (fun d106 => ?_)
                    · skip
                      refine k_ldc C 115 cwX10_94 dX10_notMoved_113 rfl ?_
                      refine k_ret C rfl dX10_notMoved_115 ?_
                      exact ⟨by simp [mvOk, d58, d62, d67, c80], rfl⟩
                    · skip
                      exact absurd d106 (by decide)
                  · skip
                    refine k_iload C 85 5  rfl dX10_notMoved_83 rfl ?_
                    refine k_aload_n C 86 0 rfl rfl dX10_notMoved_85 rfl ?_
                    refine k_get C 89 flX10_25 91 (by decide) (v := .ref (ga g 97)) (ce_91 g _) rfl dX10_notMoved_86 rfl ?_
                    refine k_iload_n C 90 3 rfl rfl dX10_notMoved_89 rfl ?_
                    refine k_iald C 91 97 t (by decide) (ce_97 g) (by decide) rfl (by omega) dX10_notMoved_90 rfl ?_
                    refine k_iload C 93 4  rfl dX10_notMoved_91 rfl ?_
                    refine k_isub C 94 dX10_notMoved_93 rfl ?_
                    refine k_icmp_gt C 101 97 dX10_notMoved_94 (by decide) rfl (fun c94 => ?_) (fun d94 => ?_)
                    · skip
                      refine k_iconst C 102 (v := 0) (by decide) dX10_notMoved_101 rfl ?_
                      refine k_istore C 104 [(6, .int 0), (0, .ref (ga g 91)), (1, .int (nI s)), (2, .int a), (3, .int (nI t)), (4, .int b), (5, .int n)]  (by decide) rfl dX10_notMoved_102 rfl ?_
                      refine k_iload C 106 0  rfl dX10_notMoved_104 rfl ?_
                      refine k_if_eq C 113 109 dX10_notMoved_106 (by decide) rfl (fun c106 => ?_) (fun d106 => ?_)
                      · skip
                        refine k_ldc C 115 cwX10_94 dX10_notMoved_113 rfl ?_
                        refine k_ret C rfl dX10_notMoved_115 ?_
                        exact ⟨by simp [mvOk, d58, d62, d67, d80, c94], rfl⟩
                      · skip
                        exact absurd d106 (by decide)
                    · skip
                      refine k_iconst C 98 (v := 1) (by decide) dX10_notMoved_97 rfl ?_
                      refine k_goto C 102 dX10_notMoved_98 (by decide) ?_
                      refine k_istore C 104 [(6, .int 1), (0, .ref (ga g 91)), (1, .int (nI s)), (2, .int a), (3, .int (nI t)), (4, .int b), (5, .int n)]  (by decide) rfl dX10_notMoved_102 rfl ?_
                      refine k_iload C 106 0  rfl dX10_notMoved_104 rfl ?_
                      refine k_if_eq C 113 109 dX10_notMoved_106 (by decide) rfl (fun c106 => ?_) (fun d106 => ?_)
                      · skip
                        exact absurd c106 (by decide)
                      · skip
                        refine k_iconst C 110 (v := 0) (by decide) dX10_notMoved_109 rfl ?_
                        refine k_goto C 115 dX10_notMoved_110 (by decide) ?_
                        refine k_ret C rfl dX10_notMoved_115 ?_
                        exact ⟨by simp [mvOk, d58, d62, d67, d80, d94], rfl⟩
          · skip
            exact absurd h3 d50
        · skip
          exact absurd d32 h2
    · skip
      exact (bz d11 (rg_lt (b := 4) ht (by decide))).elim
set_option maxHeartbeats 4000000 in
set_option maxRecDepth 20000 in
theorem qX10_move_f (l : Launch) (g : GT) (M : Mem) (s t : Int32) (a b n : Int32) (hf : ((decide (0 ≤ s) && decide (s < 4)) && (decide (0 ≤ t) && decide (t < 4))) = false) : CtrE l g yX10_move cX10_move 9 (some .int) 3 [.ref (ga g 91), .int s, .int a, .int t, .int b, .int n] M (-1000000001) (mu M 95 1 (M 95 1 + 1)) := by
  refine ctrI_of (by decide +kernel) (Nat.le_of_ble_eq_true rfl) ?_
  intro pP eE RR sS mI aG bB mE cD C
  refine k_lo (lo' := [(0, .ref (ga g 91)), (1, .int s), (2, .int a), (3, .int t), (4, .int b), (5, .int n)]) rfl ?_
  refine k_aload_n C 1 0 rfl rfl dX10_move_0 rfl ?_
  refine k_iload_n C 2 1 rfl rfl dX10_move_1 rfl ?_
  refine k_iload_n C 3 2 rfl rfl dX10_move_2 rfl ?_
  refine k_iload_n C 4 3 rfl rfl dX10_move_3 rfl ?_
  refine k_iload C 6 4  rfl dX10_move_4 rfl ?_
  refine k_iload C 8 5  rfl dX10_move_6 rfl ?_
  refine k_callVE C 11 (As := [.int s, .int a, .int t, .int b, .int n]) (st := []) 91 (by decide) (ce_91 g _) rfl rfl mwX10_271 vlX10_notMoved (qX10_notMoved_f l g M s t a b n hf) mlX10_notMoved (by decide) (by decide) rfl rfl (Nat.le_of_ble_eq_true rfl) dX10_move_8 rfl ?_
  refine k_istore C 13 [(6, .int (-1000000001)), (0, .ref (ga g 91)), (1, .int s), (2, .int a), (3, .int t), (4, .int b), (5, .int n)]  (by decide) rfl dX10_move_11 rfl ?_
  refine k_iload C 15 0  rfl dX10_move_13 rfl ?_
  refine k_if_eq C 25 18 dX10_move_15 (by decide) rfl (fun c15 => ?_) (fun d15 => ?_)
  · skip
    exact absurd c15 (by decide)
  · skip
    refine k_aload_n C 19 1 rfl rfl dX10_move_18 rfl ?_
    refine k_iload C 21 0  rfl dX10_move_19 rfl ?_
    refine k_callVE C 24 (As := [.int (-1000000001)]) (st := []) 91 (by decide) (ce_91 g _) rfl rfl mwX10_95 vlX10_error (qX10_error l g M (-1000000001) (k := 1) (by decide) (by decide)) mlX10_error (by decide) (by decide) rfl rfl (Nat.le_of_ble_eq_true rfl) dX10_move_21 rfl ?_
    refine k_ret C rfl dX10_move_24 ?_
    exact ⟨rfl, rfl⟩
set_option maxHeartbeats 4000000 in
set_option maxRecDepth 20000 in
theorem qX10_move_0 (l : Launch) (g : GT) (M : Mem) {s t : Nat} (hs : s < 4) (ht : t < 4) (a b n : Int32) (h : M 96 s = 0 ∨ M 96 t = 0) : CtrE l g yX10_move cX10_move 9 (some .int) 3 [.ref (ga g 91), .int (nI s), .int a, .int (nI t), .int b, .int n] M (-1000000002) (mu M 95 2 (M 95 2 + 1)) := by
  refine ctrI_of (by decide +kernel) (Nat.le_of_ble_eq_true rfl) ?_
  intro pP eE RR sS mI aG bB mE cD C
  refine k_lo (lo' := [(0, .ref (ga g 91)), (1, .int (nI s)), (2, .int a), (3, .int (nI t)), (4, .int b), (5, .int n)]) rfl ?_
  refine k_aload_n C 1 0 rfl rfl dX10_move_0 rfl ?_
  refine k_iload_n C 2 1 rfl rfl dX10_move_1 rfl ?_
  refine k_iload_n C 3 2 rfl rfl dX10_move_2 rfl ?_
  refine k_iload_n C 4 3 rfl rfl dX10_move_3 rfl ?_
  refine k_iload C 6 4  rfl dX10_move_4 rfl ?_
  refine k_iload C 8 5  rfl dX10_move_6 rfl ?_
  refine k_callVE C 11 (As := [.int (nI s), .int a, .int (nI t), .int b, .int n]) (st := []) 91 (by decide) (ce_91 g _) rfl rfl mwX10_271 vlX10_notMoved (qX10_notMoved_0 l g M hs ht a b n h) mlX10_notMoved (by decide) (by decide) rfl rfl (Nat.le_of_ble_eq_true rfl) dX10_move_8 rfl ?_
  refine k_istore C 13 [(6, .int (-1000000002)), (0, .ref (ga g 91)), (1, .int (nI s)), (2, .int a), (3, .int (nI t)), (4, .int b), (5, .int n)]  (by decide) rfl dX10_move_11 rfl ?_
  refine k_iload C 15 0  rfl dX10_move_13 rfl ?_
  refine k_if_eq C 25 18 dX10_move_15 (by decide) rfl (fun c15 => ?_) (fun d15 => ?_)
  · skip
    exact absurd c15 (by decide)
  · skip
    refine k_aload_n C 19 1 rfl rfl dX10_move_18 rfl ?_
    refine k_iload C 21 0  rfl dX10_move_19 rfl ?_
    refine k_callVE C 24 (As := [.int (-1000000002)]) (st := []) 91 (by decide) (ce_91 g _) rfl rfl mwX10_95 vlX10_error (qX10_error l g M (-1000000002) (k := 2) (by decide) (by decide)) mlX10_error (by decide) (by decide) rfl rfl (Nat.le_of_ble_eq_true rfl) dX10_move_21 rfl ?_
    refine k_ret C rfl dX10_move_24 ?_
    exact ⟨rfl, rfl⟩
set_option maxHeartbeats 4000000 in
set_option maxRecDepth 20000 in
theorem qX10_move_d (l : Launch) (g : GT) (M : Mem) {s t : Nat} (hs : s < 4) (ht : t < 4) (a b n : Int32) (h1 : ¬ M 96 s = 0) (h2 : ¬ M 96 t = 0) (h3 : ¬ M 96 s = M 96 t) : CtrE l g yX10_move cX10_move 9 (some .int) 3 [.ref (ga g 91), .int (nI s), .int a, .int (nI t), .int b, .int n] M (-1000000005) (mu M 95 5 (M 95 5 + 1)) := by
  refine ctrI_of (by decide +kernel) (Nat.le_of_ble_eq_true rfl) ?_
  intro pP eE RR sS mI aG bB mE cD C
  refine k_lo (lo' := [(0, .ref (ga g 91)), (1, .int (nI s)), (2, .int a), (3, .int (nI t)), (4, .int b), (5, .int n)]) rfl ?_
  refine k_aload_n C 1 0 rfl rfl dX10_move_0 rfl ?_
  refine k_iload_n C 2 1 rfl rfl dX10_move_1 rfl ?_
  refine k_iload_n C 3 2 rfl rfl dX10_move_2 rfl ?_
  refine k_iload_n C 4 3 rfl rfl dX10_move_3 rfl ?_
  refine k_iload C 6 4  rfl dX10_move_4 rfl ?_
  refine k_iload C 8 5  rfl dX10_move_6 rfl ?_
  refine k_callVE C 11 (As := [.int (nI s), .int a, .int (nI t), .int b, .int n]) (st := []) 91 (by decide) (ce_91 g _) rfl rfl mwX10_271 vlX10_notMoved (qX10_notMoved_d l g M hs ht a b n h1 h2 h3) mlX10_notMoved (by decide) (by decide) rfl rfl (Nat.le_of_ble_eq_true rfl) dX10_move_8 rfl ?_
  refine k_istore C 13 [(6, .int (-1000000005)), (0, .ref (ga g 91)), (1, .int (nI s)), (2, .int a), (3, .int (nI t)), (4, .int b), (5, .int n)]  (by decide) rfl dX10_move_11 rfl ?_
  refine k_iload C 15 0  rfl dX10_move_13 rfl ?_
  refine k_if_eq C 25 18 dX10_move_15 (by decide) rfl (fun c15 => ?_) (fun d15 => ?_)
  · skip
    exact absurd c15 (by decide)
  · skip
    refine k_aload_n C 19 1 rfl rfl dX10_move_18 rfl ?_
    refine k_iload C 21 0  rfl dX10_move_19 rfl ?_
    refine k_callVE C 24 (As := [.int (-1000000005)]) (st := []) 91 (by decide) (ce_91 g _) rfl rfl mwX10_95 vlX10_error (qX10_error l g M (-1000000005) (k := 5) (by decide) (by decide)) mlX10_error (by decide) (by decide) rfl rfl (Nat.le_of_ble_eq_true rfl) dX10_move_21 rfl ?_
    refine k_ret C rfl dX10_move_24 ?_
    exact ⟨rfl, rfl⟩
set_option maxHeartbeats 4000000 in
set_option maxRecDepth 20000 in
theorem qX10_move_r (l : Launch) (g : GT) (M : Mem) {s t : Nat} (hs : s < 4) (ht : t < 4) (a b n : Int32) (h1 : ¬ M 96 s = 0) (h2 : ¬ M 96 t = 0) (h3 : M 96 s = M 96 t) (hr : mvOk M s t a b n = false) : CtrE l g yX10_move cX10_move 9 (some .int) 3 [.ref (ga g 91), .int (nI s), .int a, .int (nI t), .int b, .int n] M (-1000000001) (mu M 95 1 (M 95 1 + 1)) := by
  refine ctrI_of (by decide +kernel) (Nat.le_of_ble_eq_true rfl) ?_
  intro pP eE RR sS mI aG bB mE cD C
  refine k_lo (lo' := [(0, .ref (ga g 91)), (1, .int (nI s)), (2, .int a), (3, .int (nI t)), (4, .int b), (5, .int n)]) rfl ?_
  refine k_aload_n C 1 0 rfl rfl dX10_move_0 rfl ?_
  refine k_iload_n C 2 1 rfl rfl dX10_move_1 rfl ?_
  refine k_iload_n C 3 2 rfl rfl dX10_move_2 rfl ?_
  refine k_iload_n C 4 3 rfl rfl dX10_move_3 rfl ?_
  refine k_iload C 6 4  rfl dX10_move_4 rfl ?_
  refine k_iload C 8 5  rfl dX10_move_6 rfl ?_
  refine k_callVE C 11 (As := [.int (nI s), .int a, .int (nI t), .int b, .int n]) (st := []) 91 (by decide) (ce_91 g _) rfl rfl mwX10_271 vlX10_notMoved (by have z := qX10_notMoved_t l g M hs ht a b n h1 h2 h3; rw [if_neg (by rw [hr]; decide)] at z; exact z) mlX10_notMoved (by decide) (by decide) rfl rfl (Nat.le_of_ble_eq_true rfl) dX10_move_8 rfl ?_
  refine k_istore C 13 [(6, .int (-1000000001)), (0, .ref (ga g 91)), (1, .int (nI s)), (2, .int a), (3, .int (nI t)), (4, .int b), (5, .int n)]  (by decide) rfl dX10_move_11 rfl ?_
  refine k_iload C 15 0  rfl dX10_move_13 rfl ?_
  refine k_if_eq C 25 18 dX10_move_15 (by decide) rfl (fun c15 => ?_) (fun d15 => ?_)
  · skip
    exact absurd c15 (by decide)
  · skip
    refine k_aload_n C 19 1 rfl rfl dX10_move_18 rfl ?_
    refine k_iload C 21 0  rfl dX10_move_19 rfl ?_
    refine k_callVE C 24 (As := [.int (-1000000001)]) (st := []) 91 (by decide) (ce_91 g _) rfl rfl mwX10_95 vlX10_error (qX10_error l g M (-1000000001) (k := 1) (by decide) (by decide)) mlX10_error (by decide) (by decide) rfl rfl (Nat.le_of_ble_eq_true rfl) dX10_move_21 rfl ?_
    refine k_ret C rfl dX10_move_24 ?_
    exact ⟨rfl, rfl⟩
set_option maxHeartbeats 4000000 in
set_option maxRecDepth 20000 in
theorem qX10_move_t (l : Launch) (g : GT) (M : Mem) {s t : Nat} (hs : s < 4) (ht : t < 4) {a b n : Nat} (h1 : ¬ M 96 s = 0) (h2 : ¬ M 96 t = 0) (h3 : M 96 s = M 96 t) (hr : mvOk M s t (nI a) (nI b) (nI n) = true) (han : a + n ≤ 24) (hbn : b + n ≤ 24) : CtrI l g yX10_move cX10_move 9 (some .int) 3 [.ref (ga g 91), .int (nI s), .int (nI a), .int (nI t), .int (nI b), .int (nI n)] M (fun r M1 => r = nI n ∧ (∀ q, q ≠ 98 → M1 q = M q) ∧ (∀ e, e < n → M1 98 (24 * t + b + e) = M 98 (24 * s + a + e)) ∧ ∀ q, ¬ (24 * t + b ≤ q ∧ q < 24 * t + b + n) → M1 98 q = M 98 q) := by
  refine ctrI_of (by decide +kernel) (Nat.le_of_ble_eq_true rfl) ?_
  intro pP eE RR sS mI aG bB mE cD C
  refine k_lo (lo' := [(0, .ref (ga g 91)), (1, .int (nI s)), (2, .int (nI a)), (3, .int (nI t)), (4, .int (nI b)), (5, .int (nI n))]) rfl ?_
  refine k_aload_n C 1 0 rfl rfl dX10_move_0 rfl ?_
  refine k_iload_n C 2 1 rfl rfl dX10_move_1 rfl ?_
  refine k_iload_n C 3 2 rfl rfl dX10_move_2 rfl ?_
  refine k_iload_n C 4 3 rfl rfl dX10_move_3 rfl ?_
  refine k_iload C 6 4  rfl dX10_move_4 rfl ?_
  refine k_iload C 8 5  rfl dX10_move_6 rfl ?_
  refine k_callVE C 11 (As := [.int (nI s), .int (nI a), .int (nI t), .int (nI b), .int (nI n)]) (st := []) 91 (by decide) (ce_91 g _) rfl rfl mwX10_271 vlX10_notMoved (by have z := qX10_notMoved_t l g M hs ht (nI a) (nI b) (nI n) h1 h2 h3; rw [if_pos hr] at z; exact z) mlX10_notMoved (by decide) (by decide) rfl rfl (Nat.le_of_ble_eq_true rfl) dX10_move_8 rfl ?_
  refine k_istore C 13 [(6, .int 0), (0, .ref (ga g 91)), (1, .int (nI s)), (2, .int (nI a)), (3, .int (nI t)), (4, .int (nI b)), (5, .int (nI n))]  (by decide) rfl dX10_move_11 rfl ?_
  refine k_iload C 15 0  rfl dX10_move_13 rfl ?_
  refine k_if_eq C 25 18 dX10_move_15 (by decide) rfl (fun c15 => ?_) (fun d15 => ?_)
  · skip
    refine k_iconst C 26 (v := 0) (by decide) dX10_move_25 rfl ?_
    refine k_istore C 28 [(7, .int 0), (6, .int 0), (0, .ref (ga g 91)), (1, .int (nI s)), (2, .int (nI a)), (3, .int (nI t)), (4, .int (nI b)), (5, .int (nI n))]  (by decide) rfl dX10_move_26 rfl ?_
    refine k_sub [(0, .ref (ga g 91)), (1, .int (nI s)), (2, .int (nI a)), (3, .int (nI t)), (4, .int (nI b)), (5, .int (nI n)), (7, .int 0)] [2, 3, 4, 5, 6, 7, 0] rfl ?_
    refine k_all (M' := M) (lo' := [(0, .ref (ga g 91)), (1, .int (nI s)), (2, .int (nI a)), (3, .int (nI t)), (4, .int (nI b)), (5, .int (nI n)), (7, .int (nI 0))]) (st' := []) (by rfl) (by rfl) rfl ?_
    refine k_loop (σ := Nat × Mem) (fun (v : Nat × Mem) => match v with | (i, M1) => (i ≤ n) ∧ (∀ q, q ≠ 98 → M1 q = M q) ∧ (∀ e, e < n → ((a < b ∧ n - i ≤ e) ∨ (¬ a < b ∧ e < i)) → M1 98 (24 * t + b + e) = M 98 (24 * s + a + e)) ∧ (∀ q, ¬ (24 * t + b ≤ q ∧ q < 24 * t + b + n ∧ ((a < b ∧ n - i ≤ q - (24 * t + b)) ∨ (¬ a < b ∧ q - (24 * t + b) < i))) → M1 98 q = M 98 q)) (fun (v : Nat × Mem) => match v with | (i, M1) => n - i) (fun (v : Nat × Mem) => match v with | (i, M1) => M1) (fun (v : Nat × Mem) => match v with | (i, M1) => [(0, .ref (ga g 91)), (1, .int (nI s)), (2, .int (nI a)), (3, .int (nI t)), (4, .int (nI b)), (5, .int (nI n)), (7, .int (nI i))]) (0, M) (show (0 ≤ n) ∧ (∀ q, q ≠ 98 → M q = M q) ∧ (∀ e, e < n → ((a < b ∧ n - 0 ≤ e) ∨ (¬ a < b ∧ e < 0)) → M 98 (24 * t + b + e) = M 98 (24 * s + a + e)) ∧ (∀ q, ¬ (24 * t + b ≤ q ∧ q < 24 * t + b + n ∧ ((a < b ∧ n - 0 ≤ q - (24 * t + b)) ∨ (¬ a < b ∧ q - (24 * t + b) < 0))) → M 98 q = M 98 q) from by exact ⟨Nat.zero_le _, fun _ _ => rfl, fun e h1 h2 => by exfalso; omega, fun _ _ => rfl⟩) ?_
    rintro ⟨i, M1⟩ hI ih
    have hI : (i ≤ n) ∧ (∀ q, q ≠ 98 → M1 q = M q) ∧ (∀ e, e < n → ((a < b ∧ n - i ≤ e) ∨ (¬ a < b ∧ e < i)) → M1 98 (24 * t + b + e) = M 98 (24 * s + a + e)) ∧ (∀ q, ¬ (24 * t + b ≤ q ∧ q < 24 * t + b + n ∧ ((a < b ∧ n - i ≤ q - (24 * t + b)) ∨ (¬ a < b ∧ q - (24 * t + b) < i))) → M1 98 q = M 98 q) := hI
    obtain ⟨hi, hA, hC, hD⟩ := hI
    show KW pP l eE RR sS mI aG bB mE cD g 9 _ (M1) 28 [(0, .ref (ga g 91)), (1, .int (nI s)), (2, .int (nI a)), (3, .int (nI t)), (4, .int (nI b)), (5, .int (nI n)), (7, .int (nI i))] []
    refine k_iload C 30 6  rfl dX10_move_28 rfl ?_
    refine k_iload C 32 5  rfl dX10_move_30 rfl ?_
    refine k_icmp_ge C 90 35 dX10_move_32 (by decide) rfl (fun c32 => ?_) (fun d32 => ?_)
    · skip
      have c32 := (nI_leI (by omega) (by omega)).mp (show nI n ≤ nI i from c32)
      refine k_iload C 92 5  rfl dX10_move_90 rfl ?_
      refine k_ret C rfl dX10_move_92 ?_
      exact ⟨rfl, hA, fun e he => hC e he (by omega), fun q hq => hD q (by omega)⟩
    · skip
      have d32 := mt (nI_leI (by omega) (by omega)).mpr (show ¬ (nI n ≤ nI i) from d32)
      refine k_iload_n C 36 2 rfl rfl dX10_move_35 rfl ?_
      refine k_iload C 38 4  rfl dX10_move_36 rfl ?_
      refine k_icmp_ge C 51 41 dX10_move_38 (by decide) rfl (fun c38 => ?_) (fun d38 => ?_)
      · skip
        have c38 := (nI_leI (by omega) (by omega)).mp (show nI b ≤ nI a from c38)
        refine k_iload C 53 6  rfl dX10_move_51 rfl ?_
        refine k_istore C 55 [(8, .int (nI i)), (0, .ref (ga g 91)), (1, .int (nI s)), (2, .int (nI a)), (3, .int (nI t)), (4, .int (nI b)), (5, .int (nI n)), (7, .int (nI i))]  (by decide) rfl dX10_move_53 rfl ?_
        refine k_aload_n C 56 1 rfl rfl dX10_move_55 rfl ?_
        refine k_get C 59 flX10_28 91 (by decide) (v := .ref (ga g 98)) (ce_91 g _) rfl dX10_move_56 rfl ?_
        refine k_bipush C 61 (v := 24) (by decide) dX10_move_59 rfl ?_
        refine k_iload_n C 62 4 rfl rfl dX10_move_61 rfl ?_
        refine k_imul C 63 dX10_move_62 rfl ?_
        refine k_teq (pk_mul 24 t) ?_
        refine k_iload C 65 5  rfl dX10_move_63 rfl ?_
        refine k_iadd C 66 dX10_move_65 rfl ?_
        refine k_teq (nI_add (24 * t) b) ?_
        refine k_iload C 68 0  rfl dX10_move_66 rfl ?_
        refine k_iadd C 69 dX10_move_68 rfl ?_
        refine k_teq (nI_add ((24 * t) + b) i) ?_
        refine k_aload_n C 70 1 rfl rfl dX10_move_69 rfl ?_
        refine k_get C 73 flX10_28 91 (by decide) (v := .ref (ga g 98)) (ce_91 g _) rfl dX10_move_70 rfl ?_
        refine k_bipush C 75 (v := 24) (by decide) dX10_move_73 rfl ?_
        refine k_iload_n C 76 2 rfl rfl dX10_move_75 rfl ?_
        refine k_imul C 77 dX10_move_76 rfl ?_
        refine k_teq (pk_mul 24 s) ?_
        refine k_iload_n C 78 3 rfl rfl dX10_move_77 rfl ?_
        refine k_iadd C 79 dX10_move_78 rfl ?_
        refine k_teq (nI_add (24 * s) a) ?_
        refine k_iload C 81 0  rfl dX10_move_79 rfl ?_
        refine k_iadd C 82 dX10_move_81 rfl ?_
        refine k_teq (nI_add ((24 * s) + a) i) ?_
        refine k_iald C 83 98 (((24 * s) + a) + i) (by decide) (ce_98 g) (by decide) rfl (by omega) dX10_move_82 rfl ?_
        refine k_iast C 84 98 (((24 * t) + b) + i) (by decide) (ce_98 g) (by decide) rfl (by omega) dX10_move_83 rfl ?_
        refine k_iinc C 87 (nI (i + 1)) 7 [(7, .int (nI (i + 1))), (8, .int (nI i)), (0, .ref (ga g 91)), (1, .int (nI s)), (2, .int (nI a)), (3, .int (nI t)), (4, .int (nI b)), (5, .int (nI n))] rfl (iinc_p i) (by decide) rfl dX10_move_84 rfl ?_
        refine k_goto C 28 dX10_move_87 (by decide) ?_
        refine k_sub [(0, .ref (ga g 91)), (1, .int (nI s)), (2, .int (nI a)), (3, .int (nI t)), (4, .int (nI b)), (5, .int (nI n)), (7, .int (nI (i + 1)))] [2, 3, 4, 5, 6, 7, 0] rfl ?_
        refine k_all (M' := (mu M1 98 (((24 * t) + b) + i) (M1 98 (((24 * s) + a) + i)))) (lo' := [(0, .ref (ga g 91)), (1, .int (nI s)), (2, .int (nI a)), (3, .int (nI t)), (4, .int (nI b)), (5, .int (nI n)), (7, .int (nI (i + 1)))]) (st' := []) (by rfl) (by rfl) rfl ?_
        exact ih (i + 1, mu M1 98 (((24 * t) + b) + i) (M1 98 (((24 * s) + a) + i))) (show ((i + 1) ≤ n) ∧ (∀ q, q ≠ 98 → (mu M1 98 (((24 * t) + b) + i) (M1 98 (((24 * s) + a) + i))) q = M q) ∧ (∀ e, e < n → ((a < b ∧ n - (i + 1) ≤ e) ∨ (¬ a < b ∧ e < (i + 1))) → (mu M1 98 (((24 * t) + b) + i) (M1 98 (((24 * s) + a) + i))) 98 (24 * t + b + e) = M 98 (24 * s + a + e)) ∧ (∀ q, ¬ (24 * t + b ≤ q ∧ q < 24 * t + b + n ∧ ((a < b ∧ n - (i + 1) ≤ q - (24 * t + b)) ∨ (¬ a < b ∧ q - (24 * t + b) < (i + 1)))) → (mu M1 98 (((24 * t) + b) + i) (M1 98 (((24 * s) + a) + i))) 98 q = M 98 q) from by exact ⟨by omega, fun q hq => by rw [mu_n _ _ _ hq]; exact hA q hq, fun e he hk => by
          by_cases h : 24 * t + b + e = 24 * t + b + (i)
          · rw [h, mu_s, hD _ (by omega), show e = i by omega]
          · rw [mu_o _ _ _ h]; exact hC e he (by omega), fun q hq => by
          rw [mu_o _ _ _ (by omega)]; exact hD q (by omega)⟩) (by show n - (i + 1) < n - i; omega)
      · skip
        have d38 := mt (nI_leI (by omega) (by omega)).mpr (show ¬ (nI b ≤ nI a) from d38)
        refine k_iload C 43 5  rfl dX10_move_41 rfl ?_
        refine k_iconst C 44 (v := 1) (by decide) dX10_move_43 rfl ?_
        refine k_isub C 45 dX10_move_44 rfl ?_
        refine k_iload C 47 6  rfl dX10_move_45 rfl ?_
        refine k_isub C 48 dX10_move_47 rfl ?_
        refine k_teq (y := nI (n - 1 - i)) (nI_sub1 (by omega) (by omega)) ?_
        refine k_goto C 53 dX10_move_48 (by decide) ?_
        refine k_istore C 55 [(8, .int (nI (n - 1 - i))), (0, .ref (ga g 91)), (1, .int (nI s)), (2, .int (nI a)), (3, .int (nI t)), (4, .int (nI b)), (5, .int (nI n)), (7, .int (nI i))]  (by decide) rfl dX10_move_53 rfl ?_
        refine k_aload_n C 56 1 rfl rfl dX10_move_55 rfl ?_
        refine k_get C 59 flX10_28 91 (by decide) (v := .ref (ga g 98)) (ce_91 g _) rfl dX10_move_56 rfl ?_
        refine k_bipush C 61 (v := 24) (by decide) dX10_move_59 rfl ?_
        refine k_iload_n C 62 4 rfl rfl dX10_move_61 rfl ?_
        refine k_imul C 63 dX10_move_62 rfl ?_
        refine k_teq (pk_mul 24 t) ?_
        refine k_iload C 65 5  rfl dX10_move_63 rfl ?_
        refine k_iadd C 66 dX10_move_65 rfl ?_
        refine k_teq (nI_add (24 * t) b) ?_
        refine k_iload C 68 0  rfl dX10_move_66 rfl ?_
        refine k_iadd C 69 dX10_move_68 rfl ?_
        refine k_teq (nI_add ((24 * t) + b) (n - 1 - i)) ?_
        refine k_aload_n C 70 1 rfl rfl dX10_move_69 rfl ?_
        refine k_get C 73 flX10_28 91 (by decide) (v := .ref (ga g 98)) (ce_91 g _) rfl dX10_move_70 rfl ?_
        refine k_bipush C 75 (v := 24) (by decide) dX10_move_73 rfl ?_
        refine k_iload_n C 76 2 rfl rfl dX10_move_75 rfl ?_
        refine k_imul C 77 dX10_move_76 rfl ?_
        refine k_teq (pk_mul 24 s) ?_
        refine k_iload_n C 78 3 rfl rfl dX10_move_77 rfl ?_
        refine k_iadd C 79 dX10_move_78 rfl ?_
        refine k_teq (nI_add (24 * s) a) ?_
        refine k_iload C 81 0  rfl dX10_move_79 rfl ?_
        refine k_iadd C 82 dX10_move_81 rfl ?_
        refine k_teq (nI_add ((24 * s) + a) (n - 1 - i)) ?_
        refine k_iald C 83 98 (((24 * s) + a) + (n - 1 - i)) (by decide) (ce_98 g) (by decide) rfl (by omega) dX10_move_82 rfl ?_
        refine k_iast C 84 98 (((24 * t) + b) + (n - 1 - i)) (by decide) (ce_98 g) (by decide) rfl (by omega) dX10_move_83 rfl ?_
        refine k_iinc C 87 (nI (i + 1)) 7 [(7, .int (nI (i + 1))), (8, .int (nI (n - 1 - i))), (0, .ref (ga g 91)), (1, .int (nI s)), (2, .int (nI a)), (3, .int (nI t)), (4, .int (nI b)), (5, .int (nI n))] rfl (iinc_p i) (by decide) rfl dX10_move_84 rfl ?_
        refine k_goto C 28 dX10_move_87 (by decide) ?_
        refine k_sub [(0, .ref (ga g 91)), (1, .int (nI s)), (2, .int (nI a)), (3, .int (nI t)), (4, .int (nI b)), (5, .int (nI n)), (7, .int (nI (i + 1)))] [2, 3, 4, 5, 6, 7, 0] rfl ?_
        refine k_all (M' := (mu M1 98 (((24 * t) + b) + (n - 1 - i)) (M1 98 (((24 * s) + a) + (n - 1 - i))))) (lo' := [(0, .ref (ga g 91)), (1, .int (nI s)), (2, .int (nI a)), (3, .int (nI t)), (4, .int (nI b)), (5, .int (nI n)), (7, .int (nI (i + 1)))]) (st' := []) (by rfl) (by rfl) rfl ?_
        exact ih (i + 1, mu M1 98 (((24 * t) + b) + (n - 1 - i)) (M1 98 (((24 * s) + a) + (n - 1 - i)))) (show ((i + 1) ≤ n) ∧ (∀ q, q ≠ 98 → (mu M1 98 (((24 * t) + b) + (n - 1 - i)) (M1 98 (((24 * s) + a) + (n - 1 - i)))) q = M q) ∧ (∀ e, e < n → ((a < b ∧ n - (i + 1) ≤ e) ∨ (¬ a < b ∧ e < (i + 1))) → (mu M1 98 (((24 * t) + b) + (n - 1 - i)) (M1 98 (((24 * s) + a) + (n - 1 - i)))) 98 (24 * t + b + e) = M 98 (24 * s + a + e)) ∧ (∀ q, ¬ (24 * t + b ≤ q ∧ q < 24 * t + b + n ∧ ((a < b ∧ n - (i + 1) ≤ q - (24 * t + b)) ∨ (¬ a < b ∧ q - (24 * t + b) < (i + 1)))) → (mu M1 98 (((24 * t) + b) + (n - 1 - i)) (M1 98 (((24 * s) + a) + (n - 1 - i)))) 98 q = M 98 q) from by exact ⟨by omega, fun q hq => by rw [mu_n _ _ _ hq]; exact hA q hq, fun e he hk => by
          by_cases h : 24 * t + b + e = 24 * t + b + (n - 1 - i)
          · rw [h, mu_s, hD _ (by omega), show e = n - 1 - i by omega]
          · rw [mu_o _ _ _ h]; exact hC e he (by omega), fun q hq => by
          rw [mu_o _ _ _ (by omega)]; exact hD q (by omega)⟩) (by show n - (i + 1) < n - i; omega)
  · skip
    exact absurd d15 (by decide)
