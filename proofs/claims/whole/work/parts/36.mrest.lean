-- the reference: counts, images, sheets
theorem pIsF_g {n : Nat} (hn : n < 2 ^ 30) (f : Int32) : (decide (0 ≤ f) && decide (f ≤ nI n - 1)) = pIsF n f := by
  unfold pIsF
  congr 1
  have e : (nI n - 1).toInt = (n : Int) - 1 := by
    rw [show (1 : Int32) = nI 1 from rfl, pk_sub_toInt (by omega) (by decide)]; rfl
  have e2 : (nI n).toInt = n := nI_toInt (by omega)
  rw [decide_eq_decide, Int32.le_iff_toInt_le, Int32.lt_iff_toInt_lt, e, e2]
  omega
theorem pIsF_lt2 {n j : Nat} (hn : n < 2 ^ 31) (hj : j < n) : pIsF n (nI j) = true := rg_lt hj hn
/-- what count tells -/
def pCount (M : Mem) (n w : Nat) : Int32 := if w = 0 then nI n else if w = 1 then nI (popc (pSet (mF M) n)) else if w = 2 then M 92 0 else if w = 3 then M 92 3 else if w = 4 then M 92 4 else if w = 5 then M 92 5 else if w = 6 then M 91 19 else M 92 1
def zM (B : Mem) (s : Nat) : Nat → Mem
  | 0 => B
  | i + 1 => mu (zM B s i) 98 (24 * s + i) 0
def nrw (b x : Int32) : Int32 := if b = 8 then x.toInt8.toInt32 else if b = 16 then x.toInt16.toInt32 else x
/-- how many lines are taken -/
def lnK (C : Nat → Int32) : Nat → Nat → Nat
  | 0, i => i
  | k + 1, i => if pLine (C i) = true then lnK C k (i + 1) else i
def lnM (M : Mem) (C : Nat → Int32) : Nat → Mem
  | 0 => M
  | i + 1 => mu (mu (lnM M C i) 92 (6 + 7 * i + 2) (C i / 10)) 92 (6 + 7 * i + 3) (C i - C i / 10 * 10)
theorem lnM_o (M : Mem) (C : Nat → Int32) {a : Nat} (h : a ≠ 92) : ∀ i, lnM M C i a = M a
  | 0 => rfl
  | i + 1 => by simp only [lnM]; rw [mu_n _ _ _ h, mu_n _ _ _ h, lnM_o M C h i]
theorem lnM_2 (M : Mem) (C : Nat → Int32) : ∀ i, lnM M C i 92 2 = M 92 2
  | 0 => rfl
  | i + 1 => by simp only [lnM]; rw [mu_o _ _ _ (show 2 ≠ 6 + 7 * i + 3 by omega), mu_o _ _ _ (show 2 ≠ 6 + 7 * i + 2 by omega), lnM_2 M C i]

set_option maxHeartbeats 4000000 in
set_option maxRecDepth 20000 in
theorem qX10_body_f (l : Launch) (g : GT) (M : Mem) {t : Nat} (ht : M 91 19 = nI t) (h30 : t ≤ 30) (i : Int32) (hf : pIsF t i = false) : CtrE l g yX10_body cX10_body 2 (some .int) 1 [.ref (ga g 91), .int i] M (-1000000002) (mu M 95 2 (M 95 2 + 1)) := by
  refine ctrI_of (by decide +kernel) (Nat.le_of_ble_eq_true rfl) ?_
  intro pP eE RR sS mI aG bB mE cD C
  refine k_lo (lo' := [(0, .ref (ga g 91)), (1, .int i)]) rfl ?_
  refine k_iload_n C 1 1 rfl rfl dX10_body_0 rfl ?_
  refine k_iconst C 2 (v := 0) (by decide) dX10_body_1 rfl ?_
  refine k_aload_n C 3 0 rfl rfl dX10_body_2 rfl ?_
  refine k_get C 6 flX10_228 91 (by decide) (v := .int ((M) 91 19)) (ce_91 g _) rfl dX10_body_3 rfl ?_
  refine k_teq (y := nI t) ht ?_
  refine k_iconst C 7 (v := 1) (by decide) dX10_body_6 rfl ?_
  refine k_isub C 8 dX10_body_7 rfl ?_
  refine k_callSE C 11 (As := [.int i, .int 0, .int ((nI t) - 1)]) (st := []) mwX10_54 skX10_in (qX10_in l g M i 0 ((nI t) - 1)) mlX10_in (by decide) (by decide) rfl rfl (Nat.le_of_ble_eq_true rfl) dX10_body_8 rfl ?_
  refine k_if_eqB C 23 14 dX10_body_11 (by decide) rfl (fun c11 => ?_) (fun d11 => ?_)
  · skip
    refine k_aload_n C 24 0 rfl rfl dX10_body_23 rfl ?_
    refine k_ldc C 26 cwX10_227 dX10_body_24 rfl ?_
    refine k_callVE C 29 (As := [.int (-1000000002)]) (st := []) 91 (by decide) (ce_91 g _) rfl rfl mwX10_95 vlX10_error (qX10_error l g M (-1000000002) (k := 2) (by decide) (by decide)) mlX10_error (by decide) (by decide) rfl rfl (Nat.le_of_ble_eq_true rfl) dX10_body_26 rfl ?_
    refine k_ret C rfl dX10_body_29 ?_
    exact ⟨rfl, rfl⟩
  · skip
    exact (bz hf (by rw [← pIsF_g (n := t) (by omega)]; exact d11)).elim
set_option maxHeartbeats 4000000 in
set_option maxRecDepth 20000 in
theorem qX10_body_t (l : Launch) (g : GT) (M : Mem) {t : Nat} (ht : M 91 19 = nI t) (h30 : t ≤ 30) {i : Nat} (hi : i < t) : CtrE l g yX10_body cX10_body 2 (some .int) 1 [.ref (ga g 91), .int (nI i)] M (M 104 i) M := by
  refine ctrI_of (by decide +kernel) (Nat.le_of_ble_eq_true rfl) ?_
  intro pP eE RR sS mI aG bB mE cD C
  refine k_lo (lo' := [(0, .ref (ga g 91)), (1, .int (nI i))]) rfl ?_
  refine k_iload_n C 1 1 rfl rfl dX10_body_0 rfl ?_
  refine k_iconst C 2 (v := 0) (by decide) dX10_body_1 rfl ?_
  refine k_aload_n C 3 0 rfl rfl dX10_body_2 rfl ?_
  refine k_get C 6 flX10_228 91 (by decide) (v := .int ((M) 91 19)) (ce_91 g _) rfl dX10_body_3 rfl ?_
  refine k_teq (y := nI t) ht ?_
  refine k_iconst C 7 (v := 1) (by decide) dX10_body_6 rfl ?_
  refine k_isub C 8 dX10_body_7 rfl ?_
  refine k_callSE C 11 (As := [.int (nI i), .int 0, .int ((nI t) - 1)]) (st := []) mwX10_54 skX10_in (qX10_in l g M (nI i) 0 ((nI t) - 1)) mlX10_in (by decide) (by decide) rfl rfl (Nat.le_of_ble_eq_true rfl) dX10_body_8 rfl ?_
  refine k_if_eqB C 23 14 dX10_body_11 (by decide) rfl (fun c11 => ?_) (fun d11 => ?_)
  · skip
    exact (bz c11 (by rw [pIsF_g (n := t) (by omega)]; exact pIsF_lt2 (by omega) hi)).elim
  · skip
    refine k_aload_n C 15 0 rfl rfl dX10_body_14 rfl ?_
    refine k_get C 18 flX10_46 91 (by decide) (v := .ref (ga g 104)) (ce_91 g _) rfl dX10_body_15 rfl ?_
    refine k_iload_n C 19 1 rfl rfl dX10_body_18 rfl ?_
    refine k_iald C 20 104 i (by decide) (ce_104 g) (by decide) rfl (by omega) dX10_body_19 rfl ?_
    refine k_goto C 29 dX10_body_20 (by decide) ?_
    refine k_ret C rfl dX10_body_29 ?_
    exact ⟨rfl, rfl⟩
set_option maxHeartbeats 4000000 in
set_option maxRecDepth 20000 in
theorem qX10_tell_full (l : Launch) (g : GT) (M : Mem) (hw : M 92 5 = 24) (x : Int32) : CtrE l g yX10_tell cX10_tell 2 (some .int) 1 [.ref (ga g 91), .int x] M (-1000000004) (mu M 95 4 (M 95 4 + 1)) := by
  refine ctrI_of (by decide +kernel) (Nat.le_of_ble_eq_true rfl) ?_
  intro pP eE RR sS mI aG bB mE cD C
  refine k_lo (lo' := [(0, .ref (ga g 91)), (1, .int x)]) rfl ?_
  refine k_aload_n C 1 0 rfl rfl dX10_tell_0 rfl ?_
  refine k_get C 4 flX10_9 91 (by decide) (v := .ref (ga g 92)) (ce_91 g _) rfl dX10_tell_1 rfl ?_
  refine k_iconst C 5 (v := 5) (by decide) dX10_tell_4 rfl ?_
  refine k_iald C 6 92 5 (by decide) (ce_92 g) (by decide) rfl (by omega) dX10_tell_5 rfl ?_
  refine k_teq (y := 24) hw ?_
  refine k_bipush C 8 (v := 24) (by decide) dX10_tell_6 rfl ?_
  refine k_icmp_ne C 18 11 dX10_tell_8 (by decide) rfl (fun c8 => ?_) (fun d8 => ?_)
  · skip
    exact absurd c8 (by decide)
  · skip
    refine k_aload_n C 12 0 rfl rfl dX10_tell_11 rfl ?_
    refine k_ldc C 14 cwX10_98 dX10_tell_12 rfl ?_
    refine k_callVE C 17 (As := [.int (-1000000004)]) (st := []) 91 (by decide) (ce_91 g _) rfl rfl mwX10_95 vlX10_error (qX10_error l g M (-1000000004) (k := 4) (by decide) (by decide)) mlX10_error (by decide) (by decide) rfl rfl (Nat.le_of_ble_eq_true rfl) dX10_tell_14 rfl ?_
    refine k_ret C rfl dX10_tell_17 ?_
    exact ⟨rfl, rfl⟩
set_option maxHeartbeats 4000000 in
set_option maxRecDepth 20000 in
theorem qX10_tell_t (l : Launch) (g : GT) (M : Mem) {w : Nat} (hw : M 92 5 = nI w) (h24 : w < 24) (x : Int32) : CtrE l g yX10_tell cX10_tell 2 (some .int) 1 [.ref (ga g 91), .int x] M (nI (w + 1)) (mu (mu M 92 (150 + w) x) 92 5 (nI (w + 1))) := by
  refine ctrI_of (by decide +kernel) (Nat.le_of_ble_eq_true rfl) ?_
  intro pP eE RR sS mI aG bB mE cD C
  refine k_lo (lo' := [(0, .ref (ga g 91)), (1, .int x)]) rfl ?_
  refine k_aload_n C 1 0 rfl rfl dX10_tell_0 rfl ?_
  refine k_get C 4 flX10_9 91 (by decide) (v := .ref (ga g 92)) (ce_91 g _) rfl dX10_tell_1 rfl ?_
  refine k_iconst C 5 (v := 5) (by decide) dX10_tell_4 rfl ?_
  refine k_iald C 6 92 5 (by decide) (ce_92 g) (by decide) rfl (by omega) dX10_tell_5 rfl ?_
  refine k_teq (y := nI w) hw ?_
  refine k_bipush C 8 (v := 24) (by decide) dX10_tell_6 rfl ?_
  refine k_icmp_ne C 18 11 dX10_tell_8 (by decide) rfl (fun c8 => ?_) (fun d8 => ?_)
  · skip
    have c8 := mt (nI_eq (by omega) (by omega)).mpr (show ¬ (nI w = nI 24) from c8)
    refine k_aload_n C 19 0 rfl rfl dX10_tell_18 rfl ?_
    refine k_get C 22 flX10_9 91 (by decide) (v := .ref (ga g 92)) (ce_91 g _) rfl dX10_tell_19 rfl ?_
    refine k_sipush C 25 (v := 150) (by decide) dX10_tell_22 rfl ?_
    refine k_aload_n C 26 0 rfl rfl dX10_tell_25 rfl ?_
    refine k_get C 29 flX10_9 91 (by decide) (v := .ref (ga g 92)) (ce_91 g _) rfl dX10_tell_26 rfl ?_
    refine k_iconst C 30 (v := 5) (by decide) dX10_tell_29 rfl ?_
    refine k_iald C 31 92 5 (by decide) (ce_92 g) (by decide) rfl (by omega) dX10_tell_30 rfl ?_
    refine k_teq (y := nI w) hw ?_
    refine k_iadd C 32 dX10_tell_31 rfl ?_
    refine k_teq (nI_add 150 w) ?_
    refine k_iload_n C 33 1 rfl rfl dX10_tell_32 rfl ?_
    refine k_iast C 34 92 (150 + w) (by decide) (ce_92 g) (by decide) rfl (by omega) dX10_tell_33 rfl ?_
    refine k_aload_n C 35 0 rfl rfl dX10_tell_34 rfl ?_
    refine k_get C 38 flX10_9 91 (by decide) (v := .ref (ga g 92)) (ce_91 g _) rfl dX10_tell_35 rfl ?_
    refine k_iconst C 39 (v := 5) (by decide) dX10_tell_38 rfl ?_
    refine k_dup2 C 40 rfl rfl dX10_tell_39 rfl ?_
    refine k_iald C 41 92 5 (by decide) (ce_92 g) (by decide) rfl (by omega) dX10_tell_40 rfl ?_
    refine k_teq (y := nI w) (by rw [mu_o _ _ _ (by omega)]; exact hw) ?_
    refine k_iconst C 42 (v := 1) (by decide) dX10_tell_41 rfl ?_
    refine k_iadd C 43 dX10_tell_42 rfl ?_
    refine k_teq (nI_add w 1) ?_
    refine k_iast C 44 92 5 (by decide) (ce_92 g) (by decide) rfl (by omega) dX10_tell_43 rfl ?_
    refine k_aload_n C 45 0 rfl rfl dX10_tell_44 rfl ?_
    refine k_get C 48 flX10_9 91 (by decide) (v := .ref (ga g 92)) (ce_91 g _) rfl dX10_tell_45 rfl ?_
    refine k_iconst C 49 (v := 5) (by decide) dX10_tell_48 rfl ?_
    refine k_iald C 50 92 5 (by decide) (ce_92 g) (by decide) rfl (by omega) dX10_tell_49 rfl ?_
    refine k_teq (show (mu (mu M 92 (150 + w) x) 92 5 (nI (w + 1))) 92 5 = nI (w + 1) by simp [mu_at]) ?_
    refine k_ret C rfl dX10_tell_50 ?_
    exact ⟨rfl, rfl⟩
  · skip
    have d8 := (nI_eq (by omega) (by omega)).mp (show nI w = nI 24 from d8)
    exact absurd d8 (by omega)
set_option maxHeartbeats 4000000 in
set_option maxRecDepth 20000 in
theorem qX10_count_t (l : Launch) (g : GT) (M : Mem) {n : Nat} (hn : M 92 2 = nI n) (h12 : n ≤ 12) {w : Nat} (hw : w < 8) : CtrE l g yX10_count cX10_count 2 (some .int) 4 [.ref (ga g 91), .int (nI w)] M (pCount M n w) M := by
  refine ctrI_of (by decide +kernel) (Nat.le_of_ble_eq_true rfl) ?_
  intro pP eE RR sS mI aG bB mE cD C
  refine k_lo (lo' := [(0, .ref (ga g 91)), (1, .int (nI w))]) rfl ?_
  refine k_iload_n C 1 1 rfl rfl dX10_count_0 rfl ?_
  rcases (show w = 0 ∨ w = 1 ∨ w = 2 ∨ w = 3 ∨ w = 4 ∨ w = 5 ∨ w = 6 ∨ w = 7 by omega) with rfl | rfl | rfl | rfl | rfl | rfl | rfl | rfl
  · skip
    refine k_tin C 48 (by decide) (by decide) (by rfl) dX10_count_1 (by decide) ?_
    refine k_aload_n C 49 0 rfl rfl dX10_count_48 rfl ?_
    refine k_get C 52 flX10_9 91 (by decide) (v := .ref (ga g 92)) (ce_91 g _) rfl dX10_count_49 rfl ?_
    refine k_iconst C 53 (v := 2) (by decide) dX10_count_52 rfl ?_
    refine k_iald C 54 92 2 (by decide) (ce_92 g) (by decide) rfl (by omega) dX10_count_53 rfl ?_
    refine k_teq (y := nI n) hn ?_
    refine k_ret C rfl dX10_count_54 ?_
    exact ⟨rfl, rfl⟩
  · skip
    refine k_tin C 55 (by decide) (by decide) (by rfl) dX10_count_1 (by decide) ?_
    refine k_aload_n C 56 0 rfl rfl dX10_count_55 rfl ?_
    refine k_callVE C 59 (As := []) (st := []) 91 (by decide) (ce_91 g _) rfl rfl mwX10_184 vlX10_seen (qX10_seen l g M (n := n) hn h12) mlX10_seen (by decide) (by decide) rfl rfl (Nat.le_of_ble_eq_true rfl) dX10_count_56 rfl ?_
    refine k_callSE C 62 (As := [.int (nI (pSet (mF M) n))]) (st := []) mwX10_187 skX10_bits (qX10_bits l g M (m := pSet (mF M) n) (Nat.lt_of_lt_of_le (pSet_lt _ _) (Nat.pow_le_pow_right (by decide) h12))) mlX10_bits (by decide) (by decide) rfl rfl (Nat.le_of_ble_eq_true rfl) dX10_count_59 rfl ?_
    refine k_ret C rfl dX10_count_62 ?_
    exact ⟨rfl, rfl⟩
  · skip
    refine k_tin C 63 (by decide) (by decide) (by rfl) dX10_count_1 (by decide) ?_
    refine k_aload_n C 64 0 rfl rfl dX10_count_63 rfl ?_
    refine k_get C 67 flX10_9 91 (by decide) (v := .ref (ga g 92)) (ce_91 g _) rfl dX10_count_64 rfl ?_
    refine k_iconst C 68 (v := 0) (by decide) dX10_count_67 rfl ?_
    refine k_iald C 69 92 0 (by decide) (ce_92 g) (by decide) rfl (by omega) dX10_count_68 rfl ?_
    refine k_ret C rfl dX10_count_69 ?_
    exact ⟨rfl, rfl⟩
  · skip
    refine k_tin C 70 (by decide) (by decide) (by rfl) dX10_count_1 (by decide) ?_
    refine k_aload_n C 71 0 rfl rfl dX10_count_70 rfl ?_
    refine k_get C 74 flX10_9 91 (by decide) (v := .ref (ga g 92)) (ce_91 g _) rfl dX10_count_71 rfl ?_
    refine k_iconst C 75 (v := 3) (by decide) dX10_count_74 rfl ?_
    refine k_iald C 76 92 3 (by decide) (ce_92 g) (by decide) rfl (by omega) dX10_count_75 rfl ?_
    refine k_ret C rfl dX10_count_76 ?_
    exact ⟨rfl, rfl⟩
  · skip
    refine k_tin C 77 (by decide) (by decide) (by rfl) dX10_count_1 (by decide) ?_
    refine k_aload_n C 78 0 rfl rfl dX10_count_77 rfl ?_
    refine k_get C 81 flX10_9 91 (by decide) (v := .ref (ga g 92)) (ce_91 g _) rfl dX10_count_78 rfl ?_
    refine k_iconst C 82 (v := 4) (by decide) dX10_count_81 rfl ?_
    refine k_iald C 83 92 4 (by decide) (ce_92 g) (by decide) rfl (by omega) dX10_count_82 rfl ?_
    refine k_ret C rfl dX10_count_83 ?_
    exact ⟨rfl, rfl⟩
  · skip
    refine k_tin C 84 (by decide) (by decide) (by rfl) dX10_count_1 (by decide) ?_
    refine k_aload_n C 85 0 rfl rfl dX10_count_84 rfl ?_
    refine k_get C 88 flX10_9 91 (by decide) (v := .ref (ga g 92)) (ce_91 g _) rfl dX10_count_85 rfl ?_
    refine k_iconst C 89 (v := 5) (by decide) dX10_count_88 rfl ?_
    refine k_iald C 90 92 5 (by decide) (ce_92 g) (by decide) rfl (by omega) dX10_count_89 rfl ?_
    refine k_ret C rfl dX10_count_90 ?_
    exact ⟨rfl, rfl⟩
  · skip
    refine k_tin C 91 (by decide) (by decide) (by rfl) dX10_count_1 (by decide) ?_
    refine k_aload_n C 92 0 rfl rfl dX10_count_91 rfl ?_
    refine k_get C 95 flX10_228 91 (by decide) (v := .int ((M) 91 19)) (ce_91 g _) rfl dX10_count_92 rfl ?_
    refine k_ret C rfl dX10_count_95 ?_
    exact ⟨rfl, rfl⟩
  · skip
    refine k_tin C 96 (by decide) (by decide) (by rfl) dX10_count_1 (by decide) ?_
    refine k_aload_n C 97 0 rfl rfl dX10_count_96 rfl ?_
    refine k_get C 100 flX10_9 91 (by decide) (v := .ref (ga g 92)) (ce_91 g _) rfl dX10_count_97 rfl ?_
    refine k_iconst C 101 (v := 1) (by decide) dX10_count_100 rfl ?_
    refine k_iald C 102 92 1 (by decide) (ce_92 g) (by decide) rfl (by omega) dX10_count_101 rfl ?_
    refine k_ret C rfl dX10_count_102 ?_
    exact ⟨rfl, rfl⟩
set_option maxHeartbeats 4000000 in
set_option maxRecDepth 20000 in
theorem qX10_count_f (l : Launch) (g : GT) (M : Mem) (w : Int32) (h0 : ¬ w = 0) (h1 : ¬ w = 1) (h2 : ¬ w = 2) (h3 : ¬ w = 3) (h4 : ¬ w = 4) (h5 : ¬ w = 5) (h6 : ¬ w = 6) (h7 : ¬ w = 7) : CtrE l g yX10_count cX10_count 2 (some .int) 1 [.ref (ga g 91), .int w] M (-1000000001) (mu M 95 1 (M 95 1 + 1)) := by
  refine ctrI_of (by decide +kernel) (Nat.le_of_ble_eq_true rfl) ?_
  intro pP eE RR sS mI aG bB mE cD C
  refine k_lo (lo' := [(0, .ref (ga g 91)), (1, .int w)]) rfl ?_
  refine k_iload_n C 1 1 rfl rfl dX10_count_0 rfl ?_
  by_cases w1_0 : w = 0
  · skip
    refine k_tin C 48 (by rw [w1_0]; decide) (by rw [w1_0]; decide) (by rw [w1_0]; rfl) dX10_count_1 (by decide) ?_
    exact absurd w1_0 h0
  · skip
    by_cases w1_1 : w = 1
    · skip
      refine k_tin C 55 (by rw [w1_1]; decide) (by rw [w1_1]; decide) (by rw [w1_1]; rfl) dX10_count_1 (by decide) ?_
      exact absurd w1_1 h1
    · skip
      by_cases w1_2 : w = 2
      · skip
        refine k_tin C 63 (by rw [w1_2]; decide) (by rw [w1_2]; decide) (by rw [w1_2]; rfl) dX10_count_1 (by decide) ?_
        exact absurd w1_2 h2
      · skip
        by_cases w1_3 : w = 3
        · skip
          refine k_tin C 70 (by rw [w1_3]; decide) (by rw [w1_3]; decide) (by rw [w1_3]; rfl) dX10_count_1 (by decide) ?_
          exact absurd w1_3 h3
        · skip
          by_cases w1_4 : w = 4
          · skip
            refine k_tin C 77 (by rw [w1_4]; decide) (by rw [w1_4]; decide) (by rw [w1_4]; rfl) dX10_count_1 (by decide) ?_
            exact absurd w1_4 h4
          · skip
            by_cases w1_5 : w = 5
            · skip
              refine k_tin C 84 (by rw [w1_5]; decide) (by rw [w1_5]; decide) (by rw [w1_5]; rfl) dX10_count_1 (by decide) ?_
              exact absurd w1_5 h5
            · skip
              by_cases w1_6 : w = 6
              · skip
                refine k_tin C 91 (by rw [w1_6]; decide) (by rw [w1_6]; decide) (by rw [w1_6]; rfl) dX10_count_1 (by decide) ?_
                exact absurd w1_6 h6
              · skip
                by_cases w1_7 : w = 7
                · skip
                  refine k_tin C 96 (by rw [w1_7]; decide) (by rw [w1_7]; decide) (by rw [w1_7]; rfl) dX10_count_1 (by decide) ?_
                  exact absurd w1_7 h7
                · skip
                  refine k_tout C 103 (by have z0 := i_ne w1_0 (k := 0) rfl; have z1 := i_ne w1_1 (k := 1) rfl; have z2 := i_ne w1_2 (k := 2) rfl; have z3 := i_ne w1_3 (k := 3) rfl; have z4 := i_ne w1_4 (k := 4) rfl; have z5 := i_ne w1_5 (k := 5) rfl; have z6 := i_ne w1_6 (k := 6) rfl; have z7 := i_ne w1_7 (k := 7) rfl; omega) dX10_count_1 (by decide) ?_
                  refine k_aload_n C 104 0 rfl rfl dX10_count_103 rfl ?_
                  refine k_ldc C 106 cwX10_94 dX10_count_104 rfl ?_
                  refine k_callVE C 109 (As := [.int (-1000000001)]) (st := []) 91 (by decide) (ce_91 g _) rfl rfl mwX10_95 vlX10_error (qX10_error l g M (-1000000001) (k := 1) (by decide) (by decide)) mlX10_error (by decide) (by decide) rfl rfl (Nat.le_of_ble_eq_true rfl) dX10_count_106 rfl ?_
                  refine k_ret C rfl dX10_count_109 ?_
                  exact ⟨rfl, rfl⟩
set_option maxHeartbeats 4000000 in
set_option maxRecDepth 20000 in
theorem qX10_told_f (l : Launch) (g : GT) (M : Mem) (k : Int32) (hf : (decide (1 ≤ k) && decide (k ≤ 6)) = false) : CtrE l g yX10_told cX10_told 2 (some .int) 1 [.ref (ga g 91), .int k] M (-1000000001) (mu M 95 1 (M 95 1 + 1)) := by
  refine ctrI_of (by decide +kernel) (Nat.le_of_ble_eq_true rfl) ?_
  intro pP eE RR sS mI aG bB mE cD C
  refine k_lo (lo' := [(0, .ref (ga g 91)), (1, .int k)]) rfl ?_
  refine k_iload_n C 1 1 rfl rfl dX10_told_0 rfl ?_
  refine k_iconst C 2 (v := 1) (by decide) dX10_told_1 rfl ?_
  refine k_bipush C 4 (v := 6) (by decide) dX10_told_2 rfl ?_
  refine k_callSE C 7 (As := [.int k, .int 1, .int 6]) (st := []) mwX10_54 skX10_in (qX10_in l g M k 1 6) mlX10_in (by decide) (by decide) rfl rfl (Nat.le_of_ble_eq_true rfl) dX10_told_4 rfl ?_
  refine k_if_eqB C 19 10 dX10_told_7 (by decide) rfl (fun c7 => ?_) (fun d7 => ?_)
  · skip
    refine k_aload_n C 20 0 rfl rfl dX10_told_19 rfl ?_
    refine k_ldc C 22 cwX10_94 dX10_told_20 rfl ?_
    refine k_callVE C 25 (As := [.int (-1000000001)]) (st := []) 91 (by decide) (ce_91 g _) rfl rfl mwX10_95 vlX10_error (qX10_error l g M (-1000000001) (k := 1) (by decide) (by decide)) mlX10_error (by decide) (by decide) rfl rfl (Nat.le_of_ble_eq_true rfl) dX10_told_22 rfl ?_
    refine k_ret C rfl dX10_told_25 ?_
    exact ⟨rfl, rfl⟩
  · skip
    exact (bz hf (by simp [d7])).elim
set_option maxHeartbeats 4000000 in
set_option maxRecDepth 20000 in
theorem qX10_told_t (l : Launch) (g : GT) (M : Mem) {k : Nat} (h1 : 1 ≤ k) (h2 : k ≤ 6) : CtrE l g yX10_told cX10_told 2 (some .int) 1 [.ref (ga g 91), .int (nI k)] M (M 95 k) M := by
  refine ctrI_of (by decide +kernel) (Nat.le_of_ble_eq_true rfl) ?_
  intro pP eE RR sS mI aG bB mE cD C
  refine k_lo (lo' := [(0, .ref (ga g 91)), (1, .int (nI k))]) rfl ?_
  refine k_iload_n C 1 1 rfl rfl dX10_told_0 rfl ?_
  refine k_iconst C 2 (v := 1) (by decide) dX10_told_1 rfl ?_
  refine k_bipush C 4 (v := 6) (by decide) dX10_told_2 rfl ?_
  refine k_callSE C 7 (As := [.int (nI k), .int 1, .int 6]) (st := []) mwX10_54 skX10_in (qX10_in l g M (nI k) 1 6) mlX10_in (by decide) (by decide) rfl rfl (Nat.le_of_ble_eq_true rfl) dX10_told_4 rfl ?_
  refine k_if_eqB C 19 10 dX10_told_7 (by decide) rfl (fun c7 => ?_) (fun d7 => ?_)
  · skip
    exact (bz c7 (rg_le (a := 1) (b := 6) h1 h2 (by decide))).elim
  · skip
    refine k_aload_n C 11 0 rfl rfl dX10_told_10 rfl ?_
    refine k_get C 14 flX10_19 91 (by decide) (v := .ref (ga g 95)) (ce_91 g _) rfl dX10_told_11 rfl ?_
    refine k_iload_n C 15 1 rfl rfl dX10_told_14 rfl ?_
    refine k_iald C 16 95 k (by decide) (ce_95 g) (by decide) rfl (by omega) dX10_told_15 rfl ?_
    refine k_goto C 25 dX10_told_16 (by decide) ?_
    refine k_ret C rfl dX10_told_25 ?_
    exact ⟨rfl, rfl⟩
set_option maxHeartbeats 4000000 in
set_option maxRecDepth 20000 in
theorem qX10_image (l : Launch) (g : GT) (M : Mem) : CtrE l g yX10_image cX10_image 1 (some .int) 1 [.ref (ga g 91)] M (M 91 3 + 1) (mu (mrow M 93 (cpA 416 (M 92) (M 93))) 91 3 (M 91 3 + 1)) := by
  refine ctrI_of (by decide +kernel) (Nat.le_of_ble_eq_true rfl) ?_
  intro pP eE RR sS mI aG bB mE cD C
  refine k_lo (lo' := [(0, .ref (ga g 91))]) rfl ?_
  refine k_aload_n C 1 0 rfl rfl dX10_image_0 rfl ?_
  refine k_get C 4 flX10_9 91 (by decide) (v := .ref (ga g 92)) (ce_91 g _) rfl dX10_image_1 rfl ?_
  refine k_aload_n C 5 0 rfl rfl dX10_image_4 rfl ?_
  refine k_get C 8 flX10_13 91 (by decide) (v := .ref (ga g 93)) (ce_91 g _) rfl dX10_image_5 rfl ?_
  refine k_callSU C 11 (As := [.ref (ga g 92), .ref (ga g 93)]) (st := []) mwX10_50 skX10_copyAll (qcopyAll_92_93 l g M) mlX10_copyAll (by decide) (by decide) rfl rfl (Nat.le_of_ble_eq_true rfl) dX10_image_8 rfl ?_
  refine k_aload_n C 12 0 rfl rfl dX10_image_11 rfl ?_
  refine k_dup C 13 rfl dX10_image_12 rfl ?_
  refine k_get C 16 flX10_275 91 (by decide) (v := .int ((mrow M 93 (cpA 416 (M 92) (M 93))) 91 3)) (ce_91 g _) rfl dX10_image_13 rfl ?_
  refine k_teq (y := M 91 3) (by rw [mrow_n _ _ (by decide)]) ?_
  refine k_iconst C 17 (v := 1) (by decide) dX10_image_16 rfl ?_
  refine k_iadd C 18 dX10_image_17 rfl ?_
  refine k_put C 21 flX10_275 plX10 91 (by decide) (ce_91 g _) (ce_91 g _) (Nat.le_of_ble_eq_true rfl) rfl rfl rfl dX10_image_18 rfl ?_
  refine k_aload_n C 22 0 rfl rfl dX10_image_21 rfl ?_
  refine k_get C 25 flX10_275 91 (by decide) (v := .int ((mu (mrow M 93 (cpA 416 (M 92) (M 93))) 91 3 ((M 91 3) + 1)) 91 3)) (ce_91 g _) rfl dX10_image_22 rfl ?_
  refine k_teq (show (mu (mrow M 93 (cpA 416 (M 92) (M 93))) 91 3 ((M 91 3) + 1)) 91 3 = (M 91 3) + 1 by simp [mu_at]) ?_
  refine k_ret C rfl dX10_image_25 ?_
  exact ⟨rfl, rfl⟩
set_option maxHeartbeats 4000000 in
set_option maxRecDepth 20000 in
theorem qX10_restore_0 (l : Launch) (g : GT) (M : Mem) (h : M 91 3 = 0) : CtrE l g yX10_restore cX10_restore 1 (some .int) 1 [.ref (ga g 91)] M (-1000000002) (mu M 95 2 (M 95 2 + 1)) := by
  refine ctrI_of (by decide +kernel) (Nat.le_of_ble_eq_true rfl) ?_
  intro pP eE RR sS mI aG bB mE cD C
  refine k_lo (lo' := [(0, .ref (ga g 91))]) rfl ?_
  refine k_aload_n C 1 0 rfl rfl dX10_restore_0 rfl ?_
  refine k_get C 4 flX10_275 91 (by decide) (v := .int ((M) 91 3)) (ce_91 g _) rfl dX10_restore_1 rfl ?_
  refine k_if_ne C 14 7 dX10_restore_4 (by decide) rfl (fun c4 => ?_) (fun d4 => ?_)
  · skip
    exact absurd h c4
  · skip
    refine k_aload_n C 8 0 rfl rfl dX10_restore_7 rfl ?_
    refine k_ldc C 10 cwX10_227 dX10_restore_8 rfl ?_
    refine k_callVE C 13 (As := [.int (-1000000002)]) (st := []) 91 (by decide) (ce_91 g _) rfl rfl mwX10_95 vlX10_error (qX10_error l g M (-1000000002) (k := 2) (by decide) (by decide)) mlX10_error (by decide) (by decide) rfl rfl (Nat.le_of_ble_eq_true rfl) dX10_restore_10 rfl ?_
    refine k_ret C rfl dX10_restore_13 ?_
    exact ⟨rfl, rfl⟩
set_option maxHeartbeats 4000000 in
set_option maxRecDepth 20000 in
theorem qX10_restore_t (l : Launch) (g : GT) (M : Mem) (h : ¬ M 91 3 = 0) : CtrE l g yX10_restore cX10_restore 1 (some .int) 1 [.ref (ga g 91)] M (M 93 0) (mrow M 92 (cpA 416 (M 93) (M 92))) := by
  refine ctrI_of (by decide +kernel) (Nat.le_of_ble_eq_true rfl) ?_
  intro pP eE RR sS mI aG bB mE cD C
  refine k_lo (lo' := [(0, .ref (ga g 91))]) rfl ?_
  refine k_aload_n C 1 0 rfl rfl dX10_restore_0 rfl ?_
  refine k_get C 4 flX10_275 91 (by decide) (v := .int ((M) 91 3)) (ce_91 g _) rfl dX10_restore_1 rfl ?_
  refine k_if_ne C 14 7 dX10_restore_4 (by decide) rfl (fun c4 => ?_) (fun d4 => ?_)
  · skip
    refine k_aload_n C 15 0 rfl rfl dX10_restore_14 rfl ?_
    refine k_get C 18 flX10_13 91 (by decide) (v := .ref (ga g 93)) (ce_91 g _) rfl dX10_restore_15 rfl ?_
    refine k_aload_n C 19 0 rfl rfl dX10_restore_18 rfl ?_
    refine k_get C 22 flX10_9 91 (by decide) (v := .ref (ga g 92)) (ce_91 g _) rfl dX10_restore_19 rfl ?_
    refine k_callSU C 25 (As := [.ref (ga g 93), .ref (ga g 92)]) (st := []) mwX10_50 skX10_copyAll (qcopyAll_93_92 l g M) mlX10_copyAll (by decide) (by decide) rfl rfl (Nat.le_of_ble_eq_true rfl) dX10_restore_22 rfl ?_
    refine k_aload_n C 26 0 rfl rfl dX10_restore_25 rfl ?_
    refine k_get C 29 flX10_9 91 (by decide) (v := .ref (ga g 92)) (ce_91 g _) rfl dX10_restore_26 rfl ?_
    refine k_iconst C 30 (v := 0) (by decide) dX10_restore_29 rfl ?_
    refine k_iald C 31 92 0 (by decide) (ce_92 g) (by decide) rfl (by omega) dX10_restore_30 rfl ?_
    refine k_teq (y := M 93 0) (by rw [mrow_s]; exact if_pos (by decide)) ?_
    refine k_ret C rfl dX10_restore_31 ?_
    exact ⟨rfl, rfl⟩
  · skip
    exact absurd d4 h
set_option maxHeartbeats 4000000 in
set_option maxRecDepth 20000 in
theorem qX10_notThere_f (l : Launch) (g : GT) (M : Mem) (s : Int32) (hf : (decide (0 ≤ s) && decide (s < 4)) = false) : CtrE l g yX10_notThere cX10_notThere 2 (some .int) 2 [.ref (ga g 91), .int s] M (-1000000001) M := by
  refine ctrI_of (by decide +kernel) (Nat.le_of_ble_eq_true rfl) ?_
  intro pP eE RR sS mI aG bB mE cD C
  refine k_lo (lo' := [(0, .ref (ga g 91)), (1, .int s)]) rfl ?_
  refine k_iload_n C 1 1 rfl rfl dX10_notThere_0 rfl ?_
  refine k_callSE C 4 (As := [.int s]) (st := []) mwX10_268 skX10_isSheet (qX10_isSheet l g M s) mlX10_isSheet (by decide) (by decide) rfl rfl (Nat.le_of_ble_eq_true rfl) dX10_notThere_1 rfl ?_
  refine k_if_neB C 12 7 dX10_notThere_4 (by decide) rfl (fun c4 => ?_) (fun d4 => ?_)
  · skip
    exact (bz hf (by simp [c4])).elim
  · skip
    refine k_ldc C 9 cwX10_94 dX10_notThere_7 rfl ?_
    refine k_goto C 27 dX10_notThere_9 (by decide) ?_
    refine k_ret C rfl dX10_notThere_27 ?_
    exact ⟨rfl, rfl⟩
set_option maxHeartbeats 4000000 in
set_option maxRecDepth 20000 in
theorem qX10_notThere_0 (l : Launch) (g : GT) (M : Mem) {s : Nat} (hs : s < 4) (h : M 96 s = 0) : CtrE l g yX10_notThere cX10_notThere 2 (some .int) 2 [.ref (ga g 91), .int (nI s)] M (-1000000002) M := by
  refine ctrI_of (by decide +kernel) (Nat.le_of_ble_eq_true rfl) ?_
  intro pP eE RR sS mI aG bB mE cD C
  refine k_lo (lo' := [(0, .ref (ga g 91)), (1, .int (nI s))]) rfl ?_
  refine k_iload_n C 1 1 rfl rfl dX10_notThere_0 rfl ?_
  refine k_callSE C 4 (As := [.int (nI s)]) (st := []) mwX10_268 skX10_isSheet (qX10_isSheet l g M (nI s)) mlX10_isSheet (by decide) (by decide) rfl rfl (Nat.le_of_ble_eq_true rfl) dX10_notThere_1 rfl ?_
  refine k_if_neB C 12 7 dX10_notThere_4 (by decide) rfl (fun c4 => ?_) (fun d4 => ?_)
  · skip
    refine k_aload_n C 13 0 rfl rfl dX10_notThere_12 rfl ?_
    refine k_get C 16 flX10_22 91 (by decide) (v := .ref (ga g 96)) (ce_91 g _) rfl dX10_notThere_13 rfl ?_
    refine k_iload_n C 17 1 rfl rfl dX10_notThere_16 rfl ?_
    refine k_iald C 18 96 s (by decide) (ce_96 g) (by decide) rfl (by omega) dX10_notThere_17 rfl ?_
    refine k_if_ne C 26 21 dX10_notThere_18 (by decide) rfl (fun c18 => ?_) (fun d18 => ?_)
    · skip
      exact absurd h c18
    · skip
      refine k_ldc C 23 cwX10_227 dX10_notThere_21 rfl ?_
      refine k_goto C 27 dX10_notThere_23 (by decide) ?_
      refine k_ret C rfl dX10_notThere_27 ?_
      exact ⟨rfl, rfl⟩
  · skip
    exact (bz d4 (rg_lt (b := 4) hs (by decide))).elim
set_option maxHeartbeats 4000000 in
set_option maxRecDepth 20000 in
theorem qX10_notThere_t (l : Launch) (g : GT) (M : Mem) {s : Nat} (hs : s < 4) (h : ¬ M 96 s = 0) : CtrE l g yX10_notThere cX10_notThere 2 (some .int) 2 [.ref (ga g 91), .int (nI s)] M 0 M := by
  refine ctrI_of (by decide +kernel) (Nat.le_of_ble_eq_true rfl) ?_
  intro pP eE RR sS mI aG bB mE cD C
  refine k_lo (lo' := [(0, .ref (ga g 91)), (1, .int (nI s))]) rfl ?_
  refine k_iload_n C 1 1 rfl rfl dX10_notThere_0 rfl ?_
  refine k_callSE C 4 (As := [.int (nI s)]) (st := []) mwX10_268 skX10_isSheet (qX10_isSheet l g M (nI s)) mlX10_isSheet (by decide) (by decide) rfl rfl (Nat.le_of_ble_eq_true rfl) dX10_notThere_1 rfl ?_
  refine k_if_neB C 12 7 dX10_notThere_4 (by decide) rfl (fun c4 => ?_) (fun d4 => ?_)
  · skip
    refine k_aload_n C 13 0 rfl rfl dX10_notThere_12 rfl ?_
    refine k_get C 16 flX10_22 91 (by decide) (v := .ref (ga g 96)) (ce_91 g _) rfl dX10_notThere_13 rfl ?_
    refine k_iload_n C 17 1 rfl rfl dX10_notThere_16 rfl ?_
    refine k_iald C 18 96 s (by decide) (ce_96 g) (by decide) rfl (by omega) dX10_notThere_17 rfl ?_
    refine k_if_ne C 26 21 dX10_notThere_18 (by decide) rfl (fun c18 => ?_) (fun d18 => ?_)
    · skip
      refine k_iconst C 27 (v := 0) (by decide) dX10_notThere_26 rfl ?_
      refine k_ret C rfl dX10_notThere_27 ?_
      exact ⟨rfl, rfl⟩
    · skip
      exact absurd d18 h
  · skip
    exact (bz d4 (rg_lt (b := 4) hs (by decide))).elim
set_option maxHeartbeats 4000000 in
set_option maxRecDepth 20000 in
theorem qX10_sheet_f (l : Launch) (g : GT) (M : Mem) (s b z : Int32) (hf : ((decide (0 ≤ s) && decide (s < 4)) && (decide (b = 0) || decide (b = 8) || decide (b = 16) || decide (b = 32))) = false) : CtrE l g yX10_sheet cX10_sheet 5 (some .int) 2 [.ref (ga g 91), .int s, .int b, .int z] M (-1000000001) (mu M 95 1 (M 95 1 + 1)) := by
  refine ctrI_of (by decide +kernel) (Nat.le_of_ble_eq_true rfl) ?_
  intro pP eE RR sS mI aG bB mE cD C
  refine k_lo (lo' := [(0, .ref (ga g 91)), (1, .int s), (2, .int b), (3, .int z)]) rfl ?_
  refine k_iload_n C 1 1 rfl rfl dX10_sheet_0 rfl ?_
  refine k_callSE C 4 (As := [.int s]) (st := []) mwX10_268 skX10_isSheet (qX10_isSheet l g M s) mlX10_isSheet (by decide) (by decide) rfl rfl (Nat.le_of_ble_eq_true rfl) dX10_sheet_1 rfl ?_
  refine k_if_eqB C 29 7 dX10_sheet_4 (by decide) rfl (fun c4 => ?_) (fun d4 => ?_)
  · skip
    refine k_aload_n C 30 0 rfl rfl dX10_sheet_29 rfl ?_
    refine k_ldc C 32 cwX10_94 dX10_sheet_30 rfl ?_
    refine k_callVE C 35 (As := [.int (-1000000001)]) (st := []) 91 (by decide) (ce_91 g _) rfl rfl mwX10_95 vlX10_error (qX10_error l g M (-1000000001) (k := 1) (by decide) (by decide)) mlX10_error (by decide) (by decide) rfl rfl (Nat.le_of_ble_eq_true rfl) dX10_sheet_32 rfl ?_
    refine k_ret C rfl dX10_sheet_35 ?_
    exact ⟨rfl, rfl⟩
  · skip
    refine k_iload_n C 8 2 rfl rfl dX10_sheet_7 rfl ?_
    refine k_if_eq C 36 11 dX10_sheet_8 (by decide) rfl (fun c8 => ?_) (fun d8 => ?_)
    · skip
      exact (bz hf (by simp [d4, c8])).elim
    · skip
      refine k_iload_n C 12 2 rfl rfl dX10_sheet_11 rfl ?_
      refine k_bipush C 14 (v := 8) (by decide) dX10_sheet_12 rfl ?_
      refine k_icmp_eq C 36 17 dX10_sheet_14 (by decide) rfl (fun c14 => ?_) (fun d14 => ?_)
      · skip
        exact (bz hf (by simp [d4, d8, c14])).elim
      · skip
        refine k_iload_n C 18 2 rfl rfl dX10_sheet_17 rfl ?_
        refine k_bipush C 20 (v := 16) (by decide) dX10_sheet_18 rfl ?_
        refine k_icmp_eq C 36 23 dX10_sheet_20 (by decide) rfl (fun c20 => ?_) (fun d20 => ?_)
        · skip
          exact (bz hf (by simp [d4, d8, d14, c20])).elim
        · skip
          refine k_iload_n C 24 2 rfl rfl dX10_sheet_23 rfl ?_
          refine k_bipush C 26 (v := 32) (by decide) dX10_sheet_24 rfl ?_
          refine k_icmp_eq C 36 29 dX10_sheet_26 (by decide) rfl (fun c26 => ?_) (fun d26 => ?_)
          · skip
            exact (bz hf (by simp [d4, d8, d14, d20, c26])).elim
          · skip
            refine k_aload_n C 30 0 rfl rfl dX10_sheet_29 rfl ?_
            refine k_ldc C 32 cwX10_94 dX10_sheet_30 rfl ?_
            refine k_callVE C 35 (As := [.int (-1000000001)]) (st := []) 91 (by decide) (ce_91 g _) rfl rfl mwX10_95 vlX10_error (qX10_error l g M (-1000000001) (k := 1) (by decide) (by decide)) mlX10_error (by decide) (by decide) rfl rfl (Nat.le_of_ble_eq_true rfl) dX10_sheet_32 rfl ?_
            refine k_ret C rfl dX10_sheet_35 ?_
            exact ⟨rfl, rfl⟩
set_option maxHeartbeats 4000000 in
set_option maxRecDepth 20000 in
theorem qX10_sheet_neg (l : Launch) (g : GT) (M : Mem) {s : Nat} (hs : s < 4) {b : Int32} (hb : (b = 8 ∨ b = 16 ∨ b = 32)) (z : Int32) (hz : z < 0) : CtrE l g yX10_sheet cX10_sheet 5 (some .int) 2 [.ref (ga g 91), .int (nI s), .int b, .int z] M (-1000000003) (mu M 95 3 (M 95 3 + 1)) := by
  refine ctrI_of (by decide +kernel) (Nat.le_of_ble_eq_true rfl) ?_
  intro pP eE RR sS mI aG bB mE cD C
  refine k_lo (lo' := [(0, .ref (ga g 91)), (1, .int (nI s)), (2, .int b), (3, .int z)]) rfl ?_
  rcases hb with rfl | rfl | rfl
  · skip
    refine k_iload_n C 1 1 rfl rfl dX10_sheet_0 rfl ?_
    refine k_callSE C 4 (As := [.int (nI s)]) (st := []) mwX10_268 skX10_isSheet (qX10_isSheet l g M (nI s)) mlX10_isSheet (by decide) (by decide) rfl rfl (Nat.le_of_ble_eq_true rfl) dX10_sheet_1 rfl ?_
    refine k_if_eqB C 29 7 dX10_sheet_4 (by decide) rfl (fun c4 => ?_) (fun d4 => ?_)
    · skip
      exact (bz c4 (rg_lt (b := 4) hs (by decide))).elim
    · skip
      refine k_iload_n C 8 2 rfl rfl dX10_sheet_7 rfl ?_
      refine k_if_eq C 36 11 dX10_sheet_8 (by decide) rfl (fun c8 => ?_) (fun d8 => ?_)
      · skip
        exact absurd c8 (by decide)
      · skip
        refine k_iload_n C 12 2 rfl rfl dX10_sheet_11 rfl ?_
        refine k_bipush C 14 (v := 8) (by decide) dX10_sheet_12 rfl ?_
        refine k_icmp_eq C 36 17 dX10_sheet_14 (by decide) rfl (fun c14 => ?_) (fun d14 => ?_)
        · skip
          refine k_iload_n C 37 2 rfl rfl dX10_sheet_36 rfl ?_
          refine k_if_le C 51 40 dX10_sheet_37 (by decide) rfl (fun c37 => ?_) (fun d37 => ?_)
          · skip
            exact absurd c37 (by decide)
          · skip
            refine k_iload_n C 41 3 rfl rfl dX10_sheet_40 rfl ?_
            refine k_if_ge C 51 44 dX10_sheet_41 (by decide) rfl (fun c41 => ?_) (fun d41 => ?_)
            · skip
              exact absurd hz (Int32.not_lt.mpr c41)
            · skip
              refine k_aload_n C 45 0 rfl rfl dX10_sheet_44 rfl ?_
              refine k_ldc C 47 cwX10_180 dX10_sheet_45 rfl ?_
              refine k_callVE C 50 (As := [.int (-1000000003)]) (st := []) 91 (by decide) (ce_91 g _) rfl rfl mwX10_95 vlX10_error (qX10_error l g M (-1000000003) (k := 3) (by decide) (by decide)) mlX10_error (by decide) (by decide) rfl rfl (Nat.le_of_ble_eq_true rfl) dX10_sheet_47 rfl ?_
              refine k_ret C rfl dX10_sheet_50 ?_
              exact ⟨rfl, rfl⟩
        · skip
          exact absurd d14 (by decide)
  · skip
    refine k_iload_n C 1 1 rfl rfl dX10_sheet_0 rfl ?_
    refine k_callSE C 4 (As := [.int (nI s)]) (st := []) mwX10_268 skX10_isSheet (qX10_isSheet l g M (nI s)) mlX10_isSheet (by decide) (by decide) rfl rfl (Nat.le_of_ble_eq_true rfl) dX10_sheet_1 rfl ?_
    refine k_if_eqB C 29 7 dX10_sheet_4 (by decide) rfl (fun c4 => ?_) (fun d4 => ?_)
    · skip
      exact (bz c4 (rg_lt (b := 4) hs (by decide))).elim
    · skip
      refine k_iload_n C 8 2 rfl rfl dX10_sheet_7 rfl ?_
      refine k_if_eq C 36 11 dX10_sheet_8 (by decide) rfl (fun c8 => ?_) (fun d8 => ?_)
      · skip
        exact absurd c8 (by decide)
      · skip
        refine k_iload_n C 12 2 rfl rfl dX10_sheet_11 rfl ?_
        refine k_bipush C 14 (v := 8) (by decide) dX10_sheet_12 rfl ?_
        refine k_icmp_eq C 36 17 dX10_sheet_14 (by decide) rfl (fun c14 => ?_) (fun d14 => ?_)
        · skip
          exact absurd c14 (by decide)
        · skip
          refine k_iload_n C 18 2 rfl rfl dX10_sheet_17 rfl ?_
          refine k_bipush C 20 (v := 16) (by decide) dX10_sheet_18 rfl ?_
          refine k_icmp_eq C 36 23 dX10_sheet_20 (by decide) rfl (fun c20 => ?_) (fun d20 => ?_)
          · skip
            refine k_iload_n C 37 2 rfl rfl dX10_sheet_36 rfl ?_
            refine k_if_le C 51 40 dX10_sheet_37 (by decide) rfl (fun c37 => ?_) (fun d37 => ?_)
            · skip
              exact absurd c37 (by decide)
            · skip
              refine k_iload_n C 41 3 rfl rfl dX10_sheet_40 rfl ?_
              refine k_if_ge C 51 44 dX10_sheet_41 (by decide) rfl (fun c41 => ?_) (fun d41 => ?_)
              · skip
                exact absurd hz (Int32.not_lt.mpr c41)
              · skip
                refine k_aload_n C 45 0 rfl rfl dX10_sheet_44 rfl ?_
                refine k_ldc C 47 cwX10_180 dX10_sheet_45 rfl ?_
                refine k_callVE C 50 (As := [.int (-1000000003)]) (st := []) 91 (by decide) (ce_91 g _) rfl rfl mwX10_95 vlX10_error (qX10_error l g M (-1000000003) (k := 3) (by decide) (by decide)) mlX10_error (by decide) (by decide) rfl rfl (Nat.le_of_ble_eq_true rfl) dX10_sheet_47 rfl ?_
                refine k_ret C rfl dX10_sheet_50 ?_
                exact ⟨rfl, rfl⟩
          · skip
            exact absurd d20 (by decide)
  · skip
    refine k_iload_n C 1 1 rfl rfl dX10_sheet_0 rfl ?_
    refine k_callSE C 4 (As := [.int (nI s)]) (st := []) mwX10_268 skX10_isSheet (qX10_isSheet l g M (nI s)) mlX10_isSheet (by decide) (by decide) rfl rfl (Nat.le_of_ble_eq_true rfl) dX10_sheet_1 rfl ?_
    refine k_if_eqB C 29 7 dX10_sheet_4 (by decide) rfl (fun c4 => ?_) (fun d4 => ?_)
    · skip
      exact (bz c4 (rg_lt (b := 4) hs (by decide))).elim
    · skip
      refine k_iload_n C 8 2 rfl rfl dX10_sheet_7 rfl ?_
      refine k_if_eq C 36 11 dX10_sheet_8 (by decide) rfl (fun c8 => ?_) (fun d8 => ?_)
      · skip
        exact absurd c8 (by decide)
      · skip
        refine k_iload_n C 12 2 rfl rfl dX10_sheet_11 rfl ?_
        refine k_bipush C 14 (v := 8) (by decide) dX10_sheet_12 rfl ?_
        refine k_icmp_eq C 36 17 dX10_sheet_14 (by decide) rfl (fun c14 => ?_) (fun d14 => ?_)
        · skip
          exact absurd c14 (by decide)
        · skip
          refine k_iload_n C 18 2 rfl rfl dX10_sheet_17 rfl ?_
          refine k_bipush C 20 (v := 16) (by decide) dX10_sheet_18 rfl ?_
          refine k_icmp_eq C 36 23 dX10_sheet_20 (by decide) rfl (fun c20 => ?_) (fun d20 => ?_)
          · skip
            exact absurd c20 (by decide)
          · skip
            refine k_iload_n C 24 2 rfl rfl dX10_sheet_23 rfl ?_
            refine k_bipush C 26 (v := 32) (by decide) dX10_sheet_24 rfl ?_
            refine k_icmp_eq C 36 29 dX10_sheet_26 (by decide) rfl (fun c26 => ?_) (fun d26 => ?_)
            · skip
              refine k_iload_n C 37 2 rfl rfl dX10_sheet_36 rfl ?_
              refine k_if_le C 51 40 dX10_sheet_37 (by decide) rfl (fun c37 => ?_) (fun d37 => ?_)
              · skip
                exact absurd c37 (by decide)
              · skip
                refine k_iload_n C 41 3 rfl rfl dX10_sheet_40 rfl ?_
                refine k_if_ge C 51 44 dX10_sheet_41 (by decide) rfl (fun c41 => ?_) (fun d41 => ?_)
                · skip
                  exact absurd hz (Int32.not_lt.mpr c41)
                · skip
                  refine k_aload_n C 45 0 rfl rfl dX10_sheet_44 rfl ?_
                  refine k_ldc C 47 cwX10_180 dX10_sheet_45 rfl ?_
                  refine k_callVE C 50 (As := [.int (-1000000003)]) (st := []) 91 (by decide) (ce_91 g _) rfl rfl mwX10_95 vlX10_error (qX10_error l g M (-1000000003) (k := 3) (by decide) (by decide)) mlX10_error (by decide) (by decide) rfl rfl (Nat.le_of_ble_eq_true rfl) dX10_sheet_47 rfl ?_
                  refine k_ret C rfl dX10_sheet_50 ?_
                  exact ⟨rfl, rfl⟩
            · skip
              exact absurd d26 (by decide)
set_option maxHeartbeats 4000000 in
set_option maxRecDepth 20000 in
theorem qX10_sheet_big (l : Launch) (g : GT) (M : Mem) {s : Nat} (hs : s < 4) {b : Int32} (hb : (b = 8 ∨ b = 16 ∨ b = 32)) {z : Nat} (hz : 24 < z) (hz2 : z < 2 ^ 31) : CtrE l g yX10_sheet cX10_sheet 5 (some .int) 2 [.ref (ga g 91), .int (nI s), .int b, .int (nI z)] M (-1000000001) (mu M 95 1 (M 95 1 + 1)) := by
  refine ctrI_of (by decide +kernel) (Nat.le_of_ble_eq_true rfl) ?_
  intro pP eE RR sS mI aG bB mE cD C
  refine k_lo (lo' := [(0, .ref (ga g 91)), (1, .int (nI s)), (2, .int b), (3, .int (nI z))]) rfl ?_
  rcases hb with rfl | rfl | rfl
  · skip
    refine k_iload_n C 1 1 rfl rfl dX10_sheet_0 rfl ?_
    refine k_callSE C 4 (As := [.int (nI s)]) (st := []) mwX10_268 skX10_isSheet (qX10_isSheet l g M (nI s)) mlX10_isSheet (by decide) (by decide) rfl rfl (Nat.le_of_ble_eq_true rfl) dX10_sheet_1 rfl ?_
    refine k_if_eqB C 29 7 dX10_sheet_4 (by decide) rfl (fun c4 => ?_) (fun d4 => ?_)
    · skip
      exact (bz c4 (rg_lt (b := 4) hs (by decide))).elim
    · skip
      refine k_iload_n C 8 2 rfl rfl dX10_sheet_7 rfl ?_
      refine k_if_eq C 36 11 dX10_sheet_8 (by decide) rfl (fun c8 => ?_) (fun d8 => ?_)
      · skip
        exact absurd c8 (by decide)
      · skip
        refine k_iload_n C 12 2 rfl rfl dX10_sheet_11 rfl ?_
        refine k_bipush C 14 (v := 8) (by decide) dX10_sheet_12 rfl ?_
        refine k_icmp_eq C 36 17 dX10_sheet_14 (by decide) rfl (fun c14 => ?_) (fun d14 => ?_)
        · skip
          refine k_iload_n C 37 2 rfl rfl dX10_sheet_36 rfl ?_
          refine k_if_le C 51 40 dX10_sheet_37 (by decide) rfl (fun c37 => ?_) (fun d37 => ?_)
          · skip
            exact absurd c37 (by decide)
          · skip
            refine k_iload_n C 41 3 rfl rfl dX10_sheet_40 rfl ?_
            refine k_if_ge C 51 44 dX10_sheet_41 (by decide) rfl (fun c41 => ?_) (fun d41 => ?_)
            · skip
              have c41 := (nI_leI (by omega) (by omega)).mp (show nI 0 ≤ nI z from c41)
              refine k_iload_n C 52 2 rfl rfl dX10_sheet_51 rfl ?_
              refine k_if_le C 68 55 dX10_sheet_52 (by decide) rfl (fun c52 => ?_) (fun d52 => ?_)
              · skip
                exact absurd c52 (by decide)
              · skip
                refine k_iload_n C 56 3 rfl rfl dX10_sheet_55 rfl ?_
                refine k_bipush C 58 (v := 24) (by decide) dX10_sheet_56 rfl ?_
                refine k_icmp_le C 68 61 dX10_sheet_58 (by decide) rfl (fun c58 => ?_) (fun d58 => ?_)
                · skip
                  have c58 := (nI_leI (by omega) (by omega)).mp (show nI z ≤ nI 24 from c58)
                  exact absurd c58 (by omega)
                · skip
                  have d58 := mt (nI_leI (by omega) (by omega)).mpr (show ¬ (nI z ≤ nI 24) from d58)
                  refine k_aload_n C 62 0 rfl rfl dX10_sheet_61 rfl ?_
                  refine k_ldc C 64 cwX10_94 dX10_sheet_62 rfl ?_
                  refine k_callVE C 67 (As := [.int (-1000000001)]) (st := []) 91 (by decide) (ce_91 g _) rfl rfl mwX10_95 vlX10_error (qX10_error l g M (-1000000001) (k := 1) (by decide) (by decide)) mlX10_error (by decide) (by decide) rfl rfl (Nat.le_of_ble_eq_true rfl) dX10_sheet_64 rfl ?_
                  refine k_ret C rfl dX10_sheet_67 ?_
                  exact ⟨rfl, rfl⟩
            · skip
              have d41 := mt (nI_leI (by omega) (by omega)).mpr (show ¬ (nI 0 ≤ nI z) from d41)
              exact absurd d41 (by omega)
        · skip
          exact absurd d14 (by decide)
  · skip
    refine k_iload_n C 1 1 rfl rfl dX10_sheet_0 rfl ?_
    refine k_callSE C 4 (As := [.int (nI s)]) (st := []) mwX10_268 skX10_isSheet (qX10_isSheet l g M (nI s)) mlX10_isSheet (by decide) (by decide) rfl rfl (Nat.le_of_ble_eq_true rfl) dX10_sheet_1 rfl ?_
    refine k_if_eqB C 29 7 dX10_sheet_4 (by decide) rfl (fun c4 => ?_) (fun d4 => ?_)
    · skip
      exact (bz c4 (rg_lt (b := 4) hs (by decide))).elim
    · skip
      refine k_iload_n C 8 2 rfl rfl dX10_sheet_7 rfl ?_
      refine k_if_eq C 36 11 dX10_sheet_8 (by decide) rfl (fun c8 => ?_) (fun d8 => ?_)
      · skip
        exact absurd c8 (by decide)
      · skip
        refine k_iload_n C 12 2 rfl rfl dX10_sheet_11 rfl ?_
        refine k_bipush C 14 (v := 8) (by decide) dX10_sheet_12 rfl ?_
        refine k_icmp_eq C 36 17 dX10_sheet_14 (by decide) rfl (fun c14 => ?_) (fun d14 => ?_)
        · skip
          exact absurd c14 (by decide)
        · skip
          refine k_iload_n C 18 2 rfl rfl dX10_sheet_17 rfl ?_
          refine k_bipush C 20 (v := 16) (by decide) dX10_sheet_18 rfl ?_
          refine k_icmp_eq C 36 23 dX10_sheet_20 (by decide) rfl (fun c20 => ?_) (fun d20 => ?_)
          · skip
            refine k_iload_n C 37 2 rfl rfl dX10_sheet_36 rfl ?_
            refine k_if_le C 51 40 dX10_sheet_37 (by decide) rfl (fun c37 => ?_) (fun d37 => ?_)
            · skip
              exact absurd c37 (by decide)
            · skip
              refine k_iload_n C 41 3 rfl rfl dX10_sheet_40 rfl ?_
              refine k_if_ge C 51 44 dX10_sheet_41 (by decide) rfl (fun c41 => ?_) (fun d41 => ?_)
              · skip
                have c41 := (nI_leI (by omega) (by omega)).mp (show nI 0 ≤ nI z from c41)
                refine k_iload_n C 52 2 rfl rfl dX10_sheet_51 rfl ?_
                refine k_if_le C 68 55 dX10_sheet_52 (by decide) rfl (fun c52 => ?_) (fun d52 => ?_)
                · skip
                  exact absurd c52 (by decide)
                · skip
                  refine k_iload_n C 56 3 rfl rfl dX10_sheet_55 rfl ?_
                  refine k_bipush C 58 (v := 24) (by decide) dX10_sheet_56 rfl ?_
                  refine k_icmp_le C 68 61 dX10_sheet_58 (by decide) rfl (fun c58 => ?_) (fun d58 => ?_)
                  · skip
                    have c58 := (nI_leI (by omega) (by omega)).mp (show nI z ≤ nI 24 from c58)
                    exact absurd c58 (by omega)
                  · skip
                    have d58 := mt (nI_leI (by omega) (by omega)).mpr (show ¬ (nI z ≤ nI 24) from d58)
                    refine k_aload_n C 62 0 rfl rfl dX10_sheet_61 rfl ?_
                    refine k_ldc C 64 cwX10_94 dX10_sheet_62 rfl ?_
                    refine k_callVE C 67 (As := [.int (-1000000001)]) (st := []) 91 (by decide) (ce_91 g _) rfl rfl mwX10_95 vlX10_error (qX10_error l g M (-1000000001) (k := 1) (by decide) (by decide)) mlX10_error (by decide) (by decide) rfl rfl (Nat.le_of_ble_eq_true rfl) dX10_sheet_64 rfl ?_
                    refine k_ret C rfl dX10_sheet_67 ?_
                    exact ⟨rfl, rfl⟩
              · skip
                have d41 := mt (nI_leI (by omega) (by omega)).mpr (show ¬ (nI 0 ≤ nI z) from d41)
                exact absurd d41 (by omega)
          · skip
            exact absurd d20 (by decide)
  · skip
    refine k_iload_n C 1 1 rfl rfl dX10_sheet_0 rfl ?_
    refine k_callSE C 4 (As := [.int (nI s)]) (st := []) mwX10_268 skX10_isSheet (qX10_isSheet l g M (nI s)) mlX10_isSheet (by decide) (by decide) rfl rfl (Nat.le_of_ble_eq_true rfl) dX10_sheet_1 rfl ?_
    refine k_if_eqB C 29 7 dX10_sheet_4 (by decide) rfl (fun c4 => ?_) (fun d4 => ?_)
    · skip
      exact (bz c4 (rg_lt (b := 4) hs (by decide))).elim
    · skip
      refine k_iload_n C 8 2 rfl rfl dX10_sheet_7 rfl ?_
      refine k_if_eq C 36 11 dX10_sheet_8 (by decide) rfl (fun c8 => ?_) (fun d8 => ?_)
      · skip
        exact absurd c8 (by decide)
      · skip
        refine k_iload_n C 12 2 rfl rfl dX10_sheet_11 rfl ?_
        refine k_bipush C 14 (v := 8) (by decide) dX10_sheet_12 rfl ?_
        refine k_icmp_eq C 36 17 dX10_sheet_14 (by decide) rfl (fun c14 => ?_) (fun d14 => ?_)
        · skip
          exact absurd c14 (by decide)
        · skip
          refine k_iload_n C 18 2 rfl rfl dX10_sheet_17 rfl ?_
          refine k_bipush C 20 (v := 16) (by decide) dX10_sheet_18 rfl ?_
          refine k_icmp_eq C 36 23 dX10_sheet_20 (by decide) rfl (fun c20 => ?_) (fun d20 => ?_)
          · skip
            exact absurd c20 (by decide)
          · skip
            refine k_iload_n C 24 2 rfl rfl dX10_sheet_23 rfl ?_
            refine k_bipush C 26 (v := 32) (by decide) dX10_sheet_24 rfl ?_
            refine k_icmp_eq C 36 29 dX10_sheet_26 (by decide) rfl (fun c26 => ?_) (fun d26 => ?_)
            · skip
              refine k_iload_n C 37 2 rfl rfl dX10_sheet_36 rfl ?_
              refine k_if_le C 51 40 dX10_sheet_37 (by decide) rfl (fun c37 => ?_) (fun d37 => ?_)
              · skip
                exact absurd c37 (by decide)
              · skip
                refine k_iload_n C 41 3 rfl rfl dX10_sheet_40 rfl ?_
                refine k_if_ge C 51 44 dX10_sheet_41 (by decide) rfl (fun c41 => ?_) (fun d41 => ?_)
                · skip
                  have c41 := (nI_leI (by omega) (by omega)).mp (show nI 0 ≤ nI z from c41)
                  refine k_iload_n C 52 2 rfl rfl dX10_sheet_51 rfl ?_
                  refine k_if_le C 68 55 dX10_sheet_52 (by decide) rfl (fun c52 => ?_) (fun d52 => ?_)
                  · skip
                    exact absurd c52 (by decide)
                  · skip
                    refine k_iload_n C 56 3 rfl rfl dX10_sheet_55 rfl ?_
                    refine k_bipush C 58 (v := 24) (by decide) dX10_sheet_56 rfl ?_
                    refine k_icmp_le C 68 61 dX10_sheet_58 (by decide) rfl (fun c58 => ?_) (fun d58 => ?_)
                    · skip
                      have c58 := (nI_leI (by omega) (by omega)).mp (show nI z ≤ nI 24 from c58)
                      exact absurd c58 (by omega)
                    · skip
                      have d58 := mt (nI_leI (by omega) (by omega)).mpr (show ¬ (nI z ≤ nI 24) from d58)
                      refine k_aload_n C 62 0 rfl rfl dX10_sheet_61 rfl ?_
                      refine k_ldc C 64 cwX10_94 dX10_sheet_62 rfl ?_
                      refine k_callVE C 67 (As := [.int (-1000000001)]) (st := []) 91 (by decide) (ce_91 g _) rfl rfl mwX10_95 vlX10_error (qX10_error l g M (-1000000001) (k := 1) (by decide) (by decide)) mlX10_error (by decide) (by decide) rfl rfl (Nat.le_of_ble_eq_true rfl) dX10_sheet_64 rfl ?_
                      refine k_ret C rfl dX10_sheet_67 ?_
                      exact ⟨rfl, rfl⟩
                · skip
                  have d41 := mt (nI_leI (by omega) (by omega)).mpr (show ¬ (nI 0 ≤ nI z) from d41)
                  exact absurd d41 (by omega)
            · skip
              exact absurd d26 (by decide)
set_option maxHeartbeats 4000000 in
set_option maxRecDepth 20000 in
theorem qX10_sheet_t (l : Launch) (g : GT) (M : Mem) {s : Nat} (hs : s < 4) {b : Int32} (hb : (b = 8 ∨ b = 16 ∨ b = 32)) {z : Nat} (hz : z ≤ 24) : CtrE l g yX10_sheet cX10_sheet 5 (some .int) 2 [.ref (ga g 91), .int (nI s), .int b, .int (nI z)] M 1 (zM (mu (mu M 96 s (b)) 97 s (nI z)) s 24) := by
  refine ctrI_of (by decide +kernel) (Nat.le_of_ble_eq_true rfl) ?_
  intro pP eE RR sS mI aG bB mE cD C
  refine k_lo (lo' := [(0, .ref (ga g 91)), (1, .int (nI s)), (2, .int b), (3, .int (nI z))]) rfl ?_
  rcases hb with rfl | rfl | rfl
  · skip
    refine k_iload_n C 1 1 rfl rfl dX10_sheet_0 rfl ?_
    refine k_callSE C 4 (As := [.int (nI s)]) (st := []) mwX10_268 skX10_isSheet (qX10_isSheet l g M (nI s)) mlX10_isSheet (by decide) (by decide) rfl rfl (Nat.le_of_ble_eq_true rfl) dX10_sheet_1 rfl ?_
    refine k_if_eqB C 29 7 dX10_sheet_4 (by decide) rfl (fun c4 => ?_) (fun d4 => ?_)
    · skip
      exact (bz c4 (rg_lt (b := 4) hs (by decide))).elim
    · skip
      refine k_iload_n C 8 2 rfl rfl dX10_sheet_7 rfl ?_
      refine k_if_eq C 36 11 dX10_sheet_8 (by decide) rfl (fun c8 => ?_) (fun d8 => ?_)
      · skip
        exact absurd c8 (by decide)
      · skip
        refine k_iload_n C 12 2 rfl rfl dX10_sheet_11 rfl ?_
        refine k_bipush C 14 (v := 8) (by decide) dX10_sheet_12 rfl ?_
        refine k_icmp_eq C 36 17 dX10_sheet_14 (by decide) rfl (fun c14 => ?_) (fun d14 => ?_)
        · skip
          refine k_iload_n C 37 2 rfl rfl dX10_sheet_36 rfl ?_
          refine k_if_le C 51 40 dX10_sheet_37 (by decide) rfl (fun c37 => ?_) (fun d37 => ?_)
          · skip
            exact absurd c37 (by decide)
          · skip
            refine k_iload_n C 41 3 rfl rfl dX10_sheet_40 rfl ?_
            refine k_if_ge C 51 44 dX10_sheet_41 (by decide) rfl (fun c41 => ?_) (fun d41 => ?_)
            · skip
              have c41 := (nI_leI (by omega) (by omega)).mp (show nI 0 ≤ nI z from c41)
              refine k_iload_n C 52 2 rfl rfl dX10_sheet_51 rfl ?_
              refine k_if_le C 68 55 dX10_sheet_52 (by decide) rfl (fun c52 => ?_) (fun d52 => ?_)
              · skip
                exact absurd c52 (by decide)
              · skip
                refine k_iload_n C 56 3 rfl rfl dX10_sheet_55 rfl ?_
                refine k_bipush C 58 (v := 24) (by decide) dX10_sheet_56 rfl ?_
                refine k_icmp_le C 68 61 dX10_sheet_58 (by decide) rfl (fun c58 => ?_) (fun d58 => ?_)
                · skip
                  have c58 := (nI_leI (by omega) (by omega)).mp (show nI z ≤ nI 24 from c58)
                  refine k_aload_n C 69 0 rfl rfl dX10_sheet_68 rfl ?_
                  refine k_get C 72 flX10_22 91 (by decide) (v := .ref (ga g 96)) (ce_91 g _) rfl dX10_sheet_69 rfl ?_
                  refine k_iload_n C 73 1 rfl rfl dX10_sheet_72 rfl ?_
                  refine k_iload_n C 74 2 rfl rfl dX10_sheet_73 rfl ?_
                  refine k_iast C 75 96 s (by decide) (ce_96 g) (by decide) rfl (by omega) dX10_sheet_74 rfl ?_
                  refine k_aload_n C 76 0 rfl rfl dX10_sheet_75 rfl ?_
                  refine k_get C 79 flX10_25 91 (by decide) (v := .ref (ga g 97)) (ce_91 g _) rfl dX10_sheet_76 rfl ?_
                  refine k_iload_n C 80 1 rfl rfl dX10_sheet_79 rfl ?_
                  refine k_iload_n C 81 2 rfl rfl dX10_sheet_80 rfl ?_
                  refine k_if_ne C 88 84 dX10_sheet_81 (by decide) rfl (fun c81 => ?_) (fun d81 => ?_)
                  · skip
                    refine k_iload_n C 89 3 rfl rfl dX10_sheet_88 rfl ?_
                    refine k_iast C 90 97 s (by decide) (ce_97 g) (by decide) rfl (by omega) dX10_sheet_89 rfl ?_
                    refine k_iconst C 91 (v := 0) (by decide) dX10_sheet_90 rfl ?_
                    refine k_istore C 93 [(4, .int 0), (0, .ref (ga g 91)), (1, .int (nI s)), (2, .int 8), (3, .int (nI z))]  (by decide) rfl dX10_sheet_91 rfl ?_
                    refine k_sub [(0, .ref (ga g 91)), (1, .int (nI s)), (4, .int 0)] [1, 2, 0] rfl ?_
                    refine k_all (M' := zM (mu (mu M 96 s 8) 97 s (nI z)) s 0) (lo' := [(0, .ref (ga g 91)), (1, .int (nI s)), (4, .int (nI 0))]) (st' := []) (by rfl) (by rfl) rfl ?_
                    refine k_loop (σ := Nat) (fun (i : Nat) => (i ≤ 24)) (fun (i : Nat) => 24 - i) (fun (i : Nat) => zM (mu (mu M 96 s 8) 97 s (nI z)) s i) (fun (i : Nat) => [(0, .ref (ga g 91)), (1, .int (nI s)), (4, .int (nI i))]) 0 (show (0 ≤ 24) from by exact Nat.zero_le _) ?_
                    rintro i hI ih
                    have hI : (i ≤ 24) := hI
                    have hi := hI
                    show KW pP l eE RR sS mI aG bB mE cD g 5 _ (zM (mu (mu M 96 s 8) 97 s (nI z)) s i) 93 [(0, .ref (ga g 91)), (1, .int (nI s)), (4, .int (nI i))] []
                    refine k_iload C 95 2  rfl dX10_sheet_93 rfl ?_
                    refine k_bipush C 97 (v := 24) (by decide) dX10_sheet_95 rfl ?_
                    refine k_icmp_ge C 119 100 dX10_sheet_97 (by decide) rfl (fun c97 => ?_) (fun d97 => ?_)
                    · skip
                      have c97 := (nI_leI (by omega) (by omega)).mp (show nI 24 ≤ nI i from c97)
                      refine k_iconst C 120 (v := 1) (by decide) dX10_sheet_119 rfl ?_
                      refine k_ret C rfl dX10_sheet_120 ?_
                      have e : i = 24 := by omega
                      subst e
                      exact ⟨rfl, rfl⟩
                    · skip
                      have d97 := mt (nI_leI (by omega) (by omega)).mpr (show ¬ (nI 24 ≤ nI i) from d97)
                      refine k_aload_n C 101 0 rfl rfl dX10_sheet_100 rfl ?_
                      refine k_get C 104 flX10_28 91 (by decide) (v := .ref (ga g 98)) (ce_91 g _) rfl dX10_sheet_101 rfl ?_
                      refine k_bipush C 106 (v := 24) (by decide) dX10_sheet_104 rfl ?_
                      refine k_iload_n C 107 1 rfl rfl dX10_sheet_106 rfl ?_
                      refine k_imul C 108 dX10_sheet_107 rfl ?_
                      refine k_teq (pk_mul 24 s) ?_
                      refine k_iload C 110 2  rfl dX10_sheet_108 rfl ?_
                      refine k_iadd C 111 dX10_sheet_110 rfl ?_
                      refine k_teq (nI_add (24 * s) i) ?_
                      refine k_iconst C 112 (v := 0) (by decide) dX10_sheet_111 rfl ?_
                      refine k_iast C 113 98 ((24 * s) + i) (by decide) (ce_98 g) (by decide) rfl (by omega) dX10_sheet_112 rfl ?_
                      refine k_iinc C 116 (nI (i + 1)) 2 [(4, .int (nI (i + 1))), (0, .ref (ga g 91)), (1, .int (nI s))] rfl (iinc_p i) (by decide) rfl dX10_sheet_113 rfl ?_
                      refine k_goto C 93 dX10_sheet_116 (by decide) ?_
                      refine k_sub [(0, .ref (ga g 91)), (1, .int (nI s)), (4, .int (nI (i + 1)))] [1, 2, 0] rfl ?_
                      refine k_all (M' := zM (mu (mu M 96 s 8) 97 s (nI z)) s (i + 1)) (lo' := [(0, .ref (ga g 91)), (1, .int (nI s)), (4, .int (nI (i + 1)))]) (st' := []) (by rfl) (by rfl) rfl ?_
                      exact ih (i + 1) (show ((i + 1) ≤ 24) from by omega) (by show 24 - (i + 1) < _; omega)
                  · skip
                    exact absurd d81 (by decide)
                · skip
                  have d58 := mt (nI_leI (by omega) (by omega)).mpr (show ¬ (nI z ≤ nI 24) from d58)
                  exact absurd d58 (by omega)
            · skip
              have d41 := mt (nI_leI (by omega) (by omega)).mpr (show ¬ (nI 0 ≤ nI z) from d41)
              exact absurd d41 (by omega)
        · skip
          exact absurd d14 (by decide)
  · skip
    refine k_iload_n C 1 1 rfl rfl dX10_sheet_0 rfl ?_
    refine k_callSE C 4 (As := [.int (nI s)]) (st := []) mwX10_268 skX10_isSheet (qX10_isSheet l g M (nI s)) mlX10_isSheet (by decide) (by decide) rfl rfl (Nat.le_of_ble_eq_true rfl) dX10_sheet_1 rfl ?_
    refine k_if_eqB C 29 7 dX10_sheet_4 (by decide) rfl (fun c4 => ?_) (fun d4 => ?_)
    · skip
      exact (bz c4 (rg_lt (b := 4) hs (by decide))).elim
    · skip
      refine k_iload_n C 8 2 rfl rfl dX10_sheet_7 rfl ?_
      refine k_if_eq C 36 11 dX10_sheet_8 (by decide) rfl (fun c8 => ?_) (fun d8 => ?_)
      · skip
        exact absurd c8 (by decide)
      · skip
        refine k_iload_n C 12 2 rfl rfl dX10_sheet_11 rfl ?_
        refine k_bipush C 14 (v := 8) (by decide) dX10_sheet_12 rfl ?_
        refine k_icmp_eq C 36 17 dX10_sheet_14 (by decide) rfl (fun c14 => ?_) (fun d14 => ?_)
        · skip
          exact absurd c14 (by decide)
        · skip
          refine k_iload_n C 18 2 rfl rfl dX10_sheet_17 rfl ?_
          refine k_bipush C 20 (v := 16) (by decide) dX10_sheet_18 rfl ?_
          refine k_icmp_eq C 36 23 dX10_sheet_20 (by decide) rfl (fun c20 => ?_) (fun d20 => ?_)
          · skip
            refine k_iload_n C 37 2 rfl rfl dX10_sheet_36 rfl ?_
            refine k_if_le C 51 40 dX10_sheet_37 (by decide) rfl (fun c37 => ?_) (fun d37 => ?_)
            · skip
              exact absurd c37 (by decide)
            · skip
              refine k_iload_n C 41 3 rfl rfl dX10_sheet_40 rfl ?_
              refine k_if_ge C 51 44 dX10_sheet_41 (by decide) rfl (fun c41 => ?_) (fun d41 => ?_)
              · skip
                have c41 := (nI_leI (by omega) (by omega)).mp (show nI 0 ≤ nI z from c41)
                refine k_iload_n C 52 2 rfl rfl dX10_sheet_51 rfl ?_
                refine k_if_le C 68 55 dX10_sheet_52 (by decide) rfl (fun c52 => ?_) (fun d52 => ?_)
                · skip
                  exact absurd c52 (by decide)
                · skip
                  refine k_iload_n C 56 3 rfl rfl dX10_sheet_55 rfl ?_
                  refine k_bipush C 58 (v := 24) (by decide) dX10_sheet_56 rfl ?_
                  refine k_icmp_le C 68 61 dX10_sheet_58 (by decide) rfl (fun c58 => ?_) (fun d58 => ?_)
                  · skip
                    have c58 := (nI_leI (by omega) (by omega)).mp (show nI z ≤ nI 24 from c58)
                    refine k_aload_n C 69 0 rfl rfl dX10_sheet_68 rfl ?_
                    refine k_get C 72 flX10_22 91 (by decide) (v := .ref (ga g 96)) (ce_91 g _) rfl dX10_sheet_69 rfl ?_
                    refine k_iload_n C 73 1 rfl rfl dX10_sheet_72 rfl ?_
                    refine k_iload_n C 74 2 rfl rfl dX10_sheet_73 rfl ?_
                    refine k_iast C 75 96 s (by decide) (ce_96 g) (by decide) rfl (by omega) dX10_sheet_74 rfl ?_
                    refine k_aload_n C 76 0 rfl rfl dX10_sheet_75 rfl ?_
                    refine k_get C 79 flX10_25 91 (by decide) (v := .ref (ga g 97)) (ce_91 g _) rfl dX10_sheet_76 rfl ?_
                    refine k_iload_n C 80 1 rfl rfl dX10_sheet_79 rfl ?_
                    refine k_iload_n C 81 2 rfl rfl dX10_sheet_80 rfl ?_
                    refine k_if_ne C 88 84 dX10_sheet_81 (by decide) rfl (fun c81 => ?_) (fun d81 => ?_)
                    · skip
                      refine k_iload_n C 89 3 rfl rfl dX10_sheet_88 rfl ?_
                      refine k_iast C 90 97 s (by decide) (ce_97 g) (by decide) rfl (by omega) dX10_sheet_89 rfl ?_
                      refine k_iconst C 91 (v := 0) (by decide) dX10_sheet_90 rfl ?_
                      refine k_istore C 93 [(4, .int 0), (0, .ref (ga g 91)), (1, .int (nI s)), (2, .int 16), (3, .int (nI z))]  (by decide) rfl dX10_sheet_91 rfl ?_
                      refine k_sub [(0, .ref (ga g 91)), (1, .int (nI s)), (4, .int 0)] [1, 2, 0] rfl ?_
                      refine k_all (M' := zM (mu (mu M 96 s 16) 97 s (nI z)) s 0) (lo' := [(0, .ref (ga g 91)), (1, .int (nI s)), (4, .int (nI 0))]) (st' := []) (by rfl) (by rfl) rfl ?_
                      refine k_loop (σ := Nat) (fun (i : Nat) => (i ≤ 24)) (fun (i : Nat) => 24 - i) (fun (i : Nat) => zM (mu (mu M 96 s 16) 97 s (nI z)) s i) (fun (i : Nat) => [(0, .ref (ga g 91)), (1, .int (nI s)), (4, .int (nI i))]) 0 (show (0 ≤ 24) from by exact Nat.zero_le _) ?_
                      rintro i hI ih
                      have hI : (i ≤ 24) := hI
                      have hi := hI
                      show KW pP l eE RR sS mI aG bB mE cD g 5 _ (zM (mu (mu M 96 s 16) 97 s (nI z)) s i) 93 [(0, .ref (ga g 91)), (1, .int (nI s)), (4, .int (nI i))] []
                      refine k_iload C 95 2  rfl dX10_sheet_93 rfl ?_
                      refine k_bipush C 97 (v := 24) (by decide) dX10_sheet_95 rfl ?_
                      refine k_icmp_ge C 119 100 dX10_sheet_97 (by decide) rfl (fun c97 => ?_) (fun d97 => ?_)
                      · skip
                        have c97 := (nI_leI (by omega) (by omega)).mp (show nI 24 ≤ nI i from c97)
                        refine k_iconst C 120 (v := 1) (by decide) dX10_sheet_119 rfl ?_
                        refine k_ret C rfl dX10_sheet_120 ?_
                        have e : i = 24 := by omega
                        subst e
                        exact ⟨rfl, rfl⟩
                      · skip
                        have d97 := mt (nI_leI (by omega) (by omega)).mpr (show ¬ (nI 24 ≤ nI i) from d97)
                        refine k_aload_n C 101 0 rfl rfl dX10_sheet_100 rfl ?_
                        refine k_get C 104 flX10_28 91 (by decide) (v := .ref (ga g 98)) (ce_91 g _) rfl dX10_sheet_101 rfl ?_
                        refine k_bipush C 106 (v := 24) (by decide) dX10_sheet_104 rfl ?_
                        refine k_iload_n C 107 1 rfl rfl dX10_sheet_106 rfl ?_
                        refine k_imul C 108 dX10_sheet_107 rfl ?_
                        refine k_teq (pk_mul 24 s) ?_
                        refine k_iload C 110 2  rfl dX10_sheet_108 rfl ?_
                        refine k_iadd C 111 dX10_sheet_110 rfl ?_
                        refine k_teq (nI_add (24 * s) i) ?_
                        refine k_iconst C 112 (v := 0) (by decide) dX10_sheet_111 rfl ?_
                        refine k_iast C 113 98 ((24 * s) + i) (by decide) (ce_98 g) (by decide) rfl (by omega) dX10_sheet_112 rfl ?_
                        refine k_iinc C 116 (nI (i + 1)) 2 [(4, .int (nI (i + 1))), (0, .ref (ga g 91)), (1, .int (nI s))] rfl (iinc_p i) (by decide) rfl dX10_sheet_113 rfl ?_
                        refine k_goto C 93 dX10_sheet_116 (by decide) ?_
                        refine k_sub [(0, .ref (ga g 91)), (1, .int (nI s)), (4, .int (nI (i + 1)))] [1, 2, 0] rfl ?_
                        refine k_all (M' := zM (mu (mu M 96 s 16) 97 s (nI z)) s (i + 1)) (lo' := [(0, .ref (ga g 91)), (1, .int (nI s)), (4, .int (nI (i + 1)))]) (st' := []) (by rfl) (by rfl) rfl ?_
                        exact ih (i + 1) (show ((i + 1) ≤ 24) from by omega) (by show 24 - (i + 1) < _; omega)
                    · skip
                      exact absurd d81 (by decide)
                  · skip
                    have d58 := mt (nI_leI (by omega) (by omega)).mpr (show ¬ (nI z ≤ nI 24) from d58)
                    exact absurd d58 (by omega)
              · skip
                have d41 := mt (nI_leI (by omega) (by omega)).mpr (show ¬ (nI 0 ≤ nI z) from d41)
                exact absurd d41 (by omega)
          · skip
            exact absurd d20 (by decide)
  · skip
    refine k_iload_n C 1 1 rfl rfl dX10_sheet_0 rfl ?_
    refine k_callSE C 4 (As := [.int (nI s)]) (st := []) mwX10_268 skX10_isSheet (qX10_isSheet l g M (nI s)) mlX10_isSheet (by decide) (by decide) rfl rfl (Nat.le_of_ble_eq_true rfl) dX10_sheet_1 rfl ?_
    refine k_if_eqB C 29 7 dX10_sheet_4 (by decide) rfl (fun c4 => ?_) (fun d4 => ?_)
    · skip
      exact (bz c4 (rg_lt (b := 4) hs (by decide))).elim
    · skip
      refine k_iload_n C 8 2 rfl rfl dX10_sheet_7 rfl ?_
      refine k_if_eq C 36 11 dX10_sheet_8 (by decide) rfl (fun c8 => ?_) (fun d8 => ?_)
      · skip
        exact absurd c8 (by decide)
      · skip
        refine k_iload_n C 12 2 rfl rfl dX10_sheet_11 rfl ?_
        refine k_bipush C 14 (v := 8) (by decide) dX10_sheet_12 rfl ?_
        refine k_icmp_eq C 36 17 dX10_sheet_14 (by decide) rfl (fun c14 => ?_) (fun d14 => ?_)
        · skip
          exact absurd c14 (by decide)
        · skip
          refine k_iload_n C 18 2 rfl rfl dX10_sheet_17 rfl ?_
          refine k_bipush C 20 (v := 16) (by decide) dX10_sheet_18 rfl ?_
          refine k_icmp_eq C 36 23 dX10_sheet_20 (by decide) rfl (fun c20 => ?_) (fun d20 => ?_)
          · skip
            exact absurd c20 (by decide)
          · skip
            refine k_iload_n C 24 2 rfl rfl dX10_sheet_23 rfl ?_
            refine k_bipush C 26 (v := 32) (by decide) dX10_sheet_24 rfl ?_
            refine k_icmp_eq C 36 29 dX10_sheet_26 (by decide) rfl (fun c26 => ?_) (fun d26 => ?_)
            · skip
              refine k_iload_n C 37 2 rfl rfl dX10_sheet_36 rfl ?_
              refine k_if_le C 51 40 dX10_sheet_37 (by decide) rfl (fun c37 => ?_) (fun d37 => ?_)
              · skip
                exact absurd c37 (by decide)
              · skip
                refine k_iload_n C 41 3 rfl rfl dX10_sheet_40 rfl ?_
                refine k_if_ge C 51 44 dX10_sheet_41 (by decide) rfl (fun c41 => ?_) (fun d41 => ?_)
                · skip
                  have c41 := (nI_leI (by omega) (by omega)).mp (show nI 0 ≤ nI z from c41)
                  refine k_iload_n C 52 2 rfl rfl dX10_sheet_51 rfl ?_
                  refine k_if_le C 68 55 dX10_sheet_52 (by decide) rfl (fun c52 => ?_) (fun d52 => ?_)
                  · skip
                    exact absurd c52 (by decide)
                  · skip
                    refine k_iload_n C 56 3 rfl rfl dX10_sheet_55 rfl ?_
                    refine k_bipush C 58 (v := 24) (by decide) dX10_sheet_56 rfl ?_
                    refine k_icmp_le C 68 61 dX10_sheet_58 (by decide) rfl (fun c58 => ?_) (fun d58 => ?_)
                    · skip
                      have c58 := (nI_leI (by omega) (by omega)).mp (show nI z ≤ nI 24 from c58)
                      refine k_aload_n C 69 0 rfl rfl dX10_sheet_68 rfl ?_
                      refine k_get C 72 flX10_22 91 (by decide) (v := .ref (ga g 96)) (ce_91 g _) rfl dX10_sheet_69 rfl ?_
                      refine k_iload_n C 73 1 rfl rfl dX10_sheet_72 rfl ?_
                      refine k_iload_n C 74 2 rfl rfl dX10_sheet_73 rfl ?_
                      refine k_iast C 75 96 s (by decide) (ce_96 g) (by decide) rfl (by omega) dX10_sheet_74 rfl ?_
                      refine k_aload_n C 76 0 rfl rfl dX10_sheet_75 rfl ?_
                      refine k_get C 79 flX10_25 91 (by decide) (v := .ref (ga g 97)) (ce_91 g _) rfl dX10_sheet_76 rfl ?_
                      refine k_iload_n C 80 1 rfl rfl dX10_sheet_79 rfl ?_
                      refine k_iload_n C 81 2 rfl rfl dX10_sheet_80 rfl ?_
                      refine k_if_ne C 88 84 dX10_sheet_81 (by decide) rfl (fun c81 => ?_) (fun d81 => ?_)
                      · skip
                        refine k_iload_n C 89 3 rfl rfl dX10_sheet_88 rfl ?_
                        refine k_iast C 90 97 s (by decide) (ce_97 g) (by decide) rfl (by omega) dX10_sheet_89 rfl ?_
                        refine k_iconst C 91 (v := 0) (by decide) dX10_sheet_90 rfl ?_
                        refine k_istore C 93 [(4, .int 0), (0, .ref (ga g 91)), (1, .int (nI s)), (2, .int 32), (3, .int (nI z))]  (by decide) rfl dX10_sheet_91 rfl ?_
                        refine k_sub [(0, .ref (ga g 91)), (1, .int (nI s)), (4, .int 0)] [1, 2, 0] rfl ?_
                        refine k_all (M' := zM (mu (mu M 96 s 32) 97 s (nI z)) s 0) (lo' := [(0, .ref (ga g 91)), (1, .int (nI s)), (4, .int (nI 0))]) (st' := []) (by rfl) (by rfl) rfl ?_
                        refine k_loop (σ := Nat) (fun (i : Nat) => (i ≤ 24)) (fun (i : Nat) => 24 - i) (fun (i : Nat) => zM (mu (mu M 96 s 32) 97 s (nI z)) s i) (fun (i : Nat) => [(0, .ref (ga g 91)), (1, .int (nI s)), (4, .int (nI i))]) 0 (show (0 ≤ 24) from by exact Nat.zero_le _) ?_
                        rintro i hI ih
                        have hI : (i ≤ 24) := hI
                        have hi := hI
                        show KW pP l eE RR sS mI aG bB mE cD g 5 _ (zM (mu (mu M 96 s 32) 97 s (nI z)) s i) 93 [(0, .ref (ga g 91)), (1, .int (nI s)), (4, .int (nI i))] []
                        refine k_iload C 95 2  rfl dX10_sheet_93 rfl ?_
                        refine k_bipush C 97 (v := 24) (by decide) dX10_sheet_95 rfl ?_
                        refine k_icmp_ge C 119 100 dX10_sheet_97 (by decide) rfl (fun c97 => ?_) (fun d97 => ?_)
                        · skip
                          have c97 := (nI_leI (by omega) (by omega)).mp (show nI 24 ≤ nI i from c97)
                          refine k_iconst C 120 (v := 1) (by decide) dX10_sheet_119 rfl ?_
                          refine k_ret C rfl dX10_sheet_120 ?_
                          have e : i = 24 := by omega
                          subst e
                          exact ⟨rfl, rfl⟩
                        · skip
                          have d97 := mt (nI_leI (by omega) (by omega)).mpr (show ¬ (nI 24 ≤ nI i) from d97)
                          refine k_aload_n C 101 0 rfl rfl dX10_sheet_100 rfl ?_
                          refine k_get C 104 flX10_28 91 (by decide) (v := .ref (ga g 98)) (ce_91 g _) rfl dX10_sheet_101 rfl ?_
                          refine k_bipush C 106 (v := 24) (by decide) dX10_sheet_104 rfl ?_
                          refine k_iload_n C 107 1 rfl rfl dX10_sheet_106 rfl ?_
                          refine k_imul C 108 dX10_sheet_107 rfl ?_
                          refine k_teq (pk_mul 24 s) ?_
                          refine k_iload C 110 2  rfl dX10_sheet_108 rfl ?_
                          refine k_iadd C 111 dX10_sheet_110 rfl ?_
                          refine k_teq (nI_add (24 * s) i) ?_
                          refine k_iconst C 112 (v := 0) (by decide) dX10_sheet_111 rfl ?_
                          refine k_iast C 113 98 ((24 * s) + i) (by decide) (ce_98 g) (by decide) rfl (by omega) dX10_sheet_112 rfl ?_
                          refine k_iinc C 116 (nI (i + 1)) 2 [(4, .int (nI (i + 1))), (0, .ref (ga g 91)), (1, .int (nI s))] rfl (iinc_p i) (by decide) rfl dX10_sheet_113 rfl ?_
                          refine k_goto C 93 dX10_sheet_116 (by decide) ?_
                          refine k_sub [(0, .ref (ga g 91)), (1, .int (nI s)), (4, .int (nI (i + 1)))] [1, 2, 0] rfl ?_
                          refine k_all (M' := zM (mu (mu M 96 s 32) 97 s (nI z)) s (i + 1)) (lo' := [(0, .ref (ga g 91)), (1, .int (nI s)), (4, .int (nI (i + 1)))]) (st' := []) (by rfl) (by rfl) rfl ?_
                          exact ih (i + 1) (show ((i + 1) ≤ 24) from by omega) (by show 24 - (i + 1) < _; omega)
                      · skip
                        exact absurd d81 (by decide)
                    · skip
                      have d58 := mt (nI_leI (by omega) (by omega)).mpr (show ¬ (nI z ≤ nI 24) from d58)
                      exact absurd d58 (by omega)
                · skip
                  have d41 := mt (nI_leI (by omega) (by omega)).mpr (show ¬ (nI 0 ≤ nI z) from d41)
                  exact absurd d41 (by omega)
            · skip
              exact absurd d26 (by decide)
set_option maxHeartbeats 4000000 in
set_option maxRecDepth 20000 in
theorem qX10_sheet_0 (l : Launch) (g : GT) (M : Mem) {s : Nat} (hs : s < 4) (z : Int32) : CtrE l g yX10_sheet cX10_sheet 5 (some .int) 2 [.ref (ga g 91), .int (nI s), .int 0, .int z] M 1 (zM (mu (mu M 96 s (0)) 97 s (0)) s 24) := by
  refine ctrI_of (by decide +kernel) (Nat.le_of_ble_eq_true rfl) ?_
  intro pP eE RR sS mI aG bB mE cD C
  refine k_lo (lo' := [(0, .ref (ga g 91)), (1, .int (nI s)), (2, .int 0), (3, .int z)]) rfl ?_
  refine k_iload_n C 1 1 rfl rfl dX10_sheet_0 rfl ?_
  refine k_callSE C 4 (As := [.int (nI s)]) (st := []) mwX10_268 skX10_isSheet (qX10_isSheet l g M (nI s)) mlX10_isSheet (by decide) (by decide) rfl rfl (Nat.le_of_ble_eq_true rfl) dX10_sheet_1 rfl ?_
  refine k_if_eqB C 29 7 dX10_sheet_4 (by decide) rfl (fun c4 => ?_) (fun d4 => ?_)
  · skip
    exact (bz c4 (rg_lt (b := 4) hs (by decide))).elim
  · skip
    refine k_iload_n C 8 2 rfl rfl dX10_sheet_7 rfl ?_
    refine k_if_eq C 36 11 dX10_sheet_8 (by decide) rfl (fun c8 => ?_) (fun d8 => ?_)
    · skip
      refine k_iload_n C 37 2 rfl rfl dX10_sheet_36 rfl ?_
      refine k_if_le C 51 40 dX10_sheet_37 (by decide) rfl (fun c37 => ?_) (fun d37 => ?_)
      · skip
        refine k_iload_n C 52 2 rfl rfl dX10_sheet_51 rfl ?_
        refine k_if_le C 68 55 dX10_sheet_52 (by decide) rfl (fun c52 => ?_) (fun d52 => ?_)
        · skip
          refine k_aload_n C 69 0 rfl rfl dX10_sheet_68 rfl ?_
          refine k_get C 72 flX10_22 91 (by decide) (v := .ref (ga g 96)) (ce_91 g _) rfl dX10_sheet_69 rfl ?_
          refine k_iload_n C 73 1 rfl rfl dX10_sheet_72 rfl ?_
          refine k_iload_n C 74 2 rfl rfl dX10_sheet_73 rfl ?_
          refine k_iast C 75 96 s (by decide) (ce_96 g) (by decide) rfl (by omega) dX10_sheet_74 rfl ?_
          refine k_aload_n C 76 0 rfl rfl dX10_sheet_75 rfl ?_
          refine k_get C 79 flX10_25 91 (by decide) (v := .ref (ga g 97)) (ce_91 g _) rfl dX10_sheet_76 rfl ?_
          refine k_iload_n C 80 1 rfl rfl dX10_sheet_79 rfl ?_
          refine k_iload_n C 81 2 rfl rfl dX10_sheet_80 rfl ?_
          refine k_if_ne C 88 84 dX10_sheet_81 (by decide) rfl (fun c81 => ?_) (fun d81 => ?_)
          · skip
            exact absurd c81 (by decide)
          · skip
            refine k_iconst C 85 (v := 0) (by decide) dX10_sheet_84 rfl ?_
            refine k_goto C 89 dX10_sheet_85 (by decide) ?_
            refine k_iast C 90 97 s (by decide) (ce_97 g) (by decide) rfl (by omega) dX10_sheet_89 rfl ?_
            refine k_iconst C 91 (v := 0) (by decide) dX10_sheet_90 rfl ?_
            refine k_istore C 93 [(4, .int 0), (0, .ref (ga g 91)), (1, .int (nI s)), (2, .int 0), (3, .int z)]  (by decide) rfl dX10_sheet_91 rfl ?_
            refine k_sub [(0, .ref (ga g 91)), (1, .int (nI s)), (4, .int 0)] [1, 2, 0] rfl ?_
            refine k_all (M' := zM (mu (mu M 96 s 0) 97 s 0) s 0) (lo' := [(0, .ref (ga g 91)), (1, .int (nI s)), (4, .int (nI 0))]) (st' := []) (by rfl) (by rfl) rfl ?_
            refine k_loop (σ := Nat) (fun (i : Nat) => (i ≤ 24)) (fun (i : Nat) => 24 - i) (fun (i : Nat) => zM (mu (mu M 96 s 0) 97 s 0) s i) (fun (i : Nat) => [(0, .ref (ga g 91)), (1, .int (nI s)), (4, .int (nI i))]) 0 (show (0 ≤ 24) from by exact Nat.zero_le _) ?_
            rintro i hI ih
            have hI : (i ≤ 24) := hI
            have hi := hI
            show KW pP l eE RR sS mI aG bB mE cD g 5 _ (zM (mu (mu M 96 s 0) 97 s 0) s i) 93 [(0, .ref (ga g 91)), (1, .int (nI s)), (4, .int (nI i))] []
            refine k_iload C 95 2  rfl dX10_sheet_93 rfl ?_
            refine k_bipush C 97 (v := 24) (by decide) dX10_sheet_95 rfl ?_
            refine k_icmp_ge C 119 100 dX10_sheet_97 (by decide) rfl (fun c97 => ?_) (fun d97 => ?_)
            · skip
              have c97 := (nI_leI (by omega) (by omega)).mp (show nI 24 ≤ nI i from c97)
              refine k_iconst C 120 (v := 1) (by decide) dX10_sheet_119 rfl ?_
              refine k_ret C rfl dX10_sheet_120 ?_
              have e : i = 24 := by omega
              subst e
              exact ⟨rfl, rfl⟩
            · skip
              have d97 := mt (nI_leI (by omega) (by omega)).mpr (show ¬ (nI 24 ≤ nI i) from d97)
              refine k_aload_n C 101 0 rfl rfl dX10_sheet_100 rfl ?_
              refine k_get C 104 flX10_28 91 (by decide) (v := .ref (ga g 98)) (ce_91 g _) rfl dX10_sheet_101 rfl ?_
              refine k_bipush C 106 (v := 24) (by decide) dX10_sheet_104 rfl ?_
              refine k_iload_n C 107 1 rfl rfl dX10_sheet_106 rfl ?_
              refine k_imul C 108 dX10_sheet_107 rfl ?_
              refine k_teq (pk_mul 24 s) ?_
              refine k_iload C 110 2  rfl dX10_sheet_108 rfl ?_
              refine k_iadd C 111 dX10_sheet_110 rfl ?_
              refine k_teq (nI_add (24 * s) i) ?_
              refine k_iconst C 112 (v := 0) (by decide) dX10_sheet_111 rfl ?_
              refine k_iast C 113 98 ((24 * s) + i) (by decide) (ce_98 g) (by decide) rfl (by omega) dX10_sheet_112 rfl ?_
              refine k_iinc C 116 (nI (i + 1)) 2 [(4, .int (nI (i + 1))), (0, .ref (ga g 91)), (1, .int (nI s))] rfl (iinc_p i) (by decide) rfl dX10_sheet_113 rfl ?_
              refine k_goto C 93 dX10_sheet_116 (by decide) ?_
              refine k_sub [(0, .ref (ga g 91)), (1, .int (nI s)), (4, .int (nI (i + 1)))] [1, 2, 0] rfl ?_
              refine k_all (M' := zM (mu (mu M 96 s 0) 97 s 0) s (i + 1)) (lo' := [(0, .ref (ga g 91)), (1, .int (nI s)), (4, .int (nI (i + 1)))]) (st' := []) (by rfl) (by rfl) rfl ?_
              exact ih (i + 1) (show ((i + 1) ≤ 24) from by omega) (by show 24 - (i + 1) < _; omega)
        · skip
          exact absurd d52 (by decide)
      · skip
        exact absurd d37 (by decide)
    · skip
      exact absurd d8 (by decide)
set_option maxHeartbeats 4000000 in
set_option maxRecDepth 20000 in
theorem qX10_put_f (l : Launch) (g : GT) (M : Mem) (s : Int32) (p x : Int32) (hf : (decide (0 ≤ s) && decide (s < 4)) = false) : CtrE l g yX10_put cX10_put 5 (some .int) 3 [.ref (ga g 91), .int s, .int p, .int x] M (-1000000001) (mu M 95 1 (M 95 1 + 1)) := by
  refine ctrI_of (by decide +kernel) (Nat.le_of_ble_eq_true rfl) ?_
  intro pP eE RR sS mI aG bB mE cD C
  refine k_lo (lo' := [(0, .ref (ga g 91)), (1, .int s), (2, .int p), (3, .int x)]) rfl ?_
  refine k_aload_n C 1 0 rfl rfl dX10_put_0 rfl ?_
  refine k_iload_n C 2 1 rfl rfl dX10_put_1 rfl ?_
  refine k_callVE C 5 (As := [.int s]) (st := []) 91 (by decide) (ce_91 g _) rfl rfl mwX10_221 vlX10_notThere (qX10_notThere_f l g M s hf) mlX10_notThere (by decide) (by decide) rfl rfl (Nat.le_of_ble_eq_true rfl) dX10_put_2 rfl ?_
  refine k_istore C 7 [(4, .int (-1000000001)), (0, .ref (ga g 91)), (1, .int s), (2, .int p), (3, .int x)]  (by decide) rfl dX10_put_5 rfl ?_
  refine k_iload C 9 0  rfl dX10_put_7 rfl ?_
  refine k_if_ne C 33 12 dX10_put_9 (by decide) rfl (fun c9 => ?_) (fun d9 => ?_)
  · skip
    refine k_iload C 35 0  rfl dX10_put_33 rfl ?_
    refine k_istore C 37 [(4, .int (-1000000001)), (0, .ref (ga g 91)), (1, .int s), (2, .int p), (3, .int x)]  (by decide) rfl dX10_put_35 rfl ?_
    refine k_iload C 39 0  rfl dX10_put_37 rfl ?_
    refine k_if_eq C 49 42 dX10_put_39 (by decide) rfl (fun c39 => ?_) (fun d39 => ?_)
    · skip
      exact absurd c39 (by decide)
    · skip
      refine k_aload_n C 43 1 rfl rfl dX10_put_42 rfl ?_
      refine k_iload C 45 0  rfl dX10_put_43 rfl ?_
      refine k_callVE C 48 (As := [.int (-1000000001)]) (st := []) 91 (by decide) (ce_91 g _) rfl rfl mwX10_95 vlX10_error (qX10_error l g M (-1000000001) (k := 1) (by decide) (by decide)) mlX10_error (by decide) (by decide) rfl rfl (Nat.le_of_ble_eq_true rfl) dX10_put_45 rfl ?_
      refine k_ret C rfl dX10_put_48 ?_
      exact ⟨rfl, rfl⟩
  · skip
    exact absurd d9 (by decide)
set_option maxHeartbeats 4000000 in
set_option maxRecDepth 20000 in
theorem qX10_put_0 (l : Launch) (g : GT) (M : Mem) {s : Nat} (hs : s < 4) (p x : Int32) (h : M 96 s = 0) : CtrE l g yX10_put cX10_put 5 (some .int) 3 [.ref (ga g 91), .int (nI s), .int p, .int x] M (-1000000002) (mu M 95 2 (M 95 2 + 1)) := by
  refine ctrI_of (by decide +kernel) (Nat.le_of_ble_eq_true rfl) ?_
  intro pP eE RR sS mI aG bB mE cD C
  refine k_lo (lo' := [(0, .ref (ga g 91)), (1, .int (nI s)), (2, .int p), (3, .int x)]) rfl ?_
  refine k_aload_n C 1 0 rfl rfl dX10_put_0 rfl ?_
  refine k_iload_n C 2 1 rfl rfl dX10_put_1 rfl ?_
  refine k_callVE C 5 (As := [.int (nI s)]) (st := []) 91 (by decide) (ce_91 g _) rfl rfl mwX10_221 vlX10_notThere (qX10_notThere_0 l g M (s := s) hs h) mlX10_notThere (by decide) (by decide) rfl rfl (Nat.le_of_ble_eq_true rfl) dX10_put_2 rfl ?_
  refine k_istore C 7 [(4, .int (-1000000002)), (0, .ref (ga g 91)), (1, .int (nI s)), (2, .int p), (3, .int x)]  (by decide) rfl dX10_put_5 rfl ?_
  refine k_iload C 9 0  rfl dX10_put_7 rfl ?_
  refine k_if_ne C 33 12 dX10_put_9 (by decide) rfl (fun c9 => ?_) (fun d9 => ?_)
  · skip
    refine k_iload C 35 0  rfl dX10_put_33 rfl ?_
    refine k_istore C 37 [(4, .int (-1000000002)), (0, .ref (ga g 91)), (1, .int (nI s)), (2, .int p), (3, .int x)]  (by decide) rfl dX10_put_35 rfl ?_
    refine k_iload C 39 0  rfl dX10_put_37 rfl ?_
    refine k_if_eq C 49 42 dX10_put_39 (by decide) rfl (fun c39 => ?_) (fun d39 => ?_)
    · skip
      exact absurd c39 (by decide)
    · skip
      refine k_aload_n C 43 1 rfl rfl dX10_put_42 rfl ?_
      refine k_iload C 45 0  rfl dX10_put_43 rfl ?_
      refine k_callVE C 48 (As := [.int (-1000000002)]) (st := []) 91 (by decide) (ce_91 g _) rfl rfl mwX10_95 vlX10_error (qX10_error l g M (-1000000002) (k := 2) (by decide) (by decide)) mlX10_error (by decide) (by decide) rfl rfl (Nat.le_of_ble_eq_true rfl) dX10_put_45 rfl ?_
      refine k_ret C rfl dX10_put_48 ?_
      exact ⟨rfl, rfl⟩
  · skip
    exact absurd d9 (by decide)
set_option maxHeartbeats 4000000 in
set_option maxRecDepth 20000 in
theorem qX10_put_i (l : Launch) (g : GT) (M : Mem) {s : Nat} (hs : s < 4) (p x : Int32) (h : ¬ M 96 s = 0) {z : Nat} (hz : M 97 s = nI z) (h24 : z ≤ 24) (hf : pIsF z p = false) : CtrE l g yX10_put cX10_put 5 (some .int) 3 [.ref (ga g 91), .int (nI s), .int p, .int x] M (-1000000001) (mu M 95 1 (M 95 1 + 1)) := by
  refine ctrI_of (by decide +kernel) (Nat.le_of_ble_eq_true rfl) ?_
  intro pP eE RR sS mI aG bB mE cD C
  refine k_lo (lo' := [(0, .ref (ga g 91)), (1, .int (nI s)), (2, .int p), (3, .int x)]) rfl ?_
  refine k_aload_n C 1 0 rfl rfl dX10_put_0 rfl ?_
  refine k_iload_n C 2 1 rfl rfl dX10_put_1 rfl ?_
  refine k_callVE C 5 (As := [.int (nI s)]) (st := []) 91 (by decide) (ce_91 g _) rfl rfl mwX10_221 vlX10_notThere (qX10_notThere_t l g M (s := s) hs h) mlX10_notThere (by decide) (by decide) rfl rfl (Nat.le_of_ble_eq_true rfl) dX10_put_2 rfl ?_
  refine k_istore C 7 [(4, .int 0), (0, .ref (ga g 91)), (1, .int (nI s)), (2, .int p), (3, .int x)]  (by decide) rfl dX10_put_5 rfl ?_
  refine k_iload C 9 0  rfl dX10_put_7 rfl ?_
  refine k_if_ne C 33 12 dX10_put_9 (by decide) rfl (fun c9 => ?_) (fun d9 => ?_)
  · skip
    exact absurd c9 (by decide)
  · skip
    refine k_iload_n C 13 3 rfl rfl dX10_put_12 rfl ?_
    refine k_iconst C 14 (v := 0) (by decide) dX10_put_13 rfl ?_
    refine k_aload_n C 15 1 rfl rfl dX10_put_14 rfl ?_
    refine k_get C 18 flX10_25 91 (by decide) (v := .ref (ga g 97)) (ce_91 g _) rfl dX10_put_15 rfl ?_
    refine k_iload_n C 19 2 rfl rfl dX10_put_18 rfl ?_
    refine k_iald C 20 97 s (by decide) (ce_97 g) (by decide) rfl (by omega) dX10_put_19 rfl ?_
    refine k_teq (y := nI z) hz ?_
    refine k_iconst C 21 (v := 1) (by decide) dX10_put_20 rfl ?_
    refine k_isub C 22 dX10_put_21 rfl ?_
    refine k_callSE C 25 (As := [.int p, .int 0, .int ((nI z) - 1)]) (st := []) mwX10_54 skX10_in (qX10_in l g M p 0 ((nI z) - 1)) mlX10_in (by decide) (by decide) rfl rfl (Nat.le_of_ble_eq_true rfl) dX10_put_22 rfl ?_
    refine k_if_neB C 33 28 dX10_put_25 (by decide) rfl (fun c25 => ?_) (fun d25 => ?_)
    · skip
      exact (bz hf (by rw [← pIsF_g (n := z) (by omega)]; exact c25)).elim
    · skip
      refine k_ldc C 30 cwX10_94 dX10_put_28 rfl ?_
      refine k_goto C 35 dX10_put_30 (by decide) ?_
      refine k_istore C 37 [(4, .int (-1000000001)), (0, .ref (ga g 91)), (1, .int (nI s)), (2, .int p), (3, .int x)]  (by decide) rfl dX10_put_35 rfl ?_
      refine k_iload C 39 0  rfl dX10_put_37 rfl ?_
      refine k_if_eq C 49 42 dX10_put_39 (by decide) rfl (fun c39 => ?_) (fun d39 => ?_)
      · skip
        exact absurd c39 (by decide)
      · skip
        refine k_aload_n C 43 1 rfl rfl dX10_put_42 rfl ?_
        refine k_iload C 45 0  rfl dX10_put_43 rfl ?_
        refine k_callVE C 48 (As := [.int (-1000000001)]) (st := []) 91 (by decide) (ce_91 g _) rfl rfl mwX10_95 vlX10_error (qX10_error l g M (-1000000001) (k := 1) (by decide) (by decide)) mlX10_error (by decide) (by decide) rfl rfl (Nat.le_of_ble_eq_true rfl) dX10_put_45 rfl ?_
        refine k_ret C rfl dX10_put_48 ?_
        exact ⟨rfl, rfl⟩
set_option maxHeartbeats 4000000 in
set_option maxRecDepth 20000 in
theorem qX10_put_t (l : Launch) (g : GT) (M : Mem) {s : Nat} (hs : s < 4) {p : Nat} (x : Int32) (h : ¬ M 96 s = 0) {z : Nat} (hz : M 97 s = nI z) (h24 : z ≤ 24) (hp : p < z) : CtrE l g yX10_put cX10_put 5 (some .int) 3 [.ref (ga g 91), .int (nI s), .int (nI p), .int x] M 1 (mu M 98 (24 * s + p) (nrw (M 96 s) x)) := by
  refine ctrI_of (by decide +kernel) (Nat.le_of_ble_eq_true rfl) ?_
  intro pP eE RR sS mI aG bB mE cD C
  refine k_lo (lo' := [(0, .ref (ga g 91)), (1, .int (nI s)), (2, .int (nI p)), (3, .int x)]) rfl ?_
  refine k_aload_n C 1 0 rfl rfl dX10_put_0 rfl ?_
  refine k_iload_n C 2 1 rfl rfl dX10_put_1 rfl ?_
  refine k_callVE C 5 (As := [.int (nI s)]) (st := []) 91 (by decide) (ce_91 g _) rfl rfl mwX10_221 vlX10_notThere (qX10_notThere_t l g M (s := s) hs h) mlX10_notThere (by decide) (by decide) rfl rfl (Nat.le_of_ble_eq_true rfl) dX10_put_2 rfl ?_
  refine k_istore C 7 [(4, .int 0), (0, .ref (ga g 91)), (1, .int (nI s)), (2, .int (nI p)), (3, .int x)]  (by decide) rfl dX10_put_5 rfl ?_
  refine k_iload C 9 0  rfl dX10_put_7 rfl ?_
  refine k_if_ne C 33 12 dX10_put_9 (by decide) rfl (fun c9 => ?_) (fun d9 => ?_)
  · skip
    exact absurd c9 (by decide)
  · skip
    refine k_iload_n C 13 3 rfl rfl dX10_put_12 rfl ?_
    refine k_iconst C 14 (v := 0) (by decide) dX10_put_13 rfl ?_
    refine k_aload_n C 15 1 rfl rfl dX10_put_14 rfl ?_
    refine k_get C 18 flX10_25 91 (by decide) (v := .ref (ga g 97)) (ce_91 g _) rfl dX10_put_15 rfl ?_
    refine k_iload_n C 19 2 rfl rfl dX10_put_18 rfl ?_
    refine k_iald C 20 97 s (by decide) (ce_97 g) (by decide) rfl (by omega) dX10_put_19 rfl ?_
    refine k_teq (y := nI z) hz ?_
    refine k_iconst C 21 (v := 1) (by decide) dX10_put_20 rfl ?_
    refine k_isub C 22 dX10_put_21 rfl ?_
    refine k_callSE C 25 (As := [.int (nI p), .int 0, .int ((nI z) - 1)]) (st := []) mwX10_54 skX10_in (qX10_in l g M (nI p) 0 ((nI z) - 1)) mlX10_in (by decide) (by decide) rfl rfl (Nat.le_of_ble_eq_true rfl) dX10_put_22 rfl ?_
    refine k_if_neB C 33 28 dX10_put_25 (by decide) rfl (fun c25 => ?_) (fun d25 => ?_)
    · skip
      refine k_iload C 35 0  rfl dX10_put_33 rfl ?_
      refine k_istore C 37 [(4, .int 0), (0, .ref (ga g 91)), (1, .int (nI s)), (2, .int (nI p)), (3, .int x)]  (by decide) rfl dX10_put_35 rfl ?_
      refine k_iload C 39 0  rfl dX10_put_37 rfl ?_
      refine k_if_eq C 49 42 dX10_put_39 (by decide) rfl (fun c39 => ?_) (fun d39 => ?_)
      · skip
        refine k_aload_n C 50 1 rfl rfl dX10_put_49 rfl ?_
        refine k_get C 53 flX10_28 91 (by decide) (v := .ref (ga g 98)) (ce_91 g _) rfl dX10_put_50 rfl ?_
        refine k_bipush C 55 (v := 24) (by decide) dX10_put_53 rfl ?_
        refine k_iload_n C 56 2 rfl rfl dX10_put_55 rfl ?_
        refine k_imul C 57 dX10_put_56 rfl ?_
        refine k_teq (pk_mul 24 s) ?_
        refine k_iload_n C 58 3 rfl rfl dX10_put_57 rfl ?_
        refine k_iadd C 59 dX10_put_58 rfl ?_
        refine k_teq (nI_add (24 * s) p) ?_
        refine k_aload_n C 60 1 rfl rfl dX10_put_59 rfl ?_
        refine k_get C 63 flX10_22 91 (by decide) (v := .ref (ga g 96)) (ce_91 g _) rfl dX10_put_60 rfl ?_
        refine k_iload_n C 64 2 rfl rfl dX10_put_63 rfl ?_
        refine k_iald C 65 96 s (by decide) (ce_96 g) (by decide) rfl (by omega) dX10_put_64 rfl ?_
        refine k_bipush C 67 (v := 8) (by decide) dX10_put_65 rfl ?_
        refine k_icmp_ne C 75 70 dX10_put_67 (by decide) rfl (fun c67 => ?_) (fun d67 => ?_)
        · skip
          refine k_aload_n C 76 1 rfl rfl dX10_put_75 rfl ?_
          refine k_get C 79 flX10_22 91 (by decide) (v := .ref (ga g 96)) (ce_91 g _) rfl dX10_put_76 rfl ?_
          refine k_iload_n C 80 2 rfl rfl dX10_put_79 rfl ?_
          refine k_iald C 81 96 s (by decide) (ce_96 g) (by decide) rfl (by omega) dX10_put_80 rfl ?_
          refine k_bipush C 83 (v := 16) (by decide) dX10_put_81 rfl ?_
          refine k_icmp_ne C 91 86 dX10_put_83 (by decide) rfl (fun c83 => ?_) (fun d83 => ?_)
          · skip
            refine k_iload_n C 92 4 rfl rfl dX10_put_91 rfl ?_
            refine k_iast C 93 98 ((24 * s) + p) (by decide) (ce_98 g) (by decide) rfl (by omega) dX10_put_92 rfl ?_
            refine k_iconst C 94 (v := 1) (by decide) dX10_put_93 rfl ?_
            refine k_ret C rfl dX10_put_94 ?_
            exact ⟨rfl, by unfold nrw; rw [if_neg c67, if_neg c83]⟩
          · skip
            refine k_iload_n C 87 4 rfl rfl dX10_put_86 rfl ?_
            refine k_i2s C 88 dX10_put_87 rfl ?_
            refine k_goto C 92 dX10_put_88 (by decide) ?_
            refine k_iast C 93 98 ((24 * s) + p) (by decide) (ce_98 g) (by decide) rfl (by omega) dX10_put_92 rfl ?_
            refine k_iconst C 94 (v := 1) (by decide) dX10_put_93 rfl ?_
            refine k_ret C rfl dX10_put_94 ?_
            exact ⟨rfl, by unfold nrw; rw [if_neg c67, if_pos d83]⟩
        · skip
          refine k_iload_n C 71 4 rfl rfl dX10_put_70 rfl ?_
          refine k_i2b C 72 dX10_put_71 rfl ?_
          refine k_goto C 92 dX10_put_72 (by decide) ?_
          refine k_iast C 93 98 ((24 * s) + p) (by decide) (ce_98 g) (by decide) rfl (by omega) dX10_put_92 rfl ?_
          refine k_iconst C 94 (v := 1) (by decide) dX10_put_93 rfl ?_
          refine k_ret C rfl dX10_put_94 ?_
          exact ⟨rfl, by unfold nrw; rw [if_pos d67]⟩
      · skip
        exact absurd d39 (by decide)
    · skip
      exact (bz d25 (by rw [pIsF_g (n := z) (by omega)]; exact pIsF_lt2 (by omega) hp)).elim
set_option maxHeartbeats 4000000 in
set_option maxRecDepth 20000 in
theorem qX10_lines_f (l : Launch) (g : GT) (M : Mem) (s : Int32) (hf : (decide (0 ≤ s) && decide (s < 4)) = false) : CtrE l g yX10_lines cX10_lines 4 (some .int) 3 [.ref (ga g 91), .int s] M (-1000000001) (mu M 95 1 (M 95 1 + 1)) := by
  refine ctrI_of (by decide +kernel) (Nat.le_of_ble_eq_true rfl) ?_
  intro pP eE RR sS mI aG bB mE cD C
  refine k_lo (lo' := [(0, .ref (ga g 91)), (1, .int s)]) rfl ?_
  refine k_aload_n C 1 0 rfl rfl dX10_lines_0 rfl ?_
  refine k_iload_n C 2 1 rfl rfl dX10_lines_1 rfl ?_
  refine k_callVE C 5 (As := [.int s]) (st := []) 91 (by decide) (ce_91 g _) rfl rfl mwX10_221 vlX10_notThere (qX10_notThere_f l g M s hf) mlX10_notThere (by decide) (by decide) rfl rfl (Nat.le_of_ble_eq_true rfl) dX10_lines_2 rfl ?_
  refine k_istore_n C 6 [(2, .int (-1000000001)), (0, .ref (ga g 91)), (1, .int s)] rfl (by decide) rfl dX10_lines_5 rfl ?_
  refine k_iload_n C 7 0 rfl rfl dX10_lines_6 rfl ?_
  refine k_if_eq C 16 10 dX10_lines_7 (by decide) rfl (fun c7 => ?_) (fun d7 => ?_)
  · skip
    exact absurd c7 (by decide)
  · skip
    refine k_aload_n C 11 1 rfl rfl dX10_lines_10 rfl ?_
    refine k_iload_n C 12 0 rfl rfl dX10_lines_11 rfl ?_
    refine k_callVE C 15 (As := [.int (-1000000001)]) (st := []) 91 (by decide) (ce_91 g _) rfl rfl mwX10_95 vlX10_error (qX10_error l g M (-1000000001) (k := 1) (by decide) (by decide)) mlX10_error (by decide) (by decide) rfl rfl (Nat.le_of_ble_eq_true rfl) dX10_lines_12 rfl ?_
    refine k_ret C rfl dX10_lines_15 ?_
    exact ⟨rfl, rfl⟩
set_option maxHeartbeats 4000000 in
set_option maxRecDepth 20000 in
theorem qX10_lines_0 (l : Launch) (g : GT) (M : Mem) {s : Nat} (hs : s < 4) (h : M 96 s = 0) : CtrE l g yX10_lines cX10_lines 4 (some .int) 3 [.ref (ga g 91), .int (nI s)] M (-1000000002) (mu M 95 2 (M 95 2 + 1)) := by
  refine ctrI_of (by decide +kernel) (Nat.le_of_ble_eq_true rfl) ?_
  intro pP eE RR sS mI aG bB mE cD C
  refine k_lo (lo' := [(0, .ref (ga g 91)), (1, .int (nI s))]) rfl ?_
  refine k_aload_n C 1 0 rfl rfl dX10_lines_0 rfl ?_
  refine k_iload_n C 2 1 rfl rfl dX10_lines_1 rfl ?_
  refine k_callVE C 5 (As := [.int (nI s)]) (st := []) 91 (by decide) (ce_91 g _) rfl rfl mwX10_221 vlX10_notThere (qX10_notThere_0 l g M (s := s) hs h) mlX10_notThere (by decide) (by decide) rfl rfl (Nat.le_of_ble_eq_true rfl) dX10_lines_2 rfl ?_
  refine k_istore_n C 6 [(2, .int (-1000000002)), (0, .ref (ga g 91)), (1, .int (nI s))] rfl (by decide) rfl dX10_lines_5 rfl ?_
  refine k_iload_n C 7 0 rfl rfl dX10_lines_6 rfl ?_
  refine k_if_eq C 16 10 dX10_lines_7 (by decide) rfl (fun c7 => ?_) (fun d7 => ?_)
  · skip
    exact absurd c7 (by decide)
  · skip
    refine k_aload_n C 11 1 rfl rfl dX10_lines_10 rfl ?_
    refine k_iload_n C 12 0 rfl rfl dX10_lines_11 rfl ?_
    refine k_callVE C 15 (As := [.int (-1000000002)]) (st := []) 91 (by decide) (ce_91 g _) rfl rfl mwX10_95 vlX10_error (qX10_error l g M (-1000000002) (k := 2) (by decide) (by decide)) mlX10_error (by decide) (by decide) rfl rfl (Nat.le_of_ble_eq_true rfl) dX10_lines_12 rfl ?_
    refine k_ret C rfl dX10_lines_15 ?_
    exact ⟨rfl, rfl⟩
set_option maxHeartbeats 4000000 in
set_option maxRecDepth 20000 in
theorem qX10_lines_t (l : Launch) (g : GT) (M : Mem) {n : Nat} (hn : M 92 2 = nI n) (h12 : n ≤ 12) {s : Nat} (hs : s < 4) (h : ¬ M 96 s = 0) {z : Nat} (hz : M 97 s = nI z) (h24 : z ≤ 24) : CtrE l g yX10_lines cX10_lines 4 (some .int) 3 [.ref (ga g 91), .int (nI s)] M (nI (lnK (fun k => M 98 (24 * s + k)) (min z n) 0)) (lnM M (fun k => M 98 (24 * s + k)) (lnK (fun k => M 98 (24 * s + k)) (min z n) 0)) := by
  refine ctrI_of (by decide +kernel) (Nat.le_of_ble_eq_true rfl) ?_
  intro pP eE RR sS mI aG bB mE cD C
  refine k_lo (lo' := [(0, .ref (ga g 91)), (1, .int (nI s))]) rfl ?_
  refine k_aload_n C 1 0 rfl rfl dX10_lines_0 rfl ?_
  refine k_iload_n C 2 1 rfl rfl dX10_lines_1 rfl ?_
  refine k_callVE C 5 (As := [.int (nI s)]) (st := []) 91 (by decide) (ce_91 g _) rfl rfl mwX10_221 vlX10_notThere (qX10_notThere_t l g M (s := s) hs h) mlX10_notThere (by decide) (by decide) rfl rfl (Nat.le_of_ble_eq_true rfl) dX10_lines_2 rfl ?_
  refine k_istore_n C 6 [(2, .int 0), (0, .ref (ga g 91)), (1, .int (nI s))] rfl (by decide) rfl dX10_lines_5 rfl ?_
  refine k_iload_n C 7 0 rfl rfl dX10_lines_6 rfl ?_
  refine k_if_eq C 16 10 dX10_lines_7 (by decide) rfl (fun c7 => ?_) (fun d7 => ?_)
  · skip
    refine k_iconst C 17 (v := 0) (by decide) dX10_lines_16 rfl ?_
    refine k_istore_n C 18 [(3, .int 0), (2, .int 0), (0, .ref (ga g 91)), (1, .int (nI s))] rfl (by decide) rfl dX10_lines_17 rfl ?_
    refine k_sub [(0, .ref (ga g 91)), (1, .int (nI s)), (3, .int 0)] [2, 3, 0] rfl ?_
    refine k_all (M' := lnM M (fun k => M 98 (24 * s + k)) 0) (lo' := [(0, .ref (ga g 91)), (1, .int (nI s)), (3, .int (nI 0))]) (st' := []) (by rfl) (by rfl) rfl ?_
    refine k_loop (σ := Nat) (fun (i : Nat) => (i ≤ min z n) ∧ (lnK (fun k => M 98 (24 * s + k)) (min z n) 0 = lnK (fun k => M 98 (24 * s + k)) (min z n - i) i)) (fun (i : Nat) => min z n - i) (fun (i : Nat) => lnM M (fun k => M 98 (24 * s + k)) i) (fun (i : Nat) => [(0, .ref (ga g 91)), (1, .int (nI s)), (3, .int (nI i))]) 0 (show (0 ≤ min z n) ∧ (lnK (fun k => M 98 (24 * s + k)) (min z n) 0 = lnK (fun k => M 98 (24 * s + k)) (min z n - 0) 0) from by exact ⟨Nat.zero_le _, rfl⟩) ?_
    rintro i hI ih
    have hI : (i ≤ min z n) ∧ (lnK (fun k => M 98 (24 * s + k)) (min z n) 0 = lnK (fun k => M 98 (24 * s + k)) (min z n - i) i) := hI
    obtain ⟨hi, he⟩ := hI
    show KW pP l eE RR sS mI aG bB mE cD g 4 _ (lnM M (fun k => M 98 (24 * s + k)) i) 18 [(0, .ref (ga g 91)), (1, .int (nI s)), (3, .int (nI i))] []
    refine k_iload_n C 19 2 rfl rfl dX10_lines_18 rfl ?_
    refine k_aload_n C 20 0 rfl rfl dX10_lines_19 rfl ?_
    refine k_get C 23 flX10_25 91 (by decide) (v := .ref (ga g 97)) (ce_91 g _) rfl dX10_lines_20 rfl ?_
    refine k_iload_n C 24 1 rfl rfl dX10_lines_23 rfl ?_
    refine k_iald C 25 97 s (by decide) (ce_97 g) (by decide) rfl (by omega) dX10_lines_24 rfl ?_
    refine k_teq (y := nI z) (by rw [lnM_o _ _ (by decide)]; exact hz) ?_
    refine k_icmp_ge C 101 28 dX10_lines_25 (by decide) rfl (fun c25 => ?_) (fun d25 => ?_)
    · skip
      have c25 := (nI_leI (by omega) (by omega)).mp (show nI z ≤ nI i from c25)
      refine k_iload_n C 102 2 rfl rfl dX10_lines_101 rfl ?_
      refine k_ret C rfl dX10_lines_102 ?_
      have e : lnK (fun k => M 98 (24 * s + k)) (min z n) 0 = i := by
        rw [he]
        rw [show min z n - i = 0 by omega]; rfl
      rw [e]; exact ⟨rfl, rfl⟩
    · skip
      have d25 := mt (nI_leI (by omega) (by omega)).mpr (show ¬ (nI z ≤ nI i) from d25)
      refine k_iload_n C 29 2 rfl rfl dX10_lines_28 rfl ?_
      refine k_aload_n C 30 0 rfl rfl dX10_lines_29 rfl ?_
      refine k_get C 33 flX10_9 91 (by decide) (v := .ref (ga g 92)) (ce_91 g _) rfl dX10_lines_30 rfl ?_
      refine k_iconst C 34 (v := 2) (by decide) dX10_lines_33 rfl ?_
      refine k_iald C 35 92 2 (by decide) (ce_92 g) (by decide) rfl (by omega) dX10_lines_34 rfl ?_
      refine k_teq (y := nI n) (by rw [lnM_2]; exact hn) ?_
      refine k_icmp_ge C 101 38 dX10_lines_35 (by decide) rfl (fun c35 => ?_) (fun d35 => ?_)
      · skip
        have c35 := (nI_leI (by omega) (by omega)).mp (show nI n ≤ nI i from c35)
        refine k_iload_n C 102 2 rfl rfl dX10_lines_101 rfl ?_
        refine k_ret C rfl dX10_lines_102 ?_
        have e : lnK (fun k => M 98 (24 * s + k)) (min z n) 0 = i := by
          rw [he]
          rw [show min z n - i = 0 by omega]; rfl
        rw [e]; exact ⟨rfl, rfl⟩
      · skip
        have d35 := mt (nI_leI (by omega) (by omega)).mpr (show ¬ (nI n ≤ nI i) from d35)
        refine k_aload_n C 39 0 rfl rfl dX10_lines_38 rfl ?_
        refine k_get C 42 flX10_28 91 (by decide) (v := .ref (ga g 98)) (ce_91 g _) rfl dX10_lines_39 rfl ?_
        refine k_bipush C 44 (v := 24) (by decide) dX10_lines_42 rfl ?_
        refine k_iload_n C 45 1 rfl rfl dX10_lines_44 rfl ?_
        refine k_imul C 46 dX10_lines_45 rfl ?_
        refine k_teq (pk_mul 24 s) ?_
        refine k_iload_n C 47 2 rfl rfl dX10_lines_46 rfl ?_
        refine k_iadd C 48 dX10_lines_47 rfl ?_
        refine k_teq (nI_add (24 * s) i) ?_
        refine k_iald C 49 98 ((24 * s) + i) (by decide) (ce_98 g) (by decide) rfl (by omega) dX10_lines_48 rfl ?_
        refine k_teq (y := M 98 (24 * s + i)) (by rw [lnM_o _ _ (by decide)]) ?_
        refine k_callSE C 52 (As := [.int (M 98 (24 * s + i))]) (st := []) mwX10_91 skX10_isLine (qX10_isLine l g (lnM M (fun k => M 98 (24 * s + k)) i) (M 98 (24 * s + i))) mlX10_isLine (by decide) (by decide) rfl rfl (Nat.le_of_ble_eq_true rfl) dX10_lines_49 rfl ?_
        refine k_if_eqB C 101 55 dX10_lines_52 (by decide) rfl (fun c52 => ?_) (fun d52 => ?_)
        · skip
          refine k_iload_n C 102 2 rfl rfl dX10_lines_101 rfl ?_
          refine k_ret C rfl dX10_lines_102 ?_
          have e : lnK (fun k => M 98 (24 * s + k)) (min z n) 0 = i := by
            rw [he]
            rw [show min z n - i = (min z n - (i + 1)) + 1 by omega]; simp only [lnK]; rw [if_neg (by rw [c52]; decide)]
          rw [e]; exact ⟨rfl, rfl⟩
        · skip
          refine k_aload_n C 56 0 rfl rfl dX10_lines_55 rfl ?_
          refine k_iload_n C 57 2 rfl rfl dX10_lines_56 rfl ?_
          refine k_iconst C 58 (v := 2) (by decide) dX10_lines_57 rfl ?_
          refine k_aload_n C 59 0 rfl rfl dX10_lines_58 rfl ?_
          refine k_get C 62 flX10_28 91 (by decide) (v := .ref (ga g 98)) (ce_91 g _) rfl dX10_lines_59 rfl ?_
          refine k_bipush C 64 (v := 24) (by decide) dX10_lines_62 rfl ?_
          refine k_iload_n C 65 1 rfl rfl dX10_lines_64 rfl ?_
          refine k_imul C 66 dX10_lines_65 rfl ?_
          refine k_teq (pk_mul 24 s) ?_
          refine k_iload_n C 67 2 rfl rfl dX10_lines_66 rfl ?_
          refine k_iadd C 68 dX10_lines_67 rfl ?_
          refine k_teq (nI_add (24 * s) i) ?_
          refine k_iald C 69 98 ((24 * s) + i) (by decide) (ce_98 g) (by decide) rfl (by omega) dX10_lines_68 rfl ?_
          refine k_teq (y := M 98 (24 * s + i)) (by rw [lnM_o _ _ (by decide)]) ?_
          refine k_bipush C 71 (v := 10) (by decide) dX10_lines_69 rfl ?_
          refine k_idiv C 72 (by decide) dX10_lines_71 rfl ?_
          refine k_callVU C 75 (As := [.int (nI i), .int 2, .int ((M 98 (24 * s + i)) / 10)]) (st := []) 91 (by decide) (ce_91 g _) rfl rfl mwX10_84 vlX10_lets (qX10_lets l g (lnM M (fun k => M 98 (24 * s + k)) i) (f := i) (w := 2) (by omega) (by omega) ((M 98 (24 * s + i)) / 10)) mlX10_lets (by decide) (by decide) rfl rfl (Nat.le_of_ble_eq_true rfl) dX10_lines_72 rfl ?_
          refine k_aload_n C 76 0 rfl rfl dX10_lines_75 rfl ?_
          refine k_iload_n C 77 2 rfl rfl dX10_lines_76 rfl ?_
          refine k_iconst C 78 (v := 3) (by decide) dX10_lines_77 rfl ?_
          refine k_aload_n C 79 0 rfl rfl dX10_lines_78 rfl ?_
          refine k_get C 82 flX10_28 91 (by decide) (v := .ref (ga g 98)) (ce_91 g _) rfl dX10_lines_79 rfl ?_
          refine k_bipush C 84 (v := 24) (by decide) dX10_lines_82 rfl ?_
          refine k_iload_n C 85 1 rfl rfl dX10_lines_84 rfl ?_
          refine k_imul C 86 dX10_lines_85 rfl ?_
          refine k_teq (pk_mul 24 s) ?_
          refine k_iload_n C 87 2 rfl rfl dX10_lines_86 rfl ?_
          refine k_iadd C 88 dX10_lines_87 rfl ?_
          refine k_teq (nI_add (24 * s) i) ?_
          refine k_iald C 89 98 ((24 * s) + i) (by decide) (ce_98 g) (by decide) rfl (by omega) dX10_lines_88 rfl ?_
          refine k_teq (show (mu (lnM M (fun k => M 98 (24 * s + k)) i) 92 (6 + 7 * i + 2) ((M 98 (24 * s + i)) / 10)) 98 ((24 * s) + i) = (lnM M (fun k => M 98 (24 * s + k)) i) 98 ((24 * s) + i) by simp [mu_at]) ?_
          refine k_teq (y := M 98 (24 * s + i)) (by rw [lnM_o _ _ (by decide)]) ?_
          refine k_bipush C 91 (v := 10) (by decide) dX10_lines_89 rfl ?_
          refine k_irem C 92 (by decide) dX10_lines_91 rfl ?_
          refine k_callVU C 95 (As := [.int (nI i), .int 3, .int ((M 98 (24 * s + i)) - (M 98 (24 * s + i)) / 10 * 10)]) (st := []) 91 (by decide) (ce_91 g _) rfl rfl mwX10_84 vlX10_lets (qX10_lets l g (mu (lnM M (fun k => M 98 (24 * s + k)) i) 92 (6 + 7 * i + 2) ((M 98 (24 * s + i)) / 10)) (f := i) (w := 3) (by omega) (by omega) ((M 98 (24 * s + i)) - (M 98 (24 * s + i)) / 10 * 10)) mlX10_lets (by decide) (by decide) rfl rfl (Nat.le_of_ble_eq_true rfl) dX10_lines_92 rfl ?_
          refine k_iinc C 98 (nI (i + 1)) 2 [(3, .int (nI (i + 1))), (0, .ref (ga g 91)), (1, .int (nI s))] rfl (iinc_p i) (by decide) rfl dX10_lines_95 rfl ?_
          refine k_goto C 18 dX10_lines_98 (by decide) ?_
          refine k_sub [(0, .ref (ga g 91)), (1, .int (nI s)), (3, .int (nI (i + 1)))] [1, 2, 0] rfl ?_
          refine k_all (M' := lnM M (fun k => M 98 (24 * s + k)) (i + 1)) (lo' := [(0, .ref (ga g 91)), (1, .int (nI s)), (3, .int (nI (i + 1)))]) (st' := []) (by rfl) (by rfl) rfl ?_
          exact ih (i + 1) (show ((i + 1) ≤ min z n) ∧ (lnK (fun k => M 98 (24 * s + k)) (min z n) 0 = lnK (fun k => M 98 (24 * s + k)) (min z n - (i + 1)) (i + 1)) from by exact ⟨by omega, by rw [he, show min z n - i = (min z n - (i + 1)) + 1 by omega]; simp only [lnK]; rw [if_pos d52]⟩) (by show min z n - (i + 1) < _; omega)
  · skip
    exact absurd d7 (by decide)
