-- the reference: its first methods
theorem bz {b : Bool} (h : b = false) (h2 : b = true) : False := Bool.noConfusion (h.symm.trans h2)
theorem rg_le {a j b : Nat} (ha : a ≤ j) (hb : j ≤ b) (h : b < 2 ^ 31) : (decide (nI a ≤ nI j) && decide (nI j ≤ nI b)) = true := by
  have h1 := (nI_leI (show a < 2 ^ 31 by omega) (show j < 2 ^ 31 by omega)).mpr ha
  have h2 := (nI_leI (show j < 2 ^ 31 by omega) h).mpr hb
  simp [h1, h2]
theorem rg_lt {j b : Nat} (hb : j < b) (h : b < 2 ^ 31) : (decide (0 ≤ nI j) && decide (nI j < nI b)) = true := by
  have h1 : (0 : Int32) ≤ nI j := nI_pos' (show j < 2 ^ 31 by omega)
  have h2 := (nI_ltI (show j < 2 ^ 31 by omega) h).mpr hb
  simp [h1, h2]
theorem pIsF_lt {n j : Nat} (hn : n ≤ 12) (hj : j < n) : pIsF n (nI j) = true := by
  rw [pIsF_nI hn (show j < 2 ^ 31 by omega)]; simp [hj]
/-- what furrowIs tells, but for the sense -/
def pFur (F : Nat → Nat → Int32) (n f w : Nat) : Int32 := if w < 7 then F f w else if w = 7 then pDepth (F f) else b2i (pHeard F n f)
def goesN (n : Nat) (pat : Int32) : Nat → Mem → Mem → Prop
  | 0, M, M1 => M1 = M
  | k + 1, M, M1 => ∃ M2, goesN n pat k M M2 ∧ goesTo M2 M1 n pat
theorem goesN_at {n : Nat} {pat : Int32} : ∀ {k : Nat} {M M1 : Mem}, goesN n pat k M M1 → ∀ q, ¬ (6 ≤ q ∧ q < 6 + 7 * n) → q ≠ 0 → M1 92 q = M 92 q
  | 0, _, _, h, _, _, _ => by rw [show _ = _ from h]
  | k + 1, M, M1, h, q, h1, h2 => by
    obtain ⟨M2, h3, h4⟩ := h
    rw [h4.2.2.1 q h1 h2]; exact goesN_at h3 q h1 h2
/-- the tape, fed -/
def feedM (M : Mem) (z : Nat) (v : Int64) : Nat → Mem
  | 0 => M
  | i + 1 => mu (mu (feedM M z v i) 92 (90 + (z + i)) ((v >>> ((nI (8 * i)).toInt64 &&& 63)) &&& 255).toInt32) 92 4 (nI (z + i + 1))
theorem feedM_4 {M : Mem} {z : Nat} (h : M 92 4 = nI z) (v : Int64) : ∀ i, feedM M z v i 92 4 = nI (z + i)
  | 0 => h
  | _ + 1 => mu_s _ _ _ _
/-- meaning: the sum so far -/
def pMean (F : Nat → Nat → Int32) (n : Nat) (p : Nat → Int32) (w : Int32) : Nat → Int32
  | 0 => 0
  | i + 1 => pMean F n p w i + (if (pIsAns F i && (decide (w < 0) || decide (F i 4 = w))) = true then pGive 1 n p (F i 2) (F i 3) (pDepth (F i)) else 0)

set_option maxHeartbeats 4000000 in
set_option maxRecDepth 20000 in
theorem qX10_plough_f (l : Launch) (g : GT) (M : Mem) (km lc h : Int32) (hf : (pKm km && pLine lc && (decide (0 ≤ h) && decide (h ≤ 5))) = false) : CtrE l g yX10_plough cX10_plough 4 (some .int) 2 [.ref (ga g 91), .int km, .int lc, .int h] M (-1000000001) (mu M 95 1 (M 95 1 + 1)) := by
  refine ctrI_of (by decide +kernel) (Nat.le_of_ble_eq_true rfl) ?_
  intro pP eE RR sS mI aG bB mE cD C
  refine k_lo (lo' := [(0, .ref (ga g 91)), (1, .int km), (2, .int lc), (3, .int h)]) rfl ?_
  refine k_iload_n C 1 1 rfl rfl dX10_plough_0 rfl ?_
  refine k_callSE C 4 (As := [.int km]) (st := []) mwX10_88 skX10_isKm (qX10_isKm l g M km) mlX10_isKm (by decide) (by decide) rfl rfl (Nat.le_of_ble_eq_true rfl) dX10_plough_1 rfl ?_
  refine k_if_eqB C 23 7 dX10_plough_4 (by decide) rfl (fun c4 => ?_) (fun d4 => ?_)
  · skip
    refine k_aload_n C 24 0 rfl rfl dX10_plough_23 rfl ?_
    refine k_ldc C 26 cwX10_94 dX10_plough_24 rfl ?_
    refine k_callVE C 29 (As := [.int (-1000000001)]) (st := []) 91 (by decide) (ce_91 g _) rfl rfl mwX10_95 vlX10_error (qX10_error l g M (-1000000001) (k := 1) (by decide) (by decide)) mlX10_error (by decide) (by decide) rfl rfl (Nat.le_of_ble_eq_true rfl) dX10_plough_26 rfl ?_
    refine k_ret C rfl dX10_plough_29 ?_
    exact ⟨rfl, rfl⟩
  · skip
    refine k_iload_n C 8 2 rfl rfl dX10_plough_7 rfl ?_
    refine k_callSE C 11 (As := [.int lc]) (st := []) mwX10_91 skX10_isLine (qX10_isLine l g M lc) mlX10_isLine (by decide) (by decide) rfl rfl (Nat.le_of_ble_eq_true rfl) dX10_plough_8 rfl ?_
    refine k_if_eqB C 23 14 dX10_plough_11 (by decide) rfl (fun c11 => ?_) (fun d11 => ?_)
    · skip
      refine k_aload_n C 24 0 rfl rfl dX10_plough_23 rfl ?_
      refine k_ldc C 26 cwX10_94 dX10_plough_24 rfl ?_
      refine k_callVE C 29 (As := [.int (-1000000001)]) (st := []) 91 (by decide) (ce_91 g _) rfl rfl mwX10_95 vlX10_error (qX10_error l g M (-1000000001) (k := 1) (by decide) (by decide)) mlX10_error (by decide) (by decide) rfl rfl (Nat.le_of_ble_eq_true rfl) dX10_plough_26 rfl ?_
      refine k_ret C rfl dX10_plough_29 ?_
      exact ⟨rfl, rfl⟩
    · skip
      refine k_iload_n C 15 3 rfl rfl dX10_plough_14 rfl ?_
      refine k_iconst C 16 (v := 0) (by decide) dX10_plough_15 rfl ?_
      refine k_iconst C 17 (v := 5) (by decide) dX10_plough_16 rfl ?_
      refine k_callSE C 20 (As := [.int h, .int 0, .int 5]) (st := []) mwX10_54 skX10_in (qX10_in l g M h 0 5) mlX10_in (by decide) (by decide) rfl rfl (Nat.le_of_ble_eq_true rfl) dX10_plough_17 rfl ?_
      refine k_if_neB C 30 23 dX10_plough_20 (by decide) rfl (fun c20 => ?_) (fun d20 => ?_)
      · skip
        exact (bz hf (by simp [d4, d11, c20])).elim
      · skip
        refine k_aload_n C 24 0 rfl rfl dX10_plough_23 rfl ?_
        refine k_ldc C 26 cwX10_94 dX10_plough_24 rfl ?_
        refine k_callVE C 29 (As := [.int (-1000000001)]) (st := []) 91 (by decide) (ce_91 g _) rfl rfl mwX10_95 vlX10_error (qX10_error l g M (-1000000001) (k := 1) (by decide) (by decide)) mlX10_error (by decide) (by decide) rfl rfl (Nat.le_of_ble_eq_true rfl) dX10_plough_26 rfl ?_
        refine k_ret C rfl dX10_plough_29 ?_
        exact ⟨rfl, rfl⟩
set_option maxHeartbeats 4000000 in
set_option maxRecDepth 20000 in
theorem qX10_plough_t (l : Launch) (g : GT) (M : Mem) {n : Nat} (hn : M 92 2 = nI n) (h12 : n < 12) (km lc : Int32) (h1 : pKm km = true) (h2 : pLine lc = true) {h : Nat} (hh : h < 6) : CtrE l g yX10_plough cX10_plough 4 (some .int) 2 [.ref (ga g 91), .int km, .int lc, .int (nI h)] M (nI n) (pCome M n km (lc / 10) (lc - lc / 10 * 10) (nI h)) := by
  refine ctrI_of (by decide +kernel) (Nat.le_of_ble_eq_true rfl) ?_
  intro pP eE RR sS mI aG bB mE cD C
  refine k_lo (lo' := [(0, .ref (ga g 91)), (1, .int km), (2, .int lc), (3, .int (nI h))]) rfl ?_
  refine k_iload_n C 1 1 rfl rfl dX10_plough_0 rfl ?_
  refine k_callSE C 4 (As := [.int km]) (st := []) mwX10_88 skX10_isKm (qX10_isKm l g M km) mlX10_isKm (by decide) (by decide) rfl rfl (Nat.le_of_ble_eq_true rfl) dX10_plough_1 rfl ?_
  refine k_if_eqB C 23 7 dX10_plough_4 (by decide) rfl (fun c4 => ?_) (fun d4 => ?_)
  · skip
    exact (bz c4 h1).elim
  · skip
    refine k_iload_n C 8 2 rfl rfl dX10_plough_7 rfl ?_
    refine k_callSE C 11 (As := [.int lc]) (st := []) mwX10_91 skX10_isLine (qX10_isLine l g M lc) mlX10_isLine (by decide) (by decide) rfl rfl (Nat.le_of_ble_eq_true rfl) dX10_plough_8 rfl ?_
    refine k_if_eqB C 23 14 dX10_plough_11 (by decide) rfl (fun c11 => ?_) (fun d11 => ?_)
    · skip
      exact (bz c11 h2).elim
    · skip
      refine k_iload_n C 15 3 rfl rfl dX10_plough_14 rfl ?_
      refine k_iconst C 16 (v := 0) (by decide) dX10_plough_15 rfl ?_
      refine k_iconst C 17 (v := 5) (by decide) dX10_plough_16 rfl ?_
      refine k_callSE C 20 (As := [.int (nI h), .int 0, .int 5]) (st := []) mwX10_54 skX10_in (qX10_in l g M (nI h) 0 5) mlX10_in (by decide) (by decide) rfl rfl (Nat.le_of_ble_eq_true rfl) dX10_plough_17 rfl ?_
      refine k_if_neB C 30 23 dX10_plough_20 (by decide) rfl (fun c20 => ?_) (fun d20 => ?_)
      · skip
        refine k_aload_n C 31 0 rfl rfl dX10_plough_30 rfl ?_
        refine k_get C 34 flX10_9 91 (by decide) (v := .ref (ga g 92)) (ce_91 g _) rfl dX10_plough_31 rfl ?_
        refine k_iconst C 35 (v := 2) (by decide) dX10_plough_34 rfl ?_
        refine k_iald C 36 92 2 (by decide) (ce_92 g) (by decide) rfl (by omega) dX10_plough_35 rfl ?_
        refine k_teq (y := nI n) hn ?_
        refine k_bipush C 38 (v := 12) (by decide) dX10_plough_36 rfl ?_
        refine k_icmp_ne C 50 41 dX10_plough_38 (by decide) rfl (fun c38 => ?_) (fun d38 => ?_)
        · skip
          have c38 := mt (nI_eq (by omega) (by omega)).mpr (show ¬ (nI n = nI 12) from c38)
          refine k_aload_n C 51 0 rfl rfl dX10_plough_50 rfl ?_
          refine k_iload_n C 52 1 rfl rfl dX10_plough_51 rfl ?_
          refine k_iload_n C 53 2 rfl rfl dX10_plough_52 rfl ?_
          refine k_bipush C 55 (v := 10) (by decide) dX10_plough_53 rfl ?_
          refine k_idiv C 56 (by decide) dX10_plough_55 rfl ?_
          refine k_iload_n C 57 2 rfl rfl dX10_plough_56 rfl ?_
          refine k_bipush C 59 (v := 10) (by decide) dX10_plough_57 rfl ?_
          refine k_irem C 60 (by decide) dX10_plough_59 rfl ?_
          refine k_iload_n C 61 3 rfl rfl dX10_plough_60 rfl ?_
          refine k_callVE C 64 (As := [.int km, .int (lc / 10), .int (lc - lc / 10 * 10), .int (nI h)]) (st := []) 91 (by decide) (ce_91 g _) rfl rfl mwX10_99 vlX10_comes (qX10_comes l g M (n := n) hn h12 km (lc / 10) (lc - lc / 10 * 10) (nI h)) mlX10_comes (by decide) (by decide) rfl rfl (Nat.le_of_ble_eq_true rfl) dX10_plough_61 rfl ?_
          refine k_ret C rfl dX10_plough_64 ?_
          exact ⟨rfl, rfl⟩
        · skip
          have d38 := (nI_eq (by omega) (by omega)).mp (show nI n = nI 12 from d38)
          exact absurd d38 (by omega)
      · skip
        exact (bz d20 (rg_le (a := 0) (b := 5) (Nat.zero_le _) (by omega) (by decide))).elim
set_option maxHeartbeats 4000000 in
set_option maxRecDepth 20000 in
theorem qX10_plough_full (l : Launch) (g : GT) (M : Mem) (hn : M 92 2 = 12) (km lc : Int32) (h1 : pKm km = true) (h2 : pLine lc = true) {h : Nat} (hh : h < 6) : CtrE l g yX10_plough cX10_plough 4 (some .int) 2 [.ref (ga g 91), .int km, .int lc, .int (nI h)] M (-1000000004) (mu M 95 4 (M 95 4 + 1)) := by
  refine ctrI_of (by decide +kernel) (Nat.le_of_ble_eq_true rfl) ?_
  intro pP eE RR sS mI aG bB mE cD C
  refine k_lo (lo' := [(0, .ref (ga g 91)), (1, .int km), (2, .int lc), (3, .int (nI h))]) rfl ?_
  refine k_iload_n C 1 1 rfl rfl dX10_plough_0 rfl ?_
  refine k_callSE C 4 (As := [.int km]) (st := []) mwX10_88 skX10_isKm (qX10_isKm l g M km) mlX10_isKm (by decide) (by decide) rfl rfl (Nat.le_of_ble_eq_true rfl) dX10_plough_1 rfl ?_
  refine k_if_eqB C 23 7 dX10_plough_4 (by decide) rfl (fun c4 => ?_) (fun d4 => ?_)
  · skip
    exact (bz c4 h1).elim
  · skip
    refine k_iload_n C 8 2 rfl rfl dX10_plough_7 rfl ?_
    refine k_callSE C 11 (As := [.int lc]) (st := []) mwX10_91 skX10_isLine (qX10_isLine l g M lc) mlX10_isLine (by decide) (by decide) rfl rfl (Nat.le_of_ble_eq_true rfl) dX10_plough_8 rfl ?_
    refine k_if_eqB C 23 14 dX10_plough_11 (by decide) rfl (fun c11 => ?_) (fun d11 => ?_)
    · skip
      exact (bz c11 h2).elim
    · skip
      refine k_iload_n C 15 3 rfl rfl dX10_plough_14 rfl ?_
      refine k_iconst C 16 (v := 0) (by decide) dX10_plough_15 rfl ?_
      refine k_iconst C 17 (v := 5) (by decide) dX10_plough_16 rfl ?_
      refine k_callSE C 20 (As := [.int (nI h), .int 0, .int 5]) (st := []) mwX10_54 skX10_in (qX10_in l g M (nI h) 0 5) mlX10_in (by decide) (by decide) rfl rfl (Nat.le_of_ble_eq_true rfl) dX10_plough_17 rfl ?_
      refine k_if_neB C 30 23 dX10_plough_20 (by decide) rfl (fun c20 => ?_) (fun d20 => ?_)
      · skip
        refine k_aload_n C 31 0 rfl rfl dX10_plough_30 rfl ?_
        refine k_get C 34 flX10_9 91 (by decide) (v := .ref (ga g 92)) (ce_91 g _) rfl dX10_plough_31 rfl ?_
        refine k_iconst C 35 (v := 2) (by decide) dX10_plough_34 rfl ?_
        refine k_iald C 36 92 2 (by decide) (ce_92 g) (by decide) rfl (by omega) dX10_plough_35 rfl ?_
        refine k_teq (y := 12) hn ?_
        refine k_bipush C 38 (v := 12) (by decide) dX10_plough_36 rfl ?_
        refine k_icmp_ne C 50 41 dX10_plough_38 (by decide) rfl (fun c38 => ?_) (fun d38 => ?_)
        · skip
          exact absurd c38 (by decide)
        · skip
          refine k_aload_n C 42 0 rfl rfl dX10_plough_41 rfl ?_
          refine k_ldc C 44 cwX10_98 dX10_plough_42 rfl ?_
          refine k_callVE C 47 (As := [.int (-1000000004)]) (st := []) 91 (by decide) (ce_91 g _) rfl rfl mwX10_95 vlX10_error (qX10_error l g M (-1000000004) (k := 4) (by decide) (by decide)) mlX10_error (by decide) (by decide) rfl rfl (Nat.le_of_ble_eq_true rfl) dX10_plough_44 rfl ?_
          refine k_goto C 64 dX10_plough_47 (by decide) ?_
          refine k_ret C rfl dX10_plough_64 ?_
          exact ⟨rfl, rfl⟩
      · skip
        exact (bz d20 (rg_le (a := 0) (b := 5) (Nat.zero_le _) (by omega) (by decide))).elim
set_option maxHeartbeats 4000000 in
set_option maxRecDepth 20000 in
theorem qX10_furrowIs_f (l : Launch) (g : GT) (M : Mem) {n : Nat} (hn : M 92 2 = nI n) (h12 : n ≤ 12) (f w : Int32) (hf : (pIsF n f && (decide (0 ≤ w) && decide (w ≤ 9))) = false) : CtrE l g yX10_furrowIs cX10_furrowIs 3 (some .int) 2 [.ref (ga g 91), .int f, .int w] M (-1000000001) (mu M 95 1 (M 95 1 + 1)) := by
  refine ctrI_of (by decide +kernel) (Nat.le_of_ble_eq_true rfl) ?_
  intro pP eE RR sS mI aG bB mE cD C
  refine k_lo (lo' := [(0, .ref (ga g 91)), (1, .int f), (2, .int w)]) rfl ?_
  refine k_aload_n C 1 0 rfl rfl dX10_furrowIs_0 rfl ?_
  refine k_iload_n C 2 1 rfl rfl dX10_furrowIs_1 rfl ?_
  refine k_callVE C 5 (As := [.int f]) (st := []) 91 (by decide) (ce_91 g _) rfl rfl mwX10_102 vlX10_isFurrow (qX10_isFurrow l g M (n := n) hn h12 f) mlX10_isFurrow (by decide) (by decide) rfl rfl (Nat.le_of_ble_eq_true rfl) dX10_furrowIs_2 rfl ?_
  refine k_if_eqB C 18 8 dX10_furrowIs_5 (by decide) rfl (fun c5 => ?_) (fun d5 => ?_)
  · skip
    refine k_aload_n C 19 0 rfl rfl dX10_furrowIs_18 rfl ?_
    refine k_ldc C 21 cwX10_94 dX10_furrowIs_19 rfl ?_
    refine k_callVE C 24 (As := [.int (-1000000001)]) (st := []) 91 (by decide) (ce_91 g _) rfl rfl mwX10_95 vlX10_error (qX10_error l g M (-1000000001) (k := 1) (by decide) (by decide)) mlX10_error (by decide) (by decide) rfl rfl (Nat.le_of_ble_eq_true rfl) dX10_furrowIs_21 rfl ?_
    refine k_ret C rfl dX10_furrowIs_24 ?_
    exact ⟨rfl, rfl⟩
  · skip
    refine k_iload_n C 9 2 rfl rfl dX10_furrowIs_8 rfl ?_
    refine k_iconst C 10 (v := 0) (by decide) dX10_furrowIs_9 rfl ?_
    refine k_bipush C 12 (v := 9) (by decide) dX10_furrowIs_10 rfl ?_
    refine k_callSE C 15 (As := [.int w, .int 0, .int 9]) (st := []) mwX10_54 skX10_in (qX10_in l g M w 0 9) mlX10_in (by decide) (by decide) rfl rfl (Nat.le_of_ble_eq_true rfl) dX10_furrowIs_12 rfl ?_
    refine k_if_neB C 25 18 dX10_furrowIs_15 (by decide) rfl (fun c15 => ?_) (fun d15 => ?_)
    · skip
      exact (bz hf (by simp [d5, c15])).elim
    · skip
      refine k_aload_n C 19 0 rfl rfl dX10_furrowIs_18 rfl ?_
      refine k_ldc C 21 cwX10_94 dX10_furrowIs_19 rfl ?_
      refine k_callVE C 24 (As := [.int (-1000000001)]) (st := []) 91 (by decide) (ce_91 g _) rfl rfl mwX10_95 vlX10_error (qX10_error l g M (-1000000001) (k := 1) (by decide) (by decide)) mlX10_error (by decide) (by decide) rfl rfl (Nat.le_of_ble_eq_true rfl) dX10_furrowIs_21 rfl ?_
      refine k_ret C rfl dX10_furrowIs_24 ?_
      exact ⟨rfl, rfl⟩
set_option maxHeartbeats 4000000 in
set_option maxRecDepth 20000 in
theorem qX10_furrowIs_t (l : Launch) (g : GT) (M : Mem) {n : Nat} (hn : M 92 2 = nI n) (h12 : n ≤ 12) {f : Nat} (hf : f < n) {w : Nat} (hw : w < 10) (hw8 : w ≠ 8) : CtrE l g yX10_furrowIs cX10_furrowIs 3 (some .int) 4 [.ref (ga g 91), .int (nI f), .int (nI w)] M (pFur (mF M) n f w) M := by
  refine ctrI_of (by decide +kernel) (Nat.le_of_ble_eq_true rfl) ?_
  intro pP eE RR sS mI aG bB mE cD C
  refine k_lo (lo' := [(0, .ref (ga g 91)), (1, .int (nI f)), (2, .int (nI w))]) rfl ?_
  refine k_aload_n C 1 0 rfl rfl dX10_furrowIs_0 rfl ?_
  refine k_iload_n C 2 1 rfl rfl dX10_furrowIs_1 rfl ?_
  refine k_callVE C 5 (As := [.int (nI f)]) (st := []) 91 (by decide) (ce_91 g _) rfl rfl mwX10_102 vlX10_isFurrow (qX10_isFurrow l g M (n := n) hn h12 (nI f)) mlX10_isFurrow (by decide) (by decide) rfl rfl (Nat.le_of_ble_eq_true rfl) dX10_furrowIs_2 rfl ?_
  refine k_if_eqB C 18 8 dX10_furrowIs_5 (by decide) rfl (fun c5 => ?_) (fun d5 => ?_)
  · skip
    exact (bz c5 (pIsF_lt h12 hf)).elim
  · skip
    refine k_iload_n C 9 2 rfl rfl dX10_furrowIs_8 rfl ?_
    refine k_iconst C 10 (v := 0) (by decide) dX10_furrowIs_9 rfl ?_
    refine k_bipush C 12 (v := 9) (by decide) dX10_furrowIs_10 rfl ?_
    refine k_callSE C 15 (As := [.int (nI w), .int 0, .int 9]) (st := []) mwX10_54 skX10_in (qX10_in l g M (nI w) 0 9) mlX10_in (by decide) (by decide) rfl rfl (Nat.le_of_ble_eq_true rfl) dX10_furrowIs_12 rfl ?_
    refine k_if_neB C 25 18 dX10_furrowIs_15 (by decide) rfl (fun c15 => ?_) (fun d15 => ?_)
    · skip
      refine k_iload_n C 26 2 rfl rfl dX10_furrowIs_25 rfl ?_
      refine k_bipush C 28 (v := 7) (by decide) dX10_furrowIs_26 rfl ?_
      refine k_icmp_ge C 38 31 dX10_furrowIs_28 (by decide) rfl (fun c28 => ?_) (fun d28 => ?_)
      · skip
        have c28 := (nI_leI (by omega) (by omega)).mp (show nI 7 ≤ nI w from c28)
        refine k_iload_n C 39 2 rfl rfl dX10_furrowIs_38 rfl ?_
        refine k_bipush C 41 (v := 7) (by decide) dX10_furrowIs_39 rfl ?_
        refine k_icmp_ne C 52 44 dX10_furrowIs_41 (by decide) rfl (fun c41 => ?_) (fun d41 => ?_)
        · skip
          have c41 := mt (nI_eq (by omega) (by omega)).mpr (show ¬ (nI w = nI 7) from c41)
          refine k_iload_n C 53 2 rfl rfl dX10_furrowIs_52 rfl ?_
          refine k_bipush C 55 (v := 8) (by decide) dX10_furrowIs_53 rfl ?_
          refine k_icmp_ne C 66 58 dX10_furrowIs_55 (by decide) rfl (fun c55 => ?_) (fun d55 => ?_)
          · skip
            have c55 := mt (nI_eq (by omega) (by omega)).mpr (show ¬ (nI w = nI 8) from c55)
            refine k_aload_n C 67 0 rfl rfl dX10_furrowIs_66 rfl ?_
            refine k_iload_n C 68 1 rfl rfl dX10_furrowIs_67 rfl ?_
            refine k_callVE C 71 (As := [.int (nI f)]) (st := []) 91 (by decide) (ce_91 g _) rfl rfl mwX10_108 vlX10_isHeard (qX10_isHeard l g M (n := n) hn h12 (f := f) (by omega)) mlX10_isHeard (by decide) (by decide) rfl rfl (Nat.le_of_ble_eq_true rfl) dX10_furrowIs_68 rfl ?_
            refine k_if_eqB C 78 74 dX10_furrowIs_71 (by decide) rfl (fun c71 => ?_) (fun d71 => ?_)
            · skip
              refine k_iconst C 79 (v := 0) (by decide) dX10_furrowIs_78 rfl ?_
              refine k_ret C rfl dX10_furrowIs_79 ?_
              exact ⟨by unfold pFur; rw [if_neg (show ¬ w < 7 by omega), if_neg (show ¬ w = 7 by omega), c71]; rfl, rfl⟩
            · skip
              refine k_iconst C 75 (v := 1) (by decide) dX10_furrowIs_74 rfl ?_
              refine k_goto C 79 dX10_furrowIs_75 (by decide) ?_
              refine k_ret C rfl dX10_furrowIs_79 ?_
              exact ⟨by unfold pFur; rw [if_neg (show ¬ w < 7 by omega), if_neg (show ¬ w = 7 by omega), d71]; rfl, rfl⟩
          · skip
            have d55 := (nI_eq (by omega) (by omega)).mp (show nI w = nI 8 from d55)
            exact absurd d55 hw8
        · skip
          have d41 := (nI_eq (by omega) (by omega)).mp (show nI w = nI 7 from d41)
          refine k_aload_n C 45 0 rfl rfl dX10_furrowIs_44 rfl ?_
          refine k_iload_n C 46 1 rfl rfl dX10_furrowIs_45 rfl ?_
          refine k_callVE C 49 (As := [.int (nI f)]) (st := []) 91 (by decide) (ce_91 g _) rfl rfl mwX10_77 vlX10_depthOf (qX10_depthOf l g M (f := f) (by omega)) mlX10_depthOf (by decide) (by decide) rfl rfl (Nat.le_of_ble_eq_true rfl) dX10_furrowIs_46 rfl ?_
          refine k_goto C 79 dX10_furrowIs_49 (by decide) ?_
          refine k_ret C rfl dX10_furrowIs_79 ?_
          exact ⟨by unfold pFur; rw [if_neg (show ¬ w < 7 by omega), if_pos (show w = 7 by omega)], rfl⟩
      · skip
        have d28 := mt (nI_leI (by omega) (by omega)).mpr (show ¬ (nI 7 ≤ nI w) from d28)
        refine k_aload_n C 32 0 rfl rfl dX10_furrowIs_31 rfl ?_
        refine k_iload_n C 33 1 rfl rfl dX10_furrowIs_32 rfl ?_
        refine k_iload_n C 34 2 rfl rfl dX10_furrowIs_33 rfl ?_
        refine k_callVE C 37 (As := [.int (nI f), .int (nI w)]) (st := []) 91 (by decide) (ce_91 g _) rfl rfl mwX10_58 vlX10_of (qX10_of l g M (f := f) (w := w) (by omega) (by omega)) mlX10_of (by decide) (by decide) rfl rfl (Nat.le_of_ble_eq_true rfl) dX10_furrowIs_34 rfl ?_
        refine k_ret C rfl dX10_furrowIs_37 ?_
        exact ⟨by unfold pFur; rw [if_pos (show w < 7 by omega)], rfl⟩
    · skip
      exact (bz d15 (rg_le (a := 0) (b := 9) (Nat.zero_le _) (by omega) (by decide))).elim
set_option maxHeartbeats 4000000 in
set_option maxRecDepth 20000 in
theorem qX10_furrowIs_s (l : Launch) (g : GT) (M : Mem) {n : Nat} (hn : M 92 2 = nI n) (h12 : n ≤ 12) {f : Nat} (hf : f < n) {n1 : Nat} (p : Nat → Int32) (hL : mlawOk M 1 n1 p) : CtrI l g yX10_furrowIs cX10_furrowIs 3 (some .int) 4 [.ref (ga g 91), .int (nI f), .int 8] M (fun r M1 => r = pGive 1 n1 p (mF M f 2) (mF M f 3) (pDepth (mF M f)) ∧ ∀ q, q ≠ 101 → q ≠ 102 → M1 q = M q) := by
  refine ctrI_of (by decide +kernel) (Nat.le_of_ble_eq_true rfl) ?_
  intro pP eE RR sS mI aG bB mE cD C
  refine k_lo (lo' := [(0, .ref (ga g 91)), (1, .int (nI f)), (2, .int 8)]) rfl ?_
  refine k_aload_n C 1 0 rfl rfl dX10_furrowIs_0 rfl ?_
  refine k_iload_n C 2 1 rfl rfl dX10_furrowIs_1 rfl ?_
  refine k_callVE C 5 (As := [.int (nI f)]) (st := []) 91 (by decide) (ce_91 g _) rfl rfl mwX10_102 vlX10_isFurrow (qX10_isFurrow l g M (n := n) hn h12 (nI f)) mlX10_isFurrow (by decide) (by decide) rfl rfl (Nat.le_of_ble_eq_true rfl) dX10_furrowIs_2 rfl ?_
  refine k_if_eqB C 18 8 dX10_furrowIs_5 (by decide) rfl (fun c5 => ?_) (fun d5 => ?_)
  · skip
    exact (bz c5 (pIsF_lt h12 hf)).elim
  · skip
    refine k_iload_n C 9 2 rfl rfl dX10_furrowIs_8 rfl ?_
    refine k_iconst C 10 (v := 0) (by decide) dX10_furrowIs_9 rfl ?_
    refine k_bipush C 12 (v := 9) (by decide) dX10_furrowIs_10 rfl ?_
    refine k_callSE C 15 (As := [.int 8, .int 0, .int 9]) (st := []) mwX10_54 skX10_in (qX10_in l g M 8 0 9) mlX10_in (by decide) (by decide) rfl rfl (Nat.le_of_ble_eq_true rfl) dX10_furrowIs_12 rfl ?_
    refine k_teq (show _ = (1 : Int32) by decide) ?_
    refine k_if_ne C 25 18 dX10_furrowIs_15 (by decide) rfl (fun c15 => ?_) (fun d15 => ?_)
    · skip
      refine k_iload_n C 26 2 rfl rfl dX10_furrowIs_25 rfl ?_
      refine k_bipush C 28 (v := 7) (by decide) dX10_furrowIs_26 rfl ?_
      refine k_icmp_ge C 38 31 dX10_furrowIs_28 (by decide) rfl (fun c28 => ?_) (fun d28 => ?_)
      · skip
        refine k_iload_n C 39 2 rfl rfl dX10_furrowIs_38 rfl ?_
        refine k_bipush C 41 (v := 7) (by decide) dX10_furrowIs_39 rfl ?_
        refine k_icmp_ne C 52 44 dX10_furrowIs_41 (by decide) rfl (fun c41 => ?_) (fun d41 => ?_)
        · skip
          refine k_iload_n C 53 2 rfl rfl dX10_furrowIs_52 rfl ?_
          refine k_bipush C 55 (v := 8) (by decide) dX10_furrowIs_53 rfl ?_
          refine k_icmp_ne C 66 58 dX10_furrowIs_55 (by decide) rfl (fun c55 => ?_) (fun d55 => ?_)
          · skip
            exact absurd c55 (by decide)
          · skip
            refine k_aload_n C 59 0 rfl rfl dX10_furrowIs_58 rfl ?_
            refine k_iload_n C 60 1 rfl rfl dX10_furrowIs_59 rfl ?_
            refine k_callVI C 63 (As := [.int (nI f)]) (st := []) 91 (by decide) (ce_91 g _) rfl rfl mwX10_105 vlX10_senseOf (qX10_senseOf l g M (n := n1) p hL (f := f) (by omega)) mlX10_senseOf (by decide) (by decide) rfl rfl (Nat.le_of_ble_eq_true rfl) dX10_furrowIs_60 rfl (fun r1 M1 h1 => ?_)
            obtain ⟨hr1, hs1⟩ := h1
            refine k_goto C 79 dX10_furrowIs_63 (by decide) ?_
            refine k_ret C rfl dX10_furrowIs_79 ?_
            exact ⟨hr1, hs1⟩
        · skip
          exact absurd d41 (by decide)
      · skip
        exact absurd d28 (by decide)
    · skip
      exact absurd d15 (by decide)
set_option maxHeartbeats 4000000 in
set_option maxRecDepth 20000 in
theorem qX10_become_f (l : Launch) (g : GT) (M : Mem) {n : Nat} (hn : M 92 2 = nI n) (h12 : n ≤ 12) (f km : Int32) (hf : (pIsF n f && pKm km) = false) : CtrE l g yX10_become cX10_become 3 (some .int) 2 [.ref (ga g 91), .int f, .int km] M (-1000000001) (mu M 95 1 (M 95 1 + 1)) := by
  refine ctrI_of (by decide +kernel) (Nat.le_of_ble_eq_true rfl) ?_
  intro pP eE RR sS mI aG bB mE cD C
  refine k_lo (lo' := [(0, .ref (ga g 91)), (1, .int f), (2, .int km)]) rfl ?_
  refine k_aload_n C 1 0 rfl rfl dX10_become_0 rfl ?_
  refine k_iload_n C 2 1 rfl rfl dX10_become_1 rfl ?_
  refine k_callVE C 5 (As := [.int f]) (st := []) 91 (by decide) (ce_91 g _) rfl rfl mwX10_102 vlX10_isFurrow (qX10_isFurrow l g M (n := n) hn h12 f) mlX10_isFurrow (by decide) (by decide) rfl rfl (Nat.le_of_ble_eq_true rfl) dX10_become_2 rfl ?_
  refine k_if_eqB C 15 8 dX10_become_5 (by decide) rfl (fun c5 => ?_) (fun d5 => ?_)
  · skip
    refine k_aload_n C 16 0 rfl rfl dX10_become_15 rfl ?_
    refine k_ldc C 18 cwX10_94 dX10_become_16 rfl ?_
    refine k_callVE C 21 (As := [.int (-1000000001)]) (st := []) 91 (by decide) (ce_91 g _) rfl rfl mwX10_95 vlX10_error (qX10_error l g M (-1000000001) (k := 1) (by decide) (by decide)) mlX10_error (by decide) (by decide) rfl rfl (Nat.le_of_ble_eq_true rfl) dX10_become_18 rfl ?_
    refine k_ret C rfl dX10_become_21 ?_
    exact ⟨rfl, rfl⟩
  · skip
    refine k_iload_n C 9 2 rfl rfl dX10_become_8 rfl ?_
    refine k_callSE C 12 (As := [.int km]) (st := []) mwX10_88 skX10_isKm (qX10_isKm l g M km) mlX10_isKm (by decide) (by decide) rfl rfl (Nat.le_of_ble_eq_true rfl) dX10_become_9 rfl ?_
    refine k_if_neB C 22 15 dX10_become_12 (by decide) rfl (fun c12 => ?_) (fun d12 => ?_)
    · skip
      exact (bz hf (by simp [d5, c12])).elim
    · skip
      refine k_aload_n C 16 0 rfl rfl dX10_become_15 rfl ?_
      refine k_ldc C 18 cwX10_94 dX10_become_16 rfl ?_
      refine k_callVE C 21 (As := [.int (-1000000001)]) (st := []) 91 (by decide) (ce_91 g _) rfl rfl mwX10_95 vlX10_error (qX10_error l g M (-1000000001) (k := 1) (by decide) (by decide)) mlX10_error (by decide) (by decide) rfl rfl (Nat.le_of_ble_eq_true rfl) dX10_become_18 rfl ?_
      refine k_ret C rfl dX10_become_21 ?_
      exact ⟨rfl, rfl⟩
set_option maxHeartbeats 4000000 in
set_option maxRecDepth 20000 in
theorem qX10_become_t (l : Launch) (g : GT) (M : Mem) {n : Nat} (hn : M 92 2 = nI n) (h12 : n ≤ 12) {f : Nat} (hf : f < n) (km : Int32) (h1 : pKm km = true) : CtrE l g yX10_become cX10_become 3 (some .int) 2 [.ref (ga g 91), .int (nI f), .int km] M (mF M f 0) (mu (mu M 92 (6 + 7 * f + 1) (km - km / 10 * 10)) 92 (6 + 7 * f) (km / 10)) := by
  refine ctrI_of (by decide +kernel) (Nat.le_of_ble_eq_true rfl) ?_
  intro pP eE RR sS mI aG bB mE cD C
  refine k_lo (lo' := [(0, .ref (ga g 91)), (1, .int (nI f)), (2, .int km)]) rfl ?_
  refine k_aload_n C 1 0 rfl rfl dX10_become_0 rfl ?_
  refine k_iload_n C 2 1 rfl rfl dX10_become_1 rfl ?_
  refine k_callVE C 5 (As := [.int (nI f)]) (st := []) 91 (by decide) (ce_91 g _) rfl rfl mwX10_102 vlX10_isFurrow (qX10_isFurrow l g M (n := n) hn h12 (nI f)) mlX10_isFurrow (by decide) (by decide) rfl rfl (Nat.le_of_ble_eq_true rfl) dX10_become_2 rfl ?_
  refine k_if_eqB C 15 8 dX10_become_5 (by decide) rfl (fun c5 => ?_) (fun d5 => ?_)
  · skip
    exact (bz c5 (pIsF_lt h12 hf)).elim
  · skip
    refine k_iload_n C 9 2 rfl rfl dX10_become_8 rfl ?_
    refine k_callSE C 12 (As := [.int km]) (st := []) mwX10_88 skX10_isKm (qX10_isKm l g M km) mlX10_isKm (by decide) (by decide) rfl rfl (Nat.le_of_ble_eq_true rfl) dX10_become_9 rfl ?_
    refine k_if_neB C 22 15 dX10_become_12 (by decide) rfl (fun c12 => ?_) (fun d12 => ?_)
    · skip
      refine k_aload_n C 23 0 rfl rfl dX10_become_22 rfl ?_
      refine k_iload_n C 24 1 rfl rfl dX10_become_23 rfl ?_
      refine k_iconst C 25 (v := 1) (by decide) dX10_become_24 rfl ?_
      refine k_iload_n C 26 2 rfl rfl dX10_become_25 rfl ?_
      refine k_bipush C 28 (v := 10) (by decide) dX10_become_26 rfl ?_
      refine k_irem C 29 (by decide) dX10_become_28 rfl ?_
      refine k_callVU C 32 (As := [.int (nI f), .int 1, .int (km - km / 10 * 10)]) (st := []) 91 (by decide) (ce_91 g _) rfl rfl mwX10_84 vlX10_lets (qX10_lets l g M (f := f) (w := 1) (by omega) (by omega) (km - km / 10 * 10)) mlX10_lets (by decide) (by decide) rfl rfl (Nat.le_of_ble_eq_true rfl) dX10_become_29 rfl ?_
      refine k_aload_n C 33 0 rfl rfl dX10_become_32 rfl ?_
      refine k_bipush C 35 (v := 6) (by decide) dX10_become_33 rfl ?_
      refine k_bipush C 37 (v := 7) (by decide) dX10_become_35 rfl ?_
      refine k_iload_n C 38 1 rfl rfl dX10_become_37 rfl ?_
      refine k_imul C 39 dX10_become_38 rfl ?_
      refine k_teq (pk_mul 7 f) ?_
      refine k_iadd C 40 dX10_become_39 rfl ?_
      refine k_teq (nI_add 6 (7 * f)) ?_
      refine k_iload_n C 41 2 rfl rfl dX10_become_40 rfl ?_
      refine k_bipush C 43 (v := 10) (by decide) dX10_become_41 rfl ?_
      refine k_idiv C 44 (by decide) dX10_become_43 rfl ?_
      refine k_callVE C 47 (As := [.int (nI (6 + (7 * f))), .int (km / 10)]) (st := []) 91 (by decide) (ce_91 g _) rfl rfl mwX10_111 vlX10_becomes (qX10_becomes l g (mu M 92 (6 + 7 * f + 1) (km - km / 10 * 10)) (q := 6 + (7 * f)) (by omega) (km / 10)) mlX10_becomes (by decide) (by decide) rfl rfl (Nat.le_of_ble_eq_true rfl) dX10_become_44 rfl ?_
      refine k_ret C rfl dX10_become_47 ?_
      exact ⟨by rw [mu_o _ _ _ (by omega)]; rfl, rfl⟩
    · skip
      exact (bz d12 h1).elim
set_option maxHeartbeats 4000000 in
set_option maxRecDepth 20000 in
theorem qX10_as_f (l : Launch) (g : GT) (M : Mem) {n : Nat} (hn : M 92 2 = nI n) (h12 : n ≤ 12) (f w : Int32) (hf : (pIsF n f && (decide (0 ≤ w) && decide (w ≤ 6))) = false) : CtrE l g yX10_as cX10_as 5 (some .int) 2 [.ref (ga g 91), .int f, .int w] M (-1000000001) (mu M 95 1 (M 95 1 + 1)) := by
  refine ctrI_of (by decide +kernel) (Nat.le_of_ble_eq_true rfl) ?_
  intro pP eE RR sS mI aG bB mE cD C
  refine k_lo (lo' := [(0, .ref (ga g 91)), (1, .int f), (2, .int w)]) rfl ?_
  refine k_aload_n C 1 0 rfl rfl dX10_as_0 rfl ?_
  refine k_iload_n C 2 1 rfl rfl dX10_as_1 rfl ?_
  refine k_callVE C 5 (As := [.int f]) (st := []) 91 (by decide) (ce_91 g _) rfl rfl mwX10_102 vlX10_isFurrow (qX10_isFurrow l g M (n := n) hn h12 f) mlX10_isFurrow (by decide) (by decide) rfl rfl (Nat.le_of_ble_eq_true rfl) dX10_as_2 rfl ?_
  refine k_if_eqB C 18 8 dX10_as_5 (by decide) rfl (fun c5 => ?_) (fun d5 => ?_)
  · skip
    refine k_aload_n C 19 0 rfl rfl dX10_as_18 rfl ?_
    refine k_ldc C 21 cwX10_94 dX10_as_19 rfl ?_
    refine k_callVE C 24 (As := [.int (-1000000001)]) (st := []) 91 (by decide) (ce_91 g _) rfl rfl mwX10_95 vlX10_error (qX10_error l g M (-1000000001) (k := 1) (by decide) (by decide)) mlX10_error (by decide) (by decide) rfl rfl (Nat.le_of_ble_eq_true rfl) dX10_as_21 rfl ?_
    refine k_ret C rfl dX10_as_24 ?_
    exact ⟨rfl, rfl⟩
  · skip
    refine k_iload_n C 9 2 rfl rfl dX10_as_8 rfl ?_
    refine k_iconst C 10 (v := 0) (by decide) dX10_as_9 rfl ?_
    refine k_bipush C 12 (v := 6) (by decide) dX10_as_10 rfl ?_
    refine k_callSE C 15 (As := [.int w, .int 0, .int 6]) (st := []) mwX10_54 skX10_in (qX10_in l g M w 0 6) mlX10_in (by decide) (by decide) rfl rfl (Nat.le_of_ble_eq_true rfl) dX10_as_12 rfl ?_
    refine k_if_neB C 25 18 dX10_as_15 (by decide) rfl (fun c15 => ?_) (fun d15 => ?_)
    · skip
      exact (bz hf (by simp [d5, c15])).elim
    · skip
      refine k_aload_n C 19 0 rfl rfl dX10_as_18 rfl ?_
      refine k_ldc C 21 cwX10_94 dX10_as_19 rfl ?_
      refine k_callVE C 24 (As := [.int (-1000000001)]) (st := []) 91 (by decide) (ce_91 g _) rfl rfl mwX10_95 vlX10_error (qX10_error l g M (-1000000001) (k := 1) (by decide) (by decide)) mlX10_error (by decide) (by decide) rfl rfl (Nat.le_of_ble_eq_true rfl) dX10_as_21 rfl ?_
      refine k_ret C rfl dX10_as_24 ?_
      exact ⟨rfl, rfl⟩
set_option maxHeartbeats 4000000 in
set_option maxRecDepth 20000 in
theorem qX10_as_t (l : Launch) (g : GT) (M : Mem) {n : Nat} (hn : M 92 2 = nI n) (h12 : n ≤ 12) {f : Nat} (hf : f < n) (w : Int32) (hw : (decide (0 ≤ w) && decide (w ≤ 6)) = true) : CtrE l g yX10_as cX10_as 5 (some .int) 2 [.ref (ga g 91), .int (nI f), .int w] M (if pOf (mF M f 0) w = true then mF M f 1 else (-1000000005)) (if pOf (mF M f 0) w = true then M else mu M 95 5 (M 95 5 + 1)) := by
  refine ctrI_of (by decide +kernel) (Nat.le_of_ble_eq_true rfl) ?_
  intro pP eE RR sS mI aG bB mE cD C
  refine k_lo (lo' := [(0, .ref (ga g 91)), (1, .int (nI f)), (2, .int w)]) rfl ?_
  refine k_aload_n C 1 0 rfl rfl dX10_as_0 rfl ?_
  refine k_iload_n C 2 1 rfl rfl dX10_as_1 rfl ?_
  refine k_callVE C 5 (As := [.int (nI f)]) (st := []) 91 (by decide) (ce_91 g _) rfl rfl mwX10_102 vlX10_isFurrow (qX10_isFurrow l g M (n := n) hn h12 (nI f)) mlX10_isFurrow (by decide) (by decide) rfl rfl (Nat.le_of_ble_eq_true rfl) dX10_as_2 rfl ?_
  refine k_if_eqB C 18 8 dX10_as_5 (by decide) rfl (fun c5 => ?_) (fun d5 => ?_)
  · skip
    exact (bz c5 (pIsF_lt h12 hf)).elim
  · skip
    refine k_iload_n C 9 2 rfl rfl dX10_as_8 rfl ?_
    refine k_iconst C 10 (v := 0) (by decide) dX10_as_9 rfl ?_
    refine k_bipush C 12 (v := 6) (by decide) dX10_as_10 rfl ?_
    refine k_callSE C 15 (As := [.int w, .int 0, .int 6]) (st := []) mwX10_54 skX10_in (qX10_in l g M w 0 6) mlX10_in (by decide) (by decide) rfl rfl (Nat.le_of_ble_eq_true rfl) dX10_as_12 rfl ?_
    refine k_if_neB C 25 18 dX10_as_15 (by decide) rfl (fun c15 => ?_) (fun d15 => ?_)
    · skip
      refine k_aload_n C 26 0 rfl rfl dX10_as_25 rfl ?_
      refine k_iload_n C 27 1 rfl rfl dX10_as_26 rfl ?_
      refine k_iconst C 28 (v := 0) (by decide) dX10_as_27 rfl ?_
      refine k_callVE C 31 (As := [.int (nI f), .int 0]) (st := []) 91 (by decide) (ce_91 g _) rfl rfl mwX10_58 vlX10_of (qX10_of l g M (f := f) (w := 0) (by omega) (by omega)) mlX10_of (by decide) (by decide) rfl rfl (Nat.le_of_ble_eq_true rfl) dX10_as_28 rfl ?_
      refine k_istore_n C 32 [(3, .int (mF M f 0)), (0, .ref (ga g 91)), (1, .int (nI f)), (2, .int w)] rfl (by decide) rfl dX10_as_31 rfl ?_
      refine k_iload_n C 33 3 rfl rfl dX10_as_32 rfl ?_
      refine k_if_eq C 61 36 dX10_as_33 (by decide) rfl (fun c33 => ?_) (fun d33 => ?_)
      · skip
        refine k_iconst C 62 (v := 1) (by decide) dX10_as_61 rfl ?_
        refine k_goto C 66 dX10_as_62 (by decide) ?_
        refine k_istore C 68 [(4, .int 1), (3, .int (mF M f 0)), (0, .ref (ga g 91)), (1, .int (nI f)), (2, .int w)]  (by decide) rfl dX10_as_66 rfl ?_
        refine k_iload C 70 0  rfl dX10_as_68 rfl ?_
        refine k_if_eq C 82 73 dX10_as_70 (by decide) rfl (fun c70 => ?_) (fun d70 => ?_)
        · skip
          exact absurd c70 (by decide)
        · skip
          refine k_aload_n C 74 2 rfl rfl dX10_as_73 rfl ?_
          refine k_iload_n C 75 3 rfl rfl dX10_as_74 rfl ?_
          refine k_iconst C 76 (v := 1) (by decide) dX10_as_75 rfl ?_
          refine k_callVE C 79 (As := [.int (nI f), .int 1]) (st := []) 91 (by decide) (ce_91 g _) rfl rfl mwX10_58 vlX10_of (qX10_of l g M (f := f) (w := 1) (by omega) (by omega)) mlX10_of (by decide) (by decide) rfl rfl (Nat.le_of_ble_eq_true rfl) dX10_as_76 rfl ?_
          refine k_goto C 88 dX10_as_79 (by decide) ?_
          refine k_ret C rfl dX10_as_88 ?_
          have hp : pOf (mF M f 0) w = true := by
            clear hw
            unfold pOf
            simp only [Bool.or_eq_true, Bool.and_eq_true, decide_eq_true_eq]
            have y : ∀ a b : Int32, a = b → b = a := fun _ _ h => h.symm
            exact Or.inl (Or.inl (Or.inl c33.symm))
          exact ⟨by rw [if_pos hp], by rw [if_pos hp]⟩
      · skip
        refine k_iload_n C 37 3 rfl rfl dX10_as_36 rfl ?_
        refine k_iload_n C 38 0 rfl rfl dX10_as_37 rfl ?_
        refine k_icmp_eq C 61 41 dX10_as_38 (by decide) rfl (fun c38 => ?_) (fun d38 => ?_)
        · skip
          refine k_iconst C 62 (v := 1) (by decide) dX10_as_61 rfl ?_
          refine k_goto C 66 dX10_as_62 (by decide) ?_
          refine k_istore C 68 [(4, .int 1), (3, .int (mF M f 0)), (0, .ref (ga g 91)), (1, .int (nI f)), (2, .int w)]  (by decide) rfl dX10_as_66 rfl ?_
          refine k_iload C 70 0  rfl dX10_as_68 rfl ?_
          refine k_if_eq C 82 73 dX10_as_70 (by decide) rfl (fun c70 => ?_) (fun d70 => ?_)
          · skip
            exact absurd c70 (by decide)
          · skip
            refine k_aload_n C 74 2 rfl rfl dX10_as_73 rfl ?_
            refine k_iload_n C 75 3 rfl rfl dX10_as_74 rfl ?_
            refine k_iconst C 76 (v := 1) (by decide) dX10_as_75 rfl ?_
            refine k_callVE C 79 (As := [.int (nI f), .int 1]) (st := []) 91 (by decide) (ce_91 g _) rfl rfl mwX10_58 vlX10_of (qX10_of l g M (f := f) (w := 1) (by omega) (by omega)) mlX10_of (by decide) (by decide) rfl rfl (Nat.le_of_ble_eq_true rfl) dX10_as_76 rfl ?_
            refine k_goto C 88 dX10_as_79 (by decide) ?_
            refine k_ret C rfl dX10_as_88 ?_
            have hp : pOf (mF M f 0) w = true := by
              clear hw
              unfold pOf
              simp only [Bool.or_eq_true, Bool.and_eq_true, decide_eq_true_eq]
              have y : ∀ a b : Int32, a = b → b = a := fun _ _ h => h.symm
              exact Or.inl (Or.inl (Or.inr c38.symm))
            exact ⟨by rw [if_pos hp], by rw [if_pos hp]⟩
        · skip
          refine k_iload_n C 42 3 rfl rfl dX10_as_41 rfl ?_
          refine k_iconst C 43 (v := 1) (by decide) dX10_as_42 rfl ?_
          refine k_icmp_ne C 51 46 dX10_as_43 (by decide) rfl (fun c43 => ?_) (fun d43 => ?_)
          · skip
            refine k_iload_n C 52 3 rfl rfl dX10_as_51 rfl ?_
            refine k_iconst C 53 (v := 2) (by decide) dX10_as_52 rfl ?_
            refine k_icmp_ne C 65 56 dX10_as_53 (by decide) rfl (fun c53 => ?_) (fun d53 => ?_)
            · skip
              refine k_iconst C 66 (v := 0) (by decide) dX10_as_65 rfl ?_
              refine k_istore C 68 [(4, .int 0), (3, .int (mF M f 0)), (0, .ref (ga g 91)), (1, .int (nI f)), (2, .int w)]  (by decide) rfl dX10_as_66 rfl ?_
              refine k_iload C 70 0  rfl dX10_as_68 rfl ?_
              refine k_if_eq C 82 73 dX10_as_70 (by decide) rfl (fun c70 => ?_) (fun d70 => ?_)
              · skip
                refine k_aload_n C 83 2 rfl rfl dX10_as_82 rfl ?_
                refine k_ldc C 85 cwX10_114 dX10_as_83 rfl ?_
                refine k_callVE C 88 (As := [.int (-1000000005)]) (st := []) 91 (by decide) (ce_91 g _) rfl rfl mwX10_95 vlX10_error (qX10_error l g M (-1000000005) (k := 5) (by decide) (by decide)) mlX10_error (by decide) (by decide) rfl rfl (Nat.le_of_ble_eq_true rfl) dX10_as_85 rfl ?_
                refine k_ret C rfl dX10_as_88 ?_
                have hp : ¬ pOf (mF M f 0) w = true := by
                  clear hw
                  unfold pOf
                  simp only [Bool.or_eq_true, Bool.and_eq_true, decide_eq_true_eq]
                  have y : ∀ a b : Int32, a = b → b = a := fun _ _ h => h.symm
                  rintro (((h | h) | ⟨h, h2⟩) | ⟨h, h2⟩)
                  · exact d33 h.symm
                  · exact d38 h.symm
                  · exact c43 h.symm
                  · exact c53 h.symm
                exact ⟨by rw [if_neg hp], by rw [if_neg hp]⟩
              · skip
                exact absurd d70 (by decide)
            · skip
              refine k_iload_n C 57 0 rfl rfl dX10_as_56 rfl ?_
              refine k_iconst C 58 (v := 5) (by decide) dX10_as_57 rfl ?_
              refine k_icmp_ne C 65 61 dX10_as_58 (by decide) rfl (fun c58 => ?_) (fun d58 => ?_)
              · skip
                refine k_iconst C 66 (v := 0) (by decide) dX10_as_65 rfl ?_
                refine k_istore C 68 [(4, .int 0), (3, .int (mF M f 0)), (0, .ref (ga g 91)), (1, .int (nI f)), (2, .int w)]  (by decide) rfl dX10_as_66 rfl ?_
                refine k_iload C 70 0  rfl dX10_as_68 rfl ?_
                refine k_if_eq C 82 73 dX10_as_70 (by decide) rfl (fun c70 => ?_) (fun d70 => ?_)
                · skip
                  refine k_aload_n C 83 2 rfl rfl dX10_as_82 rfl ?_
                  refine k_ldc C 85 cwX10_114 dX10_as_83 rfl ?_
                  refine k_callVE C 88 (As := [.int (-1000000005)]) (st := []) 91 (by decide) (ce_91 g _) rfl rfl mwX10_95 vlX10_error (qX10_error l g M (-1000000005) (k := 5) (by decide) (by decide)) mlX10_error (by decide) (by decide) rfl rfl (Nat.le_of_ble_eq_true rfl) dX10_as_85 rfl ?_
                  refine k_ret C rfl dX10_as_88 ?_
                  have hp : ¬ pOf (mF M f 0) w = true := by
                    clear hw
                    unfold pOf
                    simp only [Bool.or_eq_true, Bool.and_eq_true, decide_eq_true_eq]
                    have y : ∀ a b : Int32, a = b → b = a := fun _ _ h => h.symm
                    rintro (((h | h) | ⟨h, h2⟩) | ⟨h, h2⟩)
                    · exact d33 h.symm
                    · exact d38 h.symm
                    · exact c43 h.symm
                    · exact c58 h2
                  exact ⟨by rw [if_neg hp], by rw [if_neg hp]⟩
                · skip
                  exact absurd d70 (by decide)
              · skip
                refine k_iconst C 62 (v := 1) (by decide) dX10_as_61 rfl ?_
                refine k_goto C 66 dX10_as_62 (by decide) ?_
                refine k_istore C 68 [(4, .int 1), (3, .int (mF M f 0)), (0, .ref (ga g 91)), (1, .int (nI f)), (2, .int w)]  (by decide) rfl dX10_as_66 rfl ?_
                refine k_iload C 70 0  rfl dX10_as_68 rfl ?_
                refine k_if_eq C 82 73 dX10_as_70 (by decide) rfl (fun c70 => ?_) (fun d70 => ?_)
                · skip
                  exact absurd c70 (by decide)
                · skip
                  refine k_aload_n C 74 2 rfl rfl dX10_as_73 rfl ?_
                  refine k_iload_n C 75 3 rfl rfl dX10_as_74 rfl ?_
                  refine k_iconst C 76 (v := 1) (by decide) dX10_as_75 rfl ?_
                  refine k_callVE C 79 (As := [.int (nI f), .int 1]) (st := []) 91 (by decide) (ce_91 g _) rfl rfl mwX10_58 vlX10_of (qX10_of l g M (f := f) (w := 1) (by omega) (by omega)) mlX10_of (by decide) (by decide) rfl rfl (Nat.le_of_ble_eq_true rfl) dX10_as_76 rfl ?_
                  refine k_goto C 88 dX10_as_79 (by decide) ?_
                  refine k_ret C rfl dX10_as_88 ?_
                  have hp : pOf (mF M f 0) w = true := by
                    clear hw
                    unfold pOf
                    simp only [Bool.or_eq_true, Bool.and_eq_true, decide_eq_true_eq]
                    have y : ∀ a b : Int32, a = b → b = a := fun _ _ h => h.symm
                    exact Or.inr ⟨d53.symm, d58⟩
                  exact ⟨by rw [if_pos hp], by rw [if_pos hp]⟩
          · skip
            refine k_iload_n C 47 0 rfl rfl dX10_as_46 rfl ?_
            refine k_iconst C 48 (v := 4) (by decide) dX10_as_47 rfl ?_
            refine k_icmp_eq C 61 51 dX10_as_48 (by decide) rfl (fun c48 => ?_) (fun d48 => ?_)
            · skip
              refine k_iconst C 62 (v := 1) (by decide) dX10_as_61 rfl ?_
              refine k_goto C 66 dX10_as_62 (by decide) ?_
              refine k_istore C 68 [(4, .int 1), (3, .int (mF M f 0)), (0, .ref (ga g 91)), (1, .int (nI f)), (2, .int w)]  (by decide) rfl dX10_as_66 rfl ?_
              refine k_iload C 70 0  rfl dX10_as_68 rfl ?_
              refine k_if_eq C 82 73 dX10_as_70 (by decide) rfl (fun c70 => ?_) (fun d70 => ?_)
              · skip
                exact absurd c70 (by decide)
              · skip
                refine k_aload_n C 74 2 rfl rfl dX10_as_73 rfl ?_
                refine k_iload_n C 75 3 rfl rfl dX10_as_74 rfl ?_
                refine k_iconst C 76 (v := 1) (by decide) dX10_as_75 rfl ?_
                refine k_callVE C 79 (As := [.int (nI f), .int 1]) (st := []) 91 (by decide) (ce_91 g _) rfl rfl mwX10_58 vlX10_of (qX10_of l g M (f := f) (w := 1) (by omega) (by omega)) mlX10_of (by decide) (by decide) rfl rfl (Nat.le_of_ble_eq_true rfl) dX10_as_76 rfl ?_
                refine k_goto C 88 dX10_as_79 (by decide) ?_
                refine k_ret C rfl dX10_as_88 ?_
                have hp : pOf (mF M f 0) w = true := by
                  clear hw
                  unfold pOf
                  simp only [Bool.or_eq_true, Bool.and_eq_true, decide_eq_true_eq]
                  have y : ∀ a b : Int32, a = b → b = a := fun _ _ h => h.symm
                  exact Or.inl (Or.inr ⟨d43.symm, c48⟩)
                exact ⟨by rw [if_pos hp], by rw [if_pos hp]⟩
            · skip
              refine k_iload_n C 52 3 rfl rfl dX10_as_51 rfl ?_
              refine k_iconst C 53 (v := 2) (by decide) dX10_as_52 rfl ?_
              refine k_icmp_ne C 65 56 dX10_as_53 (by decide) rfl (fun c53 => ?_) (fun d53 => ?_)
              · skip
                refine k_iconst C 66 (v := 0) (by decide) dX10_as_65 rfl ?_
                refine k_istore C 68 [(4, .int 0), (3, .int (mF M f 0)), (0, .ref (ga g 91)), (1, .int (nI f)), (2, .int w)]  (by decide) rfl dX10_as_66 rfl ?_
                refine k_iload C 70 0  rfl dX10_as_68 rfl ?_
                refine k_if_eq C 82 73 dX10_as_70 (by decide) rfl (fun c70 => ?_) (fun d70 => ?_)
                · skip
                  refine k_aload_n C 83 2 rfl rfl dX10_as_82 rfl ?_
                  refine k_ldc C 85 cwX10_114 dX10_as_83 rfl ?_
                  refine k_callVE C 88 (As := [.int (-1000000005)]) (st := []) 91 (by decide) (ce_91 g _) rfl rfl mwX10_95 vlX10_error (qX10_error l g M (-1000000005) (k := 5) (by decide) (by decide)) mlX10_error (by decide) (by decide) rfl rfl (Nat.le_of_ble_eq_true rfl) dX10_as_85 rfl ?_
                  refine k_ret C rfl dX10_as_88 ?_
                  have hp : ¬ pOf (mF M f 0) w = true := by
                    clear hw
                    unfold pOf
                    simp only [Bool.or_eq_true, Bool.and_eq_true, decide_eq_true_eq]
                    have y : ∀ a b : Int32, a = b → b = a := fun _ _ h => h.symm
                    rintro (((h | h) | ⟨h, h2⟩) | ⟨h, h2⟩)
                    · exact d33 h.symm
                    · exact d38 h.symm
                    · exact d48 h2
                    · exact c53 h.symm
                  exact ⟨by rw [if_neg hp], by rw [if_neg hp]⟩
                · skip
                  exact absurd d70 (by decide)
              · skip
                refine k_iload_n C 57 0 rfl rfl dX10_as_56 rfl ?_
                refine k_iconst C 58 (v := 5) (by decide) dX10_as_57 rfl ?_
                refine k_icmp_ne C 65 61 dX10_as_58 (by decide) rfl (fun c58 => ?_) (fun d58 => ?_)
                · skip
                  refine k_iconst C 66 (v := 0) (by decide) dX10_as_65 rfl ?_
                  refine k_istore C 68 [(4, .int 0), (3, .int (mF M f 0)), (0, .ref (ga g 91)), (1, .int (nI f)), (2, .int w)]  (by decide) rfl dX10_as_66 rfl ?_
                  refine k_iload C 70 0  rfl dX10_as_68 rfl ?_
                  refine k_if_eq C 82 73 dX10_as_70 (by decide) rfl (fun c70 => ?_) (fun d70 => ?_)
                  · skip
                    refine k_aload_n C 83 2 rfl rfl dX10_as_82 rfl ?_
                    refine k_ldc C 85 cwX10_114 dX10_as_83 rfl ?_
                    refine k_callVE C 88 (As := [.int (-1000000005)]) (st := []) 91 (by decide) (ce_91 g _) rfl rfl mwX10_95 vlX10_error (qX10_error l g M (-1000000005) (k := 5) (by decide) (by decide)) mlX10_error (by decide) (by decide) rfl rfl (Nat.le_of_ble_eq_true rfl) dX10_as_85 rfl ?_
                    refine k_ret C rfl dX10_as_88 ?_
                    have hp : ¬ pOf (mF M f 0) w = true := by
                      clear hw
                      unfold pOf
                      simp only [Bool.or_eq_true, Bool.and_eq_true, decide_eq_true_eq]
                      have y : ∀ a b : Int32, a = b → b = a := fun _ _ h => h.symm
                      rintro (((h | h) | ⟨h, h2⟩) | ⟨h, h2⟩)
                      · exact d33 h.symm
                      · exact d38 h.symm
                      · exact d48 h2
                      · exact c58 h2
                    exact ⟨by rw [if_neg hp], by rw [if_neg hp]⟩
                  · skip
                    exact absurd d70 (by decide)
                · skip
                  refine k_iconst C 62 (v := 1) (by decide) dX10_as_61 rfl ?_
                  refine k_goto C 66 dX10_as_62 (by decide) ?_
                  refine k_istore C 68 [(4, .int 1), (3, .int (mF M f 0)), (0, .ref (ga g 91)), (1, .int (nI f)), (2, .int w)]  (by decide) rfl dX10_as_66 rfl ?_
                  refine k_iload C 70 0  rfl dX10_as_68 rfl ?_
                  refine k_if_eq C 82 73 dX10_as_70 (by decide) rfl (fun c70 => ?_) (fun d70 => ?_)
                  · skip
                    exact absurd c70 (by decide)
                  · skip
                    refine k_aload_n C 74 2 rfl rfl dX10_as_73 rfl ?_
                    refine k_iload_n C 75 3 rfl rfl dX10_as_74 rfl ?_
                    refine k_iconst C 76 (v := 1) (by decide) dX10_as_75 rfl ?_
                    refine k_callVE C 79 (As := [.int (nI f), .int 1]) (st := []) 91 (by decide) (ce_91 g _) rfl rfl mwX10_58 vlX10_of (qX10_of l g M (f := f) (w := 1) (by omega) (by omega)) mlX10_of (by decide) (by decide) rfl rfl (Nat.le_of_ble_eq_true rfl) dX10_as_76 rfl ?_
                    refine k_goto C 88 dX10_as_79 (by decide) ?_
                    refine k_ret C rfl dX10_as_88 ?_
                    have hp : pOf (mF M f 0) w = true := by
                      clear hw
                      unfold pOf
                      simp only [Bool.or_eq_true, Bool.and_eq_true, decide_eq_true_eq]
                      have y : ∀ a b : Int32, a = b → b = a := fun _ _ h => h.symm
                      exact Or.inr ⟨d53.symm, d58⟩
                    exact ⟨by rw [if_pos hp], by rw [if_pos hp]⟩
    · skip
      exact (bz d15 hw).elim
set_option maxHeartbeats 4000000 in
set_option maxRecDepth 20000 in
theorem qX10_answers_f (l : Launch) (g : GT) (M : Mem) {n : Nat} (hn : M 92 2 = nI n) (h12 : n ≤ 12) (f h : Int32) (hf : (pIsF n f && pIsF n h && !decide (f = h)) = false) : CtrE l g yX10_answers cX10_answers 3 (some .int) 2 [.ref (ga g 91), .int f, .int h] M (-1000000001) (mu M 95 1 (M 95 1 + 1)) := by
  refine ctrI_of (by decide +kernel) (Nat.le_of_ble_eq_true rfl) ?_
  intro pP eE RR sS mI aG bB mE cD C
  refine k_lo (lo' := [(0, .ref (ga g 91)), (1, .int f), (2, .int h)]) rfl ?_
  refine k_aload_n C 1 0 rfl rfl dX10_answers_0 rfl ?_
  refine k_iload_n C 2 1 rfl rfl dX10_answers_1 rfl ?_
  refine k_callVE C 5 (As := [.int f]) (st := []) 91 (by decide) (ce_91 g _) rfl rfl mwX10_102 vlX10_isFurrow (qX10_isFurrow l g M (n := n) hn h12 f) mlX10_isFurrow (by decide) (by decide) rfl rfl (Nat.le_of_ble_eq_true rfl) dX10_answers_2 rfl ?_
  refine k_if_eqB C 21 8 dX10_answers_5 (by decide) rfl (fun c5 => ?_) (fun d5 => ?_)
  · skip
    refine k_aload_n C 22 0 rfl rfl dX10_answers_21 rfl ?_
    refine k_ldc C 24 cwX10_94 dX10_answers_22 rfl ?_
    refine k_callVE C 27 (As := [.int (-1000000001)]) (st := []) 91 (by decide) (ce_91 g _) rfl rfl mwX10_95 vlX10_error (qX10_error l g M (-1000000001) (k := 1) (by decide) (by decide)) mlX10_error (by decide) (by decide) rfl rfl (Nat.le_of_ble_eq_true rfl) dX10_answers_24 rfl ?_
    refine k_ret C rfl dX10_answers_27 ?_
    exact ⟨rfl, rfl⟩
  · skip
    refine k_aload_n C 9 0 rfl rfl dX10_answers_8 rfl ?_
    refine k_iload_n C 10 2 rfl rfl dX10_answers_9 rfl ?_
    refine k_callVE C 13 (As := [.int h]) (st := []) 91 (by decide) (ce_91 g _) rfl rfl mwX10_102 vlX10_isFurrow (qX10_isFurrow l g M (n := n) hn h12 h) mlX10_isFurrow (by decide) (by decide) rfl rfl (Nat.le_of_ble_eq_true rfl) dX10_answers_10 rfl ?_
    refine k_if_eqB C 21 16 dX10_answers_13 (by decide) rfl (fun c13 => ?_) (fun d13 => ?_)
    · skip
      refine k_aload_n C 22 0 rfl rfl dX10_answers_21 rfl ?_
      refine k_ldc C 24 cwX10_94 dX10_answers_22 rfl ?_
      refine k_callVE C 27 (As := [.int (-1000000001)]) (st := []) 91 (by decide) (ce_91 g _) rfl rfl mwX10_95 vlX10_error (qX10_error l g M (-1000000001) (k := 1) (by decide) (by decide)) mlX10_error (by decide) (by decide) rfl rfl (Nat.le_of_ble_eq_true rfl) dX10_answers_24 rfl ?_
      refine k_ret C rfl dX10_answers_27 ?_
      exact ⟨rfl, rfl⟩
    · skip
      refine k_iload_n C 17 1 rfl rfl dX10_answers_16 rfl ?_
      refine k_iload_n C 18 2 rfl rfl dX10_answers_17 rfl ?_
      refine k_icmp_ne C 28 21 dX10_answers_18 (by decide) rfl (fun c18 => ?_) (fun d18 => ?_)
      · skip
        exact (bz hf (by simp [d5, d13, c18])).elim
      · skip
        refine k_aload_n C 22 0 rfl rfl dX10_answers_21 rfl ?_
        refine k_ldc C 24 cwX10_94 dX10_answers_22 rfl ?_
        refine k_callVE C 27 (As := [.int (-1000000001)]) (st := []) 91 (by decide) (ce_91 g _) rfl rfl mwX10_95 vlX10_error (qX10_error l g M (-1000000001) (k := 1) (by decide) (by decide)) mlX10_error (by decide) (by decide) rfl rfl (Nat.le_of_ble_eq_true rfl) dX10_answers_24 rfl ?_
        refine k_ret C rfl dX10_answers_27 ?_
        exact ⟨rfl, rfl⟩
set_option maxHeartbeats 4000000 in
set_option maxRecDepth 20000 in
theorem qX10_answers_t (l : Launch) (g : GT) (M : Mem) {n : Nat} (hn : M 92 2 = nI n) (h12 : n ≤ 12) {f : Nat} (hf : f < n) {b : Nat} (hb : b < n) (hne : f ≠ b) : CtrE l g yX10_answers cX10_answers 3 (some .int) 2 [.ref (ga g 91), .int (nI f), .int (nI b)] M (b2i (pAns (mF M f) (mF M b))) M := by
  refine ctrI_of (by decide +kernel) (Nat.le_of_ble_eq_true rfl) ?_
  intro pP eE RR sS mI aG bB mE cD C
  refine k_lo (lo' := [(0, .ref (ga g 91)), (1, .int (nI f)), (2, .int (nI b))]) rfl ?_
  refine k_aload_n C 1 0 rfl rfl dX10_answers_0 rfl ?_
  refine k_iload_n C 2 1 rfl rfl dX10_answers_1 rfl ?_
  refine k_callVE C 5 (As := [.int (nI f)]) (st := []) 91 (by decide) (ce_91 g _) rfl rfl mwX10_102 vlX10_isFurrow (qX10_isFurrow l g M (n := n) hn h12 (nI f)) mlX10_isFurrow (by decide) (by decide) rfl rfl (Nat.le_of_ble_eq_true rfl) dX10_answers_2 rfl ?_
  refine k_if_eqB C 21 8 dX10_answers_5 (by decide) rfl (fun c5 => ?_) (fun d5 => ?_)
  · skip
    exact (bz c5 (pIsF_lt h12 hf)).elim
  · skip
    refine k_aload_n C 9 0 rfl rfl dX10_answers_8 rfl ?_
    refine k_iload_n C 10 2 rfl rfl dX10_answers_9 rfl ?_
    refine k_callVE C 13 (As := [.int (nI b)]) (st := []) 91 (by decide) (ce_91 g _) rfl rfl mwX10_102 vlX10_isFurrow (qX10_isFurrow l g M (n := n) hn h12 (nI b)) mlX10_isFurrow (by decide) (by decide) rfl rfl (Nat.le_of_ble_eq_true rfl) dX10_answers_10 rfl ?_
    refine k_if_eqB C 21 16 dX10_answers_13 (by decide) rfl (fun c13 => ?_) (fun d13 => ?_)
    · skip
      exact (bz c13 (pIsF_lt h12 hb)).elim
    · skip
      refine k_iload_n C 17 1 rfl rfl dX10_answers_16 rfl ?_
      refine k_iload_n C 18 2 rfl rfl dX10_answers_17 rfl ?_
      refine k_icmp_ne C 28 21 dX10_answers_18 (by decide) rfl (fun c18 => ?_) (fun d18 => ?_)
      · skip
        have c18 := mt (nI_eq (by omega) (by omega)).mpr (show ¬ (nI f = nI b) from c18)
        refine k_aload_n C 29 0 rfl rfl dX10_answers_28 rfl ?_
        refine k_iload_n C 30 1 rfl rfl dX10_answers_29 rfl ?_
        refine k_iload_n C 31 2 rfl rfl dX10_answers_30 rfl ?_
        refine k_callVE C 34 (As := [.int (nI f), .int (nI b)]) (st := []) 91 (by decide) (ce_91 g _) rfl rfl mwX10_70 vlX10_doesAnswer (qX10_doesAnswer l g M (a := f) (b := b) (by omega) (by omega)) mlX10_doesAnswer (by decide) (by decide) rfl rfl (Nat.le_of_ble_eq_true rfl) dX10_answers_31 rfl ?_
        refine k_if_eqB C 41 37 dX10_answers_34 (by decide) rfl (fun c34 => ?_) (fun d34 => ?_)
        · skip
          refine k_iconst C 42 (v := 0) (by decide) dX10_answers_41 rfl ?_
          refine k_ret C rfl dX10_answers_42 ?_
          exact ⟨b2i_neg c34, rfl⟩
        · skip
          refine k_iconst C 38 (v := 1) (by decide) dX10_answers_37 rfl ?_
          refine k_goto C 42 dX10_answers_38 (by decide) ?_
          refine k_ret C rfl dX10_answers_42 ?_
          exact ⟨b2i_pos d34, rfl⟩
      · skip
        have d18 := (nI_eq (by omega) (by omega)).mp (show nI f = nI b from d18)
        exact absurd d18 hne
set_option maxHeartbeats 4000000 in
set_option maxRecDepth 20000 in
theorem qX10_cover_f (l : Launch) (g : GT) (M : Mem) {n : Nat} (hn : M 92 2 = nI n) (h12 : n ≤ 12) (f v : Int32) (hf : (pIsF n f && (decide (0 ≤ v) && decide (v ≤ 1))) = false) : CtrE l g yX10_cover cX10_cover 3 (some .int) 2 [.ref (ga g 91), .int f, .int v] M (-1000000001) (mu M 95 1 (M 95 1 + 1)) := by
  refine ctrI_of (by decide +kernel) (Nat.le_of_ble_eq_true rfl) ?_
  intro pP eE RR sS mI aG bB mE cD C
  refine k_lo (lo' := [(0, .ref (ga g 91)), (1, .int f), (2, .int v)]) rfl ?_
  refine k_aload_n C 1 0 rfl rfl dX10_cover_0 rfl ?_
  refine k_iload_n C 2 1 rfl rfl dX10_cover_1 rfl ?_
  refine k_callVE C 5 (As := [.int f]) (st := []) 91 (by decide) (ce_91 g _) rfl rfl mwX10_102 vlX10_isFurrow (qX10_isFurrow l g M (n := n) hn h12 f) mlX10_isFurrow (by decide) (by decide) rfl rfl (Nat.le_of_ble_eq_true rfl) dX10_cover_2 rfl ?_
  refine k_if_eqB C 35 8 dX10_cover_5 (by decide) rfl (fun c5 => ?_) (fun d5 => ?_)
  · skip
    refine k_aload_n C 36 0 rfl rfl dX10_cover_35 rfl ?_
    refine k_ldc C 38 cwX10_94 dX10_cover_36 rfl ?_
    refine k_callVE C 41 (As := [.int (-1000000001)]) (st := []) 91 (by decide) (ce_91 g _) rfl rfl mwX10_95 vlX10_error (qX10_error l g M (-1000000001) (k := 1) (by decide) (by decide)) mlX10_error (by decide) (by decide) rfl rfl (Nat.le_of_ble_eq_true rfl) dX10_cover_38 rfl ?_
    refine k_ret C rfl dX10_cover_41 ?_
    exact ⟨rfl, rfl⟩
  · skip
    refine k_iload_n C 9 2 rfl rfl dX10_cover_8 rfl ?_
    refine k_iconst C 10 (v := 0) (by decide) dX10_cover_9 rfl ?_
    refine k_iconst C 11 (v := 1) (by decide) dX10_cover_10 rfl ?_
    refine k_callSE C 14 (As := [.int v, .int 0, .int 1]) (st := []) mwX10_54 skX10_in (qX10_in l g M v 0 1) mlX10_in (by decide) (by decide) rfl rfl (Nat.le_of_ble_eq_true rfl) dX10_cover_11 rfl ?_
    refine k_if_eqB C 35 17 dX10_cover_14 (by decide) rfl (fun c14 => ?_) (fun d14 => ?_)
    · skip
      refine k_aload_n C 36 0 rfl rfl dX10_cover_35 rfl ?_
      refine k_ldc C 38 cwX10_94 dX10_cover_36 rfl ?_
      refine k_callVE C 41 (As := [.int (-1000000001)]) (st := []) 91 (by decide) (ce_91 g _) rfl rfl mwX10_95 vlX10_error (qX10_error l g M (-1000000001) (k := 1) (by decide) (by decide)) mlX10_error (by decide) (by decide) rfl rfl (Nat.le_of_ble_eq_true rfl) dX10_cover_38 rfl ?_
      refine k_ret C rfl dX10_cover_41 ?_
      exact ⟨rfl, rfl⟩
    · skip
      exact (bz hf (by simp [d5, d14])).elim
set_option maxHeartbeats 4000000 in
set_option maxRecDepth 20000 in
theorem qX10_cover_t (l : Launch) (g : GT) (M : Mem) {n : Nat} (hn : M 92 2 = nI n) (h12 : n ≤ 12) {f : Nat} (hf : f < n) {v : Nat} (hv : v < 2) : CtrE l g yX10_cover cX10_cover 3 (some .int) 2 [.ref (ga g 91), .int (nI f), .int (nI v)] M (mF M f 6) (mu M 92 (6 + 7 * f + 6) (nI v)) := by
  refine ctrI_of (by decide +kernel) (Nat.le_of_ble_eq_true rfl) ?_
  intro pP eE RR sS mI aG bB mE cD C
  refine k_lo (lo' := [(0, .ref (ga g 91)), (1, .int (nI f)), (2, .int (nI v))]) rfl ?_
  refine k_aload_n C 1 0 rfl rfl dX10_cover_0 rfl ?_
  refine k_iload_n C 2 1 rfl rfl dX10_cover_1 rfl ?_
  refine k_callVE C 5 (As := [.int (nI f)]) (st := []) 91 (by decide) (ce_91 g _) rfl rfl mwX10_102 vlX10_isFurrow (qX10_isFurrow l g M (n := n) hn h12 (nI f)) mlX10_isFurrow (by decide) (by decide) rfl rfl (Nat.le_of_ble_eq_true rfl) dX10_cover_2 rfl ?_
  refine k_if_eqB C 35 8 dX10_cover_5 (by decide) rfl (fun c5 => ?_) (fun d5 => ?_)
  · skip
    exact (bz c5 (pIsF_lt h12 hf)).elim
  · skip
    refine k_iload_n C 9 2 rfl rfl dX10_cover_8 rfl ?_
    refine k_iconst C 10 (v := 0) (by decide) dX10_cover_9 rfl ?_
    refine k_iconst C 11 (v := 1) (by decide) dX10_cover_10 rfl ?_
    refine k_callSE C 14 (As := [.int (nI v), .int 0, .int 1]) (st := []) mwX10_54 skX10_in (qX10_in l g M (nI v) 0 1) mlX10_in (by decide) (by decide) rfl rfl (Nat.le_of_ble_eq_true rfl) dX10_cover_11 rfl ?_
    refine k_if_eqB C 35 17 dX10_cover_14 (by decide) rfl (fun c14 => ?_) (fun d14 => ?_)
    · skip
      exact (bz c14 (rg_le (a := 0) (b := 1) (Nat.zero_le _) (by omega) (by decide))).elim
    · skip
      refine k_aload_n C 18 0 rfl rfl dX10_cover_17 rfl ?_
      refine k_bipush C 20 (v := 6) (by decide) dX10_cover_18 rfl ?_
      refine k_bipush C 22 (v := 7) (by decide) dX10_cover_20 rfl ?_
      refine k_iload_n C 23 1 rfl rfl dX10_cover_22 rfl ?_
      refine k_imul C 24 dX10_cover_23 rfl ?_
      refine k_teq (pk_mul 7 f) ?_
      refine k_iadd C 25 dX10_cover_24 rfl ?_
      refine k_teq (nI_add 6 (7 * f)) ?_
      refine k_bipush C 27 (v := 6) (by decide) dX10_cover_25 rfl ?_
      refine k_iadd C 28 dX10_cover_27 rfl ?_
      refine k_teq (nI_add (6 + (7 * f)) 6) ?_
      refine k_iload_n C 29 2 rfl rfl dX10_cover_28 rfl ?_
      refine k_callVE C 32 (As := [.int (nI ((6 + (7 * f)) + 6)), .int (nI v)]) (st := []) 91 (by decide) (ce_91 g _) rfl rfl mwX10_111 vlX10_becomes (qX10_becomes l g M (q := (6 + (7 * f)) + 6) (by omega) (nI v)) mlX10_becomes (by decide) (by decide) rfl rfl (Nat.le_of_ble_eq_true rfl) dX10_cover_29 rfl ?_
      refine k_goto C 41 dX10_cover_32 (by decide) ?_
      refine k_ret C rfl dX10_cover_41 ?_
      exact ⟨rfl, rfl⟩
set_option maxHeartbeats 4000000 in
set_option maxRecDepth 20000 in
theorem qX10_redraw_f (l : Launch) (g : GT) (M : Mem) {n : Nat} (hn : M 92 2 = nI n) (h12 : n ≤ 12) (f x : Int32) (hf : (pIsF n f && pLine x) = false) : CtrE l g yX10_redraw cX10_redraw 4 (some .int) 2 [.ref (ga g 91), .int f, .int x] M (-1000000001) (mu M 95 1 (M 95 1 + 1)) := by
  refine ctrI_of (by decide +kernel) (Nat.le_of_ble_eq_true rfl) ?_
  intro pP eE RR sS mI aG bB mE cD C
  refine k_lo (lo' := [(0, .ref (ga g 91)), (1, .int f), (2, .int x)]) rfl ?_
  refine k_aload_n C 1 0 rfl rfl dX10_redraw_0 rfl ?_
  refine k_iload_n C 2 1 rfl rfl dX10_redraw_1 rfl ?_
  refine k_callVE C 5 (As := [.int f]) (st := []) 91 (by decide) (ce_91 g _) rfl rfl mwX10_102 vlX10_isFurrow (qX10_isFurrow l g M (n := n) hn h12 f) mlX10_isFurrow (by decide) (by decide) rfl rfl (Nat.le_of_ble_eq_true rfl) dX10_redraw_2 rfl ?_
  refine k_if_eqB C 15 8 dX10_redraw_5 (by decide) rfl (fun c5 => ?_) (fun d5 => ?_)
  · skip
    refine k_aload_n C 16 0 rfl rfl dX10_redraw_15 rfl ?_
    refine k_ldc C 18 cwX10_94 dX10_redraw_16 rfl ?_
    refine k_callVE C 21 (As := [.int (-1000000001)]) (st := []) 91 (by decide) (ce_91 g _) rfl rfl mwX10_95 vlX10_error (qX10_error l g M (-1000000001) (k := 1) (by decide) (by decide)) mlX10_error (by decide) (by decide) rfl rfl (Nat.le_of_ble_eq_true rfl) dX10_redraw_18 rfl ?_
    refine k_ret C rfl dX10_redraw_21 ?_
    exact ⟨rfl, rfl⟩
  · skip
    refine k_iload_n C 9 2 rfl rfl dX10_redraw_8 rfl ?_
    refine k_callSE C 12 (As := [.int x]) (st := []) mwX10_91 skX10_isLine (qX10_isLine l g M x) mlX10_isLine (by decide) (by decide) rfl rfl (Nat.le_of_ble_eq_true rfl) dX10_redraw_9 rfl ?_
    refine k_if_neB C 22 15 dX10_redraw_12 (by decide) rfl (fun c12 => ?_) (fun d12 => ?_)
    · skip
      exact (bz hf (by simp [d5, c12])).elim
    · skip
      refine k_aload_n C 16 0 rfl rfl dX10_redraw_15 rfl ?_
      refine k_ldc C 18 cwX10_94 dX10_redraw_16 rfl ?_
      refine k_callVE C 21 (As := [.int (-1000000001)]) (st := []) 91 (by decide) (ce_91 g _) rfl rfl mwX10_95 vlX10_error (qX10_error l g M (-1000000001) (k := 1) (by decide) (by decide)) mlX10_error (by decide) (by decide) rfl rfl (Nat.le_of_ble_eq_true rfl) dX10_redraw_18 rfl ?_
      refine k_ret C rfl dX10_redraw_21 ?_
      exact ⟨rfl, rfl⟩
set_option maxHeartbeats 4000000 in
set_option maxRecDepth 20000 in
theorem qX10_redraw_t (l : Launch) (g : GT) (M : Mem) {n : Nat} (hn : M 92 2 = nI n) (h12 : n ≤ 12) {f : Nat} (hf : f < n) (x : Int32) (h1 : pLine x = true) : CtrE l g yX10_redraw cX10_redraw 4 (some .int) 2 [.ref (ga g 91), .int (nI f), .int x] M (10 * mF M f 2 + mF M f 3) (mu (mu M 92 (6 + 7 * f + 2) (x / 10)) 92 (6 + 7 * f + 3) (x - x / 10 * 10)) := by
  refine ctrI_of (by decide +kernel) (Nat.le_of_ble_eq_true rfl) ?_
  intro pP eE RR sS mI aG bB mE cD C
  refine k_lo (lo' := [(0, .ref (ga g 91)), (1, .int (nI f)), (2, .int x)]) rfl ?_
  refine k_aload_n C 1 0 rfl rfl dX10_redraw_0 rfl ?_
  refine k_iload_n C 2 1 rfl rfl dX10_redraw_1 rfl ?_
  refine k_callVE C 5 (As := [.int (nI f)]) (st := []) 91 (by decide) (ce_91 g _) rfl rfl mwX10_102 vlX10_isFurrow (qX10_isFurrow l g M (n := n) hn h12 (nI f)) mlX10_isFurrow (by decide) (by decide) rfl rfl (Nat.le_of_ble_eq_true rfl) dX10_redraw_2 rfl ?_
  refine k_if_eqB C 15 8 dX10_redraw_5 (by decide) rfl (fun c5 => ?_) (fun d5 => ?_)
  · skip
    exact (bz c5 (pIsF_lt h12 hf)).elim
  · skip
    refine k_iload_n C 9 2 rfl rfl dX10_redraw_8 rfl ?_
    refine k_callSE C 12 (As := [.int x]) (st := []) mwX10_91 skX10_isLine (qX10_isLine l g M x) mlX10_isLine (by decide) (by decide) rfl rfl (Nat.le_of_ble_eq_true rfl) dX10_redraw_9 rfl ?_
    refine k_if_neB C 22 15 dX10_redraw_12 (by decide) rfl (fun c12 => ?_) (fun d12 => ?_)
    · skip
      refine k_bipush C 24 (v := 10) (by decide) dX10_redraw_22 rfl ?_
      refine k_aload_n C 25 0 rfl rfl dX10_redraw_24 rfl ?_
      refine k_iload_n C 26 1 rfl rfl dX10_redraw_25 rfl ?_
      refine k_iconst C 27 (v := 2) (by decide) dX10_redraw_26 rfl ?_
      refine k_callVE C 30 (As := [.int (nI f), .int 2]) (st := [.int 10]) 91 (by decide) (ce_91 g _) rfl rfl mwX10_58 vlX10_of (qX10_of l g M (f := f) (w := 2) (by omega) (by omega)) mlX10_of (by decide) (by decide) rfl rfl (Nat.le_of_ble_eq_true rfl) dX10_redraw_27 rfl ?_
      refine k_imul C 31 dX10_redraw_30 rfl ?_
      refine k_aload_n C 32 0 rfl rfl dX10_redraw_31 rfl ?_
      refine k_iload_n C 33 1 rfl rfl dX10_redraw_32 rfl ?_
      refine k_iconst C 34 (v := 3) (by decide) dX10_redraw_33 rfl ?_
      refine k_callVE C 37 (As := [.int (nI f), .int 3]) (st := [.int (10 * (mF M f 2))]) 91 (by decide) (ce_91 g _) rfl rfl mwX10_58 vlX10_of (qX10_of l g M (f := f) (w := 3) (by omega) (by omega)) mlX10_of (by decide) (by decide) rfl rfl (Nat.le_of_ble_eq_true rfl) dX10_redraw_34 rfl ?_
      refine k_iadd C 38 dX10_redraw_37 rfl ?_
      refine k_istore_n C 39 [(3, .int ((10 * (mF M f 2)) + (mF M f 3))), (0, .ref (ga g 91)), (1, .int (nI f)), (2, .int x)] rfl (by decide) rfl dX10_redraw_38 rfl ?_
      refine k_aload_n C 40 1 rfl rfl dX10_redraw_39 rfl ?_
      refine k_iload_n C 41 2 rfl rfl dX10_redraw_40 rfl ?_
      refine k_iconst C 42 (v := 2) (by decide) dX10_redraw_41 rfl ?_
      refine k_iload_n C 43 3 rfl rfl dX10_redraw_42 rfl ?_
      refine k_bipush C 45 (v := 10) (by decide) dX10_redraw_43 rfl ?_
      refine k_idiv C 46 (by decide) dX10_redraw_45 rfl ?_
      refine k_callVU C 49 (As := [.int (nI f), .int 2, .int (x / 10)]) (st := []) 91 (by decide) (ce_91 g _) rfl rfl mwX10_84 vlX10_lets (qX10_lets l g M (f := f) (w := 2) (by omega) (by omega) (x / 10)) mlX10_lets (by decide) (by decide) rfl rfl (Nat.le_of_ble_eq_true rfl) dX10_redraw_46 rfl ?_
      refine k_aload_n C 50 1 rfl rfl dX10_redraw_49 rfl ?_
      refine k_iload_n C 51 2 rfl rfl dX10_redraw_50 rfl ?_
      refine k_iconst C 52 (v := 3) (by decide) dX10_redraw_51 rfl ?_
      refine k_iload_n C 53 3 rfl rfl dX10_redraw_52 rfl ?_
      refine k_bipush C 55 (v := 10) (by decide) dX10_redraw_53 rfl ?_
      refine k_irem C 56 (by decide) dX10_redraw_55 rfl ?_
      refine k_callVU C 59 (As := [.int (nI f), .int 3, .int (x - x / 10 * 10)]) (st := []) 91 (by decide) (ce_91 g _) rfl rfl mwX10_84 vlX10_lets (qX10_lets l g (mu M 92 (6 + 7 * f + 2) (x / 10)) (f := f) (w := 3) (by omega) (by omega) (x - x / 10 * 10)) mlX10_lets (by decide) (by decide) rfl rfl (Nat.le_of_ble_eq_true rfl) dX10_redraw_56 rfl ?_
      refine k_iload_n C 60 0 rfl rfl dX10_redraw_59 rfl ?_
      refine k_ret C rfl dX10_redraw_60 ?_
      exact ⟨rfl, rfl⟩
    · skip
      exact (bz d12 h1).elim
set_option maxHeartbeats 4000000 in
set_option maxRecDepth 20000 in
theorem qX10_patience_f (l : Launch) (g : GT) (M : Mem) (x : Int32) (hf : (decide (1 ≤ x) && decide (x ≤ 20)) = false) : CtrE l g yX10_patience cX10_patience 2 (some .int) 1 [.ref (ga g 91), .int x] M (-1000000001) (mu M 95 1 (M 95 1 + 1)) := by
  refine ctrI_of (by decide +kernel) (Nat.le_of_ble_eq_true rfl) ?_
  intro pP eE RR sS mI aG bB mE cD C
  refine k_lo (lo' := [(0, .ref (ga g 91)), (1, .int x)]) rfl ?_
  refine k_iload_n C 1 1 rfl rfl dX10_patience_0 rfl ?_
  refine k_iconst C 2 (v := 1) (by decide) dX10_patience_1 rfl ?_
  refine k_bipush C 4 (v := 20) (by decide) dX10_patience_2 rfl ?_
  refine k_callSE C 7 (As := [.int x, .int 1, .int 20]) (st := []) mwX10_54 skX10_in (qX10_in l g M x 1 20) mlX10_in (by decide) (by decide) rfl rfl (Nat.le_of_ble_eq_true rfl) dX10_patience_4 rfl ?_
  refine k_if_eqB C 19 10 dX10_patience_7 (by decide) rfl (fun c7 => ?_) (fun d7 => ?_)
  · skip
    refine k_aload_n C 20 0 rfl rfl dX10_patience_19 rfl ?_
    refine k_ldc C 22 cwX10_94 dX10_patience_20 rfl ?_
    refine k_callVE C 25 (As := [.int (-1000000001)]) (st := []) 91 (by decide) (ce_91 g _) rfl rfl mwX10_95 vlX10_error (qX10_error l g M (-1000000001) (k := 1) (by decide) (by decide)) mlX10_error (by decide) (by decide) rfl rfl (Nat.le_of_ble_eq_true rfl) dX10_patience_22 rfl ?_
    refine k_ret C rfl dX10_patience_25 ?_
    exact ⟨rfl, rfl⟩
  · skip
    exact (bz hf (by simp [d7])).elim
set_option maxHeartbeats 4000000 in
set_option maxRecDepth 20000 in
theorem qX10_patience_t (l : Launch) (g : GT) (M : Mem) {x : Nat} (h1 : 1 ≤ x) (h2 : x ≤ 20) : CtrE l g yX10_patience cX10_patience 2 (some .int) 1 [.ref (ga g 91), .int (nI x)] M (M 92 3) (mu M 92 3 (nI x)) := by
  refine ctrI_of (by decide +kernel) (Nat.le_of_ble_eq_true rfl) ?_
  intro pP eE RR sS mI aG bB mE cD C
  refine k_lo (lo' := [(0, .ref (ga g 91)), (1, .int (nI x))]) rfl ?_
  refine k_iload_n C 1 1 rfl rfl dX10_patience_0 rfl ?_
  refine k_iconst C 2 (v := 1) (by decide) dX10_patience_1 rfl ?_
  refine k_bipush C 4 (v := 20) (by decide) dX10_patience_2 rfl ?_
  refine k_callSE C 7 (As := [.int (nI x), .int 1, .int 20]) (st := []) mwX10_54 skX10_in (qX10_in l g M (nI x) 1 20) mlX10_in (by decide) (by decide) rfl rfl (Nat.le_of_ble_eq_true rfl) dX10_patience_4 rfl ?_
  refine k_if_eqB C 19 10 dX10_patience_7 (by decide) rfl (fun c7 => ?_) (fun d7 => ?_)
  · skip
    exact (bz c7 (rg_le (a := 1) (b := 20) h1 h2 (by decide))).elim
  · skip
    refine k_aload_n C 11 0 rfl rfl dX10_patience_10 rfl ?_
    refine k_iconst C 12 (v := 3) (by decide) dX10_patience_11 rfl ?_
    refine k_iload_n C 13 1 rfl rfl dX10_patience_12 rfl ?_
    refine k_callVE C 16 (As := [.int 3, .int (nI x)]) (st := []) 91 (by decide) (ce_91 g _) rfl rfl mwX10_111 vlX10_becomes (qX10_becomes l g M (q := 3) (by omega) (nI x)) mlX10_becomes (by decide) (by decide) rfl rfl (Nat.le_of_ble_eq_true rfl) dX10_patience_13 rfl ?_
    refine k_goto C 25 dX10_patience_16 (by decide) ?_
    refine k_ret C rfl dX10_patience_25 ?_
    exact ⟨rfl, rfl⟩
set_option maxHeartbeats 4000000 in
set_option maxRecDepth 20000 in
theorem qX10_feed_f (l : Launch) (g : GT) (M : Mem) (v : Int64) (k : Int32) (hf : (decide (1 ≤ k) && decide (k ≤ 8)) = false) : CtrE l g yX10_feed cX10_feed 5 (some .int) 1 [.ref (ga g 91), .long v, .int k] M (-1000000001) (mu M 95 1 (M 95 1 + 1)) := by
  refine ctrI_of (by decide +kernel) (Nat.le_of_ble_eq_true rfl) ?_
  intro pP eE RR sS mI aG bB mE cD C
  refine k_lo (lo' := [(0, .ref (ga g 91)), (1, .long v), (3, .int k)]) rfl ?_
  refine k_iload_n C 1 2 rfl rfl dX10_feed_0 rfl ?_
  refine k_iconst C 2 (v := 1) (by decide) dX10_feed_1 rfl ?_
  refine k_bipush C 4 (v := 8) (by decide) dX10_feed_2 rfl ?_
  refine k_callSE C 7 (As := [.int k, .int 1, .int 8]) (st := []) mwX10_54 skX10_in (qX10_in l g M k 1 8) mlX10_in (by decide) (by decide) rfl rfl (Nat.le_of_ble_eq_true rfl) dX10_feed_4 rfl ?_
  refine k_if_neB C 17 10 dX10_feed_7 (by decide) rfl (fun c7 => ?_) (fun d7 => ?_)
  · skip
    exact (bz hf (by simp [c7])).elim
  · skip
    refine k_aload_n C 11 0 rfl rfl dX10_feed_10 rfl ?_
    refine k_ldc C 13 cwX10_94 dX10_feed_11 rfl ?_
    refine k_callVE C 16 (As := [.int (-1000000001)]) (st := []) 91 (by decide) (ce_91 g _) rfl rfl mwX10_95 vlX10_error (qX10_error l g M (-1000000001) (k := 1) (by decide) (by decide)) mlX10_error (by decide) (by decide) rfl rfl (Nat.le_of_ble_eq_true rfl) dX10_feed_13 rfl ?_
    refine k_ret C rfl dX10_feed_16 ?_
    exact ⟨rfl, rfl⟩
set_option maxHeartbeats 4000000 in
set_option maxRecDepth 20000 in
theorem qX10_feed_full (l : Launch) (g : GT) (M : Mem) (v : Int64) {k : Nat} (h1 : 1 ≤ k) (h2 : k ≤ 8) {z : Nat} (hz : M 92 4 = nI z) (h60 : z ≤ 60) (hzk : 60 < z + k) : CtrE l g yX10_feed cX10_feed 5 (some .int) 1 [.ref (ga g 91), .long v, .int (nI k)] M (-1000000004) (mu M 95 4 (M 95 4 + 1)) := by
  refine ctrI_of (by decide +kernel) (Nat.le_of_ble_eq_true rfl) ?_
  intro pP eE RR sS mI aG bB mE cD C
  refine k_lo (lo' := [(0, .ref (ga g 91)), (1, .long v), (3, .int (nI k))]) rfl ?_
  refine k_iload_n C 1 2 rfl rfl dX10_feed_0 rfl ?_
  refine k_iconst C 2 (v := 1) (by decide) dX10_feed_1 rfl ?_
  refine k_bipush C 4 (v := 8) (by decide) dX10_feed_2 rfl ?_
  refine k_callSE C 7 (As := [.int (nI k), .int 1, .int 8]) (st := []) mwX10_54 skX10_in (qX10_in l g M (nI k) 1 8) mlX10_in (by decide) (by decide) rfl rfl (Nat.le_of_ble_eq_true rfl) dX10_feed_4 rfl ?_
  refine k_if_neB C 17 10 dX10_feed_7 (by decide) rfl (fun c7 => ?_) (fun d7 => ?_)
  · skip
    refine k_aload_n C 18 0 rfl rfl dX10_feed_17 rfl ?_
    refine k_get C 21 flX10_9 91 (by decide) (v := .ref (ga g 92)) (ce_91 g _) rfl dX10_feed_18 rfl ?_
    refine k_iconst C 22 (v := 4) (by decide) dX10_feed_21 rfl ?_
    refine k_iald C 23 92 4 (by decide) (ce_92 g) (by decide) rfl (by omega) dX10_feed_22 rfl ?_
    refine k_teq (y := nI z) hz ?_
    refine k_iload_n C 24 2 rfl rfl dX10_feed_23 rfl ?_
    refine k_iadd C 25 dX10_feed_24 rfl ?_
    refine k_teq (nI_add z k) ?_
    refine k_bipush C 27 (v := 60) (by decide) dX10_feed_25 rfl ?_
    refine k_icmp_le C 37 30 dX10_feed_27 (by decide) rfl (fun c27 => ?_) (fun d27 => ?_)
    · skip
      have c27 := (nI_leI (by omega) (by omega)).mp (show nI (z + k) ≤ nI 60 from c27)
      exact absurd c27 (by omega)
    · skip
      have d27 := mt (nI_leI (by omega) (by omega)).mpr (show ¬ (nI (z + k) ≤ nI 60) from d27)
      refine k_aload_n C 31 0 rfl rfl dX10_feed_30 rfl ?_
      refine k_ldc C 33 cwX10_98 dX10_feed_31 rfl ?_
      refine k_callVE C 36 (As := [.int (-1000000004)]) (st := []) 91 (by decide) (ce_91 g _) rfl rfl mwX10_95 vlX10_error (qX10_error l g M (-1000000004) (k := 4) (by decide) (by decide)) mlX10_error (by decide) (by decide) rfl rfl (Nat.le_of_ble_eq_true rfl) dX10_feed_33 rfl ?_
      refine k_ret C rfl dX10_feed_36 ?_
      exact ⟨rfl, rfl⟩
  · skip
    exact (bz d7 (rg_le (a := 1) (b := 8) h1 h2 (by decide))).elim
set_option maxHeartbeats 4000000 in
set_option maxRecDepth 20000 in
theorem qX10_feed_t (l : Launch) (g : GT) (M : Mem) (v : Int64) {k : Nat} (h1 : 1 ≤ k) (h2 : k ≤ 8) {z : Nat} (hz : M 92 4 = nI z) (h60 : z ≤ 60) (hzk : z + k ≤ 60) : CtrE l g yX10_feed cX10_feed 5 (some .int) 1 [.ref (ga g 91), .long v, .int (nI k)] M (nI (z + k)) (feedM M z v k) := by
  refine ctrI_of (by decide +kernel) (Nat.le_of_ble_eq_true rfl) ?_
  intro pP eE RR sS mI aG bB mE cD C
  refine k_lo (lo' := [(0, .ref (ga g 91)), (1, .long v), (3, .int (nI k))]) rfl ?_
  refine k_iload_n C 1 2 rfl rfl dX10_feed_0 rfl ?_
  refine k_iconst C 2 (v := 1) (by decide) dX10_feed_1 rfl ?_
  refine k_bipush C 4 (v := 8) (by decide) dX10_feed_2 rfl ?_
  refine k_callSE C 7 (As := [.int (nI k), .int 1, .int 8]) (st := []) mwX10_54 skX10_in (qX10_in l g M (nI k) 1 8) mlX10_in (by decide) (by decide) rfl rfl (Nat.le_of_ble_eq_true rfl) dX10_feed_4 rfl ?_
  refine k_if_neB C 17 10 dX10_feed_7 (by decide) rfl (fun c7 => ?_) (fun d7 => ?_)
  · skip
    refine k_aload_n C 18 0 rfl rfl dX10_feed_17 rfl ?_
    refine k_get C 21 flX10_9 91 (by decide) (v := .ref (ga g 92)) (ce_91 g _) rfl dX10_feed_18 rfl ?_
    refine k_iconst C 22 (v := 4) (by decide) dX10_feed_21 rfl ?_
    refine k_iald C 23 92 4 (by decide) (ce_92 g) (by decide) rfl (by omega) dX10_feed_22 rfl ?_
    refine k_teq (y := nI z) hz ?_
    refine k_iload_n C 24 2 rfl rfl dX10_feed_23 rfl ?_
    refine k_iadd C 25 dX10_feed_24 rfl ?_
    refine k_teq (nI_add z k) ?_
    refine k_bipush C 27 (v := 60) (by decide) dX10_feed_25 rfl ?_
    refine k_icmp_le C 37 30 dX10_feed_27 (by decide) rfl (fun c27 => ?_) (fun d27 => ?_)
    · skip
      have c27 := (nI_leI (by omega) (by omega)).mp (show nI (z + k) ≤ nI 60 from c27)
      refine k_iconst C 38 (v := 0) (by decide) dX10_feed_37 rfl ?_
      refine k_istore C 40 [(4, .int 0), (0, .ref (ga g 91)), (1, .long v), (3, .int (nI k))]  (by decide) rfl dX10_feed_38 rfl ?_
      refine k_sub [(0, .ref (ga g 91)), (1, .long v), (3, .int (nI k)), (4, .int 0)] [1, 2, 3, 0] rfl ?_
      refine k_all (M' := feedM M z v 0) (lo' := [(0, .ref (ga g 91)), (1, .long v), (3, .int (nI k)), (4, .int (nI 0))]) (st' := []) (by rfl) (by rfl) rfl ?_
      refine k_loop (σ := Nat) (fun (i : Nat) => (i ≤ k)) (fun (i : Nat) => k - i) (fun (i : Nat) => feedM M z v i) (fun (i : Nat) => [(0, .ref (ga g 91)), (1, .long v), (3, .int (nI k)), (4, .int (nI i))]) 0 (show (0 ≤ k) from by exact Nat.zero_le _) ?_
      rintro i hI ih
      have hI : (i ≤ k) := hI
      have hi := hI
      show KW pP l eE RR sS mI aG bB mE cD g 5 _ (feedM M z v i) 40 [(0, .ref (ga g 91)), (1, .long v), (3, .int (nI k)), (4, .int (nI i))] []
      refine k_iload C 42 3  rfl dX10_feed_40 rfl ?_
      refine k_iload_n C 43 2 rfl rfl dX10_feed_42 rfl ?_
      refine k_icmp_ge C 88 46 dX10_feed_43 (by decide) rfl (fun c43 => ?_) (fun d43 => ?_)
      · skip
        have c43 := (nI_leI (by omega) (by omega)).mp (show nI k ≤ nI i from c43)
        refine k_aload_n C 89 0 rfl rfl dX10_feed_88 rfl ?_
        refine k_get C 92 flX10_9 91 (by decide) (v := .ref (ga g 92)) (ce_91 g _) rfl dX10_feed_89 rfl ?_
        refine k_iconst C 93 (v := 4) (by decide) dX10_feed_92 rfl ?_
        refine k_iald C 94 92 4 (by decide) (ce_92 g) (by decide) rfl (by omega) dX10_feed_93 rfl ?_
        refine k_teq (y := nI (z + i)) (feedM_4 hz v i) ?_
        refine k_ret C rfl dX10_feed_94 ?_
        exact ⟨by rw [show i = k by omega], by rw [show i = k by omega]⟩
      · skip
        have d43 := mt (nI_leI (by omega) (by omega)).mpr (show ¬ (nI k ≤ nI i) from d43)
        refine k_aload_n C 47 0 rfl rfl dX10_feed_46 rfl ?_
        refine k_get C 50 flX10_9 91 (by decide) (v := .ref (ga g 92)) (ce_91 g _) rfl dX10_feed_47 rfl ?_
        refine k_bipush C 52 (v := 90) (by decide) dX10_feed_50 rfl ?_
        refine k_aload_n C 53 0 rfl rfl dX10_feed_52 rfl ?_
        refine k_get C 56 flX10_9 91 (by decide) (v := .ref (ga g 92)) (ce_91 g _) rfl dX10_feed_53 rfl ?_
        refine k_iconst C 57 (v := 4) (by decide) dX10_feed_56 rfl ?_
        refine k_iald C 58 92 4 (by decide) (ce_92 g) (by decide) rfl (by omega) dX10_feed_57 rfl ?_
        refine k_teq (y := nI (z + i)) (feedM_4 hz v i) ?_
        refine k_iadd C 59 dX10_feed_58 rfl ?_
        refine k_teq (nI_add 90 (z + i)) ?_
        refine k_lload_n C 60 1 rfl rfl dX10_feed_59 rfl ?_
        refine k_bipush C 62 (v := 8) (by decide) dX10_feed_60 rfl ?_
        refine k_iload C 64 3  rfl dX10_feed_62 rfl ?_
        refine k_imul C 65 dX10_feed_64 rfl ?_
        refine k_teq (pk_mul 8 i) ?_
        refine k_lshr C 66 dX10_feed_65 rfl ?_
        refine k_ldc2 C 69 cwX10_115 dX10_feed_66 rfl ?_
        refine k_land C 70 dX10_feed_69 rfl ?_
        refine k_l2i C 71 dX10_feed_70 rfl ?_
        refine k_iast C 72 92 (90 + (z + i)) (by decide) (ce_92 g) (by decide) rfl (by omega) dX10_feed_71 rfl ?_
        refine k_aload_n C 73 0 rfl rfl dX10_feed_72 rfl ?_
        refine k_get C 76 flX10_9 91 (by decide) (v := .ref (ga g 92)) (ce_91 g _) rfl dX10_feed_73 rfl ?_
        refine k_iconst C 77 (v := 4) (by decide) dX10_feed_76 rfl ?_
        refine k_dup2 C 78 rfl rfl dX10_feed_77 rfl ?_
        refine k_iald C 79 92 4 (by decide) (ce_92 g) (by decide) rfl (by omega) dX10_feed_78 rfl ?_
        refine k_iconst C 80 (v := 1) (by decide) dX10_feed_79 rfl ?_
        refine k_iadd C 81 dX10_feed_80 rfl ?_
        refine k_iast C 82 92 4 (by decide) (ce_92 g) (by decide) rfl (by omega) dX10_feed_81 rfl ?_
        refine k_iinc C 85 (nI (i + 1)) 3 [(4, .int (nI (i + 1))), (0, .ref (ga g 91)), (1, .long v), (3, .int (nI k))] rfl (iinc_p i) (by decide) rfl dX10_feed_82 rfl ?_
        refine k_goto C 40 dX10_feed_85 (by decide) ?_
        refine k_sub [(0, .ref (ga g 91)), (1, .long v), (3, .int (nI k)), (4, .int (nI (i + 1)))] [1, 2, 3, 0] rfl ?_
        refine k_all (M' := feedM M z v (i + 1)) (lo' := [(0, .ref (ga g 91)), (1, .long v), (3, .int (nI k)), (4, .int (nI (i + 1)))]) (st' := []) (by simp only [feedM]; rw [mu_o _ _ _ (show (4 : Nat) ≠ 90 + (z + i) by omega), feedM_4 hz v i, show nI (z + i) + 1 = nI (z + i + 1) from nI_add _ 1]) (by rfl) rfl ?_
        exact ih (i + 1) (show ((i + 1) ≤ k) from by omega) (by show k - (i + 1) < _; omega)
    · skip
      have d27 := mt (nI_leI (by omega) (by omega)).mpr (show ¬ (nI (z + k) ≤ nI 60) from d27)
      exact absurd d27 (by omega)
  · skip
    exact (bz d7 (rg_le (a := 1) (b := 8) h1 h2 (by decide))).elim
set_option maxHeartbeats 4000000 in
set_option maxRecDepth 20000 in
theorem qX10_untell_f (l : Launch) (g : GT) (M : Mem) (u : Int32) (hf : (decide (0 ≤ u) && decide (u ≤ 1)) = false) : CtrE l g yX10_untell cX10_untell 2 (some .int) 1 [.ref (ga g 91), .int u] M (-1000000001) (mu M 95 1 (M 95 1 + 1)) := by
  refine ctrI_of (by decide +kernel) (Nat.le_of_ble_eq_true rfl) ?_
  intro pP eE RR sS mI aG bB mE cD C
  refine k_lo (lo' := [(0, .ref (ga g 91)), (1, .int u)]) rfl ?_
  refine k_iload_n C 1 1 rfl rfl dX10_untell_0 rfl ?_
  refine k_iconst C 2 (v := 0) (by decide) dX10_untell_1 rfl ?_
  refine k_iconst C 3 (v := 1) (by decide) dX10_untell_2 rfl ?_
  refine k_callSE C 6 (As := [.int u, .int 0, .int 1]) (st := []) mwX10_54 skX10_in (qX10_in l g M u 0 1) mlX10_in (by decide) (by decide) rfl rfl (Nat.le_of_ble_eq_true rfl) dX10_untell_3 rfl ?_
  refine k_if_neB C 16 9 dX10_untell_6 (by decide) rfl (fun c6 => ?_) (fun d6 => ?_)
  · skip
    exact (bz hf (by simp [c6])).elim
  · skip
    refine k_aload_n C 10 0 rfl rfl dX10_untell_9 rfl ?_
    refine k_ldc C 12 cwX10_94 dX10_untell_10 rfl ?_
    refine k_callVE C 15 (As := [.int (-1000000001)]) (st := []) 91 (by decide) (ce_91 g _) rfl rfl mwX10_95 vlX10_error (qX10_error l g M (-1000000001) (k := 1) (by decide) (by decide)) mlX10_error (by decide) (by decide) rfl rfl (Nat.le_of_ble_eq_true rfl) dX10_untell_12 rfl ?_
    refine k_ret C rfl dX10_untell_15 ?_
    exact ⟨rfl, rfl⟩
set_option maxHeartbeats 4000000 in
set_option maxRecDepth 20000 in
theorem qX10_untell_t (l : Launch) (g : GT) (M : Mem) {u : Nat} (hu : u < 2) {n0 : Nat} (h0 : M 92 (174 + 121 * u) = nI n0) (h60 : n0 ≤ 60) : CtrE l g yX10_untell cX10_untell 2 (some .int) 1 [.ref (ga g 91), .int (nI u)] M (b2i (decide (0 < n0))) (mu M 92 (174 + 121 * u) 0) := by
  refine ctrI_of (by decide +kernel) (Nat.le_of_ble_eq_true rfl) ?_
  intro pP eE RR sS mI aG bB mE cD C
  refine k_lo (lo' := [(0, .ref (ga g 91)), (1, .int (nI u))]) rfl ?_
  refine k_iload_n C 1 1 rfl rfl dX10_untell_0 rfl ?_
  refine k_iconst C 2 (v := 0) (by decide) dX10_untell_1 rfl ?_
  refine k_iconst C 3 (v := 1) (by decide) dX10_untell_2 rfl ?_
  refine k_callSE C 6 (As := [.int (nI u), .int 0, .int 1]) (st := []) mwX10_54 skX10_in (qX10_in l g M (nI u) 0 1) mlX10_in (by decide) (by decide) rfl rfl (Nat.le_of_ble_eq_true rfl) dX10_untell_3 rfl ?_
  refine k_if_neB C 16 9 dX10_untell_6 (by decide) rfl (fun c6 => ?_) (fun d6 => ?_)
  · skip
    refine k_aload_n C 17 0 rfl rfl dX10_untell_16 rfl ?_
    refine k_sipush C 20 (v := 174) (by decide) dX10_untell_17 rfl ?_
    refine k_bipush C 22 (v := 121) (by decide) dX10_untell_20 rfl ?_
    refine k_iload_n C 23 1 rfl rfl dX10_untell_22 rfl ?_
    refine k_imul C 24 dX10_untell_23 rfl ?_
    refine k_teq (pk_mul 121 u) ?_
    refine k_iadd C 25 dX10_untell_24 rfl ?_
    refine k_teq (nI_add 174 (121 * u)) ?_
    refine k_iconst C 26 (v := 0) (by decide) dX10_untell_25 rfl ?_
    refine k_callVE C 29 (As := [.int (nI (174 + (121 * u))), .int 0]) (st := []) 91 (by decide) (ce_91 g _) rfl rfl mwX10_111 vlX10_becomes (qX10_becomes l g M (q := 174 + (121 * u)) (by omega) 0) mlX10_becomes (by decide) (by decide) rfl rfl (Nat.le_of_ble_eq_true rfl) dX10_untell_26 rfl ?_
    refine k_teq (y := nI n0) h0 ?_
    refine k_if_le C 36 32 dX10_untell_29 (by decide) rfl (fun c29 => ?_) (fun d29 => ?_)
    · skip
      have c29 := (nI_leI (by omega) (by omega)).mp (show nI n0 ≤ nI 0 from c29)
      refine k_iconst C 37 (v := 0) (by decide) dX10_untell_36 rfl ?_
      refine k_ret C rfl dX10_untell_37 ?_
      exact ⟨b2i_neg (by simp; omega), rfl⟩
    · skip
      have d29 := mt (nI_leI (by omega) (by omega)).mpr (show ¬ (nI n0 ≤ nI 0) from d29)
      refine k_iconst C 33 (v := 1) (by decide) dX10_untell_32 rfl ?_
      refine k_goto C 37 dX10_untell_33 (by decide) ?_
      refine k_ret C rfl dX10_untell_37 ?_
      exact ⟨b2i_pos (by simp; omega), rfl⟩
  · skip
    exact (bz d6 (rg_le (a := 0) (b := 1) (Nat.zero_le _) (by omega) (by decide))).elim
set_option maxHeartbeats 4000000 in
set_option maxRecDepth 20000 in
theorem qX10_law_f (l : Launch) (g : GT) (M : Mem) (u a b c : Int32) (hf : (decide (0 ≤ u) && decide (u ≤ 1)) = false) : CtrE l g yX10_law cX10_law 5 (some .int) 1 [.ref (ga g 91), .int u, .int a, .int b, .int c] M (-1000000001) (mu M 95 1 (M 95 1 + 1)) := by
  refine ctrI_of (by decide +kernel) (Nat.le_of_ble_eq_true rfl) ?_
  intro pP eE RR sS mI aG bB mE cD C
  refine k_lo (lo' := [(0, .ref (ga g 91)), (1, .int u), (2, .int a), (3, .int b), (4, .int c)]) rfl ?_
  refine k_iload_n C 1 1 rfl rfl dX10_law_0 rfl ?_
  refine k_iconst C 2 (v := 0) (by decide) dX10_law_1 rfl ?_
  refine k_iconst C 3 (v := 1) (by decide) dX10_law_2 rfl ?_
  refine k_callSE C 6 (As := [.int u, .int 0, .int 1]) (st := []) mwX10_54 skX10_in (qX10_in l g M u 0 1) mlX10_in (by decide) (by decide) rfl rfl (Nat.le_of_ble_eq_true rfl) dX10_law_3 rfl ?_
  refine k_if_eqB C 21 9 dX10_law_6 (by decide) rfl (fun c6 => ?_) (fun d6 => ?_)
  · skip
    refine k_aload_n C 22 0 rfl rfl dX10_law_21 rfl ?_
    refine k_ldc C 24 cwX10_94 dX10_law_22 rfl ?_
    refine k_callVE C 27 (As := [.int (-1000000001)]) (st := []) 91 (by decide) (ce_91 g _) rfl rfl mwX10_95 vlX10_error (qX10_error l g M (-1000000001) (k := 1) (by decide) (by decide)) mlX10_error (by decide) (by decide) rfl rfl (Nat.le_of_ble_eq_true rfl) dX10_law_24 rfl ?_
    refine k_ret C rfl dX10_law_27 ?_
    exact ⟨rfl, rfl⟩
  · skip
    exact (bz hf (by simp [d6])).elim
set_option maxHeartbeats 4000000 in
set_option maxRecDepth 20000 in
theorem qX10_law_t (l : Launch) (g : GT) (M : Mem) {u : Nat} (hu : u < 2) {n : Nat} (p : Nat → Int32) (hL : mlawOk M u n p) (a b c : Int32) : CtrI l g yX10_law cX10_law 5 (some .int) 3 [.ref (ga g 91), .int (nI u), .int a, .int b, .int c] M (fun r M1 => r = pGive u n p a b c ∧ ∀ q, q ≠ 101 → q ≠ 102 → M1 q = M q) := by
  refine ctrI_of (by decide +kernel) (Nat.le_of_ble_eq_true rfl) ?_
  intro pP eE RR sS mI aG bB mE cD C
  refine k_lo (lo' := [(0, .ref (ga g 91)), (1, .int (nI u)), (2, .int a), (3, .int b), (4, .int c)]) rfl ?_
  refine k_iload_n C 1 1 rfl rfl dX10_law_0 rfl ?_
  refine k_iconst C 2 (v := 0) (by decide) dX10_law_1 rfl ?_
  refine k_iconst C 3 (v := 1) (by decide) dX10_law_2 rfl ?_
  refine k_callSE C 6 (As := [.int (nI u), .int 0, .int 1]) (st := []) mwX10_54 skX10_in (qX10_in l g M (nI u) 0 1) mlX10_in (by decide) (by decide) rfl rfl (Nat.le_of_ble_eq_true rfl) dX10_law_3 rfl ?_
  refine k_if_eqB C 21 9 dX10_law_6 (by decide) rfl (fun c6 => ?_) (fun d6 => ?_)
  · skip
    exact (bz c6 (rg_le (a := 0) (b := 1) (Nat.zero_le _) (by omega) (by decide))).elim
  · skip
    refine k_aload_n C 10 0 rfl rfl dX10_law_9 rfl ?_
    refine k_iload_n C 11 1 rfl rfl dX10_law_10 rfl ?_
    refine k_iload_n C 12 2 rfl rfl dX10_law_11 rfl ?_
    refine k_iload_n C 13 3 rfl rfl dX10_law_12 rfl ?_
    refine k_iload C 15 4  rfl dX10_law_13 rfl ?_
    refine k_callVI C 18 (As := [.int (nI u), .int a, .int b, .int c]) (st := []) 91 (by decide) (ce_91 g _) rfl rfl mwX10_80 vlX10_gives (qX10_gives l g M (u := u) (n := n) (by omega) p hL a b c) mlX10_gives (by decide) (by decide) rfl rfl (Nat.le_of_ble_eq_true rfl) dX10_law_15 rfl (fun r1 M1 h1 => ?_)
    obtain ⟨hr1, hs1⟩ := h1
    refine k_goto C 27 dX10_law_18 (by decide) ?_
    refine k_ret C rfl dX10_law_27 ?_
    exact ⟨hr1, hs1⟩
set_option maxHeartbeats 4000000 in
set_option maxRecDepth 20000 in
theorem qX10_years_f (l : Launch) (g : GT) (M : Mem) (y : Int32) (hf : (decide (1 ≤ y) && decide (y ≤ 60)) = false) : CtrE l g yX10_years cX10_years 3 (some .int) 1 [.ref (ga g 91), .int y] M (-1000000001) (mu M 95 1 (M 95 1 + 1)) := by
  refine ctrI_of (by decide +kernel) (Nat.le_of_ble_eq_true rfl) ?_
  intro pP eE RR sS mI aG bB mE cD C
  refine k_lo (lo' := [(0, .ref (ga g 91)), (1, .int y)]) rfl ?_
  refine k_iload_n C 1 1 rfl rfl dX10_years_0 rfl ?_
  refine k_iconst C 2 (v := 1) (by decide) dX10_years_1 rfl ?_
  refine k_bipush C 4 (v := 60) (by decide) dX10_years_2 rfl ?_
  refine k_callSE C 7 (As := [.int y, .int 1, .int 60]) (st := []) mwX10_54 skX10_in (qX10_in l g M y 1 60) mlX10_in (by decide) (by decide) rfl rfl (Nat.le_of_ble_eq_true rfl) dX10_years_4 rfl ?_
  refine k_if_neB C 17 10 dX10_years_7 (by decide) rfl (fun c7 => ?_) (fun d7 => ?_)
  · skip
    exact (bz hf (by simp [c7])).elim
  · skip
    refine k_aload_n C 11 0 rfl rfl dX10_years_10 rfl ?_
    refine k_ldc C 13 cwX10_94 dX10_years_11 rfl ?_
    refine k_callVE C 16 (As := [.int (-1000000001)]) (st := []) 91 (by decide) (ce_91 g _) rfl rfl mwX10_95 vlX10_error (qX10_error l g M (-1000000001) (k := 1) (by decide) (by decide)) mlX10_error (by decide) (by decide) rfl rfl (Nat.le_of_ble_eq_true rfl) dX10_years_13 rfl ?_
    refine k_ret C rfl dX10_years_16 ?_
    exact ⟨rfl, rfl⟩
set_option maxHeartbeats 4000000 in
set_option maxRecDepth 20000 in
theorem qX10_years_full (l : Launch) (g : GT) (M : Mem) {n : Nat} (hn : M 92 2 = nI n) (h12 : n ≤ 12) {y : Nat} (h1 : 1 ≤ y) (h2 : y ≤ 60) {z : Nat} (hz : M 92 0 = nI z) (h9 : z ≤ 9999) (hzy : 9999 < z + y) : CtrE l g yX10_years cX10_years 3 (some .int) 1 [.ref (ga g 91), .int (nI y)] M (-1000000003) (mu M 95 3 (M 95 3 + 1)) := by
  refine ctrI_of (by decide +kernel) (Nat.le_of_ble_eq_true rfl) ?_
  intro pP eE RR sS mI aG bB mE cD C
  refine k_lo (lo' := [(0, .ref (ga g 91)), (1, .int (nI y))]) rfl ?_
  refine k_iload_n C 1 1 rfl rfl dX10_years_0 rfl ?_
  refine k_iconst C 2 (v := 1) (by decide) dX10_years_1 rfl ?_
  refine k_bipush C 4 (v := 60) (by decide) dX10_years_2 rfl ?_
  refine k_callSE C 7 (As := [.int (nI y), .int 1, .int 60]) (st := []) mwX10_54 skX10_in (qX10_in l g M (nI y) 1 60) mlX10_in (by decide) (by decide) rfl rfl (Nat.le_of_ble_eq_true rfl) dX10_years_4 rfl ?_
  refine k_if_neB C 17 10 dX10_years_7 (by decide) rfl (fun c7 => ?_) (fun d7 => ?_)
  · skip
    refine k_aload_n C 18 0 rfl rfl dX10_years_17 rfl ?_
    refine k_get C 21 flX10_9 91 (by decide) (v := .ref (ga g 92)) (ce_91 g _) rfl dX10_years_18 rfl ?_
    refine k_iconst C 22 (v := 0) (by decide) dX10_years_21 rfl ?_
    refine k_iald C 23 92 0 (by decide) (ce_92 g) (by decide) rfl (by omega) dX10_years_22 rfl ?_
    refine k_teq (y := nI z) hz ?_
    refine k_iload_n C 24 1 rfl rfl dX10_years_23 rfl ?_
    refine k_iadd C 25 dX10_years_24 rfl ?_
    refine k_teq (nI_add z y) ?_
    refine k_sipush C 28 (v := 9999) (by decide) dX10_years_25 rfl ?_
    refine k_icmp_le C 38 31 dX10_years_28 (by decide) rfl (fun c28 => ?_) (fun d28 => ?_)
    · skip
      have c28 := (nI_leI (by omega) (by omega)).mp (show nI (z + y) ≤ nI 9999 from c28)
      exact absurd c28 (by omega)
    · skip
      have d28 := mt (nI_leI (by omega) (by omega)).mpr (show ¬ (nI (z + y) ≤ nI 9999) from d28)
      refine k_aload_n C 32 0 rfl rfl dX10_years_31 rfl ?_
      refine k_ldc C 34 cwX10_180 dX10_years_32 rfl ?_
      refine k_callVE C 37 (As := [.int (-1000000003)]) (st := []) 91 (by decide) (ce_91 g _) rfl rfl mwX10_95 vlX10_error (qX10_error l g M (-1000000003) (k := 3) (by decide) (by decide)) mlX10_error (by decide) (by decide) rfl rfl (Nat.le_of_ble_eq_true rfl) dX10_years_34 rfl ?_
      refine k_ret C rfl dX10_years_37 ?_
      exact ⟨rfl, rfl⟩
  · skip
    exact (bz d7 (rg_le (a := 1) (b := 60) h1 h2 (by decide))).elim
set_option maxHeartbeats 4000000 in
set_option maxRecDepth 20000 in
theorem qX10_years_t (l : Launch) (g : GT) (M : Mem) {n : Nat} (hn : M 92 2 = nI n) (h12 : n ≤ 12) {y : Nat} (h1 : 1 ≤ y) (h2 : y ≤ 60) {z : Nat} (hz : M 92 0 = nI z) (h9 : z ≤ 9999) (hzy : z + y ≤ 9999) : CtrI l g yX10_years cX10_years 3 (some .int) 5 [.ref (ga g 91), .int (nI y)] M (fun r M1 => goesN n (M 92 3) y M M1 ∧ r = nI (popc (pSet (mF M1) n))) := by
  refine ctrI_of (by decide +kernel) (Nat.le_of_ble_eq_true rfl) ?_
  intro pP eE RR sS mI aG bB mE cD C
  refine k_lo (lo' := [(0, .ref (ga g 91)), (1, .int (nI y))]) rfl ?_
  refine k_iload_n C 1 1 rfl rfl dX10_years_0 rfl ?_
  refine k_iconst C 2 (v := 1) (by decide) dX10_years_1 rfl ?_
  refine k_bipush C 4 (v := 60) (by decide) dX10_years_2 rfl ?_
  refine k_callSE C 7 (As := [.int (nI y), .int 1, .int 60]) (st := []) mwX10_54 skX10_in (qX10_in l g M (nI y) 1 60) mlX10_in (by decide) (by decide) rfl rfl (Nat.le_of_ble_eq_true rfl) dX10_years_4 rfl ?_
  refine k_if_neB C 17 10 dX10_years_7 (by decide) rfl (fun c7 => ?_) (fun d7 => ?_)
  · skip
    refine k_aload_n C 18 0 rfl rfl dX10_years_17 rfl ?_
    refine k_get C 21 flX10_9 91 (by decide) (v := .ref (ga g 92)) (ce_91 g _) rfl dX10_years_18 rfl ?_
    refine k_iconst C 22 (v := 0) (by decide) dX10_years_21 rfl ?_
    refine k_iald C 23 92 0 (by decide) (ce_92 g) (by decide) rfl (by omega) dX10_years_22 rfl ?_
    refine k_teq (y := nI z) hz ?_
    refine k_iload_n C 24 1 rfl rfl dX10_years_23 rfl ?_
    refine k_iadd C 25 dX10_years_24 rfl ?_
    refine k_teq (nI_add z y) ?_
    refine k_sipush C 28 (v := 9999) (by decide) dX10_years_25 rfl ?_
    refine k_icmp_le C 38 31 dX10_years_28 (by decide) rfl (fun c28 => ?_) (fun d28 => ?_)
    · skip
      have c28 := (nI_leI (by omega) (by omega)).mp (show nI (z + y) ≤ nI 9999 from c28)
      refine k_iconst C 39 (v := 0) (by decide) dX10_years_38 rfl ?_
      refine k_istore_n C 40 [(2, .int 0), (0, .ref (ga g 91)), (1, .int (nI y))] rfl (by decide) rfl dX10_years_39 rfl ?_
      refine k_sub [(0, .ref (ga g 91)), (1, .int (nI y)), (2, .int 0)] [1, 2, 0] rfl ?_
      refine k_all (M' := M) (lo' := [(0, .ref (ga g 91)), (1, .int (nI y)), (2, .int (nI 0))]) (st' := []) (by rfl) (by rfl) rfl ?_
      refine k_loop (σ := Nat × Mem) (fun (v : Nat × Mem) => match v with | (k, M1) => (k ≤ y) ∧ (goesN n (M 92 3) k M M1)) (fun (v : Nat × Mem) => match v with | (k, M1) => y - k) (fun (v : Nat × Mem) => match v with | (k, M1) => M1) (fun (v : Nat × Mem) => match v with | (k, M1) => [(0, .ref (ga g 91)), (1, .int (nI y)), (2, .int (nI k))]) (0, M) (show (0 ≤ y) ∧ (goesN n (M 92 3) 0 M M) from by exact ⟨Nat.zero_le _, rfl⟩) ?_
      rintro ⟨k, M1⟩ hI ih
      have hI : (k ≤ y) ∧ (goesN n (M 92 3) k M M1) := hI
      obtain ⟨hk, hG⟩ := hI
      show KW pP l eE RR sS mI aG bB mE cD g 3 _ (M1) 40 [(0, .ref (ga g 91)), (1, .int (nI y)), (2, .int (nI k))] []
      refine k_iload_n C 41 2 rfl rfl dX10_years_40 rfl ?_
      refine k_iload_n C 42 1 rfl rfl dX10_years_41 rfl ?_
      refine k_icmp_ge C 55 45 dX10_years_42 (by decide) rfl (fun c42 => ?_) (fun d42 => ?_)
      · skip
        have c42 := (nI_leI (by omega) (by omega)).mp (show nI y ≤ nI k from c42)
        refine k_aload_n C 56 0 rfl rfl dX10_years_55 rfl ?_
        refine k_callVE C 59 (As := []) (st := []) 91 (by decide) (ce_91 g _) rfl rfl mwX10_184 vlX10_seen (qX10_seen l g M1 (n := n) (by rw [goesN_at hG _ (by omega) (by decide)]; exact hn) h12) mlX10_seen (by decide) (by decide) rfl rfl (Nat.le_of_ble_eq_true rfl) dX10_years_56 rfl ?_
        refine k_callSE C 62 (As := [.int (nI (pSet (mF M1) n))]) (st := []) mwX10_187 skX10_bits (qX10_bits l g M1 (m := pSet (mF M1) n) (Nat.lt_of_lt_of_le (pSet_lt _ _) (Nat.pow_le_pow_right (by decide) h12))) mlX10_bits (by decide) (by decide) rfl rfl (Nat.le_of_ble_eq_true rfl) dX10_years_59 rfl ?_
        refine k_ret C rfl dX10_years_62 ?_
        refine ⟨?_, rfl⟩
        rw [show y = k by omega]; exact hG
      · skip
        have d42 := mt (nI_leI (by omega) (by omega)).mpr (show ¬ (nI y ≤ nI k) from d42)
        refine k_aload_n C 46 0 rfl rfl dX10_years_45 rfl ?_
        refine k_callVV C 49 (As := []) (st := []) 91 (by decide) (ce_91 g _) rfl rfl mwX10_181 vlX10_goes (qX10_goes l g M1 (n := n) (by rw [goesN_at hG _ (by omega) (by decide)]; exact hn) h12) mlX10_goes (by decide) (by decide) rfl rfl (Nat.le_of_ble_eq_true rfl) dX10_years_46 rfl (fun M2 h2 => ?_)
        refine k_iinc C 52 (nI (k + 1)) 2 [(2, .int (nI (k + 1))), (0, .ref (ga g 91)), (1, .int (nI y))] rfl (iinc_p k) (by decide) rfl dX10_years_49 rfl ?_
        refine k_goto C 40 dX10_years_52 (by decide) ?_
        refine k_sub [(0, .ref (ga g 91)), (1, .int (nI y)), (2, .int (nI (k + 1)))] [1, 2, 0] rfl ?_
        refine k_all (M' := M2) (lo' := [(0, .ref (ga g 91)), (1, .int (nI y)), (2, .int (nI (k + 1)))]) (st' := []) (by rfl) (by rfl) rfl ?_
        exact ih (k + 1, M2) (show ((k + 1) ≤ y) ∧ (goesN n (M 92 3) (k + 1) M M2) from by exact ⟨by omega, M1, hG, by rw [goesN_at hG 3 (by omega) (by decide)] at h2; exact h2⟩) (by show y - (k + 1) < y - k; omega)
    · skip
      have d28 := mt (nI_leI (by omega) (by omega)).mpr (show ¬ (nI (z + y) ≤ nI 9999) from d28)
      exact absurd d28 (by omega)
  · skip
    exact (bz d7 (rg_le (a := 1) (b := 60) h1 h2 (by decide))).elim
set_option maxHeartbeats 4000000 in
set_option maxRecDepth 20000 in
theorem qX10_loose_f (l : Launch) (g : GT) (M : Mem) (y : Int32) (hf : (decide (1 ≤ y) && decide (y ≤ 20)) = false) : CtrE l g yX10_loose cX10_loose 6 (some .int) 1 [.ref (ga g 91), .int y] M (-1000000001) (mu M 95 1 (M 95 1 + 1)) := by
  refine ctrI_of (by decide +kernel) (Nat.le_of_ble_eq_true rfl) ?_
  intro pP eE RR sS mI aG bB mE cD C
  refine k_lo (lo' := [(0, .ref (ga g 91)), (1, .int y)]) rfl ?_
  refine k_iload_n C 1 1 rfl rfl dX10_loose_0 rfl ?_
  refine k_iconst C 2 (v := 1) (by decide) dX10_loose_1 rfl ?_
  refine k_bipush C 4 (v := 20) (by decide) dX10_loose_2 rfl ?_
  refine k_callSE C 7 (As := [.int y, .int 1, .int 20]) (st := []) mwX10_54 skX10_in (qX10_in l g M y 1 20) mlX10_in (by decide) (by decide) rfl rfl (Nat.le_of_ble_eq_true rfl) dX10_loose_4 rfl ?_
  refine k_if_neB C 17 10 dX10_loose_7 (by decide) rfl (fun c7 => ?_) (fun d7 => ?_)
  · skip
    exact (bz hf (by simp [c7])).elim
  · skip
    refine k_aload_n C 11 0 rfl rfl dX10_loose_10 rfl ?_
    refine k_ldc C 13 cwX10_94 dX10_loose_11 rfl ?_
    refine k_callVE C 16 (As := [.int (-1000000001)]) (st := []) 91 (by decide) (ce_91 g _) rfl rfl mwX10_95 vlX10_error (qX10_error l g M (-1000000001) (k := 1) (by decide) (by decide)) mlX10_error (by decide) (by decide) rfl rfl (Nat.le_of_ble_eq_true rfl) dX10_loose_13 rfl ?_
    refine k_ret C rfl dX10_loose_16 ?_
    exact ⟨rfl, rfl⟩
set_option maxHeartbeats 4000000 in
set_option maxRecDepth 20000 in
theorem qX10_loose_full (l : Launch) (g : GT) (M : Mem) {n : Nat} (hn : M 92 2 = nI n) (h12 : n ≤ 12) {y : Nat} (h1 : 1 ≤ y) (h2 : y ≤ 20) {z : Nat} (hz : M 92 0 = nI z) (h9 : z ≤ 9999) (hzy : 9999 < z + y) : CtrE l g yX10_loose cX10_loose 6 (some .int) 1 [.ref (ga g 91), .int (nI y)] M (-1000000003) (mu M 95 3 (M 95 3 + 1)) := by
  refine ctrI_of (by decide +kernel) (Nat.le_of_ble_eq_true rfl) ?_
  intro pP eE RR sS mI aG bB mE cD C
  refine k_lo (lo' := [(0, .ref (ga g 91)), (1, .int (nI y))]) rfl ?_
  refine k_iload_n C 1 1 rfl rfl dX10_loose_0 rfl ?_
  refine k_iconst C 2 (v := 1) (by decide) dX10_loose_1 rfl ?_
  refine k_bipush C 4 (v := 20) (by decide) dX10_loose_2 rfl ?_
  refine k_callSE C 7 (As := [.int (nI y), .int 1, .int 20]) (st := []) mwX10_54 skX10_in (qX10_in l g M (nI y) 1 20) mlX10_in (by decide) (by decide) rfl rfl (Nat.le_of_ble_eq_true rfl) dX10_loose_4 rfl ?_
  refine k_if_neB C 17 10 dX10_loose_7 (by decide) rfl (fun c7 => ?_) (fun d7 => ?_)
  · skip
    refine k_aload_n C 18 0 rfl rfl dX10_loose_17 rfl ?_
    refine k_get C 21 flX10_9 91 (by decide) (v := .ref (ga g 92)) (ce_91 g _) rfl dX10_loose_18 rfl ?_
    refine k_iconst C 22 (v := 0) (by decide) dX10_loose_21 rfl ?_
    refine k_iald C 23 92 0 (by decide) (ce_92 g) (by decide) rfl (by omega) dX10_loose_22 rfl ?_
    refine k_teq (y := nI z) hz ?_
    refine k_iload_n C 24 1 rfl rfl dX10_loose_23 rfl ?_
    refine k_iadd C 25 dX10_loose_24 rfl ?_
    refine k_teq (nI_add z y) ?_
    refine k_sipush C 28 (v := 9999) (by decide) dX10_loose_25 rfl ?_
    refine k_icmp_le C 38 31 dX10_loose_28 (by decide) rfl (fun c28 => ?_) (fun d28 => ?_)
    · skip
      have c28 := (nI_leI (by omega) (by omega)).mp (show nI (z + y) ≤ nI 9999 from c28)
      exact absurd c28 (by omega)
    · skip
      have d28 := mt (nI_leI (by omega) (by omega)).mpr (show ¬ (nI (z + y) ≤ nI 9999) from d28)
      refine k_aload_n C 32 0 rfl rfl dX10_loose_31 rfl ?_
      refine k_ldc C 34 cwX10_180 dX10_loose_32 rfl ?_
      refine k_callVE C 37 (As := [.int (-1000000003)]) (st := []) 91 (by decide) (ce_91 g _) rfl rfl mwX10_95 vlX10_error (qX10_error l g M (-1000000003) (k := 3) (by decide) (by decide)) mlX10_error (by decide) (by decide) rfl rfl (Nat.le_of_ble_eq_true rfl) dX10_loose_34 rfl ?_
      refine k_ret C rfl dX10_loose_37 ?_
      exact ⟨rfl, rfl⟩
  · skip
    exact (bz d7 (rg_le (a := 1) (b := 20) h1 h2 (by decide))).elim
set_option maxHeartbeats 4000000 in
set_option maxRecDepth 20000 in
theorem qX10_seed (l : Launch) (g : GT) (M : Mem) (z : Int32) : CtrE l g yX10_seed cX10_seed 2 (some .int) 1 [.ref (ga g 91), .int z] M (M 92 1) (mu M 92 1 z) := by
  refine ctrI_of (by decide +kernel) (Nat.le_of_ble_eq_true rfl) ?_
  intro pP eE RR sS mI aG bB mE cD C
  refine k_lo (lo' := [(0, .ref (ga g 91)), (1, .int z)]) rfl ?_
  refine k_aload_n C 1 0 rfl rfl dX10_seed_0 rfl ?_
  refine k_iconst C 2 (v := 1) (by decide) dX10_seed_1 rfl ?_
  refine k_iload_n C 3 1 rfl rfl dX10_seed_2 rfl ?_
  refine k_callVE C 6 (As := [.int 1, .int z]) (st := []) 91 (by decide) (ce_91 g _) rfl rfl mwX10_111 vlX10_becomes (qX10_becomes l g M (q := 1) (by omega) z) mlX10_becomes (by decide) (by decide) rfl rfl (Nat.le_of_ble_eq_true rfl) dX10_seed_3 rfl ?_
  refine k_ret C rfl dX10_seed_6 ?_
  exact ⟨rfl, rfl⟩
set_option maxHeartbeats 4000000 in
set_option maxRecDepth 20000 in
theorem qX10_longestTalk (l : Launch) (g : GT) (M : Mem) {n : Nat} (hn : M 92 2 = nI n) (h12 : n ≤ 12)  : CtrE l g yX10_longestTalk cX10_longestTalk 4 (some .int) 4 [.ref (ga g 91)] M (nI (pLong (mF M) n).1) M := by
  refine ctrI_of (by decide +kernel) (Nat.le_of_ble_eq_true rfl) ?_
  intro pP eE RR sS mI aG bB mE cD C
  refine k_lo (lo' := [(0, .ref (ga g 91))]) rfl ?_
  refine k_iconst C 1 (v := 0) (by decide) dX10_longestTalk_0 rfl ?_
  refine k_istore_n C 2 [(1, .int 0), (0, .ref (ga g 91))] rfl (by decide) rfl dX10_longestTalk_1 rfl ?_
  refine k_iconst C 3 (v := 0) (by decide) dX10_longestTalk_2 rfl ?_
  refine k_istore_n C 4 [(2, .int 0), (1, .int 0), (0, .ref (ga g 91))] rfl (by decide) rfl dX10_longestTalk_3 rfl ?_
  refine k_iconst C 5 (v := 0) (by decide) dX10_longestTalk_4 rfl ?_
  refine k_istore_n C 6 [(3, .int 0), (2, .int 0), (1, .int 0), (0, .ref (ga g 91))] rfl (by decide) rfl dX10_longestTalk_5 rfl ?_
  refine k_sub [(0, .ref (ga g 91)), (1, .int 0), (2, .int 0), (3, .int 0)] [3, 2, 1, 0] rfl ?_
  refine k_all (M' := M) (lo' := [(0, .ref (ga g 91)), (1, .int (nI ((pLong (mF M) 0).1))), (2, .int (nI ((pLong (mF M) 0).2))), (3, .int (nI 0))]) (st' := []) (by rfl) (by rfl) rfl ?_
  refine k_loop (σ := Nat) (fun (i : Nat) => (i ≤ n)) (fun (i : Nat) => n - i) (fun (i : Nat) => M) (fun (i : Nat) => [(0, .ref (ga g 91)), (1, .int (nI ((pLong (mF M) i).1))), (2, .int (nI ((pLong (mF M) i).2))), (3, .int (nI i))]) 0 (show (0 ≤ n) from by exact Nat.zero_le _) ?_
  rintro i hI ih
  have hI : (i ≤ n) := hI
  have hi := hI
  show KW pP l eE RR sS mI aG bB mE cD g 4 _ (M) 6 [(0, .ref (ga g 91)), (1, .int (nI ((pLong (mF M) i).1))), (2, .int (nI ((pLong (mF M) i).2))), (3, .int (nI i))] []
  have hc := pLong_le (mF M) i
  refine k_iload_n C 7 3 rfl rfl dX10_longestTalk_6 rfl ?_
  refine k_aload_n C 8 0 rfl rfl dX10_longestTalk_7 rfl ?_
  refine k_get C 11 flX10_9 91 (by decide) (v := .ref (ga g 92)) (ce_91 g _) rfl dX10_longestTalk_8 rfl ?_
  refine k_iconst C 12 (v := 2) (by decide) dX10_longestTalk_11 rfl ?_
  refine k_iald C 13 92 2 (by decide) (ce_92 g) (by decide) rfl (by omega) dX10_longestTalk_12 rfl ?_
  refine k_teq (y := nI n) hn ?_
  refine k_icmp_ge C 57 16 dX10_longestTalk_13 (by decide) rfl (fun c13 => ?_) (fun d13 => ?_)
  · skip
    have c13 := (nI_leI (by omega) (by omega)).mp (show nI n ≤ nI i from c13)
    refine k_iload_n C 58 1 rfl rfl dX10_longestTalk_57 rfl ?_
    refine k_ret C rfl dX10_longestTalk_58 ?_
    exact ⟨by rw [show i = n by omega], rfl⟩
  · skip
    have d13 := mt (nI_leI (by omega) (by omega)).mpr (show ¬ (nI n ≤ nI i) from d13)
    refine k_aload_n C 17 0 rfl rfl dX10_longestTalk_16 rfl ?_
    refine k_iload_n C 18 3 rfl rfl dX10_longestTalk_17 rfl ?_
    refine k_callVE C 21 (As := [.int (nI i)]) (st := []) 91 (by decide) (ce_91 g _) rfl rfl mwX10_62 vlX10_isSeen (qX10_isSeen l g M (f := i) (by omega)) mlX10_isSeen (by decide) (by decide) rfl rfl (Nat.le_of_ble_eq_true rfl) dX10_longestTalk_18 rfl ?_
    refine k_if_eqB C 51 24 dX10_longestTalk_21 (by decide) rfl (fun c21 => ?_) (fun d21 => ?_)
    · skip
      refine k_iinc C 54 (nI (i + 1)) 3 [(3, .int (nI (i + 1))), (0, .ref (ga g 91)), (1, .int (nI ((pLong (mF M) i).1))), (2, .int (nI ((pLong (mF M) i).2)))] rfl (iinc_p i) (by decide) rfl dX10_longestTalk_51 rfl ?_
      refine k_goto C 6 dX10_longestTalk_54 (by decide) ?_
      refine k_sub [(0, .ref (ga g 91)), (1, .int (nI ((pLong (mF M) i).1))), (2, .int (nI ((pLong (mF M) i).2))), (3, .int (nI (i + 1)))] [1, 2, 3, 0] rfl ?_
      refine k_all (M' := M) (lo' := [(0, .ref (ga g 91)), (1, .int (nI ((pLong (mF M) (i + 1)).1))), (2, .int (nI ((pLong (mF M) (i + 1)).2))), (3, .int (nI (i + 1)))]) (st' := []) (by rfl) (by rw [show pLong (mF M) (i + 1) = pLong (mF M) i from if_neg (of_decide_eq_false c21)]) rfl ?_
      exact ih (i + 1) (show ((i + 1) ≤ n) from by omega) (by show n - (i + 1) < _; omega)
    · skip
      refine k_aload_n C 25 0 rfl rfl dX10_longestTalk_24 rfl ?_
      refine k_iload_n C 26 3 rfl rfl dX10_longestTalk_25 rfl ?_
      refine k_callVE C 29 (As := [.int (nI i)]) (st := []) 91 (by decide) (ce_91 g _) rfl rfl mwX10_194 vlX10_isAnswer (qX10_isAnswer l g M (f := i) (by omega)) mlX10_isAnswer (by decide) (by decide) rfl rfl (Nat.le_of_ble_eq_true rfl) dX10_longestTalk_26 rfl ?_
      refine k_if_eqB C 38 32 dX10_longestTalk_29 (by decide) rfl (fun c29 => ?_) (fun d29 => ?_)
      · skip
        refine k_iconst C 39 (v := 1) (by decide) dX10_longestTalk_38 rfl ?_
        refine k_istore_n C 40 [(2, .int 1), (0, .ref (ga g 91)), (1, .int (nI ((pLong (mF M) i).1))), (3, .int (nI i))] rfl (by decide) rfl dX10_longestTalk_39 rfl ?_
        refine k_iload_n C 41 0 rfl rfl dX10_longestTalk_40 rfl ?_
        refine k_iload_n C 42 2 rfl rfl dX10_longestTalk_41 rfl ?_
        refine k_icmp_le C 49 45 dX10_longestTalk_42 (by decide) rfl (fun c42 => ?_) (fun d42 => ?_)
        · skip
          have c42 := (nI_leI (by omega) (by omega)).mp (show nI 1 ≤ nI ((pLong (mF M) i).1) from c42)
          refine k_iload_n C 50 2 rfl rfl dX10_longestTalk_49 rfl ?_
          refine k_istore_n C 51 [(1, .int (nI ((pLong (mF M) i).1))), (2, .int 1), (0, .ref (ga g 91)), (3, .int (nI i))] rfl (by decide) rfl dX10_longestTalk_50 rfl ?_
          refine k_iinc C 54 (nI (i + 1)) 3 [(3, .int (nI (i + 1))), (1, .int (nI ((pLong (mF M) i).1))), (2, .int 1), (0, .ref (ga g 91))] rfl (iinc_p i) (by decide) rfl dX10_longestTalk_51 rfl ?_
          refine k_goto C 6 dX10_longestTalk_54 (by decide) ?_
          refine k_sub [(0, .ref (ga g 91)), (1, .int (nI ((pLong (mF M) i).1))), (2, .int 1), (3, .int (nI (i + 1)))] [3, 1, 2, 0] rfl ?_
          refine k_all (M' := M) (lo' := [(0, .ref (ga g 91)), (1, .int (nI ((pLong (mF M) (i + 1)).1))), (2, .int (nI ((pLong (mF M) (i + 1)).2))), (3, .int (nI (i + 1)))]) (st' := []) (by rfl) (by rw [show pLong (mF M) (i + 1) = ((pLong (mF M) i).1, 1) from by simp only [pLong]; rw [if_pos (of_decide_eq_true d21), c29]; simp only [Bool.false_eq_true, eq_self, if_true, if_false]; congr 1; omega]; rfl) rfl ?_
          exact ih (i + 1) (show ((i + 1) ≤ n) from by omega) (by show n - (i + 1) < _; omega)
        · skip
          have d42 := mt (nI_leI (by omega) (by omega)).mpr (show ¬ (nI 1 ≤ nI ((pLong (mF M) i).1)) from d42)
          refine k_iload_n C 46 0 rfl rfl dX10_longestTalk_45 rfl ?_
          refine k_goto C 50 dX10_longestTalk_46 (by decide) ?_
          refine k_istore_n C 51 [(1, .int 1), (2, .int 1), (0, .ref (ga g 91)), (3, .int (nI i))] rfl (by decide) rfl dX10_longestTalk_50 rfl ?_
          refine k_iinc C 54 (nI (i + 1)) 3 [(3, .int (nI (i + 1))), (1, .int 1), (2, .int 1), (0, .ref (ga g 91))] rfl (iinc_p i) (by decide) rfl dX10_longestTalk_51 rfl ?_
          refine k_goto C 6 dX10_longestTalk_54 (by decide) ?_
          refine k_sub [(0, .ref (ga g 91)), (1, .int 1), (2, .int 1), (3, .int (nI (i + 1)))] [3, 1, 2, 0] rfl ?_
          refine k_all (M' := M) (lo' := [(0, .ref (ga g 91)), (1, .int (nI ((pLong (mF M) (i + 1)).1))), (2, .int (nI ((pLong (mF M) (i + 1)).2))), (3, .int (nI (i + 1)))]) (st' := []) (by rfl) (by rw [show pLong (mF M) (i + 1) = (1, 1) from by simp only [pLong]; rw [if_pos (of_decide_eq_true d21), c29]; simp only [Bool.false_eq_true, eq_self, if_true, if_false]; congr 1; omega]; rfl) rfl ?_
          exact ih (i + 1) (show ((i + 1) ≤ n) from by omega) (by show n - (i + 1) < _; omega)
      · skip
        refine k_iload_n C 33 2 rfl rfl dX10_longestTalk_32 rfl ?_
        refine k_iconst C 34 (v := 1) (by decide) dX10_longestTalk_33 rfl ?_
        refine k_iadd C 35 dX10_longestTalk_34 rfl ?_
        refine k_teq (nI_add ((pLong (mF M) i).2) 1) ?_
        refine k_goto C 39 dX10_longestTalk_35 (by decide) ?_
        refine k_istore_n C 40 [(2, .int (nI (((pLong (mF M) i).2) + 1))), (0, .ref (ga g 91)), (1, .int (nI ((pLong (mF M) i).1))), (3, .int (nI i))] rfl (by decide) rfl dX10_longestTalk_39 rfl ?_
        refine k_iload_n C 41 0 rfl rfl dX10_longestTalk_40 rfl ?_
        refine k_iload_n C 42 2 rfl rfl dX10_longestTalk_41 rfl ?_
        refine k_icmp_le C 49 45 dX10_longestTalk_42 (by decide) rfl (fun c42 => ?_) (fun d42 => ?_)
        · skip
          have c42 := (nI_leI (by omega) (by omega)).mp (show nI (((pLong (mF M) i).2) + 1) ≤ nI ((pLong (mF M) i).1) from c42)
          refine k_iload_n C 50 2 rfl rfl dX10_longestTalk_49 rfl ?_
          refine k_istore_n C 51 [(1, .int (nI ((pLong (mF M) i).1))), (2, .int (nI (((pLong (mF M) i).2) + 1))), (0, .ref (ga g 91)), (3, .int (nI i))] rfl (by decide) rfl dX10_longestTalk_50 rfl ?_
          refine k_iinc C 54 (nI (i + 1)) 3 [(3, .int (nI (i + 1))), (1, .int (nI ((pLong (mF M) i).1))), (2, .int (nI (((pLong (mF M) i).2) + 1))), (0, .ref (ga g 91))] rfl (iinc_p i) (by decide) rfl dX10_longestTalk_51 rfl ?_
          refine k_goto C 6 dX10_longestTalk_54 (by decide) ?_
          refine k_sub [(0, .ref (ga g 91)), (1, .int (nI ((pLong (mF M) i).1))), (2, .int (nI (((pLong (mF M) i).2) + 1))), (3, .int (nI (i + 1)))] [3, 1, 2, 0] rfl ?_
          refine k_all (M' := M) (lo' := [(0, .ref (ga g 91)), (1, .int (nI ((pLong (mF M) (i + 1)).1))), (2, .int (nI ((pLong (mF M) (i + 1)).2))), (3, .int (nI (i + 1)))]) (st' := []) (by rfl) (by rw [show pLong (mF M) (i + 1) = ((pLong (mF M) i).1, (pLong (mF M) i).2 + 1) from by simp only [pLong]; rw [if_pos (of_decide_eq_true d21), d29]; simp only [Bool.false_eq_true, eq_self, if_true, if_false]; congr 1; omega]) rfl ?_
          exact ih (i + 1) (show ((i + 1) ≤ n) from by omega) (by show n - (i + 1) < _; omega)
        · skip
          have d42 := mt (nI_leI (by omega) (by omega)).mpr (show ¬ (nI (((pLong (mF M) i).2) + 1) ≤ nI ((pLong (mF M) i).1)) from d42)
          refine k_iload_n C 46 0 rfl rfl dX10_longestTalk_45 rfl ?_
          refine k_goto C 50 dX10_longestTalk_46 (by decide) ?_
          refine k_istore_n C 51 [(1, .int (nI (((pLong (mF M) i).2) + 1))), (2, .int (nI (((pLong (mF M) i).2) + 1))), (0, .ref (ga g 91)), (3, .int (nI i))] rfl (by decide) rfl dX10_longestTalk_50 rfl ?_
          refine k_iinc C 54 (nI (i + 1)) 3 [(3, .int (nI (i + 1))), (1, .int (nI (((pLong (mF M) i).2) + 1))), (2, .int (nI (((pLong (mF M) i).2) + 1))), (0, .ref (ga g 91))] rfl (iinc_p i) (by decide) rfl dX10_longestTalk_51 rfl ?_
          refine k_goto C 6 dX10_longestTalk_54 (by decide) ?_
          refine k_sub [(0, .ref (ga g 91)), (1, .int (nI (((pLong (mF M) i).2) + 1))), (2, .int (nI (((pLong (mF M) i).2) + 1))), (3, .int (nI (i + 1)))] [3, 1, 2, 0] rfl ?_
          refine k_all (M' := M) (lo' := [(0, .ref (ga g 91)), (1, .int (nI ((pLong (mF M) (i + 1)).1))), (2, .int (nI ((pLong (mF M) (i + 1)).2))), (3, .int (nI (i + 1)))]) (st' := []) (by rfl) (by rw [show pLong (mF M) (i + 1) = ((pLong (mF M) i).2 + 1, (pLong (mF M) i).2 + 1) from by simp only [pLong]; rw [if_pos (of_decide_eq_true d21), d29]; simp only [Bool.false_eq_true, eq_self, if_true, if_false]; congr 1; omega]) rfl ?_
          exact ih (i + 1) (show ((i + 1) ≤ n) from by omega) (by show n - (i + 1) < _; omega)
set_option maxHeartbeats 4000000 in
set_option maxRecDepth 20000 in
theorem qX10_answersSeen (l : Launch) (g : GT) (M : Mem) {n : Nat} (hn : M 92 2 = nI n) (h12 : n ≤ 12)  : CtrE l g yX10_answersSeen cX10_answersSeen 3 (some .int) 4 [.ref (ga g 91)] M (nI (pCnt (mF M) n)) M := by
  refine ctrI_of (by decide +kernel) (Nat.le_of_ble_eq_true rfl) ?_
  intro pP eE RR sS mI aG bB mE cD C
  refine k_lo (lo' := [(0, .ref (ga g 91))]) rfl ?_
  refine k_iconst C 1 (v := 0) (by decide) dX10_answersSeen_0 rfl ?_
  refine k_istore_n C 2 [(1, .int 0), (0, .ref (ga g 91))] rfl (by decide) rfl dX10_answersSeen_1 rfl ?_
  refine k_iconst C 3 (v := 0) (by decide) dX10_answersSeen_2 rfl ?_
  refine k_istore_n C 4 [(2, .int 0), (1, .int 0), (0, .ref (ga g 91))] rfl (by decide) rfl dX10_answersSeen_3 rfl ?_
  refine k_sub [(0, .ref (ga g 91)), (1, .int 0), (2, .int 0)] [2, 1, 0] rfl ?_
  refine k_all (M' := M) (lo' := [(0, .ref (ga g 91)), (1, .int (nI (pCnt (mF M) 0))), (2, .int (nI 0))]) (st' := []) (by rfl) (by rfl) rfl ?_
  refine k_loop (σ := Nat) (fun (i : Nat) => (i ≤ n)) (fun (i : Nat) => n - i) (fun (i : Nat) => M) (fun (i : Nat) => [(0, .ref (ga g 91)), (1, .int (nI (pCnt (mF M) i))), (2, .int (nI i))]) 0 (show (0 ≤ n) from by exact Nat.zero_le _) ?_
  rintro i hI ih
  have hI : (i ≤ n) := hI
  have hi := hI
  show KW pP l eE RR sS mI aG bB mE cD g 3 _ (M) 4 [(0, .ref (ga g 91)), (1, .int (nI (pCnt (mF M) i))), (2, .int (nI i))] []
  have hc := pCnt_le (mF M) i
  refine k_iload_n C 5 2 rfl rfl dX10_answersSeen_4 rfl ?_
  refine k_aload_n C 6 0 rfl rfl dX10_answersSeen_5 rfl ?_
  refine k_get C 9 flX10_9 91 (by decide) (v := .ref (ga g 92)) (ce_91 g _) rfl dX10_answersSeen_6 rfl ?_
  refine k_iconst C 10 (v := 2) (by decide) dX10_answersSeen_9 rfl ?_
  refine k_iald C 11 92 2 (by decide) (ce_92 g) (by decide) rfl (by omega) dX10_answersSeen_10 rfl ?_
  refine k_teq (y := nI n) hn ?_
  refine k_icmp_ge C 36 14 dX10_answersSeen_11 (by decide) rfl (fun c11 => ?_) (fun d11 => ?_)
  · skip
    have c11 := (nI_leI (by omega) (by omega)).mp (show nI n ≤ nI i from c11)
    refine k_iload_n C 37 1 rfl rfl dX10_answersSeen_36 rfl ?_
    refine k_ret C rfl dX10_answersSeen_37 ?_
    exact ⟨by rw [show i = n by omega], rfl⟩
  · skip
    have d11 := mt (nI_leI (by omega) (by omega)).mpr (show ¬ (nI n ≤ nI i) from d11)
    refine k_iload_n C 15 1 rfl rfl dX10_answersSeen_14 rfl ?_
    refine k_aload_n C 16 0 rfl rfl dX10_answersSeen_15 rfl ?_
    refine k_iload_n C 17 2 rfl rfl dX10_answersSeen_16 rfl ?_
    refine k_callVE C 20 (As := [.int (nI i)]) (st := [.int (nI (pCnt (mF M) i))]) 91 (by decide) (ce_91 g _) rfl rfl mwX10_194 vlX10_isAnswer (qX10_isAnswer l g M (f := i) (by omega)) mlX10_isAnswer (by decide) (by decide) rfl rfl (Nat.le_of_ble_eq_true rfl) dX10_answersSeen_17 rfl ?_
    refine k_if_eqB C 27 23 dX10_answersSeen_20 (by decide) rfl (fun c20 => ?_) (fun d20 => ?_)
    · skip
      refine k_iconst C 28 (v := 0) (by decide) dX10_answersSeen_27 rfl ?_
      refine k_iadd C 29 dX10_answersSeen_28 rfl ?_
      refine k_teq (nI_add (pCnt (mF M) i) 0) ?_
      refine k_istore_n C 30 [(1, .int (nI ((pCnt (mF M) i) + 0))), (0, .ref (ga g 91)), (2, .int (nI i))] rfl (by decide) rfl dX10_answersSeen_29 rfl ?_
      refine k_iinc C 33 (nI (i + 1)) 2 [(2, .int (nI (i + 1))), (1, .int (nI ((pCnt (mF M) i) + 0))), (0, .ref (ga g 91))] rfl (iinc_p i) (by decide) rfl dX10_answersSeen_30 rfl ?_
      refine k_goto C 4 dX10_answersSeen_33 (by decide) ?_
      refine k_sub [(0, .ref (ga g 91)), (1, .int (nI ((pCnt (mF M) i) + 0))), (2, .int (nI (i + 1)))] [2, 1, 0] rfl ?_
      refine k_all (M' := M) (lo' := [(0, .ref (ga g 91)), (1, .int (nI (pCnt (mF M) (i + 1)))), (2, .int (nI (i + 1)))]) (st' := []) (by rfl) (by rw [show pCnt (mF M) (i + 1) = pCnt (mF M) i by simp [pCnt, c20]]; first | rfl | simp) rfl ?_
      exact ih (i + 1) (show ((i + 1) ≤ n) from by omega) (by show n - (i + 1) < _; omega)
    · skip
      refine k_iconst C 24 (v := 1) (by decide) dX10_answersSeen_23 rfl ?_
      refine k_goto C 28 dX10_answersSeen_24 (by decide) ?_
      refine k_iadd C 29 dX10_answersSeen_28 rfl ?_
      refine k_teq (nI_add (pCnt (mF M) i) 1) ?_
      refine k_istore_n C 30 [(1, .int (nI ((pCnt (mF M) i) + 1))), (0, .ref (ga g 91)), (2, .int (nI i))] rfl (by decide) rfl dX10_answersSeen_29 rfl ?_
      refine k_iinc C 33 (nI (i + 1)) 2 [(2, .int (nI (i + 1))), (1, .int (nI ((pCnt (mF M) i) + 1))), (0, .ref (ga g 91))] rfl (iinc_p i) (by decide) rfl dX10_answersSeen_30 rfl ?_
      refine k_goto C 4 dX10_answersSeen_33 (by decide) ?_
      refine k_sub [(0, .ref (ga g 91)), (1, .int (nI ((pCnt (mF M) i) + 1))), (2, .int (nI (i + 1)))] [2, 1, 0] rfl ?_
      refine k_all (M' := M) (lo' := [(0, .ref (ga g 91)), (1, .int (nI (pCnt (mF M) (i + 1)))), (2, .int (nI (i + 1)))]) (st' := []) (by rfl) (by rw [show pCnt (mF M) (i + 1) = pCnt (mF M) i + 1 by simp [pCnt, d20]]) rfl ?_
      exact ih (i + 1) (show ((i + 1) ≤ n) from by omega) (by show n - (i + 1) < _; omega)
set_option maxHeartbeats 4000000 in
set_option maxRecDepth 20000 in
theorem qX10_talk_t (l : Launch) (g : GT) (M : Mem) {n : Nat} (hn : M 92 2 = nI n) (h12 : n ≤ 12) {w : Nat} (hw : w < 3) : CtrE l g yX10_talk cX10_talk 2 (some .int) 5 [.ref (ga g 91), .int (nI w)] M (nI (if w = 0 then (pLong (mF M) n).1 else if w = 1 then pCnt (mF M) n else popc (pSet (mF M) n))) M := by
  refine ctrI_of (by decide +kernel) (Nat.le_of_ble_eq_true rfl) ?_
  intro pP eE RR sS mI aG bB mE cD C
  refine k_lo (lo' := [(0, .ref (ga g 91)), (1, .int (nI w))]) rfl ?_
  refine k_iload_n C 1 1 rfl rfl dX10_talk_0 rfl ?_
  rcases (show w = 0 ∨ w = 1 ∨ w = 2 by omega) with rfl | rfl | rfl
  · skip
    refine k_tin C 28 (by decide) (by decide) (by rfl) dX10_talk_1 (by decide) ?_
    refine k_aload_n C 29 0 rfl rfl dX10_talk_28 rfl ?_
    refine k_callVE C 32 (As := []) (st := []) 91 (by decide) (ce_91 g _) rfl rfl mwX10_197 vlX10_longestTalk (qX10_longestTalk l g M (n := n) hn h12) mlX10_longestTalk (by decide) (by decide) rfl rfl (Nat.le_of_ble_eq_true rfl) dX10_talk_29 rfl ?_
    refine k_ret C rfl dX10_talk_32 ?_
    exact ⟨rfl, rfl⟩
  · skip
    refine k_tin C 33 (by decide) (by decide) (by rfl) dX10_talk_1 (by decide) ?_
    refine k_aload_n C 34 0 rfl rfl dX10_talk_33 rfl ?_
    refine k_callVE C 37 (As := []) (st := []) 91 (by decide) (ce_91 g _) rfl rfl mwX10_200 vlX10_answersSeen (qX10_answersSeen l g M (n := n) hn h12) mlX10_answersSeen (by decide) (by decide) rfl rfl (Nat.le_of_ble_eq_true rfl) dX10_talk_34 rfl ?_
    refine k_ret C rfl dX10_talk_37 ?_
    exact ⟨rfl, rfl⟩
  · skip
    refine k_tin C 38 (by decide) (by decide) (by rfl) dX10_talk_1 (by decide) ?_
    refine k_aload_n C 39 0 rfl rfl dX10_talk_38 rfl ?_
    refine k_callVE C 42 (As := []) (st := []) 91 (by decide) (ce_91 g _) rfl rfl mwX10_184 vlX10_seen (qX10_seen l g M (n := n) hn h12) mlX10_seen (by decide) (by decide) rfl rfl (Nat.le_of_ble_eq_true rfl) dX10_talk_39 rfl ?_
    refine k_callSE C 45 (As := [.int (nI (pSet (mF M) n))]) (st := []) mwX10_187 skX10_bits (qX10_bits l g M (m := pSet (mF M) n) (Nat.lt_of_lt_of_le (pSet_lt _ _) (Nat.pow_le_pow_right (by decide) h12))) mlX10_bits (by decide) (by decide) rfl rfl (Nat.le_of_ble_eq_true rfl) dX10_talk_42 rfl ?_
    refine k_ret C rfl dX10_talk_45 ?_
    exact ⟨rfl, rfl⟩
set_option maxHeartbeats 4000000 in
set_option maxRecDepth 20000 in
theorem qX10_talk_f (l : Launch) (g : GT) (M : Mem) (w : Int32) (h0 : ¬ w = 0) (h1 : ¬ w = 1) (h2 : ¬ w = 2) : CtrE l g yX10_talk cX10_talk 2 (some .int) 1 [.ref (ga g 91), .int w] M (-1000000001) (mu M 95 1 (M 95 1 + 1)) := by
  refine ctrI_of (by decide +kernel) (Nat.le_of_ble_eq_true rfl) ?_
  intro pP eE RR sS mI aG bB mE cD C
  refine k_lo (lo' := [(0, .ref (ga g 91)), (1, .int w)]) rfl ?_
  refine k_iload_n C 1 1 rfl rfl dX10_talk_0 rfl ?_
  by_cases w1_0 : w = 0
  · skip
    refine k_tin C 28 (by rw [w1_0]; decide) (by rw [w1_0]; decide) (by rw [w1_0]; rfl) dX10_talk_1 (by decide) ?_
    exact absurd w1_0 h0
  · skip
    by_cases w1_1 : w = 1
    · skip
      refine k_tin C 33 (by rw [w1_1]; decide) (by rw [w1_1]; decide) (by rw [w1_1]; rfl) dX10_talk_1 (by decide) ?_
      exact absurd w1_1 h1
    · skip
      by_cases w1_2 : w = 2
      · skip
        refine k_tin C 38 (by rw [w1_2]; decide) (by rw [w1_2]; decide) (by rw [w1_2]; rfl) dX10_talk_1 (by decide) ?_
        exact absurd w1_2 h2
      · skip
        refine k_tout C 46 (by have z0 := i_ne w1_0 (k := 0) rfl; have z1 := i_ne w1_1 (k := 1) rfl; have z2 := i_ne w1_2 (k := 2) rfl; omega) dX10_talk_1 (by decide) ?_
        refine k_aload_n C 47 0 rfl rfl dX10_talk_46 rfl ?_
        refine k_ldc C 49 cwX10_94 dX10_talk_47 rfl ?_
        refine k_callVE C 52 (As := [.int (-1000000001)]) (st := []) 91 (by decide) (ce_91 g _) rfl rfl mwX10_95 vlX10_error (qX10_error l g M (-1000000001) (k := 1) (by decide) (by decide)) mlX10_error (by decide) (by decide) rfl rfl (Nat.le_of_ble_eq_true rfl) dX10_talk_49 rfl ?_
        refine k_ret C rfl dX10_talk_52 ?_
        exact ⟨rfl, rfl⟩
set_option maxHeartbeats 4000000 in
set_option maxRecDepth 20000 in
theorem qX10_meaning_f (l : Launch) (g : GT) (M : Mem) (w : Int32) (hf : (decide ((-1) ≤ w) && decide (w ≤ 5)) = false) : CtrE l g yX10_meaning cX10_meaning 5 (some .int) 1 [.ref (ga g 91), .int w] M (-1000000001) (mu M 95 1 (M 95 1 + 1)) := by
  refine ctrI_of (by decide +kernel) (Nat.le_of_ble_eq_true rfl) ?_
  intro pP eE RR sS mI aG bB mE cD C
  refine k_lo (lo' := [(0, .ref (ga g 91)), (1, .int w)]) rfl ?_
  refine k_iload_n C 1 1 rfl rfl dX10_meaning_0 rfl ?_
  refine k_iconst C 2 (v := (-1)) (by decide) dX10_meaning_1 rfl ?_
  refine k_iconst C 3 (v := 5) (by decide) dX10_meaning_2 rfl ?_
  refine k_callSE C 6 (As := [.int w, .int (-1), .int 5]) (st := []) mwX10_54 skX10_in (qX10_in l g M w (-1) 5) mlX10_in (by decide) (by decide) rfl rfl (Nat.le_of_ble_eq_true rfl) dX10_meaning_3 rfl ?_
  refine k_if_neB C 16 9 dX10_meaning_6 (by decide) rfl (fun c6 => ?_) (fun d6 => ?_)
  · skip
    exact (bz hf (by simp [c6])).elim
  · skip
    refine k_aload_n C 10 0 rfl rfl dX10_meaning_9 rfl ?_
    refine k_ldc C 12 cwX10_94 dX10_meaning_10 rfl ?_
    refine k_callVE C 15 (As := [.int (-1000000001)]) (st := []) 91 (by decide) (ce_91 g _) rfl rfl mwX10_95 vlX10_error (qX10_error l g M (-1000000001) (k := 1) (by decide) (by decide)) mlX10_error (by decide) (by decide) rfl rfl (Nat.le_of_ble_eq_true rfl) dX10_meaning_12 rfl ?_
    refine k_ret C rfl dX10_meaning_15 ?_
    exact ⟨rfl, rfl⟩
