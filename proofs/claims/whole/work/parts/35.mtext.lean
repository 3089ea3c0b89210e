-- the reference: a text as a whole
theorem qOp_times (l : Launch) (g : GT) (od : Nat) (h5 : od ≤ 5) (hS : HSm l g od) : ∀ (M0 M : Mem) (n u : Nat) (s : PS), mH M0 n u → okS n s → mC M0 M od s → CtrV l g yX10_times cX10_times 2 (8 * od + 4) [.ref (ga g 91)] M (fun M1 => mR M0 M1 od (pJd (smf (M0 92) n) (pSg (smf (M0 92) n) u od) 1 s)) :=
  fun M0 M n u s hH hs hC => qX10_times l g od h5 (fun M0 M n u s hH hs hC => hS M0 M n u s hH hs hC) M0 M s hH hs hC
theorem qOp_sum (l : Launch) (g : GT) (od : Nat) (h5 : od ≤ 5) (hS : HSm l g od) : ∀ (M0 M : Mem) (n u : Nat) (s : PS), mH M0 n u → okS n s → mC M0 M od s → CtrV l g yX10_sum cX10_sum 2 (8 * od + 5) [.ref (ga g 91)] M (fun M1 => mR M0 M1 od (pJd (smf (M0 92) n) (pSg (smf (M0 92) n) u od) 2 s)) :=
  fun M0 M n u s hH hs hC => qX10_sum l g od h5 (qOp_times l g od h5 hS) M0 M s hH hs hC
theorem qOp_cmp (l : Launch) (g : GT) (od : Nat) (h5 : od ≤ 5) (hS : HSm l g od) : ∀ (M0 M : Mem) (n u : Nat) (s : PS), mH M0 n u → okS n s → mC M0 M od s → CtrV l g yX10_compares cX10_compares 2 (8 * od + 6) [.ref (ga g 91)] M (fun M1 => mR M0 M1 od (pJd (smf (M0 92) n) (pSg (smf (M0 92) n) u od) 3 s)) :=
  fun M0 M n u s hH hs hC => qX10_compares l g od h5 (qOp_sum l g od h5 hS) M0 M s hH hs hC
theorem qOp_all (l : Launch) (g : GT) (od : Nat) (h5 : od ≤ 5) (hS : HSm l g od) : ∀ (M0 M : Mem) (n u : Nat) (s : PS), mH M0 n u → okS n s → mC M0 M od s → CtrV l g yX10_all cX10_all 1 (8 * od + 7) [.ref (ga g 91)] M (fun M1 => mR M0 M1 od (pJd (smf (M0 92) n) (pSg (smf (M0 92) n) u od) 4 s)) :=
  fun M0 M n u s hH hs hC => qX10_all l g od h5 (qOp_cmp l g od h5 hS) M0 M s hH hs hC
theorem qmJ_of (l : Launch) (g : GT) (od : Nat) (h5 : od ≤ 5) (hS : HSm l g od) : HJm l g od :=
  fun M0 M _ _ s hH hs hC => qX10_any l g od h5 (qOp_all l g od h5 hS) M0 M s hH hs hC
theorem qmS_all (l : Launch) (g : GT) : ∀ od, od ≤ 5 → HSm l g od
  | 0, _ => fun M0 M _ _ s hH hs hC => qX10_one_0 l g M0 M s hH hs hC
  | od + 1, h => fun M0 M _ _ s hH hs hC => qX10_one_s l g od (by omega) (qmS_all l g od (by omega)) (qmJ_of l g od (by omega) (qmS_all l g od (by omega))) M0 M s hH hs hC
theorem qmJ (l : Launch) (g : GT) : HJm l g 5 := qmJ_of l g 5 (Nat.le_refl _) (qmS_all l g 5 (Nat.le_refl _))
/-- the reader, as a text begins -/
def tx0 (M : Mem) (u : Nat) : Mem := mu (mu (mu (mu (mu M 91 16 (nI u)) 91 12 0) 91 13 0) 91 14 0) 91 15 0
theorem tx0_92 (M : Mem) (u : Nat) : tx0 M u 92 = M 92 := by simp only [tx0, mu_n _ _ _ (show (92 : Nat) ≠ 91 by decide)]
theorem tx0_H {M : Mem} {n u : Nat} (hn : M 92 4 = nI n) (h60 : n ≤ 60) (hu : u < 2) : mH (tx0 M u) n u := ⟨by rw [tx0_92]; exact hn, h60, by simp [tx0, mu_at], hu⟩
theorem tx0_C (M : Mem) (u : Nat) (f : Nat → Int32) : mC (tx0 M u) (tx0 M u) 5 (0, 0, f) :=
  ⟨(by simp [tx0, mu_at] : tx0 M u 91 13 = 0), (by simp [tx0, mu_at] : tx0 M u 91 12 = 0), fun _ hk => absurd hk (Nat.not_lt_zero _), (by simp [tx0, mu_at] : tx0 M u 91 14 = 0), by simp [tx0, mu_at], Sc.rf _ _⟩
def txM (B : Mem) (q : Nat) (fa fb : Nat → Int32) : Nat → Mem
  | 0 => B
  | i + 1 => mu (mu (txM B q fa fb i) 92 (q + 1 + i) (fa i)) 92 (q + 61 + i) (fb i)
theorem txM_o (B : Mem) (q : Nat) (fa fb : Nat → Int32) {a : Nat} (h : a ≠ 92) : ∀ i, txM B q fa fb i a = B a
  | 0 => rfl
  | i + 1 => by simp only [txM]; rw [mu_n _ _ _ h, mu_n _ _ _ h, txM_o B q fa fb h i]
theorem txM_at (B : Mem) (q : Nat) (fa fb : Nat → Int32) : ∀ i, i ≤ 60 → ∀ j, txM B q fa fb i 92 j = if q + 1 ≤ j ∧ j < q + 1 + i then fa (j - q - 1) else if q + 61 ≤ j ∧ j < q + 61 + i then fb (j - q - 61) else B 92 j
  | 0, _, j => by rw [if_neg (by omega), if_neg (by omega)]; rfl
  | i + 1, h, j => by
    simp only [txM]
    by_cases e1 : j = q + 61 + i
    · subst e1; rw [mu_s, if_neg (by omega), if_pos (by omega)]; congr 1; omega
    · rw [mu_o _ _ _ e1]
      by_cases e2 : j = q + 1 + i
      · subst e2; rw [mu_s, if_pos (by omega)]; congr 1; omega
      · rw [mu_o _ _ _ e2, txM_at B q fa fb i (by omega) j]
        by_cases c1 : q + 1 ≤ j ∧ j < q + 1 + i
        · rw [if_pos c1, if_pos (by omega)]
        · rw [if_neg c1, if_neg (show ¬ (q + 1 ≤ j ∧ j < q + 1 + (i + 1)) by omega)]
          by_cases c2 : q + 61 ≤ j ∧ j < q + 61 + i
          · rw [if_pos c2, if_pos (by omega)]
          · rw [if_neg c2, if_neg (by omega)]
def txPost (M M2 : Mem) (n u : Nat) (R : PR) (r : Int32) : Prop :=
  (if R.1 = true ∧ n ≤ R.2.1 then r = 1 ∧ M2 92 (174 + 121 * u) = nI R.2.2.1 ∧ (∀ k, k < R.2.2.1 → actOk (M2 92 (174 + 121 * u + 1 + k)) (M2 92 (174 + 121 * u + 61 + k)) (R.2.2.2 k)) ∧ (∀ q, q ≠ 4 → ¬ (174 + 121 * u ≤ q ∧ q < 295 + 121 * u) → M2 92 q = M 92 q)
    else r = (-10) - nI R.2.1 ∧ ∀ q, q ≠ 4 → M2 92 q = M 92 q) ∧ M2 92 4 = 0 ∧ (∀ a, a ≠ 91 → a ≠ 92 → a ≠ 99 → a ≠ 100 → M2 a = M a) ∧ ∀ k, ¬ (12 ≤ k ∧ k ≤ 16) → M2 91 k = M 91 k
def txF (M M1 : Mem) : Prop := M1 92 = M 92 ∧ (∀ a, a ≠ 91 → a ≠ 99 → a ≠ 100 → M1 a = M a) ∧ ∀ k, ¬ (12 ≤ k ∧ k ≤ 16) → M1 91 k = M 91 k
theorem tx_frame {M M1 : Mem} {u : Nat} (h : Sc rdS (tx0 M u) M1) : txF M M1 := by
  have h2 : ∀ a, a ≠ 91 → a ≠ 99 → a ≠ 100 → M1 a = M a := fun a h1 h2 h3 => funext fun k => by
    rw [h a k (by unfold rdS; omega)]; simp only [tx0, mu_n _ _ _ h1]
  exact ⟨h2 92 (by decide) (by decide) (by decide), h2, fun k hk => by
    rw [h 91 k (by unfold rdS; omega)]
    simp only [tx0]
    rw [mu_o _ _ _ (show k ≠ 15 by omega), mu_o _ _ _ (show k ≠ 14 by omega), mu_o _ _ _ (show k ≠ 13 by omega), mu_o _ _ _ (show k ≠ 12 by omega), mu_o _ _ _ (show k ≠ 16 by omega)]⟩
theorem tx_bad {M M1 : Mem} {n u : Nat} {R : PR} (hF : txF M M1) (hb : ¬ (R.1 = true ∧ n ≤ R.2.1)) : txPost M (mu (mu M1 91 15 1) 92 4 0) n u R ((-10) - nI R.2.1) := by
  refine ⟨?_, mu_s _ _ _ _, fun a h1 h2 h3 h4 => ?_, fun k hk => ?_⟩
  · rw [if_neg hb]
    exact ⟨rfl, fun q hq => by rw [mu_o _ _ _ hq, mu_n _ _ _ (show (92 : Nat) ≠ 91 by decide), hF.1]⟩
  · rw [mu_n _ _ _ h2, mu_n _ _ _ h1]; exact hF.2.1 a h1 h3 h4
  · rw [mu_n _ _ _ (show (91 : Nat) ≠ 92 by decide), mu_o _ _ _ (show k ≠ 15 by omega)]; exact hF.2.2 k hk
theorem tx_good {M M1 : Mem} {n u : Nat} {R : PR} (hF : txF M M1) (hb : R.1 = true ∧ n ≤ R.2.1) (h60 : R.2.2.1 ≤ 60) (hA : ∀ k, k < R.2.2.1 → actOk (M1 99 k) (M1 100 k) (R.2.2.2 k)) :
    txPost M (txM (mu (mu (mu M1 91 15 0) 92 4 0) 92 (174 + 121 * u) (nI R.2.2.1)) (174 + 121 * u) (M1 99) (M1 100) R.2.2.1) n u R 1 := by
  refine ⟨?_, ?_, fun a h1 h2 h3 h4 => ?_, fun k hk => ?_⟩
  · rw [if_pos hb]
    refine ⟨rfl, ?_, fun k hk => ?_, fun q h4 hq => ?_⟩
    · rw [txM_at _ _ _ _ _ h60, if_neg (by omega), if_neg (by omega), mu_s]
    · rw [txM_at _ _ _ _ _ h60 (174 + 121 * u + 1 + k), if_pos (by omega), txM_at _ _ _ _ _ h60 (174 + 121 * u + 61 + k), if_neg (by omega), if_pos (by omega), show 174 + 121 * u + 1 + k - (174 + 121 * u) - 1 = k by omega, show 174 + 121 * u + 61 + k - (174 + 121 * u) - 61 = k by omega]
      exact hA k hk
    · rw [txM_at _ _ _ _ _ h60, if_neg (by omega), if_neg (by omega), mu_o _ _ _ (show q ≠ 174 + 121 * u by omega), mu_o _ _ _ h4, mu_n _ _ _ (show (92 : Nat) ≠ 91 by decide), hF.1]
  · rw [txM_at _ _ _ _ _ h60, if_neg (by omega), if_neg (by omega), mu_o _ _ _ (by omega), mu_s]
  · rw [txM_o _ _ _ _ h2, mu_n _ _ _ h2, mu_n _ _ _ h2, mu_n _ _ _ h1]; exact hF.2.1 a h1 h3 h4
  · rw [txM_o _ _ _ _ (show (91 : Nat) ≠ 92 by decide), mu_n _ _ _ (show (91 : Nat) ≠ 92 by decide), mu_n _ _ _ (show (91 : Nat) ≠ 92 by decide), mu_o _ _ _ (show k ≠ 15 by omega)]; exact hF.2.2 k hk

set_option maxHeartbeats 4000000 in
set_option maxRecDepth 20000 in
theorem qX10_text_f (l : Launch) (g : GT) (M : Mem) (u : Int32) (hf : (decide (0 ≤ u) && decide (u ≤ 1)) = false) : CtrE l g yX10_text cX10_text 4 (some .int) 1 [.ref (ga g 91), .int u] M (-1000000001) (mu M 95 1 (M 95 1 + 1)) := by
  refine ctrI_of (by decide +kernel) (Nat.le_of_ble_eq_true rfl) ?_
  intro pP eE RR sS mI aG bB mE cD C
  refine k_lo (lo' := [(0, .ref (ga g 91)), (1, .int u)]) rfl ?_
  refine k_iload_n C 1 1 rfl rfl dX10_text_0 rfl ?_
  refine k_iconst C 2 (v := 0) (by decide) dX10_text_1 rfl ?_
  refine k_iconst C 3 (v := 1) (by decide) dX10_text_2 rfl ?_
  refine k_callSE C 6 (As := [.int u, .int 0, .int 1]) (st := []) mwX10_54 skX10_in (qX10_in l g M u 0 1) mlX10_in (by decide) (by decide) rfl rfl (Nat.le_of_ble_eq_true rfl) dX10_text_3 rfl ?_
  refine k_if_neB C 16 9 dX10_text_6 (by decide) rfl (fun c6 => ?_) (fun d6 => ?_)
  · skip
    exact (bz hf (by simp [c6])).elim
  · skip
    refine k_aload_n C 10 0 rfl rfl dX10_text_9 rfl ?_
    refine k_ldc C 12 cwX10_94 dX10_text_10 rfl ?_
    refine k_callVE C 15 (As := [.int (-1000000001)]) (st := []) 91 (by decide) (ce_91 g _) rfl rfl mwX10_95 vlX10_error (qX10_error l g M (-1000000001) (k := 1) (by decide) (by decide)) mlX10_error (by decide) (by decide) rfl rfl (Nat.le_of_ble_eq_true rfl) dX10_text_12 rfl ?_
    refine k_ret C rfl dX10_text_15 ?_
    exact ⟨rfl, rfl⟩
set_option maxHeartbeats 4000000 in
set_option maxRecDepth 20000 in
theorem qX10_text_t (l : Launch) (g : GT) (M : Mem) {u n : Nat} (hu : u < 2) (hn : M 92 4 = nI n) (h60 : n ≤ 60) (f : Nat → Int32) (R : PR) (hR : pParse (smf (M 92) n) u f = R) : CtrI l g yX10_text cX10_text 4 (some .int) 50 [.ref (ga g 91), .int (nI u)] M (fun r M2 => txPost M M2 n u R r) := by
  refine ctrI_of (by decide +kernel) (Nat.le_of_ble_eq_true rfl) ?_
  intro pP eE RR sS mI aG bB mE cD C
  refine k_lo (lo' := [(0, .ref (ga g 91)), (1, .int (nI u))]) rfl ?_
  have hok : okS n R.2 := by rw [← hR]; exact pJd_ok (smf_end (M 92) n) (pSg_ok (smf_end (M 92) n) hu 5) 5 (by decide) (0, 0, f) ⟨Nat.zero_le _, Nat.zero_le _⟩
  have hp := hok.1
  have hz := hok.2
  refine k_iload_n C 1 1 rfl rfl dX10_text_0 rfl ?_
  refine k_iconst C 2 (v := 0) (by decide) dX10_text_1 rfl ?_
  refine k_iconst C 3 (v := 1) (by decide) dX10_text_2 rfl ?_
  refine k_callSE C 6 (As := [.int (nI u), .int 0, .int 1]) (st := []) mwX10_54 skX10_in (qX10_in l g M (nI u) 0 1) mlX10_in (by decide) (by decide) rfl rfl (Nat.le_of_ble_eq_true rfl) dX10_text_3 rfl ?_
  refine k_if_neB C 16 9 dX10_text_6 (by decide) rfl (fun c6 => ?_) (fun d6 => ?_)
  · skip
    refine k_aload_n C 17 0 rfl rfl dX10_text_16 rfl ?_
    refine k_iload_n C 18 1 rfl rfl dX10_text_17 rfl ?_
    refine k_put C 21 flX10_124 plX10 91 (by decide) (ce_91 g _) (ce_91 g _) (Nat.le_of_ble_eq_true rfl) rfl rfl rfl dX10_text_18 rfl ?_
    refine k_aload_n C 22 0 rfl rfl dX10_text_21 rfl ?_
    refine k_iconst C 23 (v := 0) (by decide) dX10_text_22 rfl ?_
    refine k_put C 26 flX10_121 plX10 91 (by decide) (ce_91 g _) (ce_91 g _) (Nat.le_of_ble_eq_true rfl) rfl rfl rfl dX10_text_23 rfl ?_
    refine k_aload_n C 27 0 rfl rfl dX10_text_26 rfl ?_
    refine k_iconst C 28 (v := 0) (by decide) dX10_text_27 rfl ?_
    refine k_put C 31 flX10_117 plX10 91 (by decide) (ce_91 g _) (ce_91 g _) (Nat.le_of_ble_eq_true rfl) rfl rfl rfl dX10_text_28 rfl ?_
    refine k_aload_n C 32 0 rfl rfl dX10_text_31 rfl ?_
    refine k_iconst C 33 (v := 0) (by decide) dX10_text_32 rfl ?_
    refine k_put C 36 flX10_139 plX10 91 (by decide) (ce_91 g _) (ce_91 g _) (Nat.le_of_ble_eq_true rfl) rfl rfl rfl dX10_text_33 rfl ?_
    refine k_aload_n C 37 0 rfl rfl dX10_text_36 rfl ?_
    refine k_iconst C 38 (v := 0) (by decide) dX10_text_37 rfl ?_
    refine k_put C 41 flX10_131 plX10 91 (by decide) (ce_91 g _) (ce_91 g _) (Nat.le_of_ble_eq_true rfl) rfl rfl rfl dX10_text_38 rfl ?_
    refine k_aload_n C 42 0 rfl rfl dX10_text_41 rfl ?_
    refine k_callVV C 45 (As := []) (st := []) 91 (by decide) (ce_91 g _) rfl rfl mwX10_145 vlX10_any (qmJ l g (tx0 M u) (tx0 M u) n u (0, 0, f) (tx0_H hn h60 hu) ⟨Nat.zero_le _, Nat.zero_le _⟩ (tx0_C M u f)) mlX10_any (by decide) (by decide) rfl rfl (Nat.le_of_ble_eq_true rfl) dX10_text_42 rfl (fun M1 h1 => ?_)
    rw [tx0_92] at h1
    have h1 : mR (tx0 M u) M1 5 R := by rw [← hR]; exact h1
    cases hr : R.1 with
    | false =>
      have h2 := h1.2 hr
      have hF : txF M M1 := tx_frame h2.2.2.2.2
      refine k_aload_n C 46 0 rfl rfl dX10_text_45 rfl ?_
      refine k_aload_n C 47 0 rfl rfl dX10_text_46 rfl ?_
      refine k_get C 50 flX10_131 91 (by decide) (v := .int ((M1) 91 15)) (ce_91 g _) rfl dX10_text_47 rfl ?_
      refine k_teq (y := 1) h2.2.2.2.1 ?_
      refine k_if_ne C 66 53 dX10_text_50 (by decide) rfl (fun c50 => ?_) (fun d50 => ?_)
      · skip
        refine k_iconst C 67 (v := 1) (by decide) dX10_text_66 rfl ?_
        refine k_goto C 71 dX10_text_67 (by decide) ?_
        refine k_put C 74 flX10_131 plX10 91 (by decide) (ce_91 g _) (ce_91 g _) (Nat.le_of_ble_eq_true rfl) rfl rfl rfl dX10_text_71 rfl ?_
        refine k_aload_n C 75 0 rfl rfl dX10_text_74 rfl ?_
        refine k_get C 78 flX10_9 91 (by decide) (v := .ref (ga g 92)) (ce_91 g _) rfl dX10_text_75 rfl ?_
        refine k_iconst C 79 (v := 4) (by decide) dX10_text_78 rfl ?_
        refine k_iconst C 80 (v := 0) (by decide) dX10_text_79 rfl ?_
        refine k_iast C 81 92 4 (by decide) (ce_92 g) (by decide) rfl (by omega) dX10_text_80 rfl ?_
        refine k_aload_n C 82 0 rfl rfl dX10_text_81 rfl ?_
        refine k_get C 85 flX10_131 91 (by decide) (v := .int ((mu (mu M1 91 15 1) 92 4 0) 91 15)) (ce_91 g _) rfl dX10_text_82 rfl ?_
        refine k_teq (show (mu (mu M1 91 15 1) 92 4 0) 91 15 = 1 by simp [mu_at]) ?_
        refine k_if_eq C 96 88 dX10_text_85 (by decide) rfl (fun c85 => ?_) (fun d85 => ?_)
        · skip
          exact absurd c85 (by decide)
        · skip
          refine k_bipush C 90 (v := (-10)) (by decide) dX10_text_88 rfl ?_
          refine k_aload_n C 91 0 rfl rfl dX10_text_90 rfl ?_
          refine k_get C 94 flX10_117 91 (by decide) (v := .int ((mu (mu M1 91 15 1) 92 4 0) 91 13)) (ce_91 g _) rfl dX10_text_91 rfl ?_
          refine k_teq (show (mu (mu M1 91 15 1) 92 4 0) 91 13 = M1 91 13 by simp [mu_at]) ?_
          refine k_teq (y := nI R.2.1) h2.1 ?_
          refine k_isub C 95 dX10_text_94 rfl ?_
          refine k_ret C rfl dX10_text_95 ?_
          exact tx_bad hF (fun q => by rw [hr] at q; exact absurd q.1 (by decide))
      · skip
        exact absurd d50 (by decide)
    | true =>
      have h2 := h1.1 hr
      have hF : txF M M1 := tx_frame h2.2.2.2.2.2
      refine k_aload_n C 46 0 rfl rfl dX10_text_45 rfl ?_
      refine k_aload_n C 47 0 rfl rfl dX10_text_46 rfl ?_
      refine k_get C 50 flX10_131 91 (by decide) (v := .int ((M1) 91 15)) (ce_91 g _) rfl dX10_text_47 rfl ?_
      refine k_teq (y := 0) h2.2.2.2.2.1 ?_
      refine k_if_ne C 66 53 dX10_text_50 (by decide) rfl (fun c50 => ?_) (fun d50 => ?_)
      · skip
        exact absurd c50 (by decide)
      · skip
        refine k_aload_n C 54 0 rfl rfl dX10_text_53 rfl ?_
        refine k_get C 57 flX10_117 91 (by decide) (v := .int ((M1) 91 13)) (ce_91 g _) rfl dX10_text_54 rfl ?_
        refine k_teq (y := nI R.2.1) h2.1 ?_
        refine k_aload_n C 58 0 rfl rfl dX10_text_57 rfl ?_
        refine k_get C 61 flX10_9 91 (by decide) (v := .ref (ga g 92)) (ce_91 g _) rfl dX10_text_58 rfl ?_
        refine k_iconst C 62 (v := 4) (by decide) dX10_text_61 rfl ?_
        refine k_iald C 63 92 4 (by decide) (ce_92 g) (by decide) rfl (by omega) dX10_text_62 rfl ?_
        refine k_teq (y := nI n) (by rw [hF.1]; exact hn) ?_
        refine k_icmp_ge C 70 66 dX10_text_63 (by decide) rfl (fun c63 => ?_) (fun d63 => ?_)
        · skip
          have c63 := (nI_leI (by omega) (by omega)).mp (show nI n ≤ nI R.2.1 from c63)
          refine k_iconst C 71 (v := 0) (by decide) dX10_text_70 rfl ?_
          refine k_put C 74 flX10_131 plX10 91 (by decide) (ce_91 g _) (ce_91 g _) (Nat.le_of_ble_eq_true rfl) rfl rfl rfl dX10_text_71 rfl ?_
          refine k_aload_n C 75 0 rfl rfl dX10_text_74 rfl ?_
          refine k_get C 78 flX10_9 91 (by decide) (v := .ref (ga g 92)) (ce_91 g _) rfl dX10_text_75 rfl ?_
          refine k_iconst C 79 (v := 4) (by decide) dX10_text_78 rfl ?_
          refine k_iconst C 80 (v := 0) (by decide) dX10_text_79 rfl ?_
          refine k_iast C 81 92 4 (by decide) (ce_92 g) (by decide) rfl (by omega) dX10_text_80 rfl ?_
          refine k_aload_n C 82 0 rfl rfl dX10_text_81 rfl ?_
          refine k_get C 85 flX10_131 91 (by decide) (v := .int ((mu (mu M1 91 15 0) 92 4 0) 91 15)) (ce_91 g _) rfl dX10_text_82 rfl ?_
          refine k_teq (show (mu (mu M1 91 15 0) 92 4 0) 91 15 = 0 by simp [mu_at]) ?_
          refine k_if_eq C 96 88 dX10_text_85 (by decide) rfl (fun c85 => ?_) (fun d85 => ?_)
          · skip
            refine k_sipush C 99 (v := 174) (by decide) dX10_text_96 rfl ?_
            refine k_bipush C 101 (v := 121) (by decide) dX10_text_99 rfl ?_
            refine k_iload_n C 102 1 rfl rfl dX10_text_101 rfl ?_
            refine k_imul C 103 dX10_text_102 rfl ?_
            refine k_teq (pk_mul 121 u) ?_
            refine k_iadd C 104 dX10_text_103 rfl ?_
            refine k_teq (nI_add 174 (121 * u)) ?_
            refine k_istore_n C 105 [(2, .int (nI (174 + (121 * u)))), (0, .ref (ga g 91)), (1, .int (nI u))] rfl (by decide) rfl dX10_text_104 rfl ?_
            refine k_aload_n C 106 1 rfl rfl dX10_text_105 rfl ?_
            refine k_get C 109 flX10_9 91 (by decide) (v := .ref (ga g 92)) (ce_91 g _) rfl dX10_text_106 rfl ?_
            refine k_iload_n C 110 0 rfl rfl dX10_text_109 rfl ?_
            refine k_aload_n C 111 1 rfl rfl dX10_text_110 rfl ?_
            refine k_get C 114 flX10_121 91 (by decide) (v := .int ((mu (mu M1 91 15 0) 92 4 0) 91 12)) (ce_91 g _) rfl dX10_text_111 rfl ?_
            refine k_teq (show (mu (mu M1 91 15 0) 92 4 0) 91 12 = M1 91 12 by simp [mu_at]) ?_
            refine k_teq (y := nI R.2.2.1) h2.2.1 ?_
            refine k_iast C 115 92 (174 + (121 * u)) (by decide) (ce_92 g) (by decide) rfl (by omega) dX10_text_114 rfl ?_
            refine k_iconst C 116 (v := 0) (by decide) dX10_text_115 rfl ?_
            refine k_istore_n C 117 [(3, .int 0), (2, .int (nI (174 + (121 * u)))), (0, .ref (ga g 91)), (1, .int (nI u))] rfl (by decide) rfl dX10_text_116 rfl ?_
            refine k_sub [(0, .ref (ga g 91)), (2, .int (nI (174 + (121 * u)))), (3, .int 0)] [2, 1, 0] rfl ?_
            refine k_all (M' := txM (mu (mu (mu M1 91 15 0) 92 4 0) 92 (174 + (121 * u)) (nI (R.2.2.1))) (174 + (121 * u)) (M1 99) (M1 100) 0) (lo' := [(0, .ref (ga g 91)), (2, .int (nI (174 + (121 * u)))), (3, .int (nI 0))]) (st' := []) (by rfl) (by rfl) rfl ?_
            refine k_loop (σ := Nat) (fun (i : Nat) => (i ≤ R.2.2.1)) (fun (i : Nat) => R.2.2.1 - i) (fun (i : Nat) => txM (mu (mu (mu M1 91 15 0) 92 4 0) 92 (174 + (121 * u)) (nI (R.2.2.1))) (174 + (121 * u)) (M1 99) (M1 100) i) (fun (i : Nat) => [(0, .ref (ga g 91)), (2, .int (nI (174 + (121 * u)))), (3, .int (nI i))]) 0 (show (0 ≤ R.2.2.1) from by exact Nat.zero_le _) ?_
            rintro i hI ih
            have hI : (i ≤ R.2.2.1) := hI
            have hi := hI
            show KW pP l eE RR sS mI aG bB mE cD g 4 _ (txM (mu (mu (mu M1 91 15 0) 92 4 0) 92 (174 + (121 * u)) (nI (R.2.2.1))) (174 + (121 * u)) (M1 99) (M1 100) i) 117 [(0, .ref (ga g 91)), (2, .int (nI (174 + (121 * u)))), (3, .int (nI i))] []
            refine k_iload_n C 118 2 rfl rfl dX10_text_117 rfl ?_
            refine k_aload_n C 119 0 rfl rfl dX10_text_118 rfl ?_
            refine k_get C 122 flX10_121 91 (by decide) (v := .int ((txM (mu (mu (mu M1 91 15 0) 92 4 0) 92 (174 + (121 * u)) (nI (R.2.2.1))) (174 + (121 * u)) (M1 99) (M1 100) i) 91 12)) (ce_91 g _) rfl dX10_text_119 rfl ?_
            refine k_teq (y := nI R.2.2.1) (by rw [txM_o _ _ _ _ (show (91 : Nat) ≠ 92 by decide)]; simp only [mu_n _ _ _ (show (91 : Nat) ≠ 92 by decide)]; rw [mu_o _ _ _ (by decide)]; exact h2.2.1) ?_
            refine k_icmp_ge C 164 125 dX10_text_122 (by decide) rfl (fun c122 => ?_) (fun d122 => ?_)
            · skip
              have c122 := (nI_leI (by omega) (by omega)).mp (show nI R.2.2.1 ≤ nI i from c122)
              refine k_iconst C 165 (v := 1) (by decide) dX10_text_164 rfl ?_
              refine k_ret C rfl dX10_text_165 ?_
              have e : i = R.2.2.1 := by omega
              subst e
              exact tx_good hF ⟨hr, by omega⟩ hok.2 h2.2.2.1
            · skip
              have d122 := mt (nI_leI (by omega) (by omega)).mpr (show ¬ (nI R.2.2.1 ≤ nI i) from d122)
              refine k_aload_n C 126 0 rfl rfl dX10_text_125 rfl ?_
              refine k_get C 129 flX10_9 91 (by decide) (v := .ref (ga g 92)) (ce_91 g _) rfl dX10_text_126 rfl ?_
              refine k_iload_n C 130 1 rfl rfl dX10_text_129 rfl ?_
              refine k_iconst C 131 (v := 1) (by decide) dX10_text_130 rfl ?_
              refine k_iadd C 132 dX10_text_131 rfl ?_
              refine k_teq (nI_add (174 + (121 * u)) 1) ?_
              refine k_iload_n C 133 2 rfl rfl dX10_text_132 rfl ?_
              refine k_iadd C 134 dX10_text_133 rfl ?_
              refine k_teq (nI_add ((174 + (121 * u)) + 1) i) ?_
              refine k_aload_n C 135 0 rfl rfl dX10_text_134 rfl ?_
              refine k_get C 138 flX10_31 91 (by decide) (v := .ref (ga g 99)) (ce_91 g _) rfl dX10_text_135 rfl ?_
              refine k_iload_n C 139 2 rfl rfl dX10_text_138 rfl ?_
              refine k_iald C 140 99 i (by decide) (ce_99 g) (by decide) rfl (by omega) dX10_text_139 rfl ?_
              refine k_teq (y := M1 99 i) (by rw [txM_o _ _ _ _ (show (99 : Nat) ≠ 92 by decide)]; simp only [mu_n _ _ _ (show (99 : Nat) ≠ 92 by decide), mu_n _ _ _ (show (99 : Nat) ≠ 91 by decide)]) ?_
              refine k_iast C 141 92 (((174 + (121 * u)) + 1) + i) (by decide) (ce_92 g) (by decide) rfl (by omega) dX10_text_140 rfl ?_
              refine k_aload_n C 142 0 rfl rfl dX10_text_141 rfl ?_
              refine k_get C 145 flX10_9 91 (by decide) (v := .ref (ga g 92)) (ce_91 g _) rfl dX10_text_142 rfl ?_
              refine k_iload_n C 146 1 rfl rfl dX10_text_145 rfl ?_
              refine k_bipush C 148 (v := 61) (by decide) dX10_text_146 rfl ?_
              refine k_iadd C 149 dX10_text_148 rfl ?_
              refine k_teq (nI_add (174 + (121 * u)) 61) ?_
              refine k_iload_n C 150 2 rfl rfl dX10_text_149 rfl ?_
              refine k_iadd C 151 dX10_text_150 rfl ?_
              refine k_teq (nI_add ((174 + (121 * u)) + 61) i) ?_
              refine k_aload_n C 152 0 rfl rfl dX10_text_151 rfl ?_
              refine k_get C 155 flX10_34 91 (by decide) (v := .ref (ga g 100)) (ce_91 g _) rfl dX10_text_152 rfl ?_
              refine k_iload_n C 156 2 rfl rfl dX10_text_155 rfl ?_
              refine k_iald C 157 100 i (by decide) (ce_100 g) (by decide) rfl (by omega) dX10_text_156 rfl ?_
              refine k_teq (show (mu (txM (mu (mu (mu M1 91 15 0) 92 4 0) 92 (174 + (121 * u)) (nI (R.2.2.1))) (174 + (121 * u)) (M1 99) (M1 100) i) 92 (((174 + (121 * u)) + 1) + i) (M1 99 i)) 100 i = (txM (mu (mu (mu M1 91 15 0) 92 4 0) 92 (174 + (121 * u)) (nI (R.2.2.1))) (174 + (121 * u)) (M1 99) (M1 100) i) 100 i by simp [mu_at]) ?_
              refine k_teq (y := M1 100 i) (by rw [txM_o _ _ _ _ (show (100 : Nat) ≠ 92 by decide)]; simp only [mu_n _ _ _ (show (100 : Nat) ≠ 92 by decide), mu_n _ _ _ (show (100 : Nat) ≠ 91 by decide)]) ?_
              refine k_iast C 158 92 (((174 + (121 * u)) + 61) + i) (by decide) (ce_92 g) (by decide) rfl (by omega) dX10_text_157 rfl ?_
              refine k_iinc C 161 (nI (i + 1)) 2 [(3, .int (nI (i + 1))), (0, .ref (ga g 91)), (2, .int (nI (174 + (121 * u))))] rfl (iinc_p i) (by decide) rfl dX10_text_158 rfl ?_
              refine k_goto C 117 dX10_text_161 (by decide) ?_
              refine k_sub [(0, .ref (ga g 91)), (2, .int (nI (174 + (121 * u)))), (3, .int (nI (i + 1)))] [1, 2, 0] rfl ?_
              refine k_all (M' := txM (mu (mu (mu M1 91 15 0) 92 4 0) 92 (174 + (121 * u)) (nI (R.2.2.1))) (174 + (121 * u)) (M1 99) (M1 100) (i + 1)) (lo' := [(0, .ref (ga g 91)), (2, .int (nI (174 + (121 * u)))), (3, .int (nI (i + 1)))]) (st' := []) (by rfl) (by rfl) rfl ?_
              exact ih (i + 1) (show ((i + 1) ≤ R.2.2.1) from by omega) (by show R.2.2.1 - (i + 1) < _; omega)
          · skip
            exact absurd d85 (by decide)
        · skip
          have d63 := mt (nI_leI (by omega) (by omega)).mpr (show ¬ (nI n ≤ nI R.2.1) from d63)
          refine k_iconst C 67 (v := 1) (by decide) dX10_text_66 rfl ?_
          refine k_goto C 71 dX10_text_67 (by decide) ?_
          refine k_put C 74 flX10_131 plX10 91 (by decide) (ce_91 g _) (ce_91 g _) (Nat.le_of_ble_eq_true rfl) rfl rfl rfl dX10_text_71 rfl ?_
          refine k_aload_n C 75 0 rfl rfl dX10_text_74 rfl ?_
          refine k_get C 78 flX10_9 91 (by decide) (v := .ref (ga g 92)) (ce_91 g _) rfl dX10_text_75 rfl ?_
          refine k_iconst C 79 (v := 4) (by decide) dX10_text_78 rfl ?_
          refine k_iconst C 80 (v := 0) (by decide) dX10_text_79 rfl ?_
          refine k_iast C 81 92 4 (by decide) (ce_92 g) (by decide) rfl (by omega) dX10_text_80 rfl ?_
          refine k_aload_n C 82 0 rfl rfl dX10_text_81 rfl ?_
          refine k_get C 85 flX10_131 91 (by decide) (v := .int ((mu (mu M1 91 15 1) 92 4 0) 91 15)) (ce_91 g _) rfl dX10_text_82 rfl ?_
          refine k_teq (show (mu (mu M1 91 15 1) 92 4 0) 91 15 = 1 by simp [mu_at]) ?_
          refine k_if_eq C 96 88 dX10_text_85 (by decide) rfl (fun c85 => ?_) (fun d85 => ?_)
          · skip
            exact absurd c85 (by decide)
          · skip
            refine k_bipush C 90 (v := (-10)) (by decide) dX10_text_88 rfl ?_
            refine k_aload_n C 91 0 rfl rfl dX10_text_90 rfl ?_
            refine k_get C 94 flX10_117 91 (by decide) (v := .int ((mu (mu M1 91 15 1) 92 4 0) 91 13)) (ce_91 g _) rfl dX10_text_91 rfl ?_
            refine k_teq (show (mu (mu M1 91 15 1) 92 4 0) 91 13 = M1 91 13 by simp [mu_at]) ?_
            refine k_teq (y := nI R.2.1) h2.1 ?_
            refine k_isub C 95 dX10_text_94 rfl ?_
            refine k_ret C rfl dX10_text_95 ?_
            exact tx_bad hF (fun q => by omega)
  · skip
    exact (bz d6 (rg_le (a := 0) (b := 1) (Nat.zero_le _) (by omega) (by decide))).elim
