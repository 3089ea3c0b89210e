-- the calls: what is asked
theorem fstK_cg {P Q : Nat → Bool} : ∀ k i, (∀ j, i ≤ j → j < i + k → P j = Q j) → fstK P k i = fstK Q k i
  | 0, _, _ => rfl
  | k + 1, i, h => by
    simp only [fstK]
    rw [h i (by omega) (by omega)]
    split
    · exact fstK_cg k (i + 1) (fun j h1 h2 => h j (by omega) (by omega))
    · rfl
theorem pEch_c (km h : Int32) {a b : Nat → Int32} (e : ∀ j, j < 7 → a j = b j) : ∀ i, pEch km h a i = pEch km h b i
  | 0 => rfl
  | i + 1 => by
    simp only [pEch]
    rw [pEch_c km h e i]
    generalize cnd _ _ _ _ _ = q
    rw [show pAns q a = pAns q b from pAns_congr (fun _ _ => rfl) (fun j hj => e j (by omega))]
theorem fw_c {n : Nat} {F G : Nat → Nat → Int32} (hn : n ≤ 12) (h : eqF n F G) : fwB (pSet G n) (fun m => (isTk G m n).isSome) (pSet G n + 1) (pSet G n) = (pSet F n &&& (4095 ^^^ (pBst F n % 4096))) := by
  rw [← fewest_eq F hn, pSet_c n h]
  exact fwB_c (fun m => congrArg Option.isSome (isTk_c m n h).symm) _ _
theorem mF_row {M M1 : Mem} (h : M1 92 = M 92) : mF M1 = mF M := by unfold mF; rw [h]
theorem Rel_TL2 {M M2 : Mem} {u : Nat} (hu : u < 2) (hR : Rel M) (h3 : Tr 0 M2) (h4 : Lr 0 M2 u) (hX : ∀ a k, rS a k → ¬ (a = 43 ∧ k = 3) → ¬ (a = 92 ∧ k = 4) → ¬ cLr 0 u a k → M2 a k = M a k) : Rel M2 := by
  have hR0 := hR
  obtain ⟨⟨-, -, -, -, hL0, hL1⟩, -⟩ := hR
  rcases (show u = 0 ∨ u = 1 by omega) with rfl | rfl
  · exact Rel_TL hR0 h3 h4 (Lr_cg hL1 (fun a k q => hX a k (by unfold cLr at q; unfold rS; omega) (by unfold cLr at q; omega) (by unfold cLr at q; omega) (by unfold cLr at q ⊢; omega)))
      (fun a k q q1 q2 q3 q4 => hX a k q q1 (by omega) (by unfold cLr; omega))
  · exact Rel_TL hR0 h3 (Lr_cg hL0 (fun a k q => hX a k (by unfold cLr at q; unfold rS; omega) (by unfold cLr at q; omega) (by unfold cLr at q; omega) (by unfold cLr at q ⊢; omega))) h4
      (fun a k q q1 q2 q3 q4 => hX a k q q1 (by omega) (by unfold cLr; omega))
theorem bgs_c : ∀ (L : List Int32) (t s : Nat × (Nat → Int32)), t.1 = s.1 → (∀ k, k < t.1 → t.2 k = s.2 k) → (bgs t L).1 = (bgs s L).1 ∧ ∀ k, k < (bgs t L).1 → (bgs t L).2 k = (bgs s L).2 k
  | [], _, _, h1, h2 => ⟨h1, h2⟩
  | b :: L, t, s, h1, h2 => by
    show (bgs (bg t b) L).1 = (bgs (bg s b) L).1 ∧ ∀ k, k < (bgs (bg t b) L).1 → (bgs (bg t b) L).2 k = (bgs (bg s b) L).2 k
    have e : (bg t b).1 = (bg s b).1 ∧ ∀ k, k < (bg t b).1 → (bg t b).2 k = (bg s b).2 k := by
      unfold bg
      by_cases q : t.1 < 30
      · rw [if_pos q, if_pos (by omega)]
        refine ⟨by show t.1 + 1 = s.1 + 1; omega, fun k hk => ?_⟩
        have hk : k < t.1 + 1 := hk
        show upd t.2 t.1 b k = upd s.2 s.1 b k
        rw [← h1]; unfold upd
        by_cases z : k = t.1
        · rw [if_pos z, if_pos z]
        · rw [if_neg z, if_neg z]; exact h2 k (by omega)
      · rw [if_neg q, if_neg (by omega)]; exact ⟨h1, h2⟩
    exact bgs_c L _ _ e.1 e.2
theorem spkP_n (M : Mem) (k : Nat) (x4 v : Int32) {a : Nat} (h : a ≠ 78) : spkP M k x4 v a = M a := by
  unfold spkP; split <;> simp only [spk, mu_n _ _ _ h]
theorem trC_n (M : Mem) (t : Nat × (Nat → Int32)) {a : Nat} (h1 : a ≠ 78) (h2 : a ≠ 79) : trC M t a = M a := by unfold trC; rw [mrow_n _ _ h2, mu_n _ _ _ h1]
theorem trC_79 (M : Mem) (t : Nat × (Nat → Int32)) : trC M t 79 = t.2 := by unfold trC; rw [mrow_s]
theorem trM_104 (M : Mem) (t : Nat × (Nat → Int32)) : trM M t 104 = t.2 := by unfold trM; rw [mrow_s]
set_option maxRecDepth 20000 in
theorem r_talk (l : Launch) (g : GT) {M : Mem} (hR : Rel M) (w : Int32) : Both l g yX9_talk cX9_talk 2 yX10_talk cX10_talk 2 [.int w] M := by
  have hR0 := hR
  obtain ⟨⟨⟨n, hF⟩, hS, hT, hW, hL0, hL1⟩, hi, hK, hE, hs, hc⟩ := hR
  have hn : M 37 1 = nI n := hF.1
  have hm : M 92 2 = nI n := hF.2.1
  have h12 := hF.2.2.1
  by_cases hg : (decide (0 ≤ w) && decide (w ≤ 2)) = true
  · obtain ⟨t, -, ht, rfl⟩ := in_le (a := 0) (b := 2) (by decide) (by decide) (show (decide (nI 0 ≤ w) && decide (w ≤ nI 2)) = true from hg)
    refine both_EE (qX9_talk_t l g M hn h12 (w := t) (by omega)) (by decide) (qX10_talk_t l g M hm h12 (w := t) (by omega)) (by decide) ?_ hR0
    rw [pLong_c n (Fr_eq hF), pCnt_c n (Fr_eq hF), pSet_c n (Fr_eq hF)]
  · have k0 : ∀ x : Int32, (decide (0 ≤ x) && decide (x ≤ 2)) = true → ¬ w = x := fun x hx e => hg (by rw [e]; exact hx)
    exact both_err hR0 (qX9_talk_f l g M w (k0 0 (by decide)) (k0 1 (by decide)) (k0 2 (by decide))) (by decide) (fun M1 _ => qX10_talk_f l g M1 w (k0 0 (by decide)) (k0 1 (by decide)) (k0 2 (by decide))) (by decide) (by decide) (by decide)
set_option maxRecDepth 20000 in
theorem r_count (l : Launch) (g : GT) {M : Mem} (hR : Rel M) (w : Int32) : Both l g yX9_count cX9_count 2 yX10_count cX10_count 2 [.int w] M := by
  have hR0 := hR
  obtain ⟨⟨⟨n, hF⟩, hS, hT, hW, hL0, hL1⟩, hi, hK, hE, hs, hc⟩ := hR
  have hn : M 37 1 = nI n := hF.1
  have hm : M 92 2 = nI n := hF.2.1
  have h12 := hF.2.2.1
  by_cases hg : (decide (0 ≤ w) && decide (w ≤ 7)) = true
  · obtain ⟨t, -, ht, rfl⟩ := in_le (a := 0) (b := 7) (by decide) (by decide) (show (decide (nI 0 ≤ w) && decide (w ≤ nI 7)) = true from hg)
    refine both_EE (qX9_count_t l g M hn h12 (w := t) (by omega)) (by decide) (qX10_count_t l g M hm h12 (w := t) (by omega)) (by decide) ?_ hR0
    obtain ⟨y, p, a1, a2, a3, a4, a5, a6, a7, a8⟩ := hS
    obtain ⟨z, t1, t2, -⟩ := hT
    obtain ⟨u, w1, w2, -⟩ := hW
    obtain ⟨v, c1, c2, -⟩ := hc
    have e2 : M 37 2 = M 92 0 := a1.trans a2.symm
    have e3 : M 37 3 = M 92 3 := a4.trans a5.symm
    have e4 : M 43 3 = M 92 4 := t1.trans t2.symm
    have e5 : M 43 5 = M 92 5 := w1.trans w2.symm
    have e6 : M 78 1 = M 91 19 := c1.trans c2.symm
    have e7 : M 37 4 = M 92 1 := a8
    unfold pCount cCount
    rw [e2, e3, e4, e5, e6, e7, pSet_c n (Fr_eq hF)]
  · have k0 : ∀ x : Int32, (decide (0 ≤ x) && decide (x ≤ 7)) = true → ¬ w = x := fun x hx e => hg (by rw [e]; exact hx)
    exact both_err hR0 (qX9_count_f l g M w (k0 0 (by decide)) (k0 1 (by decide)) (k0 2 (by decide)) (k0 3 (by decide)) (k0 4 (by decide)) (k0 5 (by decide)) (k0 6 (by decide)) (k0 7 (by decide))) (by decide) (fun M1 _ => qX10_count_f l g M1 w (k0 0 (by decide)) (k0 1 (by decide)) (k0 2 (by decide)) (k0 3 (by decide)) (k0 4 (by decide)) (k0 5 (by decide)) (k0 6 (by decide)) (k0 7 (by decide))) (by decide) (by decide) (by decide)
set_option maxRecDepth 20000 in
theorem r_told (l : Launch) (g : GT) {M : Mem} (hR : Rel M) (w : Int32) : Both l g yX9_told cX9_told 2 yX10_told cX10_told 2 [.int w] M := by
  have hR0 := hR
  obtain ⟨⟨⟨n, hF⟩, hS, hT, hW, hL0, hL1⟩, hi, hK, hE, hs, hc⟩ := hR
  have hn : M 37 1 = nI n := hF.1
  have hm : M 92 2 = nI n := hF.2.1
  have h12 := hF.2.2.1
  by_cases hg : (decide (1 ≤ w) && decide (w ≤ 6)) = true
  · obtain ⟨t, h1, h6, rfl⟩ := in_le (a := 1) (b := 6) (by decide) (by decide) (show (decide (nI 1 ≤ w) && decide (w ≤ nI 6)) = true from hg)
    exact both_EE (qX9_told_t l g M h1 h6) (by decide) (qX10_told_t l g M h1 h6) (by decide) (hE t h1 h6).symm hR0
  · exact both_err hR0 (qX9_told_f l g M w (Bool.eq_false_iff.mpr hg)) (by decide) (fun M1 _ => qX10_told_f l g M1 w (Bool.eq_false_iff.mpr hg)) (by decide) (by decide) (by decide)
set_option maxRecDepth 20000 in
theorem r_body (l : Launch) (g : GT) {M : Mem} (hR : Rel M) (i : Int32) : Both l g yX9_body cX9_body 2 yX10_body cX10_body 2 [.int i] M := by
  have hR0 := hR
  obtain ⟨⟨⟨n, hF⟩, hS, hT, hW, hL0, hL1⟩, hi, hK, hE, hs, hc⟩ := hR
  have hn : M 37 1 = nI n := hF.1
  have hm : M 92 2 = nI n := hF.2.1
  have h12 := hF.2.2.1
  obtain ⟨v, c1, c2, c3, c4⟩ := hc
  by_cases hg : pIsF v i = true
  · obtain ⟨t, -, ht, rfl⟩ := in_lt (a := 0) (b := v) (by omega) (by decide) (show (decide (nI 0 ≤ i) && decide (i < nI v)) = true from hg)
    exact both_EE (qX9_body_t l g M c1 c3 ht) (by decide) (qX10_body_t l g M c2 c3 ht) (by decide) (c4 t ht).symm hR0
  · exact both_err hR0 (qX9_body_f l g M c1 c3 i (Bool.eq_false_iff.mpr hg)) (by decide) (fun M1 h => qX10_body_f l g M1 (by rw [h 91 (by decide)]; exact c2) c3 i (Bool.eq_false_iff.mpr hg)) (by decide) (by decide) (by decide)
set_option maxRecDepth 20000 in
theorem r_tell (l : Launch) (g : GT) {M : Mem} (hR : Rel M) (x : Int32) : Both l g yX9_tell cX9_tell 2 yX10_tell cX10_tell 2 [.int x] M := by
  have hR0 := hR
  obtain ⟨⟨⟨n, hF⟩, hS, hT, hW, hL0, hL1⟩, hi, hK, hE, hs, hc⟩ := hR
  have hn : M 37 1 = nI n := hF.1
  have hm : M 92 2 = nI n := hF.2.1
  have h12 := hF.2.2.1
  obtain ⟨u, w1, w2, w3, w4⟩ := hW
  have w1 : M 43 5 = nI u := w1
  have w2 : M 92 5 = nI u := w2
  have w4 : ∀ i, i < u → M 65 i = M 92 (150 + i) := w4
  by_cases h24 : u = 24
  · subst h24
    exact both_err hR0 (qX9_tell_full l g M w1 x) (by decide) (fun M1 h => qX10_tell_full l g M1 (by rw [h 92 (by decide)]; exact w2) x) (by decide) (by decide) (by decide)
  · have hlt : u < 24 := by omega
    refine both_EE (qX9_tell_t l g M w1 hlt x) (by decide) (qX10_tell_t l g _ (w := u) (by rw [mu_n _ _ _ (by decide), mu_n _ _ _ (by decide)]; exact w2) hlt x) (by decide) rfl (Rel_W hR0 ⟨u + 1, ?_, ?_, by omega, fun i hi => ?_⟩ (fun a k _ q1 q2 q3 => ?_))
    · show mu (mu (mu (mu M 65 u x) 43 5 (nI (u + 1))) 92 (150 + u) x) 92 5 (nI (u + 1)) 43 5 = nI (u + 1)
      rw [mu_n _ _ _ (by decide), mu_n _ _ _ (by decide)]; exact mu_s _ _ _ _
    · exact mu_s _ _ _ _
    · show mu (mu (mu (mu M 65 u x) 43 5 (nI (u + 1))) 92 (150 + u) x) 92 5 (nI (u + 1)) 65 i = mu (mu (mu (mu M 65 u x) 43 5 (nI (u + 1))) 92 (150 + u) x) 92 5 (nI (u + 1)) 92 (150 + i)
      rw [mu_n _ _ _ (by decide), mu_n _ _ _ (by decide), mu_n _ _ _ (by decide), mu_o _ 92 _ (show 150 + i ≠ 5 by omega)]
      by_cases e : i = u
      · subst e; rw [mu_s, mu_s]
      · rw [mu_o _ _ _ e, mu_o _ _ _ (by omega), mu_n _ _ _ (by decide), mu_n _ _ _ (by decide)]; exact w4 i (by omega)
    · rw [mu_at, if_neg (by omega), mu_at, if_neg (by omega), mu_at, if_neg (by omega), mu_at, if_neg (by omega)]
set_option maxRecDepth 20000 in
theorem r_check (l : Launch) (g : GT) {M : Mem} (hR : Rel M)  : Both l g yX9_check cX9_check 3 yX10_check cX10_check 3 [] M := by
  have hR0 := hR
  obtain ⟨⟨⟨n, hF⟩, hS, hT, hW, hL0, hL1⟩, hi, hK, hE, hs, hc⟩ := hR
  have hn : M 37 1 = nI n := hF.1
  have hm : M 92 2 = nI n := hF.2.1
  have h12 := hF.2.2.1
  obtain ⟨u, w1, w2, w3, w4⟩ := hW
  have w1 : M 43 5 = nI u := w1
  have w2 : M 92 5 = nI u := w2
  have w4 : ∀ i, i < u → M 65 i = M 92 (150 + i) := w4
  refine both_EE (qX9_check l g M hn h12 w1 w3) (by decide) (qX10_check l g _ (n := n) (by rw [mu_n _ _ _ (by decide)]; exact hm) h12 (u := u) (by rw [mu_n _ _ _ (by decide)]; exact w2) w3) (by decide) ?_ (Rel_W hR0 ⟨0, ?_, ?_, by decide, fun i h => absurd h (Nat.not_lt_zero _)⟩ (fun a k _ q1 q2 q3 => ?_))
  · have e92 : mu M 43 5 0 92 = M 92 := mu_n _ _ _ (by decide)
    rw [e92, mF_row e92]
    refine congrArg (chk u) (fstK_cg _ _ (fun j j1 j2 => ?_))
    have hj : j < u := by omega
    by_cases hjn : j < n
    · have e5 : M j 5 = mF M j 5 := (Fr_at hF hjn).1 5 (by decide)
      simp only [wtP, fF0, w4 j hj, e5]
    · simp [wtP, hjn]
  · show mu (mu M 43 5 0) 92 5 0 43 5 = nI 0
    rw [mu_n _ _ _ (by decide)]; exact (mu_s _ _ _ _).trans nI_0.symm
  · exact (mu_s _ _ _ _).trans nI_0.symm
  · rw [mu_at, if_neg (by omega), mu_at, if_neg (by omega)]
set_option maxRecDepth 20000 in
theorem r_untell (l : Launch) (g : GT) {M : Mem} (hR : Rel M) (u : Int32) : Both l g yX9_untell cX9_untell 3 yX10_untell cX10_untell 2 [.int u] M := by
  have hR0 := hR
  obtain ⟨⟨⟨n, hF⟩, hS, hT, hW, hL0, hL1⟩, hi, hK, hE, hs, hc⟩ := hR
  have hn : M 37 1 = nI n := hF.1
  have hm : M 92 2 = nI n := hF.2.1
  have h12 := hF.2.2.1
  have e2 : (decide (0 ≤ u) && decide (u < 2)) = (decide (0 ≤ u) && decide (u ≤ 1)) := by rw [lt2_le]
  by_cases hg : (decide (0 ≤ u) && decide (u ≤ 1)) = true
  · obtain ⟨t, -, ht, rfl⟩ := in_le (a := 0) (b := 1) (by decide) (by decide) (show (decide (nI 0 ≤ u) && decide (u ≤ nI 1)) = true from hg)
    have ht2 : t < 2 := by omega
    have hLt : Lr 0 M t := by
      rcases (show t = 0 ∨ t = 1 by omega) with rfl | rfl
      · exact hL0
      · exact hL1
    obtain ⟨m, a1, a2, a3, a4, a5⟩ := hLt
    refine both_EE (qX9_untell_t l g M ht2 a1 a3) (by decide) (qX10_untell_t l g _ ht2 (n0 := m) (by rw [mu_n _ _ _ (by omega)]; exact a2) a3) (by decide) rfl (Rel_TL2 ht2 hR0 (Tr_cg hT (fun a k q => ?_)) ⟨0, ?_, ?_, by decide, fun h => absurd h (by decide), fun k h => absurd h (Nat.not_lt_zero _)⟩ (fun a k q q1 q2 q3 => ?_))
    · unfold cTr at q
      rw [mu_at, if_neg (by omega), mu_at, if_neg (by omega)]
    · show mu (mu M (47 + t) 1 0) 92 (174 + 121 * t) 0 (47 + 2 * 0 + t) 1 = nI 0
      rw [show 47 + 2 * 0 + t = 47 + t by omega, mu_n _ _ _ (by omega)]; exact (mu_s _ _ _ _).trans nI_0.symm
    · exact (mu_s _ _ _ _).trans nI_0.symm
    · unfold cLr at q3
      rw [mu_at, if_neg (by omega), mu_at, if_neg (by omega)]
  · exact both_err hR0 (qX9_untell_f l g M u (e2.trans (Bool.eq_false_iff.mpr hg))) (by decide) (fun M1 _ => qX10_untell_f l g M1 u (Bool.eq_false_iff.mpr hg)) (by decide) (by decide) (by decide)
set_option maxRecDepth 20000 in
theorem r_law (l : Launch) (g : GT) {M : Mem} (hR : Rel M) (u a b c : Int32) : Both l g yX9_law cX9_law 5 yX10_law cX10_law 5 [.int u, .int a, .int b, .int c] M := by
  have hR0 := hR
  obtain ⟨⟨⟨n, hF⟩, hS, hT, hW, hL0, hL1⟩, hi, hK, hE, hs, hc⟩ := hR
  have hn : M 37 1 = nI n := hF.1
  have hm : M 92 2 = nI n := hF.2.1
  have h12 := hF.2.2.1
  have e2 : (decide (0 ≤ u) && decide (u < 2)) = (decide (0 ≤ u) && decide (u ≤ 1)) := by rw [lt2_le]
  by_cases hg : (decide (0 ≤ u) && decide (u ≤ 1)) = true
  · obtain ⟨t, -, ht, rfl⟩ := in_le (a := 0) (b := 1) (by decide) (by decide) (show (decide (nI 0 ≤ u) && decide (u ≤ nI 1)) = true from hg)
    have ht2 : t < 2 := by omega
    have hLt : Lr 0 M t := by
      rcases (show t = 0 ∨ t = 1 by omega) with rfl | rfl
      · exact hL0
      · exact hL1
    obtain ⟨m, k1, k2⟩ := law_of ht2 hLt
    refine both_of (qX9_law_t l g M ht2 k1 a b c) (by decide) (fun r M1 hq => ?_)
    obtain ⟨rfl, hsc⟩ := hq
    refine ⟨_, _, ?_, qX10_law_t l g M1 ht2 (M (52 + t)) (k2 M1 (row92 hsc)) a b c, fun r2 M2 hq2 => ⟨hq2.1, Rel_law hR0 hsc hq2.2⟩⟩
    decide
  · exact both_err hR0 (qX9_law_f l g M u a b c (e2.trans (Bool.eq_false_iff.mpr hg))) (by decide) (fun M1 _ => qX10_law_f l g M1 u a b c (Bool.eq_false_iff.mpr hg)) (by decide) (by decide) (by decide)
set_option maxRecDepth 20000 in
theorem r_meaning (l : Launch) (g : GT) {M : Mem} (hR : Rel M) (w : Int32) : Both l g yX9_meaning cX9_meaning 5 yX10_meaning cX10_meaning 5 [.int w] M := by
  have hR0 := hR
  obtain ⟨⟨⟨n, hF⟩, hS, hT, hW, hL0, hL1⟩, hi, hK, hE, hs, hc⟩ := hR
  have hn : M 37 1 = nI n := hF.1
  have hm : M 92 2 = nI n := hF.2.1
  have h12 := hF.2.2.1
  by_cases hg : (decide ((-1) ≤ w) && decide (w ≤ 5)) = true
  · obtain ⟨m, k1, k2⟩ := law_of (u := 1) (by decide) hL1
    refine both_of (qX9_meaning_t l g M hn h12 w hg k1) (by decide) (fun r M1 hq => ?_)
    obtain ⟨rfl, hsc⟩ := hq
    have e92 := row92 hsc
    refine ⟨_, _, ?_, qX10_meaning_t l g M1 (n := n) (by rw [e92]; exact hm) h12 w hg (M 53) (k2 M1 e92), fun r2 M2 hq2 => ⟨?_, Rel_law hR0 hsc hq2.2⟩⟩
    · decide
    · rw [hq2.1, mF_row e92, pMean_c m w (p := M 53) (q := M 53) (fun _ _ _ => rfl) n (Fr_eq hF)]
  · exact both_err hR0 (qX9_meaning_f l g M w (Bool.eq_false_iff.mpr hg)) (by decide) (fun M1 _ => qX10_meaning_f l g M1 w (Bool.eq_false_iff.mpr hg)) (by decide) (by decide) (by decide)
set_option maxRecDepth 20000 in
theorem r_judge (l : Launch) (g : GT) {M : Mem} (hR : Rel M) (s : Int32) : Both l g yX9_judge cX9_judge 5 yX10_judge cX10_judge 4 [.int s] M := by
  have hR0 := hR
  obtain ⟨⟨⟨n, hF⟩, hS, hT, hW, hL0, hL1⟩, hi, hK, hE, hs, hc⟩ := hR
  have hn : M 37 1 = nI n := hF.1
  have hm : M 92 2 = nI n := hF.2.1
  have h12 := hF.2.2.1
  by_cases hg : (decide (0 ≤ s) && decide (s < 4)) = true
  · obtain ⟨t, -, ht, rfl⟩ := in_lt (a := 0) (b := 4) (by decide) (by decide) (show (decide (nI 0 ≤ s) && decide (s < nI 4)) = true from hg)
    obtain ⟨b1, b2, z, b3, b4, b5, b6⟩ := hs t ht
    by_cases h0 : M 96 t = 0
    · exact both_err hR0 (qX9_judge_0 l g M ht (b1.trans h0)) (by decide) (fun M1 hx => qX10_judge_0 l g M1 ht (by rw [hx 96 (by decide)]; exact h0)) (by decide) (by decide) (by decide)
    · obtain ⟨m, k1, k2⟩ := law_of (u := 1) (by decide) hL1
      refine both_of (qX9_judge_t l g M hn h12 ht (fun e => h0 (b1.symm.trans e)) b3 b5 k1) (by decide) (fun r M1 hq => ?_)
      obtain ⟨rfl, hsc⟩ := hq
      have e92 := row92 hsc
      have e96 : M1 96 = M 96 := funext fun k => hsc 96 k (by unfold lawS; omega)
      have e97 : M1 97 = M 97 := funext fun k => hsc 97 k (by unfold lawS; omega)
      have e98 : M1 98 = M 98 := funext fun k => hsc 98 k (by unfold lawS; omega)
      refine ⟨_, _, ?_, qX10_judge_t l g M1 (n := n) (by rw [e92]; exact hm) h12 ht (by rw [e96]; exact h0) (z := z) (by rw [e97]; exact b4) b5 (M 53) (k2 M1 e92), fun r2 M2 hq2 => ⟨?_, Rel_law hR0 hsc hq2.2⟩⟩
      · decide
      · rw [hq2.1, mF_row e92, e98]
        refine congrArg nI (fstK_cg _ _ (fun j j1 j2 => ?_))
        have hj := Nat.lt_min.mp (show j < min z n by omega)
        have q : ∀ i, i < 7 → M j i = mF M j i := (Fr_at hF hj.2).1
        simp only [jdP, fF0, q 2 (by decide), q 3 (by decide), pDepth_c q, b6 j (by omega)]
  · exact both_err hR0 (qX9_judge_f l g M s (Bool.eq_false_iff.mpr hg)) (by decide) (fun M1 _ => qX10_judge_f l g M1 s (Bool.eq_false_iff.mpr hg)) (by decide) (by decide) (by decide)
set_option maxRecDepth 20000 in
theorem r_fewest (l : Launch) (g : GT) {M : Mem} (hR : Rel M) (w : Int32) : Both l g yX9_fewest cX9_fewest 3 yX10_fewest cX10_fewest 5 [.int w] M := by
  have hR0 := hR
  obtain ⟨⟨⟨n, hF⟩, hS, hT, hW, hL0, hL1⟩, hi, hK, hE, hs, hc⟩ := hR
  have hn : M 37 1 = nI n := hF.1
  have hm : M 92 2 = nI n := hF.2.1
  have h12 := hF.2.2.1
  by_cases hg : (decide (0 ≤ w) && decide (w ≤ 1)) = true
  · obtain ⟨t, -, ht, rfl⟩ := in_le (a := 0) (b := 1) (by decide) (by decide) (show (decide (nI 0 ≤ w) && decide (w ≤ nI 1)) = true from hg)
    refine both_of (qX9_fewest_t l g M hn h12 (w := t) (by omega)) (by decide) (fun r M1 hq => ?_)
    obtain ⟨rfl, hx⟩ := hq
    have e92 : M1 92 = M 92 := hx 92 (by decide)
    refine ⟨_, _, ?_, qX10_fewest_t l g M1 (n := n) (by rw [e92]; exact hm) h12 (w := t) (by omega) rfl, fun r2 M2 hq2 => ?_⟩
    · decide
    · obtain ⟨rfl, rfl⟩ := hq2
      refine ⟨?_, Rel_same hR0 (fun a k q => by rw [hx a (by unfold rS at q; omega)])⟩
      rw [mF_row e92, fw_c h12 (Fr_eq hF)]
  · exact both_err hR0 (qX9_fewest_f l g M w (Bool.eq_false_iff.mpr hg)) (by decide) (fun M1 _ => qX10_fewest_f l g M1 w (Bool.eq_false_iff.mpr hg)) (by decide) (by decide) (by decide)
set_option maxRecDepth 20000 in
theorem r_odds (l : Launch) (g : GT) {M : Mem} (hR : Rel M) (km h w : Int32) : Both l g yX9_odds cX9_odds 7 yX10_odds cX10_odds 8 [.int km, .int h, .int w] M := by
  have hR0 := hR
  obtain ⟨⟨⟨n, hF⟩, hS, hT, hW, hL0, hL1⟩, hi, hK, hE, hs, hc⟩ := hR
  have hn : M 37 1 = nI n := hF.1
  have hm : M 92 2 = nI n := hF.2.1
  have h12 := hF.2.2.1
  have e6 : (pKm km && (decide (0 ≤ h) && decide (h < 6)) && (decide (0 ≤ w) && decide (w ≤ 1))) = (pKm km && (decide (0 ≤ h) && decide (h ≤ 5)) && (decide (0 ≤ w) && decide (w ≤ 1))) := by rw [lt6_le]
  by_cases hg : (pKm km && (decide (0 ≤ h) && decide (h ≤ 5)) && (decide (0 ≤ w) && decide (w ≤ 1))) = true
  · obtain ⟨g0, g3⟩ := Bool.and_eq_true_iff.mp hg
    obtain ⟨g1, g2⟩ := Bool.and_eq_true_iff.mp g0
    have g2' : (decide (0 ≤ h) && decide (h < 6)) = true := by rw [lt6_le]; exact g2
    obtain ⟨t, -, ht, rfl⟩ := in_le (a := 0) (b := 1) (by decide) (by decide) (show (decide (nI 0 ≤ w) && decide (w ≤ nI 1)) = true from g3)
    have hpa := pAhead_c n (Fr_eq hF)
    cases ha : pAhead (fF M 0) n with
    | none => exact both_err hR0 (qX9_odds_0 l g M hn h12 km g1 h g2' (w := t) (by omega) ha) (by decide) (fun M1 hx => qX10_odds_0 l g M1 (by rw [hx 92 (by decide)]; exact hm) h12 km g1 h g2 (w := t) (by omega) (by rw [mF_row (hx 92 (by decide))]; exact hpa.symm.trans ha)) (by decide) (by decide) (by decide)
    | some a =>
      by_cases hf : n = 12
      · exact both_err hR0 (qX9_odds_full l g M hn h12 km g1 h g2' (w := t) (by omega) hf) (by decide) (fun M1 hx => qX10_odds_full l g M1 (by rw [hx 92 (by decide)]; exact hm) h12 km g1 h g2 (w := t) (by omega) hf) (by decide) (by decide) (by decide)
      · have hlt : n < 12 := by omega
        have han := (pAhead_in (fF M 0) n a ha).1
        refine both_of (qX9_odds_t l g M hn hlt km g1 h g2' (w := t) (by omega) ha) (by decide) (fun r M1 hq => ?_)
        obtain ⟨rfl, hx⟩ := hq
        have e92 : M1 92 = M 92 := hx 92 (by decide)
        refine ⟨_, _, ?_, qX10_odds_t l g M1 (n := n) (by rw [e92]; exact hm) hlt km g1 h g2 (w := t) (by omega) (a := a) (by rw [mF_row e92]; exact hpa.symm.trans ha), fun r2 M2 hq2 => ?_⟩
        · decide
        · obtain ⟨rfl, k1, k2⟩ := hq2
          have q : ∀ i, i < 7 → M a i = mF M a i := (Fr_at hF han).1
          have hX : ∀ b k, b ≠ 36 → ¬ (b = 92 ∧ 6 + 7 * n ≤ k ∧ k < 6 + 7 * n + 7) → M2 b k = M b k := fun b k q1 q2 => by
            by_cases e : b = 92
            · subst e; rw [k2 k (by omega), e92]
            · rw [k1 b e, hx b q1]
          refine ⟨?_, Rel_F hR0 (n2 := n) (Fr_cg hF (fun b k z => hX b k (by unfold cFr at z; omega) (by unfold cFr at z; omega))) (fun b k z q1 q2 q3 => hX b k (by unfold rS at z; omega) (by omega))⟩
          rw [mF_row e92, pEch_c km h q 72, odR_eq _ (pEch_le _ _ _ _)] <;> rfl
  · exact both_err hR0 (qX9_odds_f l g M km h w (e6.trans (Bool.eq_false_iff.mpr hg))) (by decide) (fun M1 _ => qX10_odds_f l g M1 km h w (Bool.eq_false_iff.mpr hg)) (by decide) (by decide) (by decide)
set_option maxRecDepth 20000 in
theorem r_voice (l : Launch) (g : GT) {M : Mem} (hR : Rel M) (f v x : Int32) : Both l g yX9_voice cX9_voice 5 yX10_voice cX10_voice 5 [.int f, .int v, .int x] M := by
  have hR0 := hR
  obtain ⟨⟨⟨n, hF⟩, hS, hT, hW, hL0, hL1⟩, hi, hK, hE, hs, hc⟩ := hR
  have hn : M 37 1 = nI n := hF.1
  have hm : M 92 2 = nI n := hF.2.1
  have h12 := hF.2.2.1
  have e4 : (pIsF n f && (decide (0 ≤ v) && decide (v < 4))) = (pIsF n f && (decide (0 ≤ v) && decide (v ≤ 3))) := by rw [lt4_le]
  by_cases hg : (pIsF n f && (decide (0 ≤ v) && decide (v ≤ 3))) = true
  · obtain ⟨g1, g2⟩ := Bool.and_eq_true_iff.mp hg
    obtain ⟨j, hj, rfl⟩ := pIsF_in h12 g1
    obtain ⟨t, -, ht, rfl⟩ := in_le (a := 0) (b := 3) (by decide) (by decide) (show (decide (nI 0 ≤ v) && decide (v ≤ nI 3)) = true from g2)
    have q : ∀ i, i < 7 → M j i = mF M j i := (Fr_at hF hj).1
    have c9 := qX9_voice_t l g M hn h12 hj (v := t) (by omega) x
    generalize hS9 : spkP M j (nI j) (nI t) = S at c9
    have hS9n : ∀ a, a ≠ 78 → S a = M a := fun a h => by rw [← hS9]; exact spkP_n _ _ _ _ h
    generalize hL9 : bVoice (nI t) (M j 0) (nI j) (M j 1) = BL at c9
    generalize hB9 : bgs (0, M 79) BL = B at c9
    have hB30 : B.1 ≤ 30 := by rw [← hB9]; exact bgs_le _ _ (Nat.zero_le _)
    have hBB : B.1 = (bgs (0, M 104) BL).1 ∧ ∀ k, k < B.1 → B.2 k = (bgs (0, M 104) BL).2 k := by
      rw [← hB9]; exact bgs_c BL _ _ rfl (fun k hk => absurd hk (Nat.not_lt_zero _))
    generalize hC9 : bgs (0, M 104) BL = C at hBB
    by_cases hp : pOff (nI t) (nI j) (M j 1) = true
    · simp only [if_pos hp] at c9
      generalize hM9 : mu (trC S B) 89 6 (trC S B 89 6 + 1) = M1 at c9
      have hM1 : ∀ a, a ≠ 78 → a ≠ 79 → a ≠ 89 → M1 a = M a := fun a h1 h2 h3 => by
        rw [← hM9, mu_n _ _ _ h3, trC_n _ _ h1 h2, hS9n a h1]
      have c10 := qX10_voice_t l g M1 (n := n) (by rw [hM1 92 (by decide) (by decide) (by decide)]; exact hm) h12 hj (kd := M j 0) (m := M j 1) (by rw [mF_row (hM1 92 (by decide) (by decide) (by decide))]; exact (q 0 (by decide)).symm) (by rw [mF_row (hM1 92 (by decide) (by decide) (by decide))]; exact (q 1 (by decide)).symm) x (v := t) (by omega)
      simp only [if_pos hp] at c10
      rw [hL9, hM1 104 (by decide) (by decide) (by decide), hC9] at c10
      refine both_EE c9 (by decide) c10 (by decide) rfl (Rel_TcE hR0 ⟨B.1, ?_, ?_, hB30, fun k hk => ?_⟩ (fun k h1 h2 => ?_) (fun a k z q1 q2 q3 q4 q5 q6 => ?_))
      · rw [mu_n _ _ _ (by decide), trM_n _ _ (by decide) (by decide), mu_n _ _ _ (by decide), ← hM9, mu_n _ _ _ (by decide), trC_1]
      · rw [mu_n _ _ _ (by decide), trM_1, hBB.1]
      · rw [mu_n _ _ _ (by decide), mu_n _ _ _ (by decide), trM_n _ _ (by decide) (by decide), trM_104, mu_n _ _ _ (by decide), ← hM9, mu_n _ _ _ (by decide), trC_79]; exact hBB.2 k hk
      · have e95 : M1 95 = M 95 := hM1 95 (by decide) (by decide) (by decide)
        have e89 : M1 89 k = if k = 6 then M 89 6 + 1 else M 89 k := by
          rw [← hM9]
          by_cases e : k = 6
          · subst e; rw [mu_s, if_pos rfl, trC_n _ _ (by decide) (by decide), hS9n 89 (by decide)]
          · rw [mu_o _ _ _ e, if_neg e, trC_n _ _ (by decide) (by decide), hS9n 89 (by decide)]
        rw [mu_n _ _ _ (show (89 : Nat) ≠ 95 by decide), trM_n _ _ (by decide) (by decide), mu_n _ _ _ (by decide), e89]
        by_cases e : k = 6
        · subst e; rw [if_pos rfl, mu_s, e95, hE 6 (by decide) (by decide)]
        · rw [if_neg e, mu_o _ _ _ e, trM_n _ _ (by decide) (by decide), mu_n _ _ _ (by decide), e95]; exact hE k h1 h2
      · by_cases e91 : a = 91
        · subst e91
          rw [mu_n _ _ _ (by decide), trM_o _ _ (by omega)]
          unfold rS at z
          rw [mu_o _ _ _ (by omega), hM1 91 (by decide) (by decide) (by decide)]
        · rw [mu_n _ _ _ q6, trM_n _ _ e91 q4, mu_n _ _ _ e91, hM1 a q1 q2 q5]
    · simp only [if_neg hp] at c9
      generalize hM9 : trC S B = M1 at c9
      have hM1 : ∀ a, a ≠ 78 → a ≠ 79 → M1 a = M a := fun a h1 h2 => by
        rw [← hM9, trC_n _ _ h1 h2, hS9n a h1]
      have c10 := qX10_voice_t l g M1 (n := n) (by rw [hM1 92 (by decide) (by decide)]; exact hm) h12 hj (kd := M j 0) (m := M j 1) (by rw [mF_row (hM1 92 (by decide) (by decide))]; exact (q 0 (by decide)).symm) (by rw [mF_row (hM1 92 (by decide) (by decide))]; exact (q 1 (by decide)).symm) x (v := t) (by omega)
      simp only [if_neg hp] at c10
      rw [hL9, hM1 104 (by decide) (by decide), hC9] at c10
      refine both_EE c9 (by decide) c10 (by decide) rfl (Rel_Tc hR0 ⟨B.1, ?_, ?_, hB30, fun k hk => ?_⟩ (fun a k z q1 q2 q3 q4 => ?_))
      · rw [trM_n _ _ (by decide) (by decide), mu_n _ _ _ (by decide), ← hM9, trC_1]
      · rw [trM_1, hBB.1]
      · rw [trM_n _ _ (by decide) (by decide), trM_104, mu_n _ _ _ (by decide), ← hM9, trC_79]; exact hBB.2 k hk
      · by_cases e91 : a = 91
        · subst e91
          rw [trM_o _ _ (by omega)]
          unfold rS at z
          rw [mu_o _ _ _ (by omega), hM1 91 (by decide) (by decide)]
        · rw [trM_n _ _ e91 q4, mu_n _ _ _ e91, hM1 a q1 q2]
  · exact both_err hR0 (qX9_voice_f l g M hn h12 f v x (e4.trans (Bool.eq_false_iff.mpr hg))) (by decide) (fun M1 h => qX10_voice_f l g M1 (by rw [h 92 (by decide)]; exact hm) h12 f v x (Bool.eq_false_iff.mpr hg)) (by decide) (by decide) (by decide)
