-- the calls: furrows
theorem pKm_k7 {km : Int32} (h : pKm km = true) : kind7 (km / 10) := by
  obtain ⟨k, -, hk, rfl⟩ := in_lt (a := 0) (b := 70) (by decide) (by decide) (show (decide (nI 0 ≤ km) && decide (km < nI 70)) = true from h)
  rw [show (10 : Int32) = nI 10 from rfl, pk_div (by omega) (by decide) (by decide)]
  have h7 : k / 10 < 7 := by omega
  generalize k / 10 = q at h7
  rcases (show q = 0 ∨ q = 1 ∨ q = 2 ∨ q = 3 ∨ q = 4 ∨ q = 5 ∨ q = 6 by omega) with rfl | rfl | rfl | rfl | rfl | rfl | rfl
  · exact Or.inl rfl
  · exact Or.inr (Or.inl rfl)
  · exact Or.inr (Or.inr (Or.inl rfl))
  · exact Or.inr (Or.inr (Or.inr (Or.inl rfl)))
  · exact Or.inr (Or.inr (Or.inr (Or.inr (Or.inl rfl))))
  · exact Or.inr (Or.inr (Or.inr (Or.inr (Or.inr (Or.inl rfl)))))
  · exact Or.inr (Or.inr (Or.inr (Or.inr (Or.inr (Or.inr rfl)))))
theorem pLine_at {lc : Int32} (h : pLine lc = true) : ∃ L C, L < 12 ∧ C < 6 ∧ lc = nI (10 * (L + 1) + C) ∧ lc / 10 = nI (L + 1) ∧ lc - lc / 10 * 10 = nI C := by
  unfold pLine at h
  obtain ⟨h, h3⟩ := Bool.and_eq_true_iff.mp h
  obtain ⟨h1, h2⟩ := Bool.and_eq_true_iff.mp h
  have h1 := of_decide_eq_true h1
  have h2 := of_decide_eq_true h2
  have h3 := of_decide_eq_true h3
  obtain ⟨k, hk, rfl⟩ := nI_of (x := lc) (fun q => Int32.lt_irrefl (Int32.lt_of_le_of_lt (Int32.le_trans (show (0 : Int32) ≤ 10 by decide) h1) q))
  have e1 : nI k / 10 = nI (k / 10) := pk_div (d := 10) hk (by decide) (by decide)
  have e2 : nI k - nI k / 10 * 10 = nI (k % 10) := pk_rem (d := 10) hk (by decide) (by decide)
  rw [e1] at h2
  rw [e2] at h3
  have g1 := (nI_leI (a := 10) (by decide) hk).mp h1
  have g2 := (nI_leI (a := k / 10) (b := 12) (by omega) (by decide)).mp h2
  have g3 := (nI_ltI (a := k % 10) (b := 6) (by omega) (by decide)).mp h3
  exact ⟨k / 10 - 1, k % 10, by omega, g3, congrArg nI (by omega), e1.trans (congrArg nI (by omega)), e2⟩
/-- a furrow as it comes -/
def fcl (km lc h : Int32) (j : Nat) : Int32 := if j = 0 then km / 10 else if j = 1 then km - km / 10 * 10 else if j = 2 then lc / 10 else if j = 3 then lc - lc / 10 * 10 else if j = 4 then h else 0
theorem pAdd_at (M : Mem) (n : Nat) (hn : n < 12) (km lc h : Int32) (j : Nat) (hj : j < 7) : pAdd M 0 n km lc h n j = fcl km lc h j := by
  have e : ∀ x : Int32, ∀ B : Mem, mu B (37 + 0) 1 x n = B n := fun x B => mu_n _ _ _ (by omega)
  unfold pAdd fcl
  rw [e, show 12 * 0 + n = n by omega]
  rcases (show j = 0 ∨ j = 1 ∨ j = 2 ∨ j = 3 ∨ j = 4 ∨ j = 5 ∨ j = 6 by omega) with rfl | rfl | rfl | rfl | rfl | rfl | rfl <;> simp [mu_at]
theorem pAdd_o (M : Mem) (n : Nat) (km lc h : Int32) {a k : Nat} (h1 : a ≠ n) (h2 : ¬ (a = 37 ∧ k = 1)) : pAdd M 0 n km lc h a k = M a k := by
  unfold pAdd
  rw [show 12 * 0 + n = n by omega, mu_at, if_neg (by omega)]
  simp only [mu_n _ _ _ h1]
theorem pCome_at (M : Mem) (n : Nat) (km lc h : Int32) (j : Nat) (hj : j < 7) : pCome M n km (lc / 10) (lc - lc / 10 * 10) h 92 (6 + 7 * n + j) = fcl km lc h j := by
  unfold pCome fcl
  rcases (show j = 0 ∨ j = 1 ∨ j = 2 ∨ j = 3 ∨ j = 4 ∨ j = 5 ∨ j = 6 by omega) with rfl | rfl | rfl | rfl | rfl | rfl | rfl <;> simp [mu_at]
theorem fcl_ok {km lc h : Int32} (h1 : pKm km = true) (h2 : pLine lc = true) : frOk (fcl km lc h) := by
  obtain ⟨L, C, hL, hC, -, e1, e2⟩ := pLine_at h2
  exact ⟨pKm_k7 h1, ⟨L, hL, e1⟩, ⟨C, hC, e2⟩, ⟨0, by decide, rfl⟩, Or.inl rfl⟩
theorem pFur_c {n : Nat} {F G : Nat → Nat → Int32} (h : eqF n F G) {f w : Nat} (hf : f < n) : pFur F n f w = pFur G n f w := by
  unfold pFur
  by_cases hw : w < 7
  · rw [if_pos hw, if_pos hw]; exact h f hf w hw
  · rw [if_neg hw, if_neg hw, pDepth_c (h f hf), pHeard_c h hf]
/-- a law, as both can work it out -/
theorem law_of {M : Mem} {u : Nat} (hu : u < 2) (h : Lr 0 M u) : ∃ m, lawOk M u m ∧ ∀ M1 : Mem, M1 92 = M 92 → mlawOk M1 u m (M (52 + u)) := by
  obtain ⟨m, a1, a2, a3, a4, a5⟩ := h
  refine ⟨m, ⟨a1, a3, a4⟩, fun M1 e => ⟨?_, a3, fun k hk => ?_, a4⟩⟩
  · rw [e]; exact a2
  · rw [e]; exact a5 k hk
theorem Rel_law {M M1 M2 : Mem} (hR : Rel M) (h : Sc lawS M M1) (h2 : ∀ q, q ≠ 101 → q ≠ 102 → M2 q = M1 q) : Rel M2 :=
  Rel_same hR (fun a k q => by
    rw [h2 a (by unfold rS at q; omega) (by unfold rS at q; omega)]; exact h a k (by unfold rS at q; unfold lawS; omega))
theorem row92 {M M1 : Mem} (h : Sc lawS M M1) : M1 92 = M 92 := funext fun k => h 92 k (by unfold lawS; omega)
set_option maxRecDepth 20000 in
theorem r_plough (l : Launch) (g : GT) {M : Mem} (hR : Rel M) (km lc h : Int32) : Both l g yX9_plough cX9_plough 4 yX10_plough cX10_plough 4 [.int km, .int lc, .int h] M := by
  have hR0 := hR
  obtain ⟨⟨⟨n, hF⟩, hS, hT, hW, hL0, hL1⟩, hi, hK, hE, hs, hc⟩ := hR
  have hn : M 37 1 = nI n := hF.1
  have hm : M 92 2 = nI n := hF.2.1
  have h12 := hF.2.2.1
  have e6 : (pKm km && pLine lc && (decide (0 ≤ h) && decide (h < 6))) = (pKm km && pLine lc && (decide (0 ≤ h) && decide (h ≤ 5))) := by rw [lt6_le]
  by_cases hg : (pKm km && pLine lc && (decide (0 ≤ h) && decide (h ≤ 5))) = true
  · obtain ⟨g1, g3⟩ := Bool.and_eq_true_iff.mp hg
    obtain ⟨h1, h2⟩ := Bool.and_eq_true_iff.mp g1
    obtain ⟨t, -, ht, rfl⟩ := in_le (a := 0) (b := 5) (by decide) (by decide) (show (decide (nI 0 ≤ h) && decide (h ≤ nI 5)) = true from g3)
    by_cases hfull : n = 12
    · subst hfull
      exact both_err hR0 (qX9_plough_full l g M hn km lc h1 h2 (show t < 6 by omega)) (by decide) (fun M1 h => qX10_plough_full l g M1 (by rw [h 92 (by decide)]; exact hm) km lc h1 h2 (show t < 6 by omega)) (by decide) (by decide) (by decide)
    · have hlt : n < 12 := by omega
      refine both_EE (qX9_plough_t l g M hn hlt km lc h1 h2 (show t < 6 by omega)) (by decide) (qX10_plough_t l g _ (n := n) (by rw [pAdd_o _ _ _ _ _ (by omega) (by omega)]; exact hm) hlt km lc h1 h2 (show t < 6 by omega)) (by decide) rfl ?_
      have hX : ∀ a k, a ≠ n → ¬ (a = 37 ∧ k = 1) → ¬ (a = 92 ∧ (k = 2 ∨ (6 + 7 * n ≤ k ∧ k < 6 + 7 * n + 7))) → pCome (pAdd M 0 n km lc (nI t)) n km (lc / 10) (lc - lc / 10 * 10) (nI t) a k = M a k := fun a k q1 q2 q3 => by
        by_cases e : a = 92
        · subst e; rw [pCome_o _ _ _ _ _ _ (by omega) (by omega), pAdd_o _ _ _ _ _ q1 q2]
        · rw [pCome_n _ _ _ _ _ _ e, pAdd_o _ _ _ _ _ q1 q2]
      have hat : ∀ j, j < 7 → pCome (pAdd M 0 n km lc (nI t)) n km (lc / 10) (lc - lc / 10 * 10) (nI t) n j = fcl km lc (nI t) j := fun j hj => by
        rw [pCome_n _ _ _ _ _ _ (by omega), pAdd_at _ _ hlt _ _ _ j hj]
      refine Rel_F (n2 := n + 1) hR0 (Fr_mk ?_ (pCome_2 _ _ _ _ _ _) (by omega) (fun i hi => ?_)) (fun a k _ q1 q2 q3 => hX a k (by omega) q2 (by omega))
      · rw [pCome_n _ _ _ _ _ _ (by decide)]; exact mu_s _ _ _ _
      · by_cases e : i = n
        · subst e
          exact ⟨fun j hj => by rw [hat j hj, pCome_at _ _ _ _ _ j hj], frOk_cg hat (fcl_ok h1 h2)⟩
        · have q := Fr_at hF (show i < n by omega)
          refine ⟨fun j hj => ?_, frOk_cg (fun j hj => hX i j e (by omega) (by omega)) q.2⟩
          rw [hX i j e (by omega) (by omega), hX 92 _ (by omega) (by omega) (by omega)]; exact q.1 j hj
  · exact both_err hR0 (qX9_plough_f l g M km lc h (e6.trans (Bool.eq_false_iff.mpr hg))) (by decide) (fun M1 _ => qX10_plough_f l g M1 km lc h (Bool.eq_false_iff.mpr hg)) (by decide) (by decide) (by decide)
set_option maxRecDepth 20000 in
theorem r_furrowIs (l : Launch) (g : GT) {M : Mem} (hR : Rel M) (f w : Int32) : Both l g yX9_furrowIs cX9_furrowIs 4 yX10_furrowIs cX10_furrowIs 3 [.int f, .int w] M := by
  have hR0 := hR
  obtain ⟨⟨⟨n, hF⟩, hS, hT, hW, hL0, hL1⟩, hi, hK, hE, hs, hc⟩ := hR
  have hn : M 37 1 = nI n := hF.1
  have hm : M 92 2 = nI n := hF.2.1
  have h12 := hF.2.2.1
  by_cases hg : (pIsF n f && (decide (0 ≤ w) && decide (w ≤ 9))) = true
  · obtain ⟨g1, g2⟩ := Bool.and_eq_true_iff.mp hg
    obtain ⟨j, hj, rfl⟩ := pIsF_in h12 g1
    obtain ⟨v, -, hv, rfl⟩ := in_le (a := 0) (b := 9) (by decide) (by decide) (show (decide (nI 0 ≤ w) && decide (w ≤ nI 9)) = true from g2)
    have hfr := Fr_at hF hj
    by_cases h8 : v = 8
    · subst h8
      obtain ⟨m, k1, k2⟩ := law_of (u := 1) (by decide) hL1
      refine both_of (qX9_furrowIs_s l g M hn h12 hj k1) (by decide) (fun r M1 hq => ?_)
      obtain ⟨rfl, hsc⟩ := hq
      have e92 := row92 hsc
      refine ⟨_, _, ?_, qX10_furrowIs_s l g M1 (n := n) (by rw [e92]; exact hm) h12 hj (M 53) (k2 M1 e92), fun r2 M2 hq2 => ⟨?_, Rel_law hR0 hsc hq2.2⟩⟩
      · decide
      · have em : mF M1 = mF M := by unfold mF; rw [e92]
        rw [hq2.1, em]
        have q := hfr.1
        rw [show M j 2 = mF M j 2 from q 2 (by decide), show M j 3 = mF M j 3 from q 3 (by decide), pDepth_c (a := M j) (b := mF M j) q]
    · refine both_EE (qX9_furrowIs_t l g M hn h12 hj hfr.2.2.2.2.2 (w := v) (by omega) h8) (by decide) (qX10_furrowIs_t l g M hm h12 hj (w := v) (by omega) h8) (by decide) (pFur_c (Fr_eq hF) hj).symm hR0
  · exact both_err hR0 (qX9_furrowIs_f l g M hn h12 f w (Bool.eq_false_iff.mpr hg)) (by decide) (fun M1 h => qX10_furrowIs_f l g M1 (by rw [h 92 (by decide)]; exact hm) h12 f w (Bool.eq_false_iff.mpr hg)) (by decide) (by decide) (by decide)
set_option maxRecDepth 20000 in
theorem r_become (l : Launch) (g : GT) {M : Mem} (hR : Rel M) (f km : Int32) : Both l g yX9_become cX9_become 5 yX10_become cX10_become 3 [.int f, .int km] M := by
  have hR0 := hR
  obtain ⟨⟨⟨n, hF⟩, hS, hT, hW, hL0, hL1⟩, hi, hK, hE, hs, hc⟩ := hR
  have hn : M 37 1 = nI n := hF.1
  have hm : M 92 2 = nI n := hF.2.1
  have h12 := hF.2.2.1
  by_cases hg : (pIsF n f && pKm km) = true
  · obtain ⟨g1, g2⟩ := Bool.and_eq_true_iff.mp hg
    obtain ⟨j, hj, rfl⟩ := pIsF_in h12 g1
    have hfr := Fr_at hF hj
    refine both_EE (qX9_become_t l g M hn h12 hj km g2) (by decide) (qX10_become_t l g _ (n := n) (by rw [mu_n _ _ _ (by omega), mu_n _ _ _ (by omega)]; exact hm) h12 hj km g2) (by decide) ?_ ?_
    · show mu (mu M j 0 _) j 1 _ 92 (6 + 7 * j + 0) = M j 0
      rw [mu_n _ _ _ (by omega), mu_n _ _ _ (by omega)]; exact (hfr.1 0 (by decide)).symm
    · have hX : ∀ a k, a ≠ j → ¬ (a = 92 ∧ 6 + 7 * j ≤ k ∧ k < 6 + 7 * j + 7) → mu (mu (mu (mu M j 0 (km / 10)) j 1 (km - km / 10 * 10)) 92 (6 + 7 * j + 1) (km - km / 10 * 10)) 92 (6 + 7 * j) (km / 10) a k = M a k := fun a k q1 q2 => by
        rw [mu_at, if_neg (by omega), mu_at, if_neg (by omega), mu_n _ _ _ q1, mu_n _ _ _ q1]
      have hA : ∀ i, i < 7 → mu (mu (mu (mu M j 0 (km / 10)) j 1 (km - km / 10 * 10)) 92 (6 + 7 * j + 1) (km - km / 10 * 10)) 92 (6 + 7 * j) (km / 10) j i = if i = 0 then km / 10 else if i = 1 then km - km / 10 * 10 else M j i := fun i hi => by
        rw [mu_n _ _ _ (show j ≠ 92 by omega), mu_n _ _ _ (show j ≠ 92 by omega)]
        simp only [mu_at, true_and]
        by_cases e0 : i = 0
        · subst e0; simp
        · by_cases e1 : i = 1
          · subst e1; simp
          · simp [e0, e1]
      refine Rel_F hR0 (Fr_one hF hj hX (fun i hi => ?_) ?_) (fun a k _ q1 q2 q3 => hX a k (by omega) (by omega))
      · rw [hA i hi]
        by_cases e0 : i = 0
        · subst e0; rw [if_pos rfl]; exact (mu_s _ _ _ _).symm
        · rw [if_neg e0]
          by_cases e1 : i = 1
          · subst e1; rw [if_pos rfl, mu_o _ _ _ (by omega)]; exact (mu_s _ _ _ _).symm
          · rw [if_neg e1, mu_o _ _ _ (by omega), mu_o _ _ _ (by omega), mu_n _ _ _ (by omega), mu_n _ _ _ (by omega)]; exact hfr.1 i hi
      · have q := hfr.2
        exact ⟨by rw [hA 0 (by decide)]; exact pKm_k7 g2, by rw [hA 2 (by decide)]; exact q.2.1, by rw [hA 3 (by decide)]; exact q.2.2.1, by rw [hA 5 (by decide)]; exact q.2.2.2.1, by rw [hA 6 (by decide)]; exact q.2.2.2.2⟩
  · exact both_err hR0 (qX9_become_f l g M hn h12 f km (Bool.eq_false_iff.mpr hg)) (by decide) (fun M1 h => qX10_become_f l g M1 (by rw [h 92 (by decide)]; exact hm) h12 f km (Bool.eq_false_iff.mpr hg)) (by decide) (by decide) (by decide)
set_option maxRecDepth 20000 in
theorem r_as (l : Launch) (g : GT) {M : Mem} (hR : Rel M) (f w : Int32) : Both l g yX9_as cX9_as 4 yX10_as cX10_as 5 [.int f, .int w] M := by
  have hR0 := hR
  obtain ⟨⟨⟨n, hF⟩, hS, hT, hW, hL0, hL1⟩, hi, hK, hE, hs, hc⟩ := hR
  have hn : M 37 1 = nI n := hF.1
  have hm : M 92 2 = nI n := hF.2.1
  have h12 := hF.2.2.1
  have e7 : (pIsF n f && (decide (0 ≤ w) && decide (w < 7))) = (pIsF n f && (decide (0 ≤ w) && decide (w ≤ 6))) := by rw [lt7_le]
  by_cases hg : (pIsF n f && (decide (0 ≤ w) && decide (w ≤ 6))) = true
  · obtain ⟨g1, g2⟩ := Bool.and_eq_true_iff.mp hg
    obtain ⟨j, hj, rfl⟩ := pIsF_in h12 g1
    have hfr := Fr_at hF hj
    have e0 : M j 0 = mF M j 0 := hfr.1 0 (by decide)
    have e1 : M j 1 = mF M j 1 := hfr.1 1 (by decide)
    have c9 := qX9_as_t l g M hn h12 hj hfr.2.1 w (by rw [lt7_le]; exact g2)
    by_cases hp : pOf (M j 0) w = true
    · rw [if_pos hp, if_pos hp] at c9
      have c10 := qX10_as_t l g M hm h12 hj w g2
      rw [← e0, if_pos hp, if_pos hp] at c10
      exact both_EE c9 (by decide) c10 (by decide) e1.symm hR0
    · rw [if_neg hp, if_neg hp] at c9
      refine both_err hR0 c9 (by decide) (fun M1 h => ?_) (by decide) (by decide) (by decide) (k10 := 2)
      have c10 := qX10_as_t l g M1 (by rw [h 92 (by decide)]; exact hm) h12 hj w g2
      rw [show mF M1 j 0 = M j 0 from by unfold mF; rw [h 92 (by decide)]; exact e0.symm, if_neg hp, if_neg hp] at c10
      exact c10
  · exact both_err hR0 (qX9_as_f l g M hn h12 f w (e7.trans (Bool.eq_false_iff.mpr hg))) (by decide) (fun M1 h => qX10_as_f l g M1 (by rw [h 92 (by decide)]; exact hm) h12 f w (Bool.eq_false_iff.mpr hg)) (by decide) (by decide) (by decide)
set_option maxRecDepth 20000 in
theorem r_answers (l : Launch) (g : GT) {M : Mem} (hR : Rel M) (f b : Int32) : Both l g yX9_answers cX9_answers 3 yX10_answers cX10_answers 3 [.int f, .int b] M := by
  have hR0 := hR
  obtain ⟨⟨⟨n, hF⟩, hS, hT, hW, hL0, hL1⟩, hi, hK, hE, hs, hc⟩ := hR
  have hn : M 37 1 = nI n := hF.1
  have hm : M 92 2 = nI n := hF.2.1
  have h12 := hF.2.2.1
  by_cases hg : (pIsF n f && pIsF n b && !decide (f = b)) = true
  · obtain ⟨g0, g3⟩ := Bool.and_eq_true_iff.mp hg
    obtain ⟨g1, g2⟩ := Bool.and_eq_true_iff.mp g0
    obtain ⟨j, hj, rfl⟩ := pIsF_in h12 g1
    obtain ⟨i, hi2, rfl⟩ := pIsF_in h12 g2
    have hne : j ≠ i := fun e => by subst e; simp at g3
    exact both_EE (qX9_answers_t l g M hn h12 hj hi2 hne) (by decide) (qX10_answers_t l g M hm h12 hj hi2 hne) (by decide) (congrArg b2i (pAns_c (Fr_eq hF) hj hi2).symm) hR0
  · exact both_err hR0 (qX9_answers_f l g M hn h12 f b (Bool.eq_false_iff.mpr hg)) (by decide) (fun M1 h => qX10_answers_f l g M1 (by rw [h 92 (by decide)]; exact hm) h12 f b (Bool.eq_false_iff.mpr hg)) (by decide) (by decide) (by decide)
set_option maxRecDepth 20000 in
theorem r_cover (l : Launch) (g : GT) {M : Mem} (hR : Rel M) (f v : Int32) : Both l g yX9_cover cX9_cover 5 yX10_cover cX10_cover 3 [.int f, .int v] M := by
  have hR0 := hR
  obtain ⟨⟨⟨n, hF⟩, hS, hT, hW, hL0, hL1⟩, hi, hK, hE, hs, hc⟩ := hR
  have hn : M 37 1 = nI n := hF.1
  have hm : M 92 2 = nI n := hF.2.1
  have h12 := hF.2.2.1
  by_cases hg : (pIsF n f && (decide (0 ≤ v) && decide (v ≤ 1))) = true
  · obtain ⟨g1, g2⟩ := Bool.and_eq_true_iff.mp hg
    obtain ⟨j, hj, rfl⟩ := pIsF_in h12 g1
    obtain ⟨t, -, ht, rfl⟩ := in_le (a := 0) (b := 1) (by decide) (by decide) (show (decide (nI 0 ≤ v) && decide (v ≤ nI 1)) = true from g2)
    have hfr := Fr_at hF hj
    refine both_EE (qX9_cover_t l g M hn h12 hj hfr.2.2.2.2.2 (v := t) (by omega)) (by decide) (qX10_cover_t l g _ (n := n) (by rw [mu_n _ _ _ (by omega)]; exact hm) h12 hj (v := t) (by omega)) (by decide) ?_ ?_
    · show mu M j 6 _ 92 (6 + 7 * j + 6) = M j 6
      rw [mu_n _ _ _ (by omega)]; exact (hfr.1 6 (by decide)).symm
    · have hX : ∀ a k, a ≠ j → ¬ (a = 92 ∧ 6 + 7 * j ≤ k ∧ k < 6 + 7 * j + 7) → mu (mu M j 6 (nI t)) 92 (6 + 7 * j + 6) (nI t) a k = M a k := fun a k q1 q2 => by
        rw [mu_at, if_neg (by omega), mu_n _ _ _ q1]
      have hA : ∀ i, i < 7 → mu (mu M j 6 (nI t)) 92 (6 + 7 * j + 6) (nI t) j i = if i = 6 then nI t else M j i := fun i hi => by
        rw [mu_n _ _ _ (show j ≠ 92 by omega)]
        by_cases e0 : i = 6
        · subst e0; rw [mu_s, if_pos rfl]
        · rw [mu_o _ _ _ e0, if_neg e0]
      refine Rel_F hR0 (Fr_one hF hj hX (fun i hi => ?_) ?_) (fun a k _ q1 q2 q3 => hX a k (by omega) (by omega))
      · rw [hA i hi]
        by_cases e0 : i = 6
        · subst e0; rw [if_pos rfl]; exact (mu_s _ _ _ _).symm
        · rw [if_neg e0, mu_o _ _ _ (by omega), mu_n _ _ _ (by omega)]; exact hfr.1 i hi
      · have q := hfr.2
        exact ⟨by rw [hA 0 (by decide)]; exact q.1, by rw [hA 2 (by decide)]; exact q.2.1, by rw [hA 3 (by decide)]; exact q.2.2.1, by rw [hA 5 (by decide)]; exact q.2.2.2.1, by
          rw [hA 6 (by decide), if_pos rfl]
          rcases (show t = 0 ∨ t = 1 by omega) with rfl | rfl
          · exact Or.inl rfl
          · exact Or.inr rfl⟩
  · exact both_err hR0 (qX9_cover_f l g M hn h12 f v (Bool.eq_false_iff.mpr hg)) (by decide) (fun M1 h => qX10_cover_f l g M1 (by rw [h 92 (by decide)]; exact hm) h12 f v (Bool.eq_false_iff.mpr hg)) (by decide) (by decide) (by decide)
set_option maxRecDepth 20000 in
theorem r_redraw (l : Launch) (g : GT) {M : Mem} (hR : Rel M) (f x : Int32) : Both l g yX9_redraw cX9_redraw 5 yX10_redraw cX10_redraw 4 [.int f, .int x] M := by
  have hR0 := hR
  obtain ⟨⟨⟨n, hF⟩, hS, hT, hW, hL0, hL1⟩, hi, hK, hE, hs, hc⟩ := hR
  have hn : M 37 1 = nI n := hF.1
  have hm : M 92 2 = nI n := hF.2.1
  have h12 := hF.2.2.1
  by_cases hg : (pIsF n f && pLine x) = true
  · obtain ⟨g1, g2⟩ := Bool.and_eq_true_iff.mp hg
    obtain ⟨j, hj, rfl⟩ := pIsF_in h12 g1
    have hfr := Fr_at hF hj
    obtain ⟨L, C, hL, hC, -, e1, e2⟩ := pLine_at g2
    refine both_EE (qX9_redraw_t l g M hn h12 hj x g2) (by decide) (qX10_redraw_t l g _ (n := n) (by rw [mu_n _ _ _ (by omega), mu_n _ _ _ (by omega)]; exact hm) h12 hj x g2) (by decide) ?_ ?_
    · show 10 * mu (mu M j 2 _) j 3 _ 92 (6 + 7 * j + 2) + mu (mu M j 2 _) j 3 _ 92 (6 + 7 * j + 3) = 10 * M j 2 + M j 3
      rw [mu_n _ _ _ (show (92 : Nat) ≠ j by omega), mu_n _ _ _ (show (92 : Nat) ≠ j by omega), hfr.1 2 (by decide), hfr.1 3 (by decide)]
    · have hX : ∀ a k, a ≠ j → ¬ (a = 92 ∧ 6 + 7 * j ≤ k ∧ k < 6 + 7 * j + 7) → mu (mu (mu (mu M j 2 (x / 10)) j 3 (x - x / 10 * 10)) 92 (6 + 7 * j + 2) (x / 10)) 92 (6 + 7 * j + 3) (x - x / 10 * 10) a k = M a k := fun a k q1 q2 => by
        rw [mu_at, if_neg (by omega), mu_at, if_neg (by omega), mu_n _ _ _ q1, mu_n _ _ _ q1]
      have hA : ∀ i, i < 7 → mu (mu (mu (mu M j 2 (x / 10)) j 3 (x - x / 10 * 10)) 92 (6 + 7 * j + 2) (x / 10)) 92 (6 + 7 * j + 3) (x - x / 10 * 10) j i = if i = 2 then x / 10 else if i = 3 then x - x / 10 * 10 else M j i := fun i hi => by
        rw [mu_n _ _ _ (show j ≠ 92 by omega), mu_n _ _ _ (show j ≠ 92 by omega)]
        simp only [mu_at, true_and]
        by_cases e0 : i = 2
        · subst e0; simp
        · by_cases e1 : i = 3
          · subst e1; simp
          · simp [e0, e1]
      refine Rel_F hR0 (Fr_one hF hj hX (fun i hi => ?_) ?_) (fun a k _ q1 q2 q3 => hX a k (by omega) (by omega))
      · rw [hA i hi]
        by_cases e0 : i = 2
        · subst e0; rw [if_pos rfl, mu_o _ _ _ (by omega)]; exact (mu_s _ _ _ _).symm
        · rw [if_neg e0]
          by_cases e1 : i = 3
          · subst e1; rw [if_pos rfl]; exact (mu_s _ _ _ _).symm
          · rw [if_neg e1, mu_o _ _ _ (by omega), mu_o _ _ _ (by omega), mu_n _ _ _ (by omega), mu_n _ _ _ (by omega)]; exact hfr.1 i hi
      · have q := hfr.2
        exact ⟨by rw [hA 0 (by decide)]; exact q.1, by rw [hA 2 (by decide)]; exact ⟨L, hL, e1⟩, by rw [hA 3 (by decide)]; exact ⟨C, hC, e2⟩, by rw [hA 5 (by decide)]; exact q.2.2.2.1, by rw [hA 6 (by decide)]; exact q.2.2.2.2⟩
  · exact both_err hR0 (qX9_redraw_f l g M hn h12 f x (Bool.eq_false_iff.mpr hg)) (by decide) (fun M1 h => qX10_redraw_f l g M1 (by rw [h 92 (by decide)]; exact hm) h12 f x (Bool.eq_false_iff.mpr hg)) (by decide) (by decide) (by decide)
set_option maxRecDepth 20000 in
theorem r_patience (l : Launch) (g : GT) {M : Mem} (hR : Rel M) (x : Int32) : Both l g yX9_patience cX9_patience 3 yX10_patience cX10_patience 2 [.int x] M := by
  have hR0 := hR
  obtain ⟨⟨⟨n, hF⟩, hS, hT, hW, hL0, hL1⟩, hi, hK, hE, hs, hc⟩ := hR
  have hn : M 37 1 = nI n := hF.1
  have hm : M 92 2 = nI n := hF.2.1
  have h12 := hF.2.2.1
  by_cases hg : (decide (1 ≤ x) && decide (x ≤ 20)) = true
  · obtain ⟨t, h1, h2, rfl⟩ := in_le (a := 1) (b := 20) (by decide) (by decide) (show (decide (nI 1 ≤ x) && decide (x ≤ nI 20)) = true from hg)
    obtain ⟨y, p, a1, a2, a3, a4, a5, a6, a7, a8⟩ := hS
    refine both_EE (qX9_patience_t l g M h1 h2) (by decide) (qX10_patience_t l g _ h1 h2) (by decide) ?_ (Rel_S hR0 ⟨y, t, ?_, ?_, a3, ?_, ?_, h1, h2, ?_⟩ (fun a k _ q1 q2 => ?_))
    · rw [mu_n _ _ _ (by decide)]; exact a5.trans a4.symm
    · rw [mu_n _ _ _ (by decide), mu_o _ _ _ (by decide)]; exact a1
    · rw [mu_o _ _ _ (by decide), mu_n _ _ _ (by decide)]; exact a2
    · rw [mu_n _ _ _ (by decide)]; exact mu_s _ _ _ _
    · exact mu_s _ _ _ _
    · rw [mu_n _ _ _ (by decide), mu_o _ _ _ (by decide), mu_o _ _ _ (by decide), mu_n _ _ _ (by decide)]; exact a8
    · rw [mu_at, if_neg (by omega), mu_at, if_neg (by omega)]
  · exact both_err hR0 (qX9_patience_f l g M x (Bool.eq_false_iff.mpr hg)) (by decide) (fun M1 h => qX10_patience_f l g M1 x (Bool.eq_false_iff.mpr hg)) (by decide) (by decide) (by decide)
set_option maxRecDepth 20000 in
theorem r_seed (l : Launch) (g : GT) {M : Mem} (hR : Rel M) (x : Int32) : Both l g yX9_seed cX9_seed 3 yX10_seed cX10_seed 2 [.int x] M := by
  have hR0 := hR
  obtain ⟨⟨⟨n, hF⟩, hS, hT, hW, hL0, hL1⟩, hi, hK, hE, hs, hc⟩ := hR
  have hn : M 37 1 = nI n := hF.1
  have hm : M 92 2 = nI n := hF.2.1
  have h12 := hF.2.2.1
  obtain ⟨y, p, a1, a2, a3, a4, a5, a6, a7, a8⟩ := hS
  refine both_EE (qX9_seed l g M x) (by decide) (qX10_seed l g _ x) (by decide) ?_ (Rel_S hR0 ⟨y, p, ?_, ?_, a3, ?_, ?_, a6, a7, ?_⟩ (fun a k _ q1 q2 => ?_))
  · rw [mu_n _ _ _ (by decide)]; exact a8.symm
  · rw [mu_n _ _ _ (by decide), mu_o _ _ _ (by decide)]; exact a1
  · rw [mu_o _ _ _ (by decide), mu_n _ _ _ (by decide)]; exact a2
  · rw [mu_n _ _ _ (by decide), mu_o _ _ _ (by decide)]; exact a4
  · rw [mu_o _ _ _ (by decide), mu_n _ _ _ (by decide)]; exact a5
  · rw [mu_n _ _ _ (by decide)]; exact (mu_s _ _ _ _).trans (mu_s _ _ _ _).symm
  · rw [mu_at, if_neg (by omega), mu_at, if_neg (by omega)]
