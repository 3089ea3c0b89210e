-- the calls: sheets
theorem zM_n (B : Mem) (s : Nat) {a : Nat} (h : a ≠ 98) : ∀ i, zM B s i a = B a
  | 0 => rfl
  | i + 1 => by simp only [zM]; rw [mu_n _ _ _ h, zM_n B s h i]
theorem zM_at (B : Mem) (s q : Nat) : ∀ i, zM B s i 98 q = if 24 * s ≤ q ∧ q < 24 * s + i then 0 else B 98 q
  | 0 => by rw [if_neg (by omega)]; rfl
  | i + 1 => by
    simp only [zM]
    by_cases e : q = 24 * s + i
    · subst e; rw [mu_s, if_pos (by omega)]
    · rw [mu_o _ _ _ e, zM_at B s q i]
      by_cases z : 24 * s ≤ q ∧ q < 24 * s + i
      · rw [if_pos z, if_pos (by omega)]
      · rw [if_neg z, if_neg (by omega)]
theorem Rel_lay {M : Mem} (hR : Rel M) {t : Nat} (ht : t < 4) {b : Int32} (hb : b = 0 ∨ b = 8 ∨ b = 16 ∨ b = 32) {z : Nat} (hz : z ≤ 24) {x : Int32} (hx : x = nI z) : Rel (zM (mu (mu (layM M t b x) 96 t b) 97 t x) t 24) := by
  have A : ∀ a, a ≠ 96 → a ≠ 97 → a ≠ 98 → zM (mu (mu (layM M t b x) 96 t b) 97 t x) t 24 a = layM M t b x a := fun a h1 h2 h3 => by
    rw [zM_n _ _ h3, mu_n _ _ _ h2, mu_n _ _ _ h1]
  have L : ∀ a, a ≠ 81 + t → a ≠ 85 + t → layM M t b x a = M a := fun a h1 h2 => by
    unfold layM; rw [mrow_n _ _ h2, mu_n _ _ _ h1, mu_n _ _ _ h1]
  have L1 : layM M t b x (81 + t) 1 = b := by unfold layM; rw [mrow_n _ _ (by omega), mu_o _ _ _ (by decide), mu_s]
  have L2 : layM M t b x (81 + t) 2 = x := by unfold layM; rw [mrow_n _ _ (by omega), mu_s]
  have L5 : ∀ k, k < 24 → layM M t b x (85 + t) k = 0 := fun k hk => by unfold layM; rw [mrow_s]; exact if_pos hk
  have B6 : ∀ j, zM (mu (mu (layM M t b x) 96 t b) 97 t x) t 24 96 j = if j = t then b else M 96 j := fun j => by
    rw [zM_n _ _ (by decide), mu_n _ _ _ (by decide)]
    by_cases e : j = t
    · subst e; rw [mu_s, if_pos rfl]
    · rw [mu_o _ _ _ e, if_neg e, L 96 (by omega) (by omega)]
  have B7 : ∀ j, zM (mu (mu (layM M t b x) 96 t b) 97 t x) t 24 97 j = if j = t then x else M 97 j := fun j => by
    rw [zM_n _ _ (by decide)]
    by_cases e : j = t
    · subst e; rw [mu_s, if_pos rfl]
    · rw [mu_o _ _ _ e, if_neg e, mu_n _ _ _ (by decide), L 97 (by omega) (by omega)]
  have B8 : ∀ j, zM (mu (mu (layM M t b x) 96 t b) 97 t x) t 24 98 j = if 24 * t ≤ j ∧ j < 24 * t + 24 then 0 else M 98 j := fun j => by
    rw [zM_at, mu_n _ _ _ (by decide), mu_n _ _ _ (by decide), L 98 (by omega) (by omega)]
  generalize zM (mu (mu (layM M t b x) 96 t b) 97 t x) t 24 = M2 at A B6 B7 B8 ⊢
  refine Rel_Sh hR (fun s hs => ?_) (fun a k _ q1 q2 => by rw [A a (by omega) (by omega) (by omega), L a (by omega) (by omega)])
  by_cases e : s = t
  · subst e
    refine ⟨by rw [A _ (by omega) (by omega) (by omega), L1, B6, if_pos rfl], by rw [B6, if_pos rfl]; exact hb, z, by rw [A _ (by omega) (by omega) (by omega), L2]; exact hx, by rw [B7, if_pos rfl]; exact hx, hz, fun k hk => ?_⟩
    rw [A _ (by omega) (by omega) (by omega), L5 k hk, B8, if_pos (by omega)]
  · refine Sh_cg (hR.2.2.2.2.1 s hs) (fun a k q => ?_)
    unfold cSh at q
    rcases q with ⟨rfl, -⟩ | ⟨rfl, -⟩ | ⟨rfl | rfl, rfl⟩ | ⟨rfl, q⟩
    · rw [A _ (by omega) (by omega) (by omega), L _ (by omega) (by omega)]
    · rw [A _ (by omega) (by omega) (by omega), L _ (by omega) (by omega)]
    · rw [B6, if_neg e]
    · rw [B7, if_neg e]
    · rw [B8, if_neg (by omega)]
theorem Rel_put {M : Mem} (hR : Rel M) {t j : Nat} (ht : t < 4) (hj : j < 24) (v : Int32) : Rel (mu (mu M (85 + t) j v) 98 (24 * t + j) v) := by
  refine Rel_Sh hR (fun s hs => ?_) (fun a k _ q1 q2 => by rw [mu_n _ _ _ (by omega), mu_n _ _ _ (by omega)])
  by_cases e : s = t
  · subst e
    obtain ⟨b1, b2, z, b3, b4, b5, b6⟩ := hR.2.2.2.2.1 s hs
    have N : ∀ a, a ≠ 98 → a ≠ 85 + s → mu (mu M (85 + s) j v) 98 (24 * s + j) v a = M a := fun a h1 h2 => by rw [mu_n _ _ _ h1, mu_n _ _ _ h2]
    refine ⟨by rw [N _ (by omega) (by omega), N 96 (by decide) (by omega)]; exact b1, by rw [N 96 (by decide) (by omega)]; exact b2, z, by rw [N _ (by omega) (by omega)]; exact b3, by rw [N 97 (by decide) (by omega)]; exact b4, b5, fun k hk => ?_⟩
    rw [mu_n _ _ _ (show 85 + s ≠ 98 by omega)]
    by_cases q : k = j
    · subst q; rw [mu_s, mu_s]
    · rw [mu_o _ _ _ q, mu_o _ _ _ (by omega), mu_n _ _ _ (show 98 ≠ 85 + s by omega)]; exact b6 k hk
  · exact Sh_cg (hR.2.2.2.2.1 s hs) (fun a k q => by unfold cSh at q; rw [mu_at, if_neg (by omega), mu_at, if_neg (by omega)])
theorem cut_nrw (b x : Int32) : pCut b x = nrw b x := rfl
theorem lnK_le (C : Nat → Int32) : ∀ k i, lnK C k i ≤ i + k
  | 0, _ => Nat.le_refl _
  | k + 1, i => by
    have := lnK_le C k (i + 1)
    simp only [lnK]; split <;> omega
theorem lnK_ok (C : Nat → Int32) : ∀ k i j, i ≤ j → j < lnK C k i → pLine (C j) = true
  | 0, i, j, h1, h2 => by have h2 : j < i := h2; omega
  | k + 1, i, j, h1, h2 => by
    simp only [lnK] at h2
    by_cases e : pLine (C i) = true
    · rw [if_pos e] at h2
      by_cases q : j = i
      · subst q; exact e
      · exact lnK_ok C k (i + 1) j (by omega) h2
    · rw [if_neg e] at h2; omega
theorem lnK_cg {C D : Nat → Int32} : ∀ k i, (∀ j, i ≤ j → j < i + k → C j = D j) → lnK C k i = lnK D k i
  | 0, _, _ => rfl
  | k + 1, i, h => by
    simp only [lnK]
    rw [h i (by omega) (by omega), lnK_cg k (i + 1) (fun j h1 h2 => h j (by omega) (by omega))]
theorem lnC_at (M : Mem) (C : Nat → Int32) (i j : Nat) : ∀ K, i < K → lnC M C K i j = if j = 2 then C i / 10 else if j = 3 then C i - C i / 10 * 10 else M i j
  | 0, h => absurd h (Nat.not_lt_zero _)
  | K + 1, h => by
    simp only [lnC]
    by_cases e : i = K
    · subst e
      rw [mu_at, mu_at, lnC_o M C i (Nat.le_refl _)]
      by_cases h2 : j = 2
      · subst h2; simp
      · by_cases h3 : j = 3
        · subst h3; simp
        · simp [h2, h3]
    · rw [mu_n _ _ _ e, mu_n _ _ _ e]; exact lnC_at M C i j K (by omega)
theorem lnM_at (M : Mem) (C : Nat → Int32) (i j : Nat) (hj : j < 7) : ∀ K, lnM M C K 92 (6 + 7 * i + j) = if i < K then (if j = 2 then C i / 10 else if j = 3 then C i - C i / 10 * 10 else M 92 (6 + 7 * i + j)) else M 92 (6 + 7 * i + j)
  | 0 => by rw [if_neg (by omega)]; rfl
  | K + 1 => by
    have ih := lnM_at M C i j hj K
    simp only [lnM]
    by_cases e : i = K
    · subst e
      rw [if_neg (by omega)] at ih
      rw [if_pos (by omega)]
      by_cases h2 : j = 2
      · subst h2; rw [mu_o _ _ _ (by omega), mu_s, if_pos rfl]
      · by_cases h3 : j = 3
        · subst h3; rw [mu_s, if_neg (by decide), if_pos rfl]
        · rw [mu_o _ _ _ (by omega), mu_o _ _ _ (by omega), ih, if_neg h2, if_neg h3]
    · rw [mu_o _ _ _ (by omega), mu_o _ _ _ (by omega), ih]
      by_cases q : i < K
      · rw [if_pos q, if_pos (show i < K + 1 by omega)]
      · rw [if_neg q, if_neg (show ¬ i < K + 1 by omega)]
theorem lnM_out (M : Mem) (C : Nat → Int32) {q n : Nat} (h : ¬ (6 ≤ q ∧ q < 6 + 7 * n)) : ∀ K, K ≤ n → lnM M C K 92 q = M 92 q
  | 0, _ => rfl
  | K + 1, hK => by
    simp only [lnM]
    rw [mu_o _ _ _ (by omega), mu_o _ _ _ (by omega)]; exact lnM_out M C h K (by omega)
theorem Rel_lines {M : Mem} {n K : Nat} (hR : Rel M) (hF : Fr 0 M n) {C D : Nat → Int32} (hK : K ≤ n) (hCD : ∀ i, i < K → C i = D i) (hok : ∀ i, i < K → pLine (C i) = true) : Rel (lnM (lnC M C K) D K) := by
  have h12 := hF.2.2.1
  have N : ∀ a, a ≠ 92 → K ≤ a → lnM (lnC M C K) D K a = M a := fun a h1 h2 => by rw [lnM_o _ _ h1, lnC_o _ _ _ h2]
  have R : ∀ q, ¬ (6 ≤ q ∧ q < 6 + 7 * n) → lnM (lnC M C K) D K 92 q = M 92 q := fun q h => by rw [lnM_out _ _ h K hK, lnC_o _ _ _ (by omega)]
  refine Rel_F (n2 := n) hR (Fr_mk (by rw [N 37 (by decide) (by omega)]; exact hF.1) (by rw [R 2 (by omega)]; exact hF.2.1) h12 (fun i hi => ?_)) (fun a k _ q1 q2 q3 => ?_)
  · have q := Fr_at hF hi
    by_cases hiK : i < K
    · have eA : ∀ j, lnM (lnC M C K) D K i j = if j = 2 then C i / 10 else if j = 3 then C i - C i / 10 * 10 else M i j := fun j => by
        rw [lnM_o _ _ (by omega)]; exact lnC_at M C i j K hiK
      obtain ⟨L, Cr, hL, hCr, -, e1, e2⟩ := pLine_at (hok i hiK)
      refine ⟨fun j hj => ?_, ?_⟩
      · rw [eA j, lnM_at _ _ _ _ hj, if_pos hiK, ← hCD i hiK, lnC_o _ _ _ (show K ≤ 92 by omega), q.1 j hj]
      · have z := q.2
        exact ⟨by rw [eA 0]; exact z.1, by rw [eA 2]; exact ⟨L, hL, e1⟩, by rw [eA 3]; exact ⟨Cr, hCr, e2⟩, by rw [eA 5]; exact z.2.2.2.1, by rw [eA 6]; exact z.2.2.2.2⟩
    · have eA : lnM (lnC M C K) D K i = M i := N i (by omega) (by omega)
      rw [eA]
      refine ⟨fun j hj => ?_, q.2⟩
      rw [lnM_at _ _ _ _ hj, if_neg hiK, lnC_o _ _ _ (show K ≤ 92 by omega)]; exact q.1 j hj
  · by_cases e : a = 92
    · subst e; exact R k (by omega)
    · rw [N a e (by omega)]
theorem sub_toI {z : Nat} (hz : z ≤ 24) {a : Nat} (h : a < 2 ^ 31) : (nI z - nI a).toInt = (z : Int) - a := by
  rw [Int32.toInt_sub, nI_toInt (by omega), nI_toInt h]
  exact Int.bmod_eq_of_le (by omega) (by omega)
/-- n numbers from a on, of z -/
theorem mv_in {z a n : Nat} (hz : z ≤ 24) (ha : a < 2 ^ 31) (hn : n < 2 ^ 31) : decide (nI z - nI a < nI n) = !decide (a + n ≤ z) := by
  rw [← decide_not]
  apply decide_eq_decide.mpr
  rw [Int32.lt_iff_toInt_lt, sub_toI hz ha, nI_toInt hn]; omega
theorem hol_in {z a n : Nat} (hz : z ≤ 24) (ha : a < 2 ^ 31) (hn : n < 2 ^ 31) : (decide (0 ≤ nI a) && decide (0 ≤ nI n) && decide (nI n ≤ nI z) && decide (nI a ≤ nI z - nI n)) = decide (a + n ≤ z) := by
  have e0 : ∀ k, k < 2 ^ 31 → decide (0 ≤ nI k) = true := fun k hk => decide_eq_true (Int32.not_lt.mp (nI_pos hk))
  rw [e0 a ha, e0 n hn, Bool.true_and, Bool.true_and, ← Bool.decide_and]
  apply decide_eq_decide.mpr
  rw [Int32.le_iff_toInt_le, Int32.le_iff_toInt_le, sub_toI hz hn, nI_toInt ha, nI_toInt hn, nI_toInt (by omega)]; omega
theorem neg_dec {x : Int32} (h : x < 0) : decide (0 ≤ x) = false := decide_eq_false (Int32.not_le.mpr h)
/-- both ask the same -/
theorem mv_same {M M1 : Mem} {s t y z : Nat} (h1 : M (81 + s) 2 = nI y) (h2 : M (81 + t) 2 = nI z) (h3 : M1 97 s = nI y) (h4 : M1 97 t = nI z) (hy : y ≤ 24) (hz : z ≤ 24) (a b n : Int32) : mvOk M1 s t a b n = (holC M s a n && holC M t b n) := by
  unfold mvOk holC
  rw [h1, h2, h3, h4]
  by_cases n0 : n < 0
  · rw [decide_eq_true n0, neg_dec n0]; simp
  · by_cases a0 : a < 0
    · rw [decide_eq_true a0, neg_dec a0]; simp
    · by_cases b0 : b < 0
      · rw [decide_eq_true b0, neg_dec b0]; simp
      · obtain ⟨n, hn, rfl⟩ := nI_of n0
        obtain ⟨a, ha, rfl⟩ := nI_of a0
        obtain ⟨b, hb, rfl⟩ := nI_of b0
        rw [hol_in hy ha hn, hol_in hz hb hn, mv_in hy ha hn, mv_in hz hb hn, decide_eq_false n0, decide_eq_false a0, decide_eq_false b0]
        simp
set_option maxRecDepth 20000 in
theorem r_sheet (l : Launch) (g : GT) {M : Mem} (hR : Rel M) (s b z : Int32) : Both l g yX9_sheet cX9_sheet 4 yX10_sheet cX10_sheet 5 [.int s, .int b, .int z] M := by
  have hR0 := hR
  obtain ⟨⟨⟨n, hF⟩, hS, hT, hW, hL0, hL1⟩, hi, hK, hE, hs, hc⟩ := hR
  have hn : M 37 1 = nI n := hF.1
  have hm : M 92 2 = nI n := hF.2.1
  have h12 := hF.2.2.1
  by_cases hg : ((decide (0 ≤ s) && decide (s < 4)) && (decide (b = 0) || decide (b = 8) || decide (b = 16) || decide (b = 32))) = true
  · obtain ⟨g1, g2⟩ := Bool.and_eq_true_iff.mp hg
    obtain ⟨t, -, ht, rfl⟩ := in_lt (a := 0) (b := 4) (by decide) (by decide) (show (decide (nI 0 ≤ s) && decide (s < nI 4)) = true from g1)
    by_cases hb0 : b = 0
    · subst hb0
      exact both_EE (qX9_sheet_0 l g M ht z) (by decide) (qX10_sheet_0 l g _ ht z) (by decide) rfl (Rel_lay hR0 ht (Or.inl rfl) (z := 0) (by decide) nI_0.symm)
    · have hb : b = 8 ∨ b = 16 ∨ b = 32 := by
        simp only [Bool.or_eq_true, decide_eq_true_eq] at g2
        rcases g2 with ((g2 | g2) | g2) | g2
        · exact absurd g2 hb0
        · exact Or.inl g2
        · exact Or.inr (Or.inl g2)
        · exact Or.inr (Or.inr g2)
      by_cases hz : z < 0
      · exact both_err hR0 (qX9_sheet_neg l g M ht hb z hz) (by decide) (fun M1 _ => qX10_sheet_neg l g M1 ht hb z hz) (by decide) (by decide) (by decide)
      · obtain ⟨k, hk, rfl⟩ := nI_of hz
        by_cases h24 : k ≤ 24
        · exact both_EE (qX9_sheet_t l g M ht hb h24) (by decide) (qX10_sheet_t l g _ ht hb h24) (by decide) rfl (Rel_lay hR0 ht (Or.inr hb) h24 rfl)
        · exact both_err hR0 (qX9_sheet_big l g M ht hb (by omega) hk) (by decide) (fun M1 _ => qX10_sheet_big l g M1 ht hb (by omega) hk) (by decide) (by decide) (by decide)
  · exact both_err hR0 (qX9_sheet_f l g M s b z (Bool.eq_false_iff.mpr hg)) (by decide) (fun M1 _ => qX10_sheet_f l g M1 s b z (Bool.eq_false_iff.mpr hg)) (by decide) (by decide) (by decide)
set_option maxRecDepth 20000 in
theorem r_put (l : Launch) (g : GT) {M : Mem} (hR : Rel M) (s p x : Int32) : Both l g yX9_put cX9_put 5 yX10_put cX10_put 5 [.int s, .int p, .int x] M := by
  have hR0 := hR
  obtain ⟨⟨⟨n, hF⟩, hS, hT, hW, hL0, hL1⟩, hi, hK, hE, hs, hc⟩ := hR
  have hn : M 37 1 = nI n := hF.1
  have hm : M 92 2 = nI n := hF.2.1
  have h12 := hF.2.2.1
  by_cases hg : (decide (0 ≤ s) && decide (s < 4)) = true
  · obtain ⟨t, -, ht, rfl⟩ := in_lt (a := 0) (b := 4) (by decide) (by decide) (show (decide (nI 0 ≤ s) && decide (s < nI 4)) = true from hg)
    obtain ⟨b1, b2, z, b3, b4, b5, b6⟩ := hs t ht
    by_cases h0 : M 96 t = 0
    · exact both_err hR0 (qX9_put_0 l g M ht p x (b1.trans h0)) (by decide) (fun M1 hx => qX10_put_0 l g M1 ht p x (by rw [hx 96 (by decide)]; exact h0)) (by decide) (by decide) (by decide)
    · have h0' : ¬ M (81 + t) 1 = 0 := fun e => h0 (b1.symm.trans e)
      by_cases hp : pIsF z p = true
      · obtain ⟨j, -, hj, rfl⟩ := in_lt (a := 0) (b := z) (by omega) (by decide) (show (decide (nI 0 ≤ p) && decide (p < nI z)) = true from hp)
        have N : ∀ v, mu M (85 + t) j v 96 = M 96 := fun v => mu_n _ _ _ (by omega)
        have N7 : ∀ v, mu M (85 + t) j v 97 = M 97 := fun v => mu_n _ _ _ (by omega)
        refine both_EE (qX9_put_t l g M ht x h0' b3 b5 hj) (by decide) (qX10_put_t l g _ ht x (by rw [N]; exact h0) (z := z) (by rw [N7]; exact b4) b5 hj) (by decide) rfl ?_
        rw [N, ← b1, ← cut_nrw]
        exact Rel_put hR0 ht (by omega) _
      · exact both_err hR0 (qX9_put_i l g M ht p x h0' b3 b5 (Bool.eq_false_iff.mpr hp)) (by decide) (fun M1 hx => qX10_put_i l g M1 ht p x (by rw [hx 96 (by decide)]; exact h0) (z := z) (by rw [hx 97 (by decide)]; exact b4) b5 (Bool.eq_false_iff.mpr hp)) (by decide) (by decide) (by decide)
  · exact both_err hR0 (qX9_put_f l g M s p x (Bool.eq_false_iff.mpr hg)) (by decide) (fun M1 _ => qX10_put_f l g M1 s p x (Bool.eq_false_iff.mpr hg)) (by decide) (by decide) (by decide)
set_option maxRecDepth 20000 in
theorem r_lines (l : Launch) (g : GT) {M : Mem} (hR : Rel M) (s : Int32) : Both l g yX9_lines cX9_lines 5 yX10_lines cX10_lines 4 [.int s] M := by
  have hR0 := hR
  obtain ⟨⟨⟨n, hF⟩, hS, hT, hW, hL0, hL1⟩, hi, hK, hE, hs, hc⟩ := hR
  have hn : M 37 1 = nI n := hF.1
  have hm : M 92 2 = nI n := hF.2.1
  have h12 := hF.2.2.1
  by_cases hg : (decide (0 ≤ s) && decide (s < 4)) = true
  · obtain ⟨t, -, ht, rfl⟩ := in_lt (a := 0) (b := 4) (by decide) (by decide) (show (decide (nI 0 ≤ s) && decide (s < nI 4)) = true from hg)
    obtain ⟨b1, b2, z, b3, b4, b5, b6⟩ := hs t ht
    by_cases h0 : M 96 t = 0
    · exact both_err hR0 (qX9_lines_0 l g M ht (b1.trans h0)) (by decide) (fun M1 hx => qX10_lines_0 l g M1 ht (by rw [hx 96 (by decide)]; exact h0)) (by decide) (by decide) (by decide)
    · have h0' : ¬ M (81 + t) 1 = 0 := fun e => h0 (b1.symm.trans e)
      have hKn : lnK (M (85 + t)) (min z n) 0 ≤ min z n := by have := lnK_le (M (85 + t)) (min z n) 0; omega
      have hmn := Nat.min_le_right z n
      have hmz := Nat.min_le_left z n
      have O : ∀ a, 12 ≤ a → lnC M (M (85 + t)) (lnK (M (85 + t)) (min z n) 0) a = M a := fun a h => lnC_o _ _ _ (by omega)
      have eK : lnK (M (85 + t)) (min z n) 0 = lnK (fun k => M 98 (24 * t + k)) (min z n) 0 := lnK_cg _ _ (fun j _ h2 => b6 j (by omega))
      refine both_EE (qX9_lines_t l g M hn h12 ht h0' b3 b5) (by decide) (qX10_lines_t l g _ (n := n) (by rw [O 92 (by decide)]; exact hm) h12 ht (by rw [O 96 (by decide)]; exact h0) (z := z) (by rw [O 97 (by decide)]; exact b4) b5) (by decide) ?_ ?_
      · rw [O 98 (by decide), eK]
      · rw [O 98 (by decide), ← eK]
        exact Rel_lines hR0 hF (by omega) (fun i hi => b6 i (by omega)) (fun i hi => lnK_ok _ _ 0 i (Nat.zero_le _) hi)
  · exact both_err hR0 (qX9_lines_f l g M s (Bool.eq_false_iff.mpr hg)) (by decide) (fun M1 _ => qX10_lines_f l g M1 s (Bool.eq_false_iff.mpr hg)) (by decide) (by decide) (by decide)
set_option maxRecDepth 20000 in
theorem r_move (l : Launch) (g : GT) {M : Mem} (hR : Rel M) (s a o b c : Int32) : Both l g yX9_move cX9_move 8 yX10_move cX10_move 9 [.int s, .int a, .int o, .int b, .int c] M := by
  have hR0 := hR
  obtain ⟨⟨⟨n, hF⟩, hS, hT, hW, hL0, hL1⟩, hi, hK, hE, hs, hc⟩ := hR
  have hn : M 37 1 = nI n := hF.1
  have hm : M 92 2 = nI n := hF.2.1
  have h12 := hF.2.2.1
  by_cases hg : ((decide (0 ≤ s) && decide (s < 4)) && (decide (0 ≤ o) && decide (o < 4))) = true
  · obtain ⟨g1, g2⟩ := Bool.and_eq_true_iff.mp hg
    obtain ⟨t, -, ht, rfl⟩ := in_lt (a := 0) (b := 4) (by decide) (by decide) (show (decide (nI 0 ≤ s) && decide (s < nI 4)) = true from g1)
    obtain ⟨t2, -, ht2, rfl⟩ := in_lt (a := 0) (b := 4) (by decide) (by decide) (show (decide (nI 0 ≤ o) && decide (o < nI 4)) = true from g2)
    obtain ⟨b1, b2, z, b3, b4, b5, b6⟩ := hs t ht
    obtain ⟨d1, d2, z2, d3, d4, d5, d6⟩ := hs t2 ht2
    by_cases h0 : M 96 t = 0 ∨ M 96 t2 = 0
    · exact both_err hR0 (qX9_move_0 l g M ht ht2 a b c (by rw [b1, d1]; exact h0)) (by decide) (fun M1 hx => qX10_move_0 l g M1 ht ht2 a b c (by rw [hx 96 (by decide)]; exact h0)) (by decide) (by decide) (by decide)
    · have k1 : ¬ M 96 t = 0 := fun e => h0 (Or.inl e)
      have k2 : ¬ M 96 t2 = 0 := fun e => h0 (Or.inr e)
      have k1' : ¬ M (81 + t) 1 = 0 := fun e => k1 (b1.symm.trans e)
      have k2' : ¬ M (81 + t2) 1 = 0 := fun e => k2 (d1.symm.trans e)
      by_cases h3 : M 96 t = M 96 t2
      · have h3' : M (81 + t) 1 = M (81 + t2) 1 := b1.trans (h3.trans d1.symm)
        by_cases hr : (holC M t a c && holC M t2 b c) = true
        · have hr0 := hr
          unfold holC at hr
          rw [b3, d3] at hr
          by_cases c0 : c < 0
          · rw [neg_dec c0] at hr; simp at hr
          · by_cases a0 : a < 0
            · rw [neg_dec a0] at hr; simp at hr
            · by_cases bb0 : b < 0
              · rw [neg_dec bb0] at hr; simp at hr
              · obtain ⟨c, hc2, rfl⟩ := nI_of c0
                obtain ⟨a, ha2, rfl⟩ := nI_of a0
                obtain ⟨b, hb2, rfl⟩ := nI_of bb0
                rw [hol_in b5 ha2 hc2, hol_in d5 hb2 hc2, ← Bool.decide_and] at hr
                have hr2 := of_decide_eq_true hr
                have O : ∀ q, q ≠ 85 + t2 → mrow M (85 + t2) (va_cpy (M (85 + t)) (M (85 + t2)) a b c) q = M q := fun q h => mrow_n _ _ h
                refine both_of (qX9_move_t l g M ht ht2 k1' k2' h3' hr0 (by omega) (by omega)) (by decide) (fun r M1 hq => ?_)
                obtain ⟨rfl, rfl⟩ := hq
                refine ⟨_, _, ?_, qX10_move_t l g _ ht ht2 (by rw [O 96 (by omega)]; exact k1) (by rw [O 96 (by omega)]; exact k2) (by rw [O 96 (by omega)]; exact h3) (a := a) (b := b) (n := c) ((mv_same (M := M) b3 d3 (by rw [O 97 (by omega)]; exact b4) (by rw [O 97 (by omega)]; exact d4) b5 d5 _ _ _).trans hr0) (by omega) (by omega), fun r2 M2 hq2 => ?_⟩
                · decide
                · obtain ⟨rfl, e1, e2, e3⟩ := hq2
                  rw [O 98 (by omega)] at e2 e3
                  refine ⟨rfl, Rel_Sh hR0 (fun u hu => ?_) (fun q k _ q1 q2 => by rw [e1 q (by omega), O q (by omega)])⟩
                  by_cases e : u = t2
                  · subst e
                    refine ⟨by rw [e1 _ (by omega), O _ (by omega), e1 96 (by decide), O 96 (by omega)]; exact d1, by rw [e1 96 (by decide), O 96 (by omega)]; exact d2, z2, by rw [e1 _ (by omega), O _ (by omega)]; exact d3, by rw [e1 97 (by decide), O 97 (by omega)]; exact d4, d5, fun k hk => ?_⟩
                    rw [e1 _ (by omega), mrow_s]
                    by_cases q : b ≤ k ∧ k < b + c
                    · rw [pk_cpy_in q.1 q.2, b6 _ (by omega), show 24 * u + k = 24 * u + b + (k - b) by omega, e2 (k - b) (by omega)]
                      exact congrArg (M 98) (by omega)
                    · rw [pk_cpy_out (by omega), e3 _ (by omega)]; exact d6 k hk
                  · refine Sh_cg (hs u hu) (fun q k z => ?_)
                    unfold cSh at z
                    by_cases e98 : q = 98
                    · subst e98; exact e3 k (by omega)
                    · rw [e1 q e98, O q (by omega)]
        · exact both_err hR0 (qX9_move_r l g M ht ht2 a b c k1' k2' h3' (Bool.eq_false_iff.mpr hr)) (by decide) (fun M1 hx => qX10_move_r l g M1 ht ht2 a b c (by rw [hx 96 (by decide)]; exact k1) (by rw [hx 96 (by decide)]; exact k2) (by rw [hx 96 (by decide)]; exact h3) ((mv_same (M := M) b3 d3 (by rw [hx 97 (by decide)]; exact b4) (by rw [hx 97 (by decide)]; exact d4) b5 d5 _ _ _).trans (Bool.eq_false_iff.mpr hr))) (by decide) (by decide) (by decide)
      · exact both_err hR0 (qX9_move_d l g M ht ht2 a b c k1' k2' (fun e => h3 (b1.symm.trans (e.trans d1)))) (by decide) (fun M1 hx => qX10_move_d l g M1 ht ht2 a b c (by rw [hx 96 (by decide)]; exact k1) (by rw [hx 96 (by decide)]; exact k2) (by rw [hx 96 (by decide)]; exact h3)) (by decide) (by decide) (by decide)
  · exact both_err hR0 (qX9_move_f l g M s o a b c (Bool.eq_false_iff.mpr hg)) (by decide) (fun M1 _ => qX10_move_f l g M1 s o a b c (Bool.eq_false_iff.mpr hg)) (by decide) (by decide) (by decide)
