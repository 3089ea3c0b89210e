-- the calls: years
theorem up_s (f : Nat → Int32) (k : Nat) (x : Int32) : upd f k x k = x := if_pos rfl
theorem up_o (f : Nat → Int32) {j k : Nat} (x : Int32) (h : j ≠ k) : upd f k x j = f j := if_neg h
theorem age_same {a : Nat} (ha : a ≤ 99) : (if nI a + 1 < 99 then nI a + 1 else 99) = pHold (nI a + 1) 0 99 ∧ ∃ b, b ≤ 99 ∧ pHold (nI a + 1) 0 99 = nI b := by
  have e : nI a + 1 = nI (a + 1) := nI_1 a
  rw [e]
  unfold pHold
  rw [if_neg (show ¬ nI (a + 1) < 0 from nI_pos (show a + 1 < 2 ^ 31 by omega))]
  have u1 : nI (a + 1) < 99 ↔ a + 1 < 99 := nI_ltI (a := a + 1) (b := 99) (by omega) (by decide)
  have u2 : (99 : Int32) < nI (a + 1) ↔ 99 < a + 1 := nI_ltI (a := 99) (b := a + 1) (by decide) (by omega)
  by_cases h : a + 1 < 99
  · rw [if_pos (u1.mpr h), if_neg (fun q => absurd (u2.mp q) (by omega))]
    exact ⟨rfl, a + 1, by omega, rfl⟩
  · rw [if_neg (fun q => h (u1.mp q))]
    by_cases h2 : 99 < a + 1
    · rw [if_pos (u2.mpr h2)]
      exact ⟨rfl, 99, by decide, rfl⟩
    · rw [if_neg (fun q => h2 (u2.mp q))]
      have e9 : a + 1 = 99 := by omega
      rw [e9]; exact ⟨rfl, 99, by decide, rfl⟩
theorem unh_same {pat : Int32} {f g : Nat → Int32} (h : ∀ j, j < 7 → f j = g j) (hf : frOk f) : (∀ j, j < 7 → pUnh pat f j = pUnhM pat g j) ∧ frOk (pUnh pat f) := by
  obtain ⟨k7, hL, hC, ⟨a, ha, e5⟩, h6⟩ := hf
  obtain ⟨s1, b, hb, s2⟩ := age_same ha
  have e5g : g 5 = nI a := (h 5 (by decide)).symm.trans e5
  have lo : ∀ j, j < 5 → pUnh pat f j = f j := fun j hj => pUnh_lo pat f hj
  have A5 : pUnh pat f 5 = nI b := by unfold pUnh; rw [up_o _ _ (by decide), up_s, e5, s1, s2]
  have A6 : pUnh pat f 6 = if pat ≤ nI b then 1 else 0 := by unfold pUnh; rw [up_s, e5, s1, s2]
  have B5 : pUnhM pat g 5 = nI b := by unfold pUnhM; rw [up_o _ _ (by decide), up_s, e5g, s2]
  have B6 : pUnhM pat g 6 = if pat ≤ nI b then 1 else 0 := by unfold pUnhM; rw [up_s, e5g, s2]
  have Blo : ∀ j, j < 5 → pUnhM pat g j = g j := fun j hj => by unfold pUnhM; rw [up_o _ _ (by omega), up_o _ _ (by omega)]
  refine ⟨fun j hj => ?_, by rw [lo 0 (by decide)]; exact k7, by rw [lo 2 (by decide)]; exact hL, by rw [lo 3 (by decide)]; exact hC, ⟨b, hb, A5⟩, ?_⟩
  · by_cases q : j < 5
    · rw [lo j q, Blo j q]; exact h j hj
    · rcases (show j = 5 ∨ j = 6 by omega) with rfl | rfl
      · rw [A5, B5]
      · rw [A6, B6]
  · rw [A6]
    by_cases q : pat ≤ nI b
    · rw [if_pos q]; exact Or.inr rfl
    · rw [if_neg q]; exact Or.inl rfl
theorem yr_same {pat : Int32} {n : Nat} {F G : Nat → Nat → Int32} (h : eqF n F G) (hF : ∀ i, i < n → frOk (F i)) : eqF n (pYR F n pat) (pYRm G n pat) ∧ ∀ i, i < n → frOk (pYR F n pat i) := by
  have A : ∀ i, i < n → (∀ j, j < 7 → pYR F n pat i j = pYRm G n pat i j) ∧ frOk (pYR F n pat i) := fun i hi => by
    unfold pYR pYRm
    rw [← h i hi 6 (by decide), ← pHeard_c h hi]
    by_cases c : i < n ∧ F i 6 = 0 ∧ pHeard F n i = false
    · simp only [if_pos c]; exact unh_same (h i hi) (hF i hi)
    · simp only [if_neg c]; exact ⟨h i hi, hF i hi⟩
  exact ⟨fun i hi => (A i hi).1, fun i hi => (A i hi).2⟩
theorem fF_YM {fi : Nat} (hfi : fi < 3) (M : Mem) (n : Nat) (pat : Int32) {i : Nat} (hi : i < 12) : fF (pYM M fi n pat) fi i = pYR (fF M fi) n pat i := by
  show pYM M fi n pat (12 * fi + i) = _
  unfold pYM; rw [mu_n _ _ _ (by omega)]; exact pYp_in M fi n pat 0 (Nat.zero_le _) hi
theorem yrs_same {fi n : Nat} {pat : Int32} {M N : Mem} (hfi : fi < 3) (h12 : n ≤ 12) (h : eqF n (fF M fi) (mF N)) (hF : ∀ i, i < n → frOk (fF M fi i)) : ∀ k, eqF n (fF (pYMs M fi n pat k) fi) (mF (gN n pat N k)) ∧ ∀ i, i < n → frOk (fF (pYMs M fi n pat k) fi i)
  | 0 => ⟨h, hF⟩
  | k + 1 => by
    obtain ⟨a, b⟩ := yrs_same (pat := pat) hfi h12 h hF k
    obtain ⟨c, d⟩ := yr_same (pat := pat) a b
    have e : ∀ i, i < n → fF (pYMs M fi n pat (k + 1)) fi i = pYR (fF (pYMs M fi n pat k) fi) n pat i := fun i hi => fF_YM hfi _ _ _ (by omega)
    refine ⟨fun i hi j hj => ?_, fun i hi => ?_⟩
    · rw [e i hi, show gN n pat N (k + 1) = gF (gN n pat N k) n pat from rfl, gF_in hi hj]; exact c i hi j hj
    · rw [e i hi]; exact d i hi
theorem pYM_2 (M : Mem) (fi n : Nat) (hfi : fi < 3) (pat : Int32) : pYM M fi n pat (37 + fi) 2 = M (37 + fi) 2 + 1 := by unfold pYM; rw [mu_s]
theorem pYMs_2 {fi : Nat} (hfi : fi < 3) {M : Mem} {n y : Nat} {pat : Int32} (h : M (37 + fi) 2 = nI y) : ∀ k, pYMs M fi n pat k (37 + fi) 2 = nI (y + k)
  | 0 => h
  | k + 1 => by
    show pYM (pYMs M fi n pat k) fi n pat (37 + fi) 2 = _
    rw [pYM_2 _ _ _ hfi, pYMs_2 hfi h k]; exact nI_1 (y + k)
theorem gN_0 {n y : Nat} {pat : Int32} {N : Mem} (h : N 92 0 = nI y) : ∀ k, gN n pat N k 92 0 = nI (y + k)
  | 0 => h
  | k + 1 => by
    show gF (gN n pat N k) n pat 92 0 = _
    rw [gF_0, gN_0 h k]; exact nI_1 (y + k)
theorem Rel_years {M : Mem} (hR : Rel M) {n y z : Nat} (hF : Fr 0 M n) (hz : M 37 2 = nI z) (hzy : z + y ≤ 9999) : Rel (gN n (M 37 3) (pYMs M 0 n (M 37 3) y) y) := by
  have h12 := hF.2.2.1
  have hR0 := hR
  obtain ⟨⟨-, hS, -⟩, -⟩ := hR
  obtain ⟨z', p, a1, a2, a3, a4, a5, a6, a7, a8⟩ := hS
  have a1 : M 37 2 = nI z' := a1
  have a4 : M 37 3 = nI p := a4
  generalize hpat : M 37 3 = pat
  have O1 : ∀ a, 12 ≤ a → a ≠ 37 → pYMs M 0 n pat y a = M a := fun a h1 h2 => pYMs_o M n pat (by omega) h2 y
  have e92 : pYMs M 0 n pat y 92 = M 92 := O1 92 (by decide) (by decide)
  have O2 : ∀ a, a ≠ 92 → gN n pat (pYMs M 0 n pat y) y a = pYMs M 0 n pat y a := fun a h => gN_o h y
  have R2 : ∀ q, ¬ (6 ≤ q ∧ q < 6 + 7 * n) → q ≠ 0 → gN n pat (pYMs M 0 n pat y) y 92 q = M 92 q := fun q h h0 => by rw [gN_at h h0, e92]
  have hy := yrs_same (fi := 0) (pat := pat) (M := M) (N := pYMs M 0 n pat y) (by decide) h12 (by rw [mF_row e92]; exact Fr_eq hF) (fun i hi => by rw [fF0]; exact (Fr_at hF hi).2) y
  have F37 : ∀ q, q ≠ 2 → pYMs M 0 n pat y 37 q = M 37 q := fun q h => pYMs_at (fi := 0) (by decide) M n pat q h y
  refine Rel_FS (n2 := n) hR0 (Fr_mk ?_ ?_ h12 (fun i hi => ?_)) ⟨z + y, p, ?_, ?_, hzy, ?_, ?_, a6, a7, ?_⟩ (fun a k _ q1 q2 q3 => ?_)
  · rw [O2 37 (by decide), F37 1 (by decide)]; exact hF.1
  · rw [R2 2 (by omega) (by decide)]; exact hF.2.1
  · have eA : gN n pat (pYMs M 0 n pat y) y i = fF (pYMs M 0 n pat y) 0 i := by rw [O2 i (by omega), fF0]
    rw [eA]; exact ⟨fun j hj => hy.1 i hi j hj, hy.2 i hi⟩
  · show gN n pat (pYMs M 0 n pat y) y 37 2 = _
    rw [O2 37 (by decide)]; exact pYMs_2 (fi := 0) (by decide) hz y
  · show gN n pat (pYMs M 0 n pat y) y 92 0 = _
    exact gN_0 (by rw [e92]; exact (a2.trans a1.symm).trans hz) y
  · show gN n pat (pYMs M 0 n pat y) y 37 3 = _
    rw [O2 37 (by decide), F37 3 (by decide)]; exact a4
  · show gN n pat (pYMs M 0 n pat y) y 92 3 = _
    rw [R2 3 (by omega) (by decide)]; exact a5
  · show gN n pat (pYMs M 0 n pat y) y 37 4 = gN n pat (pYMs M 0 n pat y) y 92 1
    rw [O2 37 (by decide), F37 4 (by decide), R2 1 (by omega) (by decide)]; exact a8
  · by_cases e : a = 92
    · subst e; exact R2 k (by omega) (by omega)
    · rw [O2 a e, O1 a (by omega) q2]
theorem thought_same {M Ma N : Mem} {n : Nat} (hF : Fr 0 M n) (hc : cpF M Ma 2 0 n) (hN : mF N = mF M) : eqF n (fF Ma 2) (mF N) ∧ ∀ i, i < n → frOk (fF Ma 2 i) := by
  have A : ∀ i, i < n → ∀ j, j < 7 → fF Ma 2 i j = fF M 0 i j := fun i hi j hj => hc.1 i hi j hj
  rw [hN]
  exact ⟨fun i hi j hj => (A i hi j hj).trans (Fr_eq hF i hi j hj), fun i hi => frOk_cg (fun j hj => A i hi j hj) (by rw [fF0]; exact (Fr_at hF hi).2)⟩
set_option maxRecDepth 20000 in
theorem r_years (l : Launch) (g : GT) {M : Mem} (hR : Rel M) (w : Int32) : Both l g yX9_years cX9_years 2 yX10_years cX10_years 3 [.int w] M := by
  have hR0 := hR
  obtain ⟨⟨⟨n, hF⟩, hS, hT, hW, hL0, hL1⟩, hi, hK, hE, hs, hc⟩ := hR
  have hn : M 37 1 = nI n := hF.1
  have hm : M 92 2 = nI n := hF.2.1
  have h12 := hF.2.2.1
  by_cases hg : (decide (1 ≤ w) && decide (w ≤ 60)) = true
  · obtain ⟨t, h1, h2, rfl⟩ := in_le (a := 1) (b := 60) (by decide) (by decide) (show (decide (nI 1 ≤ w) && decide (w ≤ nI 60)) = true from hg)
    obtain ⟨y, p, a1, a2, a3, a4, a5, a6, a7, a8⟩ := hS
    have a1 : M 37 2 = nI y := a1
    have a2 : M 92 0 = nI y := a2
    have a4 : M 37 3 = nI p := a4
    have a5 : M 92 3 = nI p := a5
    by_cases hy : y + t ≤ 9999
    · have e92 : pYMs M 0 n (M 37 3) t 92 = M 92 := pYMs_o M n _ (by omega) (by decide) t
      refine both_of (qX9_years_t l g M hn h12 h1 h2 a1 a3 hy) (by decide) (fun r M1 hq => ?_)
      obtain ⟨rfl, rfl⟩ := hq
      refine ⟨_, _, ?_, qX10_years_t l g _ (n := n) (by rw [e92]; exact hm) h12 h1 h2 (z := y) (by rw [e92]; exact a2) a3 hy, fun r2 M2 hq2 => ?_⟩
      · decide
      · obtain ⟨k1, rfl⟩ := hq2
        have k2 := goesN_eq k1
        rw [e92, show M 92 3 = M 37 3 from a5.trans a4.symm] at k2
        subst k2
        refine ⟨?_, Rel_years hR0 hF a1 hy⟩
        have hys := yrs_same (fi := 0) (pat := M 37 3) (M := M) (N := pYMs M 0 n (M 37 3) t) (by decide) h12 (by rw [mF_row e92]; exact Fr_eq hF) (fun i hi => by rw [fF0]; exact (Fr_at hF hi).2) t
        rw [pSet_c n hys.1]
    · exact both_err hR0 (qX9_years_full l g M hn h12 h1 h2 a1 a3 (by omega)) (by decide) (fun M1 h => qX10_years_full l g M1 (by rw [h 92 (by decide)]; exact hm) h12 h1 h2 (z := y) (by rw [h 92 (by decide)]; exact a2) a3 (by omega)) (by decide) (by decide) (by decide)
  · exact both_err hR0 (qX9_years_f l g M w (Bool.eq_false_iff.mpr hg)) (by decide) (fun M1 _ => qX10_years_f l g M1 w (Bool.eq_false_iff.mpr hg)) (by decide) (by decide) (by decide)
set_option maxRecDepth 20000 in
theorem r_then (l : Launch) (g : GT) {M : Mem} (hR : Rel M) (y w : Int32) : Both l g yX9_then cX9_then 3 yX10_then cX10_then 4 [.int y, .int w] M := by
  have hR0 := hR
  obtain ⟨⟨⟨n, hF⟩, hS, hT, hW, hL0, hL1⟩, hi, hK, hE, hs, hc⟩ := hR
  have hn : M 37 1 = nI n := hF.1
  have hm : M 92 2 = nI n := hF.2.1
  have h12 := hF.2.2.1
  have hpat : M 92 3 = M 37 3 := by
    obtain ⟨y, p, a1, a2, a3, a4, a5, a6, a7, a8⟩ := hS
    exact (show M 92 3 = nI p from a5).trans (show M 37 3 = nI p from a4).symm
  have hcov : ∀ i, i < n → M (12 * 0 + i) 6 = 0 ∨ M (12 * 0 + i) 6 = 1 := fun i hi => (hF.2.2.2 i hi).2.2.2.2.2
  by_cases hg : ((decide (0 ≤ y) && decide (y ≤ 60)) && (decide (0 ≤ w) && decide (w ≤ 1))) = true
  · obtain ⟨g1, g2⟩ := Bool.and_eq_true_iff.mp hg
    obtain ⟨t, -, h60, rfl⟩ := in_le (a := 0) (b := 60) (by decide) (by decide) (show (decide (nI 0 ≤ y) && decide (y ≤ nI 60)) = true from g1)
    obtain ⟨v, -, ht, rfl⟩ := in_le (a := 0) (b := 1) (by decide) (by decide) (show (decide (nI 0 ≤ w) && decide (w ≤ nI 1)) = true from g2)
    have hv : v < 2 := by omega
    refine both_of (qX9_then_t l g M hn h12 hcov h60 hv) (by decide) (fun r M1 hq => ?_)
    obtain ⟨Ma, hc2, rfl, rfl⟩ := hq
    have O : ∀ a, ¬ (24 ≤ a ∧ a < 36) → a ≠ 39 → pYMs Ma 2 n (Ma 39 3) t a = M a := fun a q1 q2 => by
      rw [pYMs_o Ma n _ (by omega) (by omega) t]; exact hc2.2.2 a (by omega) (by omega)
    have e92 := O 92 (by decide) (by decide)
    have e39 : Ma 39 3 = M 37 3 := hc2.2.1 3 (by decide) (by decide)
    refine ⟨_, _, ?_, qX10_then_t l g _ (n := n) (by rw [e92]; exact hm) h12 h60 hv, fun r2 M2 hq2 => ?_⟩
    · decide
    · obtain ⟨Mb, k1, rfl, rfl⟩ := hq2
      have k2 := goesN_eq k1
      rw [e92, hpat] at k2
      generalize hMc : mrow (pYMs Ma 2 n (Ma 39 3) t) 94 (cpA 416 (M 92) (pYMs Ma 2 n (Ma 39 3) t 94)) = Mc at k2
      have c92 : Mc 92 = M 92 := by rw [← hMc, mrow_n _ _ (by decide)]; exact e92
      have hts := thought_same hF hc2 (N := Mc) (mF_row c92)
      have hys := yrs_same (fi := 2) (pat := M 37 3) (M := Ma) (N := Mc) (by decide) h12 hts.1 hts.2 t
      refine ⟨?_, Rel_same hR0 (fun a k q => ?_)⟩
      · rw [k2, e39, pSet_c n hys.1]
      · by_cases e : a = 92
        · subst e
          rw [mrow_s]
          unfold cpA
          rw [if_pos (by unfold rS at q; omega), k2, gN_o (by decide), ← hMc, mrow_s]
          unfold cpA
          rw [if_pos (by unfold rS at q; omega)]
        · rw [mrow_n _ _ e, k2, gN_o e, ← hMc, mrow_n _ _ (by unfold rS at q; omega), O a (by unfold rS at q; omega) (by unfold rS at q; omega)]
  · exact both_err hR0 (qX9_then_f l g M y w (Bool.eq_false_iff.mpr hg)) (by decide) (fun M1 _ => qX10_then_f l g M1 y w (Bool.eq_false_iff.mpr hg)) (by decide) (by decide) (by decide)
set_option maxRecDepth 20000 in
theorem r_fits (l : Launch) (g : GT) {M : Mem} (hR : Rel M) (s : Int32) : Both l g yX9_fits cX9_fits 4 yX10_fits cX10_fits 4 [.int s] M := by
  have hR0 := hR
  obtain ⟨⟨⟨n, hF⟩, hS, hT, hW, hL0, hL1⟩, hi, hK, hE, hs, hc⟩ := hR
  have hn : M 37 1 = nI n := hF.1
  have hm : M 92 2 = nI n := hF.2.1
  have h12 := hF.2.2.1
  have hpat : M 92 3 = M 37 3 := by
    obtain ⟨y, p, a1, a2, a3, a4, a5, a6, a7, a8⟩ := hS
    exact (show M 92 3 = nI p from a5).trans (show M 37 3 = nI p from a4).symm
  have hcov : ∀ i, i < n → M (12 * 0 + i) 6 = 0 ∨ M (12 * 0 + i) 6 = 1 := fun i hi => (hF.2.2.2 i hi).2.2.2.2.2
  by_cases hg : (decide (0 ≤ s) && decide (s < 4)) = true
  · obtain ⟨t, -, ht, rfl⟩ := in_lt (a := 0) (b := 4) (by decide) (by decide) (show (decide (nI 0 ≤ s) && decide (s < nI 4)) = true from hg)
    obtain ⟨b1, b2, z, b3, b4, b5, b6⟩ := hs t ht
    by_cases h0 : M 96 t = 0
    · exact both_err hR0 (qX9_fits_0 l g M ht (b1.trans h0)) (by decide) (fun M1 hx => qX10_fits_0 l g M1 ht (by rw [hx 96 (by decide)]; exact h0)) (by decide) (by decide) (by decide)
    · have h0' : ¬ M (81 + t) 1 = 0 := fun e => h0 (b1.symm.trans e)
      refine both_of (qX9_fits_t l g M hn h12 hcov ht h0' b3 b5) (by decide) (fun r M1 hq => ?_)
      obtain ⟨Ma, hc2, hq⟩ := hq
      have e39 : Ma 39 3 = M 37 3 := hc2.2.1 3 (by decide) (by decide)
      rw [e39] at hq
      have O : ∀ k a, ¬ (24 ≤ a ∧ a < 36) → a ≠ 39 → pYMs Ma 2 n (M 37 3) k a = M a := fun k a q1 q2 => by
        rw [pYMs_o Ma n _ (by omega) (by omega) k]; exact hc2.2.2 a (by omega) (by omega)
      -- what both look for
      have key : ∀ N : Mem, N 92 = M 92 → N 98 = M 98 → pFit (fun i => decide (tlS (fun k => N 98 (24 * t + k)) z (mF (gN n (N 92 3) (mrow N 94 (cpA 416 (N 92) (N 94))) i)) n = some z)) 61 0 = pFit (fun i => decide (tlS (M (85 + t)) z (fF (pYMs Ma 2 n (M 37 3) i) 2) n = some z)) 61 0 := fun N k1 k2 => by
        rw [k1, k2, hpat]
        refine pFit_congr _ _ (fun i _ _ => ?_)
        have c92 : mrow N 94 (cpA 416 (M 92) (N 94)) 92 = M 92 := by rw [mrow_n _ _ (by decide)]; exact k1
        have hts := thought_same hF hc2 (N := mrow N 94 (cpA 416 (M 92) (N 94))) (mF_row c92)
        have hys := yrs_same (fi := 2) (pat := M 37 3) (M := Ma) (N := mrow N 94 (cpA 416 (M 92) (N 94))) (by decide) h12 hts.1 hts.2 i
        rw [tlS_c (C := M (85 + t)) (D := fun k => M 98 (24 * t + k)) (z := z) (fun k hk => b6 k (by omega)) n hys.1]
      have K9 : (∀ a, ¬ (24 ≤ a ∧ a < 36) → a ≠ 39 → a ≠ 89 → M1 a = M a) ∧ ((∃ i, pFit (fun i => decide (tlS (M (85 + t)) z (fF (pYMs Ma 2 n (M 37 3) i) 2) n = some z)) 61 0 = some i ∧ r = nI i ∧ M1 89 = M 89) ∨ (pFit (fun i => decide (tlS (M (85 + t)) z (fF (pYMs Ma 2 n (M 37 3) i) 2) n = some z)) 61 0 = none ∧ r = (-1000000002) ∧ M1 89 = mu M 89 2 (M 89 2 + 1) 89)) := by
        rcases hq with ⟨i, k1, k2, rfl⟩ | ⟨k1, k2, rfl⟩
        · exact ⟨fun a q1 q2 q3 => O i a q1 q2, Or.inl ⟨i, k1, k2, O i 89 (by decide) (by decide)⟩⟩
        · refine ⟨fun a q1 q2 q3 => by rw [mu_n _ _ _ q3]; exact O 61 a q1 q2, Or.inr ⟨k1, k2, ?_⟩⟩
          rw [mu_r, mu_r, O 61 89 (by decide) (by decide)]
      clear hq
      obtain ⟨K1, K2⟩ := K9
      have e92 : M1 92 = M 92 := K1 92 (by decide) (by decide) (by decide)
      have e98 : M1 98 = M 98 := K1 98 (by decide) (by decide) (by decide)
      have e95 : M1 95 = M 95 := K1 95 (by decide) (by decide) (by decide)
      refine ⟨_, _, ?_, qX10_fits_t l g M1 (n := n) (by rw [e92]; exact hm) h12 ht (by rw [K1 96 (by decide) (by decide) (by decide)]; exact h0) (z := z) (by rw [K1 97 (by decide) (by decide) (by decide)]; exact b4) b5 _ (key M1 e92 e98), fun r2 M2 hq2 => ?_⟩
      · decide
      · obtain ⟨j1, j2, j3⟩ := hq2
        have F : ∀ a k, rS a k → a ≠ 89 → a ≠ 95 → M2 a k = M a k := fun a k q q1 q2 => by
          by_cases e : a = 92
          · subst e; rw [j1 k (by unfold rS at q; omega), e92]
          · rw [j2 a e (by unfold rS at q; omega) q2, K1 a (by unfold rS at q; omega) (by unfold rS at q; omega) q1]
        have m89 : M2 89 = M1 89 := j2 89 (by decide) (by decide) (by decide)
        rcases K2 with ⟨i, k1, k2, k3⟩ | ⟨k1, k2, k3⟩
        · rcases j3 with ⟨i2, p1, p2, p3⟩ | ⟨p1, -, -⟩
          · have ei : i = i2 := Option.some.inj (k1.symm.trans p1)
            refine ⟨by rw [p2, k2, ei], Rel_same hR0 (fun a k q => ?_)⟩
            by_cases c1 : a = 89
            · subst c1; rw [m89, k3]
            · by_cases c2 : a = 95
              · subst c2; rw [p3, e95]
              · exact F a k q c1 c2
          · rw [k1] at p1; cases p1
        · rcases j3 with ⟨i2, p1, -, -⟩ | ⟨p1, p2, p3⟩
          · rw [k1] at p1; cases p1
          · refine ⟨by rw [p2, k2], Rel_E hR0 (fun k c1 c2 => ?_) (fun a k q c1 c2 => F a k q c1 c2)⟩
            rw [m89, k3, p3]
            by_cases e : k = 2
            · subst e; rw [mu_s, mu_s, e95, hE 2 (by decide) (by decide)]
            · rw [mu_o _ _ _ e, mu_o _ _ _ e, e95]; exact hE k c1 c2
  · exact both_err hR0 (qX9_fits_f l g M s (Bool.eq_false_iff.mpr hg)) (by decide) (fun M1 _ => qX10_fits_f l g M1 s (Bool.eq_false_iff.mpr hg)) (by decide) (by decide) (by decide)
