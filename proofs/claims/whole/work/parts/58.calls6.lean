-- the calls: images, replies
theorem fit_tOk {a b : Int32} (h : tOk a b) : fits .byte (.int a) = true := by
  have h1 : (-128 : Int32).toInt = -128 := by decide
  have h2 : (127 : Int32).toInt = 127 := by decide
  have h3 : (128 : Int32).toInt = 128 := by decide
  have h0 : (0 : Int32).toInt = 0 := by decide
  unfold tOk at h
  simp only [Int32.le_iff_toInt_le, Int32.lt_iff_toInt_lt, h0, h1, h3] at h
  simp only [fits, Bool.and_eq_true, decide_eq_true_eq, Int32.le_iff_toInt_le, h1, h2]
  omega
def Tq (w z : Nat) (M : Mem) : Prop := M (43 + w) 3 = nI z ∧ M (92 + w) 4 = nI z ∧ z ≤ 60 ∧ ∀ i, i < z → tOk (M (62 + w) i) (M (92 + w) (90 + i))
def Uq (w u : Nat) (M : Mem) : Prop := M (43 + w) 5 = nI u ∧ M (92 + w) 5 = nI u ∧ u ≤ 24 ∧ ∀ i, i < u → M (65 + w) i = M (92 + w) (150 + i)
def Gq (w u m : Nat) (M : Mem) : Prop := M (47 + 2 * w + u) 1 = nI m ∧ M (92 + w) (174 + 121 * u) = nI m ∧ m ≤ 60 ∧ (0 < m → WF m (M (52 + 2 * w + u))) ∧ ∀ k, k < m → actOk (M (92 + w) (174 + 121 * u + 1 + k)) (M (92 + w) (174 + 121 * u + 61 + k)) (M (52 + 2 * w + u) k)
theorem World_q {w : Nat} {M : Mem} (h : World w M) : ∃ n n0 n1 t u, Fr w M n ∧ Sr w M ∧ Tq w t M ∧ Uq w u M ∧ Gq w 0 n0 M ∧ Gq w 1 n1 M := by
  obtain ⟨⟨n, h1⟩, h2, ⟨t, h3⟩, ⟨u, h4⟩, ⟨n0, h5⟩, ⟨n1, h6⟩⟩ := h
  exact ⟨n, n0, n1, t, u, h1, h2, h3, h4, h5, h6⟩
/-- a world that was copied -/
theorem World_copy {w w2 n n0 n1 t u : Nat} {M M1 M2 : Mem} (hw : w < 2) (hF : Fr w2 M n) (hS : Sr w2 M) (hT : Tq w2 t M) (hU : Uq w2 u M) (hL0 : Gq w2 0 n0 M) (hL1 : Gq w2 1 n1 M) (hc : cpW M M1 w w2 n n0 n1 t u) (hA : ∀ a, a < 90 → M2 a = M1 a) (hr : ∀ q, q < 416 → M2 (92 + w) q = M (92 + w2) q) : World w M2 := by
  obtain ⟨c1, c2, ⟨c3, c4⟩, ⟨c5, c6⟩, ⟨c7, c8⟩, ⟨c9, c10⟩, -⟩ := hc
  obtain ⟨f1, f2, f3, f4⟩ := hF
  obtain ⟨y, p, s1, s2, s3, s4, s5, s6, s7, s8⟩ := hS
  obtain ⟨t1, t2, t3, t4⟩ := hT
  obtain ⟨u1, u2, u3, u4⟩ := hU
  obtain ⟨a1, a2, a3, a4, a5⟩ := hL0
  obtain ⟨b1, b2, b3, b4, b5⟩ := hL1
  have L1 : 47 + 2 * w + 1 = 48 + 2 * w := by omega
  have L2 : 52 + 2 * w + 1 = 53 + 2 * w := by omega
  have L3 : 52 + 2 * w2 + 1 = 53 + 2 * w2 := by omega
  rw [L3] at b4 b5
  have g0 : ∀ k, k < n0 → M2 (52 + 2 * w) k = M (52 + 2 * w2) k := fun k hk => by rw [hA _ (by omega)]; exact c4 k hk
  have g1 : ∀ k, k < n1 → M2 (53 + 2 * w) k = M (53 + 2 * w2) k := fun k hk => by rw [hA _ (by omega)]; exact c6 k hk
  refine ⟨⟨n, ?_, ?_, f3, fun i hi => ⟨fun j hj => ?_, frOk_cg (fun j hj => ?_) (f4 i hi).2⟩⟩, ⟨y, p, ?_, ?_, s3, ?_, ?_, s6, s7, ?_⟩, ⟨t, ?_, ?_, t3, fun i hi => ?_⟩, ⟨u, ?_, ?_, u3, fun i hi => ?_⟩, ⟨n0, ?_, ?_, a3, fun h0 => ?_, fun k hk => ?_⟩, ⟨n1, ?_, ?_, b3, fun h0 => ?_, fun k hk => ?_⟩⟩
  · rw [hA _ (by omega), c2 1 (by decide) (by decide)]; exact f1
  · rw [hr 2 (by decide)]; exact f2
  · rw [hA _ (by omega), c1 i hi j hj, hr _ (by omega)]; exact (f4 i hi).1 j hj
  · rw [hA _ (by omega), c1 i hi j hj]
  · rw [hA _ (by omega), c2 2 (by decide) (by decide)]; exact s1
  · rw [hr 0 (by decide)]; exact s2
  · rw [hA _ (by omega), c2 3 (by decide) (by decide)]; exact s4
  · rw [hr 3 (by decide)]; exact s5
  · rw [hA _ (by omega), c2 4 (by decide) (by decide), hr 1 (by decide)]; exact s8
  · rw [hA _ (by omega)]; exact c7
  · rw [hr 4 (by decide)]; exact t2
  · rw [hA _ (by omega), c8 i hi, hr _ (by omega)]; exact t4 i hi
  · rw [hA _ (by omega)]; exact c9
  · rw [hr 5 (by decide)]; exact u2
  · rw [hA _ (by omega), c10 i hi, hr _ (by omega)]; exact u4 i hi
  · show M2 (47 + 2 * w) 1 = nI n0
    rw [hA _ (by omega)]; exact c3
  · rw [hr _ (by omega)]; exact a2
  · exact WF_cg (fun k hk => (g0 k hk).symm) (a4 h0)
  · show actOk _ _ (M2 (52 + 2 * w) k)
    rw [g0 k hk, hr _ (by omega), hr _ (by omega)]; exact a5 k hk
  · rw [L1, hA _ (by omega)]; exact c5
  · rw [hr _ (by omega)]; exact b2
  · rw [L2]; exact WF_cg (fun k hk => (g1 k hk).symm) (b4 h0)
  · rw [L2, g1 k hk, hr _ (by omega), hr _ (by omega)]; exact b5 k hk
set_option maxRecDepth 20000 in
theorem r_image (l : Launch) (g : GT) {M : Mem} (hR : Rel M)  : Both l g yX9_image cX9_image 1 yX10_image cX10_image 1 [] M := by
  have hR0 := hR
  obtain ⟨⟨⟨n, hF⟩, hS, hT, hW, hL0, hL1⟩, hi, hK, hE, hs, hc⟩ := hR
  have hn : M 37 1 = nI n := hF.1
  have hm : M 92 2 = nI n := hF.2.1
  have h12 := hF.2.2.1
  obtain ⟨n', n0, n1, t, u, qF, qS, qT, qU, q0, q1⟩ := World_q hR0.1
  refine both_of (qX9_image l g M (n := n') (n0 := n0) (n1 := n1) (t := t) (u := u) qF.1 qF.2.2.1 (fun i hi => (qF.2.2.2 i hi).2.2.2.2.2) q0.1 q0.2.2.1 q1.1 q1.2.2.1 qT.1 qT.2.2.1 (fun i hi => fit_tOk (qT.2.2.2 i hi)) qU.1 qU.2.2.1) (by decide) (fun r M1 hq1 => ?_)
  obtain ⟨Ma, hcp, rfl, rfl⟩ := hq1
  have O : ∀ a, ¬ (12 ≤ a ∧ a < 24) → a ≠ 38 → a ≠ 49 → a ≠ 50 → a ≠ 54 → a ≠ 55 → a ≠ 44 → a ≠ 63 → a ≠ 66 → Ma a = M a := fun a h1 h2 h3 h4 h5 h6 h7 h8 h9 => hcp.2.2.2.2.2.2 a (by omega) (by omega) (by omega) (by omega) (by omega) (by omega) (by omega) (by omega) (by omega)
  have e92 : mu Ma 90 2 (M 90 2 + 1) 92 = M 92 := by rw [mu_n _ _ _ (by decide)]; exact O 92 (by omega) (by omega) (by omega) (by omega) (by omega) (by omega) (by omega) (by omega) (by omega)
  have e91 : mu Ma 90 2 (M 90 2 + 1) 91 = M 91 := by rw [mu_n _ _ _ (by decide)]; exact O 91 (by omega) (by omega) (by omega) (by omega) (by omega) (by omega) (by omega) (by omega) (by omega)
  refine ⟨_, _, ?_, qX10_image l g _, fun r2 M2 hq2 => ?_⟩
  · decide
  · obtain ⟨rfl, rfl⟩ := hq2
    rw [e91, e92]
    refine ⟨by rw [hi], Rel_im hR0 ?_ (World_copy (by decide) qF qS qT qU q0 q1 hcp (fun a h => ?_) (fun q h => ?_)) (fun a k z c1 c2 c3 => ?_)⟩
    · rw [mu_n _ _ _ (by decide), mrow_n _ _ (by decide), mu_s, mu_s, hi]
    · rw [mu_n _ _ _ (by omega), mrow_n _ _ (by omega), mu_n _ _ _ (by omega)]
    · show mu (mrow (mu Ma 90 2 (M 90 2 + 1)) 93 (cpA 416 (M 92) (mu Ma 90 2 (M 90 2 + 1) 93))) 91 3 (M 91 3 + 1) 93 q = M 92 q
      rw [mu_n _ _ _ (by decide), mrow_s]; exact if_pos h
    · unfold cWo at c1
      unfold rS at z
      by_cases e1 : a = 91
      · subst e1; rw [mu_o _ _ _ (by omega), mrow_n _ _ (by decide), e91]
      · by_cases e0 : a = 90
        · subst e0
          omega
        · rw [mu_n _ _ _ e1, mrow_n _ _ (by omega), mu_n _ _ _ e0]
          exact congrFun (O a (by omega) (by omega) (by omega) (by omega) (by omega) (by omega) (by omega) (by omega) (by omega)) k
set_option maxRecDepth 20000 in
theorem r_restore (l : Launch) (g : GT) {M : Mem} (hR : Rel M)  : Both l g yX9_restore cX9_restore 1 yX10_restore cX10_restore 1 [] M := by
  have hR0 := hR
  obtain ⟨⟨⟨n, hF⟩, hS, hT, hW, hL0, hL1⟩, hi, hK, hE, hs, hc⟩ := hR
  have hn : M 37 1 = nI n := hF.1
  have hm : M 92 2 = nI n := hF.2.1
  have h12 := hF.2.2.1
  by_cases h0 : M 91 3 = 0
  · exact both_err hR0 (qX9_restore_0 l g M (hi.trans h0)) (by decide) (fun M1 h => qX10_restore_0 l g M1 (by rw [h 91 (by decide)]; exact h0)) (by decide) (by decide) (by decide)
  · obtain ⟨n', n0, n1, t, u, qF, qS, qT, qU, q0, q1⟩ := World_q (hK h0)
    refine both_of (qX9_restore_t l g M (n := n') (n0 := n0) (n1 := n1) (t := t) (u := u) qF.1 qF.2.2.1 (fun i hi => (qF.2.2.2 i hi).2.2.2.2.2) q0.1 q0.2.2.1 q1.1 q1.2.2.1 qT.1 qT.2.2.1 (fun i hi => fit_tOk (qT.2.2.2 i hi)) qU.1 qU.2.2.1 (fun e => h0 (hi.symm.trans e))) (by decide) (fun r M1 hq1 => ?_)
    obtain ⟨hcp, rfl⟩ := hq1
    have O : ∀ a, 12 ≤ a → a ≠ 37 → a ≠ 47 → a ≠ 48 → a ≠ 52 → a ≠ 53 → a ≠ 43 → a ≠ 62 → a ≠ 65 → M1 a = M a := fun a h1 h2 h3 h4 h5 h6 h7 h8 h9 => hcp.2.2.2.2.2.2 a (by omega) (by omega) (by omega) (by omega) (by omega) (by omega) (by omega) (by omega) (by omega)
    have e93 : M1 93 = M 93 := O 93 (by omega) (by omega) (by omega) (by omega) (by omega) (by omega) (by omega) (by omega) (by omega)
    have e91 : M1 91 = M 91 := O 91 (by omega) (by omega) (by omega) (by omega) (by omega) (by omega) (by omega) (by omega) (by omega)
    refine ⟨_, _, ?_, qX10_restore_t l g M1 (by rw [e91]; exact h0), fun r2 M2 hq2 => ?_⟩
    · decide
    · obtain ⟨rfl, rfl⟩ := hq2
      rw [e93]
      refine ⟨?_, Rel_W0 hR0 (World_copy (by decide) qF qS qT qU q0 q1 hcp (fun a h => mrow_n _ _ (by omega)) (fun q h => ?_)) (fun a k z c1 => ?_)⟩
      · obtain ⟨y, p, s1, s2, -⟩ := qS
        exact (show M 93 0 = nI y from s2).trans (show M 38 2 = nI y from s1).symm
      · show mrow M1 92 (cpA 416 (M 93) (M1 92)) 92 q = M 93 q
        rw [mrow_s]; exact if_pos h
      · unfold cWo at c1
        unfold rS at z
        rw [mrow_n _ _ (by omega)]
        exact congrFun (O a (by omega) (by omega) (by omega) (by omega) (by omega) (by omega) (by omega) (by omega) (by omega)) k
set_option maxRecDepth 20000 in
theorem r_reply (l : Launch) (g : GT) {M : Mem} (hR : Rel M) (x w : Int32) : Both l g yX9_reply cX9_reply 5 yX10_reply cX10_reply 7 [.int x, .int w] M := by
  have hR0 := hR
  obtain ⟨⟨⟨n, hF⟩, hS, hT, hW, hL0, hL1⟩, hi, hK, hE, hs, hc⟩ := hR
  have hn : M 37 1 = nI n := hF.1
  have hm : M 92 2 = nI n := hF.2.1
  have h12 := hF.2.2.1
  by_cases hg : (pLine x && (decide (0 ≤ w) && decide (w ≤ 1))) = true
  · obtain ⟨g1, g2⟩ := Bool.and_eq_true_iff.mp hg
    obtain ⟨t, -, ht, rfl⟩ := in_le (a := 0) (b := 1) (by decide) (by decide) (show (decide (nI 0 ≤ w) && decide (w ≤ nI 1)) = true from g2)
    obtain ⟨TL, TC, hTL, hTC, rfl, -, -⟩ := pLine_at g1
    have ht2 : t < 2 := by omega
    have hpa := pAhead_c n (Fr_eq hF)
    cases ha : pAhead (fF M 0) n with
    | none => exact both_err hR0 (qX9_reply_0 l g M hn h12 hTL hTC g1 ht2 ha) (by decide) (fun M1 hx => qX10_reply_0 l g M1 (by rw [hx 92 (by decide)]; exact hm) h12 hTL hTC g1 ht2 (by rw [mF_row (hx 92 (by decide))]; exact hpa.symm.trans ha)) (by decide) (by decide) (by decide)
    | some a =>
      have han := (pAhead_in (fF M 0) n a ha).1
      have q := Fr_at hF han
      obtain ⟨L, hL, eL⟩ := q.2.2.1
      obtain ⟨C, hC, eC⟩ := q.2.2.2.1
      obtain ⟨m, k1, k2⟩ := law_of (u := 0) (by decide) hL0
      have hpat : M 92 3 = M 37 3 := by
        obtain ⟨y, p, a1, a2, a3, a4, a5, a6, a7, a8⟩ := hS
        exact (show M 92 3 = nI p from a5).trans (show M 37 3 = nI p from a4).symm
      have hoL : sOk 12 (sLof m (M 52) (M 37 3)) := fun d _ _ => (sL_at m (M 52) (M 37 3) d).2
      have hoC : sOk 6 (sCof m (M 52) (M 37 3)) := fun d _ _ => (sC_at m (M 52) (M 37 3) d).2
      refine both_of (qX9_reply_t l g M hn h12 hTL hTC g1 ht2 ha eL eC hL hC k1 _ _ hoL hoC (fun d _ _ => (sL_at m (M 52) (M 37 3) d).1) (fun d _ _ => (sC_at m (M 52) (M 37 3) d).1)) (by decide) (fun r M1 hq => ?_)
      obtain ⟨cL, cC, iL, iC, hx, rfl⟩ := hq
      have e92 : M1 92 = M 92 := funext fun k => hx 92 k (by unfold lawS; omega) (by omega)
      refine ⟨_, _, ?_, qX10_reply_t l g M1 (n := n) (by rw [e92]; exact hm) h12 hTL hTC g1 ht2 (a := a) (by rw [mF_row e92]; exact hpa.symm.trans ha) (L := L) (CR := C) (by rw [mF_row e92]; exact (q.1 2 (by decide)).symm.trans eL) (by rw [mF_row e92]; exact (q.1 3 (by decide)).symm.trans eC) hL hC (M 52) (k2 M1 e92) (stS (sLof m (M 52) (M 37 3)) (sCof m (M 52) (M 37 3))) (by rw [e92, hpat]; exact stS_ok m (M 52) (M 37 3)), fun r2 M2 hq2 => ?_⟩
      · decide
      · obtain ⟨cc, i1, i2, rfl⟩ := hq2
        have way : ∀ i j, i < 12 → j < 6 → cc (6 * i + j) = cL i + cC j := fun i j h1 h2 => way_sum hTL hTC hoL hoC iL iC i2 i1.2.2.2.1 i1.2.2.2.2 h1 h2
        refine ⟨?_, Rel_same hR0 (fun b k z => ?_)⟩
        · rw [way L C hL hC, reply_eq hoL hoC hL hC way]
        · unfold rS at z
          rw [i1.1 b (by omega) (by omega) (by omega)]; exact hx b k (by unfold lawS; omega) (by omega)
  · exact both_err hR0 (qX9_reply_f l g M x w (Bool.eq_false_iff.mpr hg)) (by decide) (fun M1 _ => qX10_reply_f l g M1 x w (Bool.eq_false_iff.mpr hg)) (by decide) (by decide) (by decide)
